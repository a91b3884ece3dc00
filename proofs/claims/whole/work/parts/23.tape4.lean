/-! Tape: the lines, and the whole TEXT -/
def psPatch (k : Nat) (s : PS) : PS := (s.1, s.2.1, s.2.2.set k (4, s.2.2.length))
def cLine (B : Nat → Nat) (len : Nat) (any : PS → PS) (s : PS) : PS :=
  if nxt B len (any s).1 = some 63 then psPatch (any s).2.2.length (psMk 5 0 (any (psMk 4 0 (psAdv (any s))))) else psMk 5 0 (any s)
def lnR (B : Nat → Nat) (len : Nat) (any : PS → PS) : Nat → PS → PS
  | 0, s => s
  | f + 1, s => if s.1 < len ∧ B s.1 = 59 then lnR B len any f (cLine B len any (psAdv s)) else s
def cRead (B : Nat → Nat) (len : Nat) (any : PS → PS) : PS :=
  if (lnR B len any 121 (cLine B len any (0, none, []))).1 < len then psFail len (lnR B len any 121 (cLine B len any (0, none, []))) else lnR B len any 121 (cLine B len any (0, none, []))
theorem psMk_len {m x : Nat} {s : PS} : (psMk m x s).2.2.length = s.2.2.length + 1 := by simp [psMk]
theorem line_ok {B : Nat → Nat} {len : Nat} {any : PS → PS} (hn : Nice len any) {s : PS} (hs : s.1 ≤ len) (hg : gd s) : s.1 ≤ (cLine B len any s).1 ∧ (cLine B len any s).1 ≤ len ∧ ((cLine B len any s).2.1 = none → s.2.1 = none ∧ (cLine B len any s).2.2.length ≤ (cLine B len any s).1 + 1) := by
  obtain ⟨a1, a2, a3⟩ := hn s hs
  unfold cLine
  by_cases hq : nxt B len (any s).1 = some 63
  · rw [if_pos hq]
    have hl : (any s).1 < len := by
      unfold nxt at hq
      by_cases q : (any s).1 < len
      · exact q
      · rw [if_neg q] at hq; cases hq
    obtain ⟨b1, b2, b3⟩ := hn (psMk 4 0 (psAdv (any s))) hl
    refine ⟨Nat.le_trans a1 (Nat.le_trans (Nat.le_succ _) b1), b2, fun hf => ?_⟩
    obtain ⟨c1, c2⟩ := b3 hf
    obtain ⟨d1, d2⟩ := a3 c1
    refine ⟨d1, ?_⟩
    have := hg d1
    simp only [psMk_len] at c2
    simp only [psPatch, List.length_set, psMk_len]
    simp only [psMk, psAdv] at c2 ⊢
    omega
  · rw [if_neg hq]
    refine ⟨a1, a2, fun hf => ?_⟩
    obtain ⟨d1, d2⟩ := a3 hf
    refine ⟨d1, ?_⟩
    have := hg d1
    rw [psMk_len]
    simp only [psMk]
    omega
theorem TR.patch {B : Nat → Nat} {len k w w' : Nat} {J : MI} {s : PS} (h : TR B len J s) (hw : J (3, 0) 3 = nI w') (hw' : w' ≤ 121) (hk : s.2.1 = none → w = k) : TR B len (upM J (5, 0) w (nI 4 ||| (nI w' <<< (nI 8 &&& 31)))) (psPatch k s) := by
  obtain ⟨h1, h2, h3, h4, h5, h6, h7, w2, h8, h9, h10⟩ := h
  refine ⟨h1, h2, by simp [upM]; exact h3, fun i hi => by simp [upM]; exact h4 i hi, h5, by simp [upM]; exact h6, by simp [upM]; exact h7, w2, h8, by simp [upM]; exact h9, fun hf => ?_⟩
  have hf' : s.2.1 = none := hf
  obtain ⟨h11, h12⟩ := h10 hf'
  have e : w2 = w' := (nI_eq (by omega) (by omega)).mp (h9.symm.trans hw)
  refine ⟨by simp only [psPatch, List.length_set]; exact h11, fun i hi => ?_⟩
  have hwk := hk hf'
  by_cases q : i = w
  · rw [q, upM_s]
    rw [orSh (by omega) (by omega)]
    simp only [psPatch, List.getD_eq_getElem?_getD, List.getElem?_set]
    rw [if_pos (by omega), if_pos (by omega)]
    simp only [Option.getD_some]
    rw [← h11, e]
  · rw [upM_k _ _ q, h12 i hi]
    simp only [psPatch, List.getD_eq_getElem?_getD, List.getElem?_set]
    rw [if_neg (by omega)]
theorem TR.patchF {B : Nat → Nat} {len k : Nat} {J : MI} {s : PS} (h : TR B len J s) (hf : s.2.1 = none → False) : TR B len J (psPatch k s) := by
  obtain ⟨h1, h2, h3, h4, h5, h6, h7, w2, h8, h9, h10⟩ := h
  exact ⟨h1, h2, h3, h4, h5, h6, h7, w2, h8, h9, fun q => (hf q).elim⟩
theorem fr_mark {I : MI} {w : Nat} {v : Int32} : Fr tpP I (upM I (5, 0) w v) := Fr.rf.up (by simp [tpP])

theorem c_readLine (l : Launch) {S : Shp} {I : MI} {L : ML} {R : MR} (tg : TG S R) {B : Nat → Nat} {len : Nat} {any : PS → PS} (hn : Nice len any) (hany : Rz l S L R B len mX6_readAny 50 0 any) {s : PS} (h : TR B len I s) (hg : gd s) : Ct l mX6_readLine 51 0 0 [.inr (.inr (some (3, 0)))] S I L R (PVm S L R (fun J => TR B len J (cLine B len any s) ∧ Fr tpP I J)) := by
  have hs0 := h.2.2.2.2.1.1
  refine Ct.of [some (.inr (.inr (some (3, 0)))), none] (by decide) rfl (Nat.le_of_ble_eq_true rfl) ?_
  refine g_ald0 (pc' := 1) dX6_readLine_0 rfl ?_
  refine g_iconst (pc' := 2) (v := nI 0) dX6_readLine_1 rfl (by decide) ?_
  refine g_callV (pc' := 5) (hany I s h hg) tg.s3 (by decide) wX6_readAny lX6_41 rfl rfl (Nat.le_of_ble_eq_true rfl) (rOk (by omega) (by decide)) ⟨Nat.le_of_ble_eq_true rfl, Nat.le_of_ble_eq_true rfl⟩ dX6_readLine_2 rfl (kV (fun J1 hq1 => ?_))
  obtain ⟨t1, t2, t3, t4, ⟨t5, t5b⟩, t6, t7, t8⟩ := id hq1.1
  obtain ⟨w, hw1, hw2, hw3⟩ := t8
  have hg1 := hn.keep hs0 hg
  have hrm : (any s).2.1 = none → (any s).2.2.length < 121 := fun hf => by have := hg1 hf; omega
  refine g_ald0 (pc' := 6) dX6_readLine_5 rfl ?_
  refine g_callV (pc' := 9) (c_tNext l tg (a := (any s).1) (fl := (any s).2.1) (out := (any s).2.2) hq1.1) tg.s3 (by decide) wX6_next lX6_45 rfl rfl (Nat.le_of_ble_eq_true rfl) (rOk (by omega) (by decide)) ⟨Nat.le_of_ble_eq_true rfl, Nat.le_of_ble_eq_true rfl⟩ dX6_readLine_6 rfl (kIp ?_)
  cases hnx : nxt B len (any s).1 with
  | none =>
    refine g_bipush (pc' := 11) (v := nI 63) dX6_readLine_9 rfl (by decide) ?_
    refine g_icmpeq (pc' := 14) (tgt := 21) dX6_readLine_11 (by decide) rfl (fun h11 => (by first | exact absurd h11 (show ¬ (-1 : Int32) = nI 63 by decide) | exact absurd (show ¬ (-1 : Int32) = nI 63 by decide) h11)) (fun h11 => ?_)
    refine g_ald0 (pc' := 15) dX6_readLine_14 rfl ?_
    refine g_iconst (pc' := 16) (v := nI 5) dX6_readLine_15 rfl (by decide) ?_
    refine g_iconst (pc' := 17) (v := nI 0) dX6_readLine_16 rfl (by decide) ?_
    refine g_callV (pc' := 20) (c_tMark l tg (a := (any s).1) (fl := (any s).2.1) (out := (any s).2.2) hq1.1 (m := 5) (x := 0) (by decide) (by decide) hrm) tg.s3 (by decide) wX6_mark lX6_51 rfl rfl (Nat.le_of_ble_eq_true rfl) (rOk (by omega) (by decide)) ⟨Nat.le_of_ble_eq_true rfl, Nat.le_of_ble_eq_true rfl⟩ dX6_readLine_17 rfl (kV (fun J2 hq2 => ?_))
    refine g_vret rfl dX6_readLine_20 ?_
    exact eV ⟨by unfold cLine; rw [if_neg (by rw [hnx]; simp)]; exact hq2.1, hq1.2.tr hq2.2⟩
  | some b =>
    have hlt : (any s).1 < len := by
      unfold nxt at hnx
      by_cases q : (any s).1 < len
      · exact q
      · rw [if_neg q] at hnx; cases hnx
    have hb : b < 256 := by
      unfold nxt at hnx
      rw [if_pos hlt] at hnx
      cases hnx
      exact t2 _ hlt
    refine g_bipush (pc' := 11) (v := nI 63) dX6_readLine_9 rfl (by decide) ?_
    refine g_icmpeqN (pc' := 14) (by omega) (by omega) (tgt := 21) dX6_readLine_11 (by decide) rfl (fun h11 => ?_) (fun h11 => ?_)
    · refine g_ald0 (pc' := 22) dX6_readLine_21 rfl ?_
      refine g_dupR (pc' := 23) dX6_readLine_22 rfl ?_
      refine g_getI (pc' := 26) tg.s3 (by decide) fX6_23 t6 dX6_readLine_23 rfl ?_
      refine g_iconst (pc' := 27) (v := nI 1) dX6_readLine_26 rfl (by decide) ?_
      refine g_iaddN (pc' := 28) dX6_readLine_27 rfl ?_
      refine g_putI (pc' := 31) tg.s3 (by decide) ⟨fX6_23, rfl, pI⟩ dX6_readLine_28 rfl ?_
      refine g_ald0 (pc' := 32) dX6_readLine_31 rfl ?_
      refine g_getI (pc' := 35) tg.s3 (by decide) fX6_20 (v := nI w) (by simp [upM, hw2]) dX6_readLine_32 rfl ?_
      refine g_ist1 (pc' := 36) rfl (by decide) dX6_readLine_35 rfl ?_
      refine g_ald0 (pc' := 37) dX6_readLine_36 rfl ?_
      refine g_iconst (pc' := 38) (v := nI 4) dX6_readLine_37 rfl (by decide) ?_
      refine g_iconst (pc' := 39) (v := nI 0) dX6_readLine_38 rfl (by decide) ?_
      refine g_callV (pc' := 42) (c_tMark l tg (a := (any s).1 + 1) (fl := (any s).2.1) (out := (any s).2.2) (hq1.1.adv hlt) (m := 4) (x := 0) (by decide) (by decide) hrm) tg.s3 (by decide) wX6_mark lX6_51 rfl rfl (Nat.le_of_ble_eq_true rfl) (rOk (by omega) (by decide)) ⟨Nat.le_of_ble_eq_true rfl, Nat.le_of_ble_eq_true rfl⟩ dX6_readLine_39 rfl (kV (fun J2 hq2 => ?_))
      refine g_ald0 (pc' := 43) dX6_readLine_42 rfl ?_
      refine g_iconst (pc' := 44) (v := nI 0) dX6_readLine_43 rfl (by decide) ?_
      refine g_callV (pc' := 47) (hany J2 (psMk 4 0 (psAdv (any s))) hq2.1 (fun hf => by have := hg1 hf; rw [psMk_len]; simp only [psMk, psAdv]; omega)) tg.s3 (by decide) wX6_readAny lX6_41 rfl rfl (Nat.le_of_ble_eq_true rfl) (rOk (by omega) (by decide)) ⟨Nat.le_of_ble_eq_true rfl, Nat.le_of_ble_eq_true rfl⟩ dX6_readLine_44 rfl (kV (fun J3 hq3 => ?_))
      have hrm3 : (any (psMk 4 0 (psAdv (any s)))).2.1 = none → (any (psMk 4 0 (psAdv (any s)))).2.2.length < 121 := fun hf => by
        have hk := hn (psMk 4 0 (psAdv (any s))) hlt
        obtain ⟨k1, k2⟩ := hk.2.2 hf
        have := hg1 k1
        simp only [psMk_len] at k2
        simp only [psMk, psAdv] at k2 ⊢
        have := hk.2.1
        simp only [psMk, psAdv] at this
        omega
      refine g_ald0 (pc' := 48) dX6_readLine_47 rfl ?_
      refine g_iconst (pc' := 49) (v := nI 5) dX6_readLine_48 rfl (by decide) ?_
      refine g_iconst (pc' := 50) (v := nI 0) dX6_readLine_49 rfl (by decide) ?_
      refine g_callV (pc' := 53) (c_tMark l tg (a := (any (psMk 4 0 (psAdv (any s)))).1) (fl := (any (psMk 4 0 (psAdv (any s)))).2.1) (out := (any (psMk 4 0 (psAdv (any s)))).2.2) hq3.1 (m := 5) (x := 0) (by decide) (by decide) hrm3) tg.s3 (by decide) wX6_mark lX6_51 rfl rfl (Nat.le_of_ble_eq_true rfl) (rOk (by omega) (by decide)) ⟨Nat.le_of_ble_eq_true rfl, Nat.le_of_ble_eq_true rfl⟩ dX6_readLine_50 rfl (kV (fun J4 hq4 => ?_))
      obtain ⟨w4, hw4, hw5, hw6⟩ := hq4.1.2.2.2.2.2.2.2
      have fr4 := (((hq1.2.tr fr_adv).tr hq2.2).tr hq3.2).tr hq4.2
      refine g_ild1 (pc' := 54) dX6_readLine_53 rfl ?_
      refine g_bipush (pc' := 56) (v := nI 121) dX6_readLine_54 rfl (by decide) ?_
      refine g_icmpgeN (pc' := 59) (by omega) (by omega) (tgt := 74) dX6_readLine_56 (by decide) rfl (fun h56 => ?_) (fun h56 => ?_)
      · refine g_vret rfl dX6_readLine_74 ?_
        have hwk : (psMk 5 0 (any (psMk 4 0 (psAdv (any s))))).2.1 = none → w = (any s).2.2.length ∧ w < 121 := fun hf => by
          obtain ⟨k1, k2⟩ := (hn (psMk 4 0 (psAdv (any s))) hlt).2.2 hf
          have := hrm k1
          have := (hw3 k1).1
          omega
        exact eV ⟨by unfold cLine; rw [if_pos (by rw [hnx, h11])]; exact hq4.1.patchF (fun hf => by have := (hwk hf).2; omega), fr4⟩
      · refine g_ald0 (pc' := 60) dX6_readLine_59 rfl ?_
        refine g_getR (pc' := 63) tg.s3 (by decide) fX6_13 tg.r3_2 dX6_readLine_60 rfl ?_
        refine g_ild1 (pc' := 64) dX6_readLine_63 rfl ?_
        refine g_iconst (pc' := 65) (v := nI 4) dX6_readLine_64 rfl (by decide) ?_
        refine g_ald0 (pc' := 66) dX6_readLine_65 rfl ?_
        refine g_getI (pc' := 69) tg.s3 (by decide) fX6_20 hw5 dX6_readLine_66 rfl ?_
        refine g_bipush (pc' := 71) (v := nI 8) dX6_readLine_69 rfl (by decide) ?_
        refine g_ishl (pc' := 72) dX6_readLine_71 rfl ?_
        refine g_ior (pc' := 73) dX6_readLine_72 rfl ?_
        refine g_iast (pc' := 74) (j := w) tg.s5 rfl (by omega) (by decide) dX6_readLine_73 rfl ?_
        refine g_vret rfl dX6_readLine_74 ?_
        have hwk : (psMk 5 0 (any (psMk 4 0 (psAdv (any s))))).2.1 = none → w = (any s).2.2.length ∧ w < 121 := fun hf => by
          obtain ⟨k1, k2⟩ := (hn (psMk 4 0 (psAdv (any s))) hlt).2.2 hf
          have := hrm k1
          have := (hw3 k1).1
          omega
        exact eV ⟨by unfold cLine; rw [if_pos (by rw [hnx, h11])]; exact hq4.1.patch hw5 hw4 (fun hf => (hwk hf).1), fr4.tr fr_mark⟩
    · refine g_ald0 (pc' := 15) dX6_readLine_14 rfl ?_
      refine g_iconst (pc' := 16) (v := nI 5) dX6_readLine_15 rfl (by decide) ?_
      refine g_iconst (pc' := 17) (v := nI 0) dX6_readLine_16 rfl (by decide) ?_
      refine g_callV (pc' := 20) (c_tMark l tg (a := (any s).1) (fl := (any s).2.1) (out := (any s).2.2) hq1.1 (m := 5) (x := 0) (by decide) (by decide) hrm) tg.s3 (by decide) wX6_mark lX6_51 rfl rfl (Nat.le_of_ble_eq_true rfl) (rOk (by omega) (by decide)) ⟨Nat.le_of_ble_eq_true rfl, Nat.le_of_ble_eq_true rfl⟩ dX6_readLine_17 rfl (kV (fun J2 hq2 => ?_))
      refine g_vret rfl dX6_readLine_20 ?_
      exact eV ⟨by unfold cLine; rw [if_neg (by rw [hnx]; simp; omega)]; exact hq2.1, hq1.2.tr hq2.2⟩

/-- what a reading leaves -/
def TE (J : MI) (s : PS) : Prop := J (3, 0) 1 = nI 0 ∧ ∃ w, w ≤ 121 ∧ J (3, 0) 3 = nI w ∧ (s.2.1 = none → w = s.2.2.length ∧ ∀ i, i < w → J (5, 0) i = nI ((s.2.2.getD i (0, 0)).1 + 256 * (s.2.2.getD i (0, 0)).2))
def tpE (t : Tok) (i : Nat) : Prop := tpP t i ∨ (t = (3, 0) ∧ i = 1)
theorem TR.te {B : Nat → Nat} {len : Nat} {J : MI} {s : PS} (h : TR B len J s) : TE (upM J (3, 0) 1 (nI 0)) s := by
  obtain ⟨h1, h2, h3, h4, h5, h6, h7, w2, h8, h9, h10⟩ := h
  exact ⟨upM_s _ _ _ _, w2, h8, by simp [upM]; exact h9, fun hf => ⟨(h10 hf).1, fun i hi => by simp [upM]; exact (h10 hf).2 i hi⟩⟩
theorem fr_tpE {I J : MI} {v : Int32} (h : Fr tpP I J) : Fr tpE I (upM J (3, 0) 1 v) := (h.le (fun _ _ q => Or.inl q)).up (Or.inr ⟨rfl, rfl⟩)

theorem c_read (l : Launch) {S : Shp} {I : MI} {L : ML} {R : MR} (tg : TG S R) {B : Nat → Nat} {len : Nat} {any : PS → PS} (hn : Nice len any) (hany : Rz l S L R B len mX6_readAny 50 0 any) (hlen : len ≤ 120) (hB : ∀ i, i < len → B i < 256) (hl : I (3, 0) 1 = nI len) (hb : ∀ i, i < len → I (4, 0) i = nI (B i)) : Ct l mX6_read 52 0 0 [.inr (.inr (some (3, 0)))] S I L R (PIm S L R (fun v J => v = flI (cRead B len any).2.1 ∧ TE J (cRead B len any) ∧ Fr tpE I J)) := by
  have hTR0 : TR B len (upM (upM (upM I (3, 0) 3 (nI 0)) (3, 0) 4 (nI 0)) (3, 0) 5 (-1)) (0, none, []) := ⟨hlen, hB, by simp [upM]; exact hl, fun i hi => by simp [upM]; exact hb i hi, ⟨Nat.zero_le _, fun p q => by cases q⟩, by simp [upM], by simp [upM, flI], 0, by omega, by simp [upM], fun _ => ⟨rfl, fun i hi => absurd hi (by omega)⟩⟩
  have hfr0 : Fr tpP I (upM (upM (upM I (3, 0) 3 (nI 0)) (3, 0) 4 (nI 0)) (3, 0) 5 (-1)) := ((Fr.rf.up (by simp [tpP])).up (by simp [tpP])).up (by simp [tpP])
  refine Ct.of [some (.inr (.inr (some (3, 0))))] (by decide) rfl (Nat.le_of_ble_eq_true rfl) ?_
  refine g_ald0 (pc' := 1) dX6_read_0 rfl ?_
  refine g_iconst (pc' := 2) (v := nI 0) dX6_read_1 rfl (by decide) ?_
  refine g_putI (pc' := 5) tg.s3 (by decide) ⟨fX6_20, rfl, pI⟩ dX6_read_2 rfl ?_
  refine g_ald0 (pc' := 6) dX6_read_5 rfl ?_
  refine g_iconst (pc' := 7) (v := nI 0) dX6_read_6 rfl (by decide) ?_
  refine g_putI (pc' := 10) tg.s3 (by decide) ⟨fX6_23, rfl, pI⟩ dX6_read_7 rfl ?_
  refine g_ald0 (pc' := 11) dX6_read_10 rfl ?_
  refine g_iconst (pc' := 12) (v := (-1)) dX6_read_11 rfl (by decide) ?_
  refine g_putI (pc' := 15) tg.s3 (by decide) ⟨fX6_26, rfl, pI⟩ dX6_read_12 rfl ?_
  refine g_ald0 (pc' := 16) dX6_read_15 rfl ?_
  refine g_callV (pc' := 19) (c_readLine l tg hn hany (s := (0, none, [])) hTR0 (fun _ => Nat.le_refl _)) tg.s3 (by decide) wX6_readLine lX6_29 rfl rfl (Nat.le_of_ble_eq_true rfl) (by decide) ⟨Nat.le_of_ble_eq_true rfl, Nat.le_of_ble_eq_true rfl⟩ dX6_read_16 rfl (kV (fun J1 hq1 => ?_))
  have hk0 := line_ok (B := B) hn (s := (0, none, [])) (Nat.zero_le _) (fun _ => Nat.le_refl _)
  refine g_loopD (σ := PS × MI) (fun f q => TR B len q.2 q.1 ∧ Fr tpP I q.2 ∧ (q.1.2.1 = none → q.1.2.2.length ≤ q.1.1 + 1) ∧ len - q.1.1 < f ∧ lnR B len any f q.1 = lnR B len any 121 (cLine B len any (0, none, []))) (fun f s => [some (.inr (.inr (some (3, 0))))]) (fun f s => s.2) 121 (cLine B len any (0, none, []), J1) ⟨hq1.1, hfr0.tr hq1.2, fun hf => (hk0.2.2 hf).2, by have := hq1.1.1; omega, rfl⟩ ?_
  intro f s2 hQ ihD
  obtain ⟨⟨a, fl, out⟩, J⟩ := s2
  simp only at hQ
  obtain ⟨t1, t2, t3, t4, ⟨t5, t5b⟩, t6, t7, t8⟩ := id hQ.1
  simp only at t5 t6 t7
  cases f with
  | zero => exact absurd hQ.2.2.2.1 (by omega)
  | succ f =>
    have hmeas := hQ.2.2.2.1
    have hBa : B a < 256 ∨ len ≤ a := (Nat.lt_or_ge a len).imp (t2 a) id
    refine g_ald0 (pc' := 20) dX6_read_19 rfl ?_
    refine g_getI (pc' := 23) tg.s3 (by decide) fX6_23 t6 dX6_read_20 rfl ?_
    refine g_ald0 (pc' := 24) dX6_read_23 rfl ?_
    refine g_getI (pc' := 27) tg.s3 (by decide) fX6_16 t3 dX6_read_24 rfl ?_
    refine g_icmpgeN (pc' := 30) (by omega) (by omega) (tgt := 61) dX6_read_27 (by decide) rfl (fun h27 => ?_) (fun h27 => ?_)
    · refine g_ald0 (pc' := 62) dX6_read_61 rfl ?_
      refine g_getI (pc' := 65) tg.s3 (by decide) fX6_23 t6 dX6_read_62 rfl ?_
      refine g_ald0 (pc' := 66) dX6_read_65 rfl ?_
      refine g_getI (pc' := 69) tg.s3 (by decide) fX6_16 t3 dX6_read_66 rfl ?_
      refine g_icmpgeN (pc' := 72) (by omega) (by omega) (tgt := 76) dX6_read_69 (by decide) rfl (fun h69 => ?_) (fun h69 => ?_)
      · refine g_ald0 (pc' := 77) dX6_read_76 rfl ?_
        refine g_iconst (pc' := 78) (v := nI 0) dX6_read_77 rfl (by decide) ?_
        refine g_putI (pc' := 81) tg.s3 (by decide) ⟨fX6_16, rfl, pI⟩ dX6_read_78 rfl ?_
        refine g_ald0 (pc' := 82) dX6_read_81 rfl ?_
        refine g_getI (pc' := 85) tg.s3 (by decide) fX6_26 (v := flI fl) (by simp [upM, t7]) dX6_read_82 rfl ?_
        refine g_iret rfl dX6_read_85 ?_
        first
        | (exfalso; omega)
        | (have e : lnR B len any 121 (cLine B len any (0, none, [])) = (a, fl, out) := by rw [← hQ.2.2.2.2, lnR, if_neg (show ¬ (a < len ∧ B a = 59) by omega)]
           have e2 : cRead B len any = (a, fl, out) := by unfold cRead; rw [e, if_neg (show ¬ a < len by omega)]
           exact eI ⟨by rw [e2], by rw [e2]; exact hQ.1.te, fr_tpE hQ.2.1⟩)
      · refine g_ald0 (pc' := 73) dX6_read_72 rfl ?_
        refine g_callV (pc' := 76) (c_tFail l tg (a := a) (fl := fl) (out := out) hQ.1) tg.s3 (by decide) wX6_fail lX6_32 rfl rfl (Nat.le_of_ble_eq_true rfl) (by decide) ⟨Nat.le_of_ble_eq_true rfl, Nat.le_of_ble_eq_true rfl⟩ dX6_read_73 rfl (kV (fun J2 hq2 => ?_))
        have t7b := hq2.1.2.2.2.2.2.2.1
        refine g_ald0 (pc' := 77) dX6_read_76 rfl ?_
        refine g_iconst (pc' := 78) (v := nI 0) dX6_read_77 rfl (by decide) ?_
        refine g_putI (pc' := 81) tg.s3 (by decide) ⟨fX6_16, rfl, pI⟩ dX6_read_78 rfl ?_
        refine g_ald0 (pc' := 82) dX6_read_81 rfl ?_
        refine g_getI (pc' := 85) tg.s3 (by decide) fX6_26 (v := flI (psFail len (a, fl, out)).2.1) (by simp [upM, t7b]) dX6_read_82 rfl ?_
        refine g_iret rfl dX6_read_85 ?_
        first
        | (exfalso; omega)
        | (have e : lnR B len any 121 (cLine B len any (0, none, [])) = (a, fl, out) := by rw [← hQ.2.2.2.2, lnR, if_neg (show ¬ (a < len ∧ B a = 59) by omega)]
           have e2 : cRead B len any = psFail len (a, fl, out) := by unfold cRead; rw [e, if_pos (show a < len by omega)]
           exact eI ⟨by rw [e2], by rw [e2]; exact hq2.1.te, fr_tpE (hQ.2.1.tr hq2.2)⟩)
    · refine g_ald0 (pc' := 31) dX6_read_30 rfl ?_
      refine g_getR (pc' := 34) tg.s3 (by decide) fX6_9 tg.r3_0 dX6_read_31 rfl ?_
      refine g_ald0 (pc' := 35) dX6_read_34 rfl ?_
      refine g_getI (pc' := 38) tg.s3 (by decide) fX6_23 t6 dX6_read_35 rfl ?_
      refine g_iald (pc' := 39) (j := a) tg.s4 rfl (by omega) (by decide) (v := nI (B a)) (t4 a (by omega)) dX6_read_38 rfl ?_
      refine g_bipush (pc' := 41) (v := nI 59) dX6_read_39 rfl (by decide) ?_
      refine g_icmpneN (pc' := 44) (by omega) (by omega) (tgt := 61) dX6_read_41 (by decide) rfl (fun h41 => ?_) (fun h41 => ?_)
      · refine g_ald0 (pc' := 62) dX6_read_61 rfl ?_
        refine g_getI (pc' := 65) tg.s3 (by decide) fX6_23 t6 dX6_read_62 rfl ?_
        refine g_ald0 (pc' := 66) dX6_read_65 rfl ?_
        refine g_getI (pc' := 69) tg.s3 (by decide) fX6_16 t3 dX6_read_66 rfl ?_
        refine g_icmpgeN (pc' := 72) (by omega) (by omega) (tgt := 76) dX6_read_69 (by decide) rfl (fun h69 => ?_) (fun h69 => ?_)
        · refine g_ald0 (pc' := 77) dX6_read_76 rfl ?_
          refine g_iconst (pc' := 78) (v := nI 0) dX6_read_77 rfl (by decide) ?_
          refine g_putI (pc' := 81) tg.s3 (by decide) ⟨fX6_16, rfl, pI⟩ dX6_read_78 rfl ?_
          refine g_ald0 (pc' := 82) dX6_read_81 rfl ?_
          refine g_getI (pc' := 85) tg.s3 (by decide) fX6_26 (v := flI fl) (by simp [upM, t7]) dX6_read_82 rfl ?_
          refine g_iret rfl dX6_read_85 ?_
          first
          | (exfalso; omega)
          | (have e : lnR B len any 121 (cLine B len any (0, none, [])) = (a, fl, out) := by rw [← hQ.2.2.2.2, lnR, if_neg (show ¬ (a < len ∧ B a = 59) by omega)]
             have e2 : cRead B len any = (a, fl, out) := by unfold cRead; rw [e, if_neg (show ¬ a < len by omega)]
             exact eI ⟨by rw [e2], by rw [e2]; exact hQ.1.te, fr_tpE hQ.2.1⟩)
        · refine g_ald0 (pc' := 73) dX6_read_72 rfl ?_
          refine g_callV (pc' := 76) (c_tFail l tg (a := a) (fl := fl) (out := out) hQ.1) tg.s3 (by decide) wX6_fail lX6_32 rfl rfl (Nat.le_of_ble_eq_true rfl) (by decide) ⟨Nat.le_of_ble_eq_true rfl, Nat.le_of_ble_eq_true rfl⟩ dX6_read_73 rfl (kV (fun J2 hq2 => ?_))
          have t7b := hq2.1.2.2.2.2.2.2.1
          refine g_ald0 (pc' := 77) dX6_read_76 rfl ?_
          refine g_iconst (pc' := 78) (v := nI 0) dX6_read_77 rfl (by decide) ?_
          refine g_putI (pc' := 81) tg.s3 (by decide) ⟨fX6_16, rfl, pI⟩ dX6_read_78 rfl ?_
          refine g_ald0 (pc' := 82) dX6_read_81 rfl ?_
          refine g_getI (pc' := 85) tg.s3 (by decide) fX6_26 (v := flI (psFail len (a, fl, out)).2.1) (by simp [upM, t7b]) dX6_read_82 rfl ?_
          refine g_iret rfl dX6_read_85 ?_
          first
          | (exfalso; omega)
          | (have e : lnR B len any 121 (cLine B len any (0, none, [])) = (a, fl, out) := by rw [← hQ.2.2.2.2, lnR, if_neg (show ¬ (a < len ∧ B a = 59) by omega)]
             have e2 : cRead B len any = psFail len (a, fl, out) := by unfold cRead; rw [e, if_pos (show a < len by omega)]
             exact eI ⟨by rw [e2], by rw [e2]; exact hq2.1.te, fr_tpE (hQ.2.1.tr hq2.2)⟩)
      · refine g_ald0 (pc' := 45) dX6_read_44 rfl ?_
        refine g_dupR (pc' := 46) dX6_read_45 rfl ?_
        refine g_getI (pc' := 49) tg.s3 (by decide) fX6_23 t6 dX6_read_46 rfl ?_
        refine g_iconst (pc' := 50) (v := nI 1) dX6_read_49 rfl (by decide) ?_
        refine g_iaddN (pc' := 51) dX6_read_50 rfl ?_
        refine g_putI (pc' := 54) tg.s3 (by decide) ⟨fX6_23, rfl, pI⟩ dX6_read_51 rfl ?_
        refine g_ald0 (pc' := 55) dX6_read_54 rfl ?_
        refine g_callV (pc' := 58) (c_readLine l tg hn hany (s := psAdv (a, fl, out)) (hQ.1.adv (show a < len by omega)) (fun hf => hQ.2.2.1 hf)) tg.s3 (by decide) wX6_readLine lX6_29 rfl rfl (Nat.le_of_ble_eq_true rfl) (by decide) ⟨Nat.le_of_ble_eq_true rfl, Nat.le_of_ble_eq_true rfl⟩ dX6_read_55 rfl (kV (fun J2 hq2 => ?_))
        refine g_goto (tgt := 19) dX6_read_58 (by decide) ?_
        have hk := line_ok (B := B) hn (s := psAdv (a, fl, out)) (show a + 1 ≤ len by omega) (fun hf => hQ.2.2.1 hf)
        have hmono := hk.1
        simp only [psAdv] at hmono
        exact ihD f (cLine B len any (psAdv (a, fl, out)), J2) (by omega) ⟨hq2.1, (hQ.2.1.tr fr_adv).tr hq2.2, fun hf => (hk.2.2 hf).2, by simp only [psAdv]; omega, by rw [← hQ.2.2.2.2, lnR, if_pos (show a < len ∧ B a = 59 by omega)]⟩

theorem c_tWrite (l : Launch) {S : Shp} {I : MI} {L : ML} {R : MR} (tg : TG S R) {B : Nat → Nat} {len b : Nat} (hlen : len ≤ 120) (hl : I (3, 0) 1 = nI len) (hb : ∀ i, i < len → I (4, 0) i = nI (B i)) : Ct l mX6_write 1 0 0 [.inr (.inr (some (3, 0))), .inl (nI b)] S I L R (PVm S L R (fun J => J (3, 0) 1 = nI (if len < 120 then len + 1 else len) ∧ (∀ i, i < (if len < 120 then len + 1 else len) → J (4, 0) i = nI (if i = len then b else B i)) ∧ Fr (fun t i => (t = (3, 0) ∧ i = 1) ∨ t = (4, 0)) I J)) := by
  refine Ct.of [some (.inr (.inr (some (3, 0)))), some (.inl (nI b))] (by decide) rfl (Nat.le_of_ble_eq_true rfl) ?_
  refine g_ald0 (pc' := 1) dX6_write_0 rfl ?_
  refine g_getI (pc' := 4) tg.s3 (by decide) fX6_16 hl dX6_write_1 rfl ?_
  refine g_bipush (pc' := 6) (v := nI 120) dX6_write_4 rfl (by decide) ?_
  refine g_icmpgeN (pc' := 9) (by omega) (by omega) (tgt := 29) dX6_write_6 (by decide) rfl (fun h6 => ?_) (fun h6 => ?_)
  · refine g_vret rfl dX6_write_29 ?_
    exact eV ⟨by rw [if_neg (by omega)]; exact hl, fun i hi => (by rw [if_neg (show ¬ len < 120 by omega)] at hi; rw [if_neg (by omega)]; exact hb i hi), Fr.rf⟩
  · refine g_ald0 (pc' := 10) dX6_write_9 rfl ?_
    refine g_getR (pc' := 13) tg.s3 (by decide) fX6_9 tg.r3_0 dX6_write_10 rfl ?_
    refine g_ald0 (pc' := 14) dX6_write_13 rfl ?_
    refine g_getI (pc' := 17) tg.s3 (by decide) fX6_16 hl dX6_write_14 rfl ?_
    refine g_ild1 (pc' := 18) dX6_write_17 rfl ?_
    refine g_iast (pc' := 19) (j := len) tg.s4 rfl (by omega) (by decide) dX6_write_18 rfl ?_
    refine g_ald0 (pc' := 20) dX6_write_19 rfl ?_
    refine g_dupR (pc' := 21) dX6_write_20 rfl ?_
    refine g_getI (pc' := 24) tg.s3 (by decide) fX6_16 (v := nI len) (by simp [upM, hl]) dX6_write_21 rfl ?_
    refine g_iconst (pc' := 25) (v := nI 1) dX6_write_24 rfl (by decide) ?_
    refine g_iaddN (pc' := 26) dX6_write_25 rfl ?_
    refine g_putI (pc' := 29) tg.s3 (by decide) ⟨fX6_16, rfl, pI⟩ dX6_write_26 rfl ?_
    refine g_vret rfl dX6_write_29 ?_
    exact eV ⟨by rw [if_pos (by omega)]; simp [upM], fun i hi => (by rw [if_pos (show len < 120 by omega)] at hi; by_cases q : i = len <;> simp [upM, q]; exact hb i (by omega)), (Fr.rf.up (by simp)).up (by simp)⟩
