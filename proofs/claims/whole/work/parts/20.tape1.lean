/-! Tape: the reading of a TEXT -/
abbrev PS : Type := Nat × Option Nat × List (Nat × Nat)
def flI (f : Option Nat) : Int32 := match f with
  | none => -1
  | some p => nI p
def psFail (len : Nat) (s : PS) : PS := (len, (match s.2.1 with | none => some s.1 | some p => some p), s.2.2)
def psMk (m x : Nat) (s : PS) : PS := (s.1, s.2.1, s.2.2 ++ [(m, x)])
def psAdv (s : PS) : PS := (s.1 + 1, s.2.1, s.2.2)
def nxt (B : Nat → Nat) (len a : Nat) : Option Nat := if a < len then some (B a) else none
def TR (B : Nat → Nat) (len : Nat) (I : MI) (s : PS) : Prop := len ≤ 120 ∧ (∀ i, i < len → B i < 256) ∧ I (3, 0) 1 = nI len ∧ (∀ i, i < len → I (4, 0) i = nI (B i)) ∧ (s.1 ≤ len ∧ ∀ p, s.2.1 = some p → p ≤ len) ∧ I (3, 0) 4 = nI s.1 ∧ I (3, 0) 5 = flI s.2.1 ∧ ∃ w, w ≤ 121 ∧ I (3, 0) 3 = nI w ∧ (s.2.1 = none → w = s.2.2.length ∧ ∀ i, i < w → I (5, 0) i = nI ((s.2.2.getD i (0, 0)).1 + 256 * (s.2.2.getD i (0, 0)).2))
def tpP (t : Tok) (i : Nat) : Prop := (t = (3, 0) ∧ (i = 3 ∨ i = 4 ∨ i = 5)) ∨ t = (5, 0)
def gd (s : PS) : Prop := s.2.1 = none → s.2.2.length ≤ s.1
theorem rOk {d dp nL : Nat} (h : d ≤ dp) (hn : nL ≤ 20) : d + 1 ≤ (rmd (dp + 1) 0 0).frames ∧ 8 + (nL + 11) + (64 * d + 40) ≤ (rmd (dp + 1) 0 0).locals := by
  simp only [rmd]
  omega
theorem TR.adv {B : Nat → Nat} {len : Nat} {I : MI} {s : PS} (h : TR B len I s) (ha : s.1 < len) : TR B len (upM I (3, 0) 4 (nI (s.1 + 1))) (psAdv s) := by
  obtain ⟨h1, h2, h3, h4, h5, h6, h7, w, h8, h9, h10⟩ := h
  refine ⟨h1, h2, by simp [upM]; exact h3, fun i hi => by simp [upM]; exact h4 i hi, ⟨ha, h5.2⟩, by simp [upM, psAdv], by simp [upM, psAdv]; exact h7, w, h8, by simp [upM]; exact h9, fun hf => ⟨(h10 hf).1, fun i hi => by simp [upM]; exact (h10 hf).2 i hi⟩⟩
theorem fr_adv {I : MI} {v : Int32} : Fr tpP I (upM I (3, 0) 4 v) := Fr.rf.up (by simp [tpP])
theorem orSh {m x : Nat} (hm : m < 256) (hx : x < 10000) : nI m ||| (nI x <<< (nI 8 &&& 31)) = nI (m + 256 * x) := by
  rw [pk_shlN (nI 8 &&& 31) 8 (by decide) (by omega)]
  have : nI (x * 2 ^ 8) ||| nI m = nI (2 ^ 8 * x + m) := by
    show Int32.ofNat _ ||| Int32.ofNat _ = Int32.ofNat _
    apply Int32.toBitVec_inj.mp
    rw [Int32.toBitVec_or]
    show BitVec.ofNat 32 _ ||| BitVec.ofNat 32 _ = BitVec.ofNat 32 _
    apply BitVec.eq_of_toNat_eq
    rw [BitVec.toNat_or, BitVec.toNat_ofNat, BitVec.toNat_ofNat, BitVec.toNat_ofNat, Nat.mod_eq_of_lt (by omega), Nat.mod_eq_of_lt (by omega), Nat.mod_eq_of_lt (by omega), Nat.mul_comm x, Nat.two_pow_add_eq_or_of_lt (by omega)]
  rw [show nI m ||| nI (x * 2 ^ 8) = nI (x * 2 ^ 8) ||| nI m from Int32.or_comm _ _, this]
  congr 1
  omega
theorem c_tNext (l : Launch) {S : Shp} {I : MI} {L : ML} {R : MR} (tg : TG S R) {B : Nat → Nat} {len a : Nat} {fl : Option Nat} {out : List (Nat × Nat)} (h : TR B len I (a, fl, out)) : Ct l mX6_next 1 0 0 [.inr (.inr (some (3, 0)))] S I L R (PIp S I L R (flI (nxt B len a))) := by
  obtain ⟨t1, t2, t3, t4, t5, t6, t7, ww, t8, t9, t10⟩ := id h
  simp only at t5 t6 t7 t10
  refine Ct.of [some (.inr (.inr (some (3, 0))))] (by decide) rfl (Nat.le_of_ble_eq_true rfl) ?_
  refine g_ald0 (pc' := 1) dX6_next_0 rfl ?_
  refine g_getI (pc' := 4) tg.s3 (by decide) fX6_23 t6 dX6_next_1 rfl ?_
  refine g_ald0 (pc' := 5) dX6_next_4 rfl ?_
  refine g_getI (pc' := 8) tg.s3 (by decide) fX6_16 t3 dX6_next_5 rfl ?_
  refine g_icmpgeN (pc' := 11) (by omega) (by omega) (tgt := 32) dX6_next_8 (by decide) rfl (fun h8 => ?_) (fun h8 => ?_)
  · refine g_iconst (pc' := 33) (v := (-1)) dX6_next_32 rfl (by decide) ?_
    refine g_iret rfl dX6_next_33 ?_
    exact eIp (by unfold nxt; first | (rw [if_pos (by omega)]; rfl) | (rw [if_neg (by omega)]; rfl))
  · refine g_ald0 (pc' := 12) dX6_next_11 rfl ?_
    refine g_getI (pc' := 15) tg.s3 (by decide) fX6_23 t6 dX6_next_12 rfl ?_
    refine g_bipush (pc' := 17) (v := nI 120) dX6_next_15 rfl (by decide) ?_
    refine g_icmpgeN (pc' := 20) (by omega) (by omega) (tgt := 32) dX6_next_17 (by decide) rfl (fun h17 => ?_) (fun h17 => ?_)
    · exact absurd h17 (by omega)
    · refine g_ald0 (pc' := 21) dX6_next_20 rfl ?_
      refine g_getR (pc' := 24) tg.s3 (by decide) fX6_9 tg.r3_0 dX6_next_21 rfl ?_
      refine g_ald0 (pc' := 25) dX6_next_24 rfl ?_
      refine g_getI (pc' := 28) tg.s3 (by decide) fX6_23 t6 dX6_next_25 rfl ?_
      refine g_iald (pc' := 29) (j := a) tg.s4 rfl (by omega) (by decide) (v := nI (B a)) (t4 a (by omega)) dX6_next_28 rfl ?_
      refine g_goto (tgt := 33) dX6_next_29 (by decide) ?_
      refine g_iret rfl dX6_next_33 ?_
      exact eIp (by unfold nxt; first | (rw [if_pos (by omega)]; rfl) | (rw [if_neg (by omega)]; rfl))

theorem c_tFail (l : Launch) {S : Shp} {I : MI} {L : ML} {R : MR} (tg : TG S R) {B : Nat → Nat} {len a : Nat} {fl : Option Nat} {out : List (Nat × Nat)} (h : TR B len I (a, fl, out)) : Ct l mX6_fail 1 0 0 [.inr (.inr (some (3, 0)))] S I L R (PVm S L R (fun J => TR B len J (psFail len (a, fl, out)) ∧ Fr tpP I J)) := by
  obtain ⟨t1, t2, t3, t4, t5, t6, t7, ww, t8, t9, t10⟩ := id h
  simp only at t5 t6 t7 t10
  cases fl with
  | none =>
    refine Ct.of [some (.inr (.inr (some (3, 0))))] (by decide) rfl (Nat.le_of_ble_eq_true rfl) ?_
    refine g_ald0 (pc' := 1) dX6_fail_0 rfl ?_
    refine g_getI (pc' := 4) tg.s3 (by decide) fX6_26 (v := (-1)) (t7) dX6_fail_1 rfl ?_
    refine g_ifge (pc' := 7) (tgt := 15) dX6_fail_4 (by decide) rfl (fun h4 => ?_) (fun h4 => ?_)
    · exact absurd h4 (by decide)
    · refine g_ald0 (pc' := 8) dX6_fail_7 rfl ?_
      refine g_ald0 (pc' := 9) dX6_fail_8 rfl ?_
      refine g_getI (pc' := 12) tg.s3 (by decide) fX6_23 t6 dX6_fail_9 rfl ?_
      refine g_putI (pc' := 15) tg.s3 (by decide) ⟨fX6_26, rfl, pI⟩ dX6_fail_12 rfl ?_
      refine g_ald0 (pc' := 16) dX6_fail_15 rfl ?_
      refine g_ald0 (pc' := 17) dX6_fail_16 rfl ?_
      refine g_getI (pc' := 20) tg.s3 (by decide) fX6_16 (v := nI len) (by simp [upM, t3]) dX6_fail_17 rfl ?_
      refine g_putI (pc' := 23) tg.s3 (by decide) ⟨fX6_23, rfl, pI⟩ dX6_fail_20 rfl ?_
      refine g_vret rfl dX6_fail_23 ?_
      exact eV ⟨⟨t1, t2, by simp [upM]; exact t3, fun i hi => (by simp [upM]; exact t4 i hi), ⟨Nat.le_refl _, fun p hp => (by cases hp; exact t5.1)⟩, by simp [upM, psFail], by simp [upM, psFail, flI], ww, t8, by simp [upM]; exact t9, fun hf => (by cases hf)⟩, (Fr.rf.up (by simp [tpP])).up (by simp [tpP])⟩
  | some p =>
    have hp31 : p < 2 ^ 31 := by have := t5.2 p rfl; omega
    refine Ct.of [some (.inr (.inr (some (3, 0))))] (by decide) rfl (Nat.le_of_ble_eq_true rfl) ?_
    refine g_ald0 (pc' := 1) dX6_fail_0 rfl ?_
    refine g_getI (pc' := 4) tg.s3 (by decide) fX6_26 (v := flI (some p)) (t7) dX6_fail_1 rfl ?_
    refine g_ifge (pc' := 7) (tgt := 15) dX6_fail_4 (by decide) rfl (fun h4 => ?_) (fun h4 => ?_)
    · refine g_ald0 (pc' := 16) dX6_fail_15 rfl ?_
      refine g_ald0 (pc' := 17) dX6_fail_16 rfl ?_
      refine g_getI (pc' := 20) tg.s3 (by decide) fX6_16 t3 dX6_fail_17 rfl ?_
      refine g_putI (pc' := 23) tg.s3 (by decide) ⟨fX6_23, rfl, pI⟩ dX6_fail_20 rfl ?_
      refine g_vret rfl dX6_fail_23 ?_
      exact eV ⟨⟨t1, t2, by simp [upM]; exact t3, fun i hi => (by simp [upM]; exact t4 i hi), ⟨Nat.le_refl _, fun q hq => (by cases hq; exact t5.2 p rfl)⟩, by simp [upM, psFail], by simp [upM, psFail]; exact t7, ww, t8, by simp [upM]; exact t9, fun hf => (by cases hf)⟩, Fr.rf.up (by simp [tpP])⟩
    · exact absurd (show (0 : Int32) ≤ flI (some p) from nI_pos' hp31) h4

theorem c_tMark (l : Launch) {S : Shp} {I : MI} {L : ML} {R : MR} (tg : TG S R) {B : Nat → Nat} {len a : Nat} {fl : Option Nat} {out : List (Nat × Nat)} (h : TR B len I (a, fl, out)) {m x : Nat} (hm : m < 256) (hx : x < 10000) (hroom : fl = none → out.length < 121) : Ct l mX6_mark 1 0 0 [.inr (.inr (some (3, 0))), .inl (nI m), .inl (nI x)] S I L R (PVm S L R (fun J => TR B len J (psMk m x (a, fl, out)) ∧ Fr tpP I J)) := by
  obtain ⟨t1, t2, t3, t4, t5, t6, t7, ww, t8, t9, t10⟩ := id h
  simp only at t5 t6 t7 t10
  refine Ct.of [some (.inr (.inr (some (3, 0)))), some (.inl (nI m)), some (.inl (nI x))] (by decide) rfl (Nat.le_of_ble_eq_true rfl) ?_
  refine g_ald0 (pc' := 1) dX6_mark_0 rfl ?_
  refine g_getI (pc' := 4) tg.s3 (by decide) fX6_20 t9 dX6_mark_1 rfl ?_
  refine g_bipush (pc' := 6) (v := nI 121) dX6_mark_4 rfl (by decide) ?_
  refine g_icmpgeN (pc' := 9) (by omega) (by omega) (tgt := 34) dX6_mark_6 (by decide) rfl (fun h6 => ?_) (fun h6 => ?_)
  · refine g_vret rfl dX6_mark_34 ?_
    refine eV ⟨⟨t1, t2, t3, t4, t5, t6, t7, ww, t8, t9, fun hf => ?_⟩, Fr.rf⟩
    exact absurd ((t10 hf).1) (by have := hroom hf; omega)
  · refine g_ald0 (pc' := 10) dX6_mark_9 rfl ?_
    refine g_getR (pc' := 13) tg.s3 (by decide) fX6_13 tg.r3_2 dX6_mark_10 rfl ?_
    refine g_ald0 (pc' := 14) dX6_mark_13 rfl ?_
    refine g_getI (pc' := 17) tg.s3 (by decide) fX6_20 t9 dX6_mark_14 rfl ?_
    refine g_ild1 (pc' := 18) dX6_mark_17 rfl ?_
    refine g_ild2 (pc' := 19) dX6_mark_18 rfl ?_
    refine g_bipush (pc' := 21) (v := nI 8) dX6_mark_19 rfl (by decide) ?_
    refine g_ishl (pc' := 22) dX6_mark_21 rfl ?_
    refine g_ior (pc' := 23) dX6_mark_22 rfl ?_
    refine g_topi (v := nI (m + 256 * x)) (orSh hm hx) ?_
    refine g_iast (pc' := 24) (j := ww) tg.s5 rfl (by omega) (by decide) dX6_mark_23 rfl ?_
    refine g_ald0 (pc' := 25) dX6_mark_24 rfl ?_
    refine g_dupR (pc' := 26) dX6_mark_25 rfl ?_
    refine g_getI (pc' := 29) tg.s3 (by decide) fX6_20 (v := nI ww) (by simp [upM, t9]) dX6_mark_26 rfl ?_
    refine g_iconst (pc' := 30) (v := nI 1) dX6_mark_29 rfl (by decide) ?_
    refine g_iaddN (pc' := 31) dX6_mark_30 rfl ?_
    refine g_putI (pc' := 34) tg.s3 (by decide) ⟨fX6_20, rfl, pI⟩ dX6_mark_31 rfl ?_
    refine g_vret rfl dX6_mark_34 ?_
    refine eV ⟨⟨t1, t2, by simp [upM]; exact t3, fun i hi => (by simp [upM]; exact t4 i hi), t5, by simp [upM, psMk]; exact t6, by simp [upM, psMk]; exact t7, ww + 1, by omega, by simp [upM], fun hf => ?_⟩, (Fr.rf.up (by simp [tpP])).up (by simp [tpP])⟩
    have e1 := (t10 hf).1
    refine ⟨by simp [psMk]; exact e1, fun i hi => ?_⟩
    simp only [psMk]
    rw [upM_n _ (by simp)]
    by_cases e : i = ww
    · subst e
      rw [upM_s, e1, List.getD_eq_getElem?_getD, List.getElem?_append_right (Nat.le_refl _)]
      simp
    · rw [upM_k _ _ e, (t10 hf).2 i (by omega), List.getD_eq_getElem?_getD, List.getD_eq_getElem?_getD, List.getElem?_append_left (by omega)]

def nameC (b : Nat) : Option Nat := match b with
  | 119 => some 0
  | 99 => some 1
  | 112 => some 2
  | 110 => some 3
  | 116 => some 4
  | 107 => some 5
  | 105 => some 6
  | _ => none
theorem nameC_lt {b q : Nat} (h : nameC b = some q) : q < 7 := by
  unfold nameC at h
  split at h <;> first | (cases h; omega) | cases h
theorem c_nameOf (l : Launch) {S : Shp} {I : MI} {L : ML} {R : MR} {b : Nat} (hb : b < 256) : Ct l mX6_nameOf 1 0 0 [.inl (nI b)] S I L R (PIp S I L R (flI (nameC b))) := by
  refine Ct.of [some (.inl (nI b))] (by decide) rfl (Nat.le_of_ble_eq_true rfl) ?_
  refine g_ild0 (pc' := 1) dX6_nameOf_0 rfl ?_
  rcases (show b < 99 ∨ 119 < b ∨ b = 99 ∨ b = 100 ∨ b = 101 ∨ b = 102 ∨ b = 103 ∨ b = 104 ∨ b = 105 ∨ b = 106 ∨ b = 107 ∨ b = 108 ∨ b = 109 ∨ b = 110 ∨ b = 111 ∨ b = 112 ∨ b = 113 ∨ b = 114 ∨ b = 115 ∨ b = 116 ∨ b = 117 ∨ b = 118 ∨ b = 119 by omega) with hlo | hhi | rfl | rfl | rfl | rfl | rfl | rfl | rfl | rfl | rfl | rfl | rfl | rfl | rfl | rfl | rfl | rfl | rfl | rfl | rfl | rfl | rfl
  · refine g_tout (tgt := 115) dX6_nameOf_1 (Or.inl (by rw [nI_toInt (by omega)]; omega)) (by decide) ?_
    refine g_iconst (pc' := 116) (v := (-1)) dX6_nameOf_115 rfl (by decide) ?_
    refine g_iret rfl dX6_nameOf_116 ?_
    exact eIp (by unfold nameC; split <;> first | omega | rfl)
  · refine g_tout (tgt := 115) dX6_nameOf_1 (Or.inr (by rw [nI_toInt (by omega)]; omega)) (by decide) ?_
    refine g_iconst (pc' := 116) (v := (-1)) dX6_nameOf_115 rfl (by decide) ?_
    refine g_iret rfl dX6_nameOf_116 ?_
    exact eIp (by unfold nameC; split <;> first | omega | rfl)
  · refine g_tin (off := 101) (tgt := 102) dX6_nameOf_1 (by decide) (by decide) (by decide) (by decide) ?_
    refine g_iconst (pc' := 103) (v := nI 1) dX6_nameOf_102 rfl (by decide) ?_
    refine g_iret rfl dX6_nameOf_103 ?_
    exact eIp rfl
  · refine g_tin (off := 114) (tgt := 115) dX6_nameOf_1 (by decide) (by decide) (by decide) (by decide) ?_
    refine g_iconst (pc' := 116) (v := (-1)) dX6_nameOf_115 rfl (by decide) ?_
    refine g_iret rfl dX6_nameOf_116 ?_
    exact eIp rfl
  · refine g_tin (off := 114) (tgt := 115) dX6_nameOf_1 (by decide) (by decide) (by decide) (by decide) ?_
    refine g_iconst (pc' := 116) (v := (-1)) dX6_nameOf_115 rfl (by decide) ?_
    refine g_iret rfl dX6_nameOf_116 ?_
    exact eIp rfl
  · refine g_tin (off := 114) (tgt := 115) dX6_nameOf_1 (by decide) (by decide) (by decide) (by decide) ?_
    refine g_iconst (pc' := 116) (v := (-1)) dX6_nameOf_115 rfl (by decide) ?_
    refine g_iret rfl dX6_nameOf_116 ?_
    exact eIp rfl
  · refine g_tin (off := 114) (tgt := 115) dX6_nameOf_1 (by decide) (by decide) (by decide) (by decide) ?_
    refine g_iconst (pc' := 116) (v := (-1)) dX6_nameOf_115 rfl (by decide) ?_
    refine g_iret rfl dX6_nameOf_116 ?_
    exact eIp rfl
  · refine g_tin (off := 114) (tgt := 115) dX6_nameOf_1 (by decide) (by decide) (by decide) (by decide) ?_
    refine g_iconst (pc' := 116) (v := (-1)) dX6_nameOf_115 rfl (by decide) ?_
    refine g_iret rfl dX6_nameOf_116 ?_
    exact eIp rfl
  · refine g_tin (off := 111) (tgt := 112) dX6_nameOf_1 (by decide) (by decide) (by decide) (by decide) ?_
    refine g_bipush (pc' := 114) (v := nI 6) dX6_nameOf_112 rfl (by decide) ?_
    refine g_iret rfl dX6_nameOf_114 ?_
    exact eIp rfl
  · refine g_tin (off := 114) (tgt := 115) dX6_nameOf_1 (by decide) (by decide) (by decide) (by decide) ?_
    refine g_iconst (pc' := 116) (v := (-1)) dX6_nameOf_115 rfl (by decide) ?_
    refine g_iret rfl dX6_nameOf_116 ?_
    exact eIp rfl
  · refine g_tin (off := 109) (tgt := 110) dX6_nameOf_1 (by decide) (by decide) (by decide) (by decide) ?_
    refine g_iconst (pc' := 111) (v := nI 5) dX6_nameOf_110 rfl (by decide) ?_
    refine g_iret rfl dX6_nameOf_111 ?_
    exact eIp rfl
  · refine g_tin (off := 114) (tgt := 115) dX6_nameOf_1 (by decide) (by decide) (by decide) (by decide) ?_
    refine g_iconst (pc' := 116) (v := (-1)) dX6_nameOf_115 rfl (by decide) ?_
    refine g_iret rfl dX6_nameOf_116 ?_
    exact eIp rfl
  · refine g_tin (off := 114) (tgt := 115) dX6_nameOf_1 (by decide) (by decide) (by decide) (by decide) ?_
    refine g_iconst (pc' := 116) (v := (-1)) dX6_nameOf_115 rfl (by decide) ?_
    refine g_iret rfl dX6_nameOf_116 ?_
    exact eIp rfl
  · refine g_tin (off := 105) (tgt := 106) dX6_nameOf_1 (by decide) (by decide) (by decide) (by decide) ?_
    refine g_iconst (pc' := 107) (v := nI 3) dX6_nameOf_106 rfl (by decide) ?_
    refine g_iret rfl dX6_nameOf_107 ?_
    exact eIp rfl
  · refine g_tin (off := 114) (tgt := 115) dX6_nameOf_1 (by decide) (by decide) (by decide) (by decide) ?_
    refine g_iconst (pc' := 116) (v := (-1)) dX6_nameOf_115 rfl (by decide) ?_
    refine g_iret rfl dX6_nameOf_116 ?_
    exact eIp rfl
  · refine g_tin (off := 103) (tgt := 104) dX6_nameOf_1 (by decide) (by decide) (by decide) (by decide) ?_
    refine g_iconst (pc' := 105) (v := nI 2) dX6_nameOf_104 rfl (by decide) ?_
    refine g_iret rfl dX6_nameOf_105 ?_
    exact eIp rfl
  · refine g_tin (off := 114) (tgt := 115) dX6_nameOf_1 (by decide) (by decide) (by decide) (by decide) ?_
    refine g_iconst (pc' := 116) (v := (-1)) dX6_nameOf_115 rfl (by decide) ?_
    refine g_iret rfl dX6_nameOf_116 ?_
    exact eIp rfl
  · refine g_tin (off := 114) (tgt := 115) dX6_nameOf_1 (by decide) (by decide) (by decide) (by decide) ?_
    refine g_iconst (pc' := 116) (v := (-1)) dX6_nameOf_115 rfl (by decide) ?_
    refine g_iret rfl dX6_nameOf_116 ?_
    exact eIp rfl
  · refine g_tin (off := 114) (tgt := 115) dX6_nameOf_1 (by decide) (by decide) (by decide) (by decide) ?_
    refine g_iconst (pc' := 116) (v := (-1)) dX6_nameOf_115 rfl (by decide) ?_
    refine g_iret rfl dX6_nameOf_116 ?_
    exact eIp rfl
  · refine g_tin (off := 107) (tgt := 108) dX6_nameOf_1 (by decide) (by decide) (by decide) (by decide) ?_
    refine g_iconst (pc' := 109) (v := nI 4) dX6_nameOf_108 rfl (by decide) ?_
    refine g_iret rfl dX6_nameOf_109 ?_
    exact eIp rfl
  · refine g_tin (off := 114) (tgt := 115) dX6_nameOf_1 (by decide) (by decide) (by decide) (by decide) ?_
    refine g_iconst (pc' := 116) (v := (-1)) dX6_nameOf_115 rfl (by decide) ?_
    refine g_iret rfl dX6_nameOf_116 ?_
    exact eIp rfl
  · refine g_tin (off := 114) (tgt := 115) dX6_nameOf_1 (by decide) (by decide) (by decide) (by decide) ?_
    refine g_iconst (pc' := 116) (v := (-1)) dX6_nameOf_115 rfl (by decide) ?_
    refine g_iret rfl dX6_nameOf_116 ?_
    exact eIp rfl
  · refine g_tin (off := 99) (tgt := 100) dX6_nameOf_1 (by decide) (by decide) (by decide) (by decide) ?_
    refine g_iconst (pc' := 101) (v := nI 0) dX6_nameOf_100 rfl (by decide) ?_
    refine g_iret rfl dX6_nameOf_101 ?_
    exact eIp rfl

theorem c_nameOfN (l : Launch) {S : Shp} {I : MI} {L : ML} {R : MR}  : Ct l mX6_nameOf 1 0 0 [.inl (-1)] S I L R (PIp S I L R (-1)) := by
  refine Ct.of [some (.inl (-1))] (by decide) rfl (Nat.le_of_ble_eq_true rfl) ?_
  refine g_ild0 (pc' := 1) dX6_nameOf_0 rfl ?_
  refine g_tout (tgt := 115) dX6_nameOf_1 (Or.inl (by decide)) (by decide) ?_
  refine g_iconst (pc' := 116) (v := (-1)) dX6_nameOf_115 rfl (by decide) ?_
  refine g_iret rfl dX6_nameOf_116 ?_
  exact eIp rfl
