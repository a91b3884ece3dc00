/-! the model: working out a TEXT -/
theorem MT.same {B : Nat → Nat} {len op : Nat} {seen : Nat → Int32} {I : MI} {s s' : PS} (h : MT B len op seen I s) (h1 : s'.1 = s.1) (h2 : s'.2.1 = s.2.1) : MT B len op seen I s' := by
  unfold MT at *
  rw [h1, h2]
  exact h
def woP (t : Tok) (i : Nat) : Prop := t = (40, 0) ∧ 12 ≤ i ∧ i ≤ 16
theorem mt_wo {I J : MI} (h : Fr mtP I J) : Fr woP I J := h.le (fun t i q => ⟨q.1, by rcases q.2 with e | e | e <;> omega⟩)
def gI (g : Option Int32) : Int32 := match g with
  | none => nI 0
  | some _ => nI 1
theorem cLine_ge {B : Nat → Nat} {len : Nat} {any : PS → PS} (hn : Nice len any) {s : PS} (hs : s.1 ≤ len) : s.1 ≤ (cLine B len any s).1 := by
  obtain ⟨a1, a2, a3⟩ := hn s hs
  unfold cLine
  by_cases hq : nxt B len (any s).1 = some 63
  · rw [if_pos hq]
    have hl : (any s).1 < len := by
      unfold nxt at hq
      by_cases h : (any s).1 < len
      · exact h
      · rw [if_neg h] at hq; cases hq
    have := (hn (psMk 4 0 (psAdv (any s))) hl).1
    have e : (psMk 4 0 (psAdv (any s))).1 = (any s).1 + 1 := rfl
    show s.1 ≤ (any (psMk 4 0 (psAdv (any s)))).1
    omega
  · rw [if_neg hq]
    exact a1
theorem c_mWork (l : Launch) {S : Shp} {I0 : MI} {L : ML} {R : MR} (mg : MG S R) {B : Nat → Nat} {len : Nat} {seen : Nat → Int32} (hlen : len ≤ 120) (hB : ∀ i, i < len → B i < 256) {x : Int32} (hx : (x = -1 ∧ ∀ i, i < len → I0 (57, 0) i = nI (B i)) ∨ ∃ b, b + 120 ≤ 720 ∧ x = nI b ∧ ∀ i, i < len → I0 (60, 0) (b + i) = nI (B i)) (hnm : ∀ k, k < 7 → I0 (67, 0) k = seen k) : Ct l mX9_workOut 46 0 0 [.inr (.inr (some (40, 0))), .inl x, .inl (nI len)] S I0 L R (PIm S L R (fun v J => J (40, 0) 15 = flI (cText B len).2.1 ∧ Fr woP I0 J ∧ ((cText B len).2.1 = none → v = (textV B len seen).getD (nI 0)))) := by
  refine Ct.of [some (.inr (.inr (some (40, 0)))), some (.inl x), some (.inl (nI len)), none, none, none, none, none] (by decide) rfl (Nat.le_of_ble_eq_true rfl) ?_
  refine g_ald0 (pc' := 1) dX9_workOut_0 rfl ?_
  refine g_ild1 (pc' := 2) dX9_workOut_1 rfl ?_
  refine g_putI (pc' := 5) mg.s40 (by decide) ⟨fX9_130, rfl, pI⟩ dX9_workOut_2 rfl ?_
  refine g_ald0 (pc' := 6) dX9_workOut_5 rfl ?_
  refine g_iconst (pc' := 7) (v := nI 0) dX9_workOut_6 rfl (by decide) ?_
  refine g_putI (pc' := 10) mg.s40 (by decide) ⟨fX9_124, rfl, pI⟩ dX9_workOut_7 rfl ?_
  refine g_ald0 (pc' := 11) dX9_workOut_10 rfl ?_
  refine g_ild2 (pc' := 12) dX9_workOut_11 rfl ?_
  refine g_putI (pc' := 15) mg.s40 (by decide) ⟨fX9_127, rfl, pI⟩ dX9_workOut_12 rfl ?_
  refine g_ald0 (pc' := 16) dX9_workOut_15 rfl ?_
  refine g_iconst (pc' := 17) (v := (-1)) dX9_workOut_16 rfl (by decide) ?_
  refine g_putI (pc' := 20) mg.s40 (by decide) ⟨fX9_133, rfl, pI⟩ dX9_workOut_17 rfl ?_
  refine g_ald0 (pc' := 21) dX9_workOut_20 rfl ?_
  refine g_iconst (pc' := 22) (v := nI 0) dX9_workOut_21 rfl (by decide) ?_
  refine g_putI (pc' := 25) mg.s40 (by decide) ⟨fX9_158, rfl, pI⟩ dX9_workOut_22 rfl ?_
  refine g_iconst (pc' := 26) (v := nI 0) dX9_workOut_25 rfl (by decide) ?_
  refine g_ist3 (pc' := 27) rfl (by decide) dX9_workOut_26 rfl ?_
  refine g_iconst (pc' := 28) (v := nI 0) dX9_workOut_27 rfl (by decide) ?_
  refine g_ist4 (pc' := 30) rfl (by decide) dX9_workOut_28 rfl ?_
  refine g_iconst (pc' := 31) (v := nI 1) dX9_workOut_30 rfl (by decide) ?_
  refine g_ist5 (pc' := 33) rfl (by decide) dX9_workOut_31 rfl ?_
  refine g_name (fun J0 hJ0 => ?_)
  have hF0 : Fr woP I0 J0 := by
    rw [hJ0]
    refine Fr.up (Fr.up (Fr.up (Fr.up (Fr.up Fr.rf ?_) ?_) ?_) ?_) ?_ <;> simp [woP]
  have hM0 : MT B len 0 seen J0 (0, none, []) := by
    refine ⟨⟨hlen, hB, by rw [hJ0]; simp [upM], ?_, fun k hk => (hF0 _ _ (by simp [woP])).trans (hnm k hk)⟩, by rw [hJ0]; simp [upM]; rfl, fun p hp => (by cases hp), Nat.zero_le _, fun _ => ⟨by rw [hJ0]; simp [upM], by rw [hJ0]; simp [upM]⟩, fun q => absurd rfl q⟩
    rcases hx with ⟨q1, q2⟩ | ⟨b, hb, q1, q2⟩
    · exact Or.inl ⟨by rw [hJ0]; simp [upM]; exact q1, fun i hi => (hF0 _ _ (by simp [woP])).trans (q2 i hi)⟩
    · exact Or.inr ⟨b, hb, by rw [hJ0]; simp [upM]; exact q1, fun i hi => (hF0 _ _ (by simp [woP])).trans (q2 i hi)⟩
  refine g_loopD (σ := MI × PS × Option Int32) (fun f q => MT B len 0 seen q.1 q.2.1 ∧ Fr woP I0 q.1 ∧ lnR B len (tAny B len) f (cLine B len (tAny B len) q.2.1) = lnR B len (tAny B len) 121 (cLine B len (tAny B len) (0, none, [])) ∧ ((lnR B len (tAny B len) 121 (cLine B len (tAny B len) (0, none, []))).2.1 = none → lnV B len (tAny B len) (tVal B len seen) f (cLine B len (tAny B len) q.2.1) (orV q.2.2 (lineV B len (tAny B len) (tVal B len seen) q.2.1)) = textV B len seen) ∧ len < f + q.2.1.1) (fun f q => [some (.inr (.inr (some (40, 0)))), some (.inl x), some (.inl (nI len)), some (.inl (gI q.2.2)), some (.inl ((q.2.2).getD (nI 0))), some (.inl (nI 1)), none, none]) (fun f q => q.1) 121 (J0, (0, none, []), none) ⟨hM0, hF0, rfl, fun _ => rfl, by show len < 121 + 0; omega⟩ ?_
  rintro f ⟨J, s, g⟩ hP ihD
  obtain ⟨hM, hF, hR, hV, hfu⟩ := hP
  simp only at hM hF hR hV hfu ⊢
  have hl120 := hM.1.1
  have hline : s.1 ≤ (cLine B len (tAny B len) s).1 := cLine_ge (niceT B len) hM.2.2.2.1
  have h96 : ∀ (J9 : MI) (g2 : Option Int32), MT B len 0 seen J9 (cLine B len (tAny B len) s) → Fr woP I0 J9 → ((cLine B len (tAny B len) s).2.1 = none → g2 = orV g (lineV B len (tAny B len) (tVal B len seen) s)) → ∀ y6 y7, G l mX9_workOut (rmd 46 0 0) (QM (PIm S L R (fun v J => J (40, 0) 15 = flI (cText B len).2.1 ∧ Fr woP I0 J ∧ ((cText B len).2.1 = none → v = (textV B len seen).getD (nI 0)))) 0 0) 0 0 96 [some (.inr (.inr (some (40, 0)))), some (.inl x), some (.inl (nI len)), some (.inl (gI g2)), some (.inl ((g2).getD (nI 0))), some (.inl (nI 1)), some (.inl y6), some (.inl y7)] [] S J9 L R := by
    intro J9 g2 hM9 hfr2 hgv y6 y7
    have hsl9 := hM9.2.2.2.1
    by_cases hsc : (cLine B len (tAny B len) s).2.1 = none ∧ (cLine B len (tAny B len) s).1 < len ∧ B (cLine B len (tAny B len) s).1 = 59
    · have hk : True := trivial
      refine g_ald0 (pc' := 97) dX9_workOut_96 rfl ?_
      refine g_bipush (pc' := 99) (v := nI 59) dX9_workOut_97 rfl (by decide) ?_
      refine g_callV (pc' := 102) (c_mTakesY l mg hM9 (by decide) hsc.1 hsc.2.1 hsc.2.2) mg.s40 (by decide) wX9_takes lX9_143 rfl rfl (Nat.le_of_ble_eq_true rfl) ⟨Nat.le_of_ble_eq_true rfl, Nat.le_of_ble_eq_true rfl⟩ ⟨Nat.le_of_ble_eq_true rfl, Nat.le_of_ble_eq_true rfl⟩ dX9_workOut_99 rfl (kI (fun vt Jt hqt => ?_))
      obtain ⟨hvt, hJt⟩ := hqt
      rw [hvt]
      refine g_ist5 (pc' := 104) rfl (by decide) dX9_workOut_102 rfl ?_
      refine g_goto (tgt := 33) dX9_workOut_104 (by decide) ?_
      refine G.lsub [some (.inr (.inr (some (40, 0)))), some (.inl x), some (.inl (nI len)), some (.inl (gI g2)), some (.inl ((g2).getD (nI 0))), some (.inl (nI 1)), none, none] (by intro j v; rcases j with _ | _ | _ | _ | _ | _ | _ | _ | j <;> simp [bI]) ?_
      have hMt : MT B len 0 seen Jt (psAdv (cLine B len (tAny B len) s)) := by rw [hJt]; exact hM9.adv hsc.1 hsc.2.1
      have hf1 : 0 < f := by have h1 := hline; have h2 := hsc.2.1; omega
      obtain ⟨f2, rfl⟩ : ∃ f2, f = f2 + 1 := ⟨f - 1, by omega⟩
      refine ihD f2 (Jt, psAdv (cLine B len (tAny B len) s), g2) (by omega) ⟨hMt, hfr2.tr (by rw [hJt]; exact Fr.rf.up (by simp [woP])), ?_, fun hT => ?_, by show len < f2 + ((cLine B len (tAny B len) s).1 + 1); omega⟩
      · show lnR B len (tAny B len) f2 (cLine B len (tAny B len) (psAdv (cLine B len (tAny B len) s))) = _
        rw [← hR, lnR, if_pos ⟨hsc.2.1, hsc.2.2⟩]
      · rw [← hV hT, lnV, if_pos ⟨hsc.2.1, hsc.2.2⟩, hgv hsc.1]
    · have hk : True := trivial
      refine g_ald0 (pc' := 97) dX9_workOut_96 rfl ?_
      refine g_bipush (pc' := 99) (v := nI 59) dX9_workOut_97 rfl (by decide) ?_
      refine g_callV (pc' := 102) (c_mTakesN l mg hM9 (by decide) (by decide) hsc) mg.s40 (by decide) wX9_takes lX9_143 rfl rfl (Nat.le_of_ble_eq_true rfl) ⟨Nat.le_of_ble_eq_true rfl, Nat.le_of_ble_eq_true rfl⟩ ⟨Nat.le_of_ble_eq_true rfl, Nat.le_of_ble_eq_true rfl⟩ dX9_workOut_99 rfl (kIp ?_)
      refine g_ist5 (pc' := 104) rfl (by decide) dX9_workOut_102 rfl ?_
      refine g_goto (tgt := 33) dX9_workOut_104 (by decide) ?_
      refine g_ild5 (pc' := 35) dX9_workOut_33 rfl ?_
      refine g_ifeqB (pc' := 38) (tgt := 107) dX9_workOut_35 (by decide) rfl (fun h35 => ?_) (fun h35 => (by first | exact absurd h35 (by simp) | exact absurd (by simp) h35))
      have hsc2 : (cLine B len (tAny B len) s).1 < len → ¬ B (cLine B len (tAny B len) s).1 = 59 := fun q1 q2 => by
        by_cases q0 : (cLine B len (tAny B len) s).2.1 = none
        · exact hsc ⟨q0, q1, q2⟩
        · have := (hM9.2.2.2.2.2 q0).1; omega
      have eT : lnR B len (tAny B len) f (cLine B len (tAny B len) s) = (cLine B len (tAny B len) s) := by
        cases f with
        | zero => rfl
        | succ f => rw [lnR, if_neg (fun q => hsc2 q.1 q.2)]
      have eVV : lnV B len (tAny B len) (tVal B len seen) f (cLine B len (tAny B len) s) (orV g (lineV B len (tAny B len) (tVal B len seen) s)) = orV g (lineV B len (tAny B len) (tVal B len seen) s) := by
        cases f with
        | zero => rfl
        | succ f => rw [lnV, if_neg (fun q => hsc2 q.1 q.2)]
      rw [eT] at hR
      have hR2 : lnR B len (tAny B len) 121 (cLine B len (tAny B len) (0, none, [])) = (cLine B len (tAny B len) s) := hR.symm
      by_cases hnl : (cLine B len (tAny B len) s).2.1 = none
      · have hk : True := trivial
        refine g_ald0 (pc' := 108) dX9_workOut_107 rfl ?_
        refine g_getI (pc' := 111) mg.s40 (by decide) fX9_133 (MT.nf hM9 hnl) dX9_workOut_108 rfl ?_
        refine g_ifge (pc' := 114) (tgt := 130) dX9_workOut_111 (by decide) rfl (fun h111 => (by first | exact absurd h111 (by decide : ¬ (0 : Int32) ≤ -1) | exact absurd (by decide : ¬ (0 : Int32) ≤ -1) h111)) (fun h111 => ?_)
        refine g_ald0 (pc' := 115) dX9_workOut_114 rfl ?_
        refine g_getI (pc' := 118) mg.s40 (by decide) fX9_124 (hM9.2.2.2.2.1 hnl).1 dX9_workOut_115 rfl ?_
        refine g_ald0 (pc' := 119) dX9_workOut_118 rfl ?_
        refine g_getI (pc' := 122) mg.s40 (by decide) fX9_127 hM9.1.2.2.1 dX9_workOut_119 rfl ?_
        refine g_icmpgeN (pc' := 125) (by omega) (by omega) (tgt := 130) dX9_workOut_122 (by decide) rfl (fun h122 => ?_) (fun h122 => ?_)
        · refine g_ild4 (pc' := 132) dX9_workOut_130 rfl ?_
          refine g_iret rfl dX9_workOut_132 ?_
          have eC : (cText B len) = (cLine B len (tAny B len) s) := by
            show cRead B len (tAny B len) = _
            unfold cRead
            rw [hR2, if_neg (by omega)]
          refine eI ⟨by rw [eC]; exact hM9.2.1, hfr2, fun hT => ?_⟩
          rw [eC] at hT
          have hT2 : (lnR B len (tAny B len) 121 (cLine B len (tAny B len) (0, none, []))).2.1 = none := by rw [hR2]; exact hT
          rw [hgv hT, ← eVV, hV hT2]
        · refine g_ald0 (pc' := 126) dX9_workOut_125 rfl ?_
          refine g_callV (pc' := 129) (c_mWrong l mg hM9) mg.s40 (by decide) wX9_wrong lX9_161 rfl rfl (Nat.le_of_ble_eq_true rfl) ⟨Nat.le_of_ble_eq_true rfl, Nat.le_of_ble_eq_true rfl⟩ ⟨Nat.le_of_ble_eq_true rfl, Nat.le_of_ble_eq_true rfl⟩ dX9_workOut_126 rfl (kI (fun vw Jw hqw => ?_))
          refine g_iret rfl dX9_workOut_129 ?_
          have eC : (cText B len) = psFail len (cLine B len (tAny B len) s) := by
            show cRead B len (tAny B len) = _
            unfold cRead
            rw [hR2, if_pos (by omega)]
          exact eI ⟨by rw [eC]; exact hqw.2.1.2.1, hfr2.tr (mt_wo hqw.2.2), fun hT => absurd (by rw [eC] at hT; exact hT) (psFail_some len _)⟩
      · obtain ⟨p, hp, h15, hsp, hsl⟩ := MT.sf hM9 hnl
        refine g_ald0 (pc' := 108) dX9_workOut_107 rfl ?_
        refine g_getI (pc' := 111) mg.s40 (by decide) fX9_133 h15 dX9_workOut_108 rfl ?_
        refine g_ifgeN (by omega) (tgt := 130) dX9_workOut_111 (by decide) ?_
        refine g_ild4 (pc' := 132) dX9_workOut_130 rfl ?_
        refine g_iret rfl dX9_workOut_132 ?_
        have eC : (cText B len) = (cLine B len (tAny B len) s) := by
          show cRead B len (tAny B len) = _
          unfold cRead
          rw [hR2, if_neg (by omega)]
        refine eI ⟨by rw [eC]; exact hM9.2.1, hfr2, fun hT => ?_⟩
        rw [eC] at hT
        have hT2 : (lnR B len (tAny B len) 121 (cLine B len (tAny B len) (0, none, []))).2.1 = none := by rw [hR2]; exact hT
        rw [hgv hT, ← eVV, hV hT2]
  refine g_ild5 (pc' := 35) dX9_workOut_33 rfl ?_
  refine g_ifeqN (pc' := 38) (by omega) (tgt := 107) dX9_workOut_35 (by decide) rfl (fun h35 => ?_) (fun h35 => ?_)
  · exact absurd h35 (by omega)
  · refine g_ald0 (pc' := 39) dX9_workOut_38 rfl ?_
    refine g_callV (pc' := 42) ((vz_any (l := l) mg B len seen) J (s) hM) mg.s40 (by decide) wX9_either lX9_164 rfl rfl (Nat.le_of_ble_eq_true rfl) ⟨Nat.le_of_ble_eq_true rfl, Nat.le_of_ble_eq_true rfl⟩ ⟨Nat.le_of_ble_eq_true rfl, Nat.le_of_ble_eq_true rfl⟩ dX9_workOut_39 rfl (kI (fun v1 J1 hq1 => ?_))
    obtain ⟨hM1, hF1, hv1⟩ := hq1
    refine g_ist6 (pc' := 44) rfl (by decide) dX9_workOut_42 rfl ?_
    refine g_iconst (pc' := 45) (v := nI 1) dX9_workOut_44 rfl (by decide) ?_
    refine g_ist7 (pc' := 47) rfl (by decide) dX9_workOut_45 rfl ?_
    by_cases hcq : ((tAny B len) s).2.1 = none ∧ ((tAny B len) s).1 < len ∧ B ((tAny B len) s).1 = 63
    · have hq63 : nxt B len ((tAny B len) s).1 = some 63 := by unfold nxt; rw [if_pos hcq.2.1, hcq.2.2]
      have eS : (cLine B len (tAny B len) s) = psPatch ((tAny B len) s).2.2.length (psMk 5 0 ((tAny B len) (psMk 4 0 (psAdv ((tAny B len) s))))) := by unfold cLine; rw [if_pos hq63]
      refine g_ald0 (pc' := 48) dX9_workOut_47 rfl ?_
      refine g_bipush (pc' := 50) (v := nI 63) dX9_workOut_48 rfl (by decide) ?_
      refine g_callV (pc' := 53) (c_mTakesY l mg hM1 (by decide) hcq.1 hcq.2.1 hcq.2.2) mg.s40 (by decide) wX9_takes lX9_143 rfl rfl (Nat.le_of_ble_eq_true rfl) ⟨Nat.le_of_ble_eq_true rfl, Nat.le_of_ble_eq_true rfl⟩ ⟨Nat.le_of_ble_eq_true rfl, Nat.le_of_ble_eq_true rfl⟩ dX9_workOut_50 rfl (kI (fun vq Jq hqq => ?_))
      obtain ⟨hvq, hJq⟩ := hqq
      rw [hvq]
      have hMq : MT B len 0 seen Jq (psMk 4 0 (psAdv ((tAny B len) s))) := by rw [hJq]; exact (hM1.adv hcq.1 hcq.2.1).mk
      have hFq : Fr mtP J1 Jq := by rw [hJq]; exact Fr.rf.up (by simp [mtP])
      refine g_ifeqB (pc' := 56) (tgt := 74) dX9_workOut_53 (by decide) rfl (fun h53 => (by first | exact absurd h53 (by simp) | exact absurd (by simp) h53)) (fun h53 => ?_)
      refine g_ild6 (pc' := 58) dX9_workOut_56 rfl ?_
      refine g_ifeq (pc' := 61) (tgt := 65) dX9_workOut_58 (by decide) rfl (fun h58 => ?_) (fun h58 => ?_)
      · refine g_iconst (pc' := 66) (v := nI 0) dX9_workOut_65 rfl (by decide) ?_
        refine g_ist7 (pc' := 68) rfl (by decide) dX9_workOut_66 rfl ?_
        refine g_ald0 (pc' := 69) dX9_workOut_68 rfl ?_
        refine g_callV (pc' := 72) ((vz_any (l := l) mg B len seen) Jq ((psMk 4 0 (psAdv ((tAny B len) s)))) hMq) mg.s40 (by decide) wX9_either lX9_164 rfl rfl (Nat.le_of_ble_eq_true rfl) ⟨Nat.le_of_ble_eq_true rfl, Nat.le_of_ble_eq_true rfl⟩ ⟨Nat.le_of_ble_eq_true rfl, Nat.le_of_ble_eq_true rfl⟩ dX9_workOut_69 rfl (kI (fun v2 J2 hq2 => ?_))
        obtain ⟨hM2, hF2, hv2⟩ := hq2
        refine g_ist6 (pc' := 74) rfl (by decide) dX9_workOut_72 rfl ?_
        have hM9 : MT B len 0 seen J2 (cLine B len (tAny B len) s) := hM2.same (by rw [eS]; rfl) (by rw [eS]; rfl)
        have hfr9 : Fr woP I0 J2 := hF.tr (mt_wo (hF1.tr (hFq.tr hF2)))
        have hk74 : True := trivial
        have hlv : (cLine B len (tAny B len) s).2.1 = none → lineV B len (tAny B len) (tVal B len seen) s = if v1 = 0 then none else some v2 := fun hT => by
          have hT2 : ((tAny B len) (psMk 4 0 (psAdv ((tAny B len) s)))).2.1 = none := by rw [eS] at hT; exact hT
          have hT1 : ((tAny B len) s).2.1 = none := hcq.1
          unfold lineV
          rw [if_pos hq63, ← hv1 hT1, ← hv2 hT2]
        by_cases hnl : (cLine B len (tAny B len) s).2.1 = none
        · cases hg : g with
          | none =>
            have h0g : nI 0 = (0 : Int32) := by decide
            refine g_ald0 (pc' := 75) dX9_workOut_74 rfl ?_
            refine g_getI (pc' := 78) mg.s40 (by decide) fX9_133 (MT.nf hM9 hnl) dX9_workOut_75 rfl ?_
            refine g_ifge (pc' := 81) (tgt := 96) dX9_workOut_78 (by decide) rfl (fun h78 => (by first | exact absurd h78 (by decide : ¬ (0 : Int32) ≤ -1) | exact absurd (by decide : ¬ (0 : Int32) ≤ -1) h78)) (fun h78 => ?_)
            refine g_ild7 (pc' := 83) dX9_workOut_81 rfl ?_
            refine g_ifeqN (pc' := 86) (by omega) (tgt := 96) dX9_workOut_83 (by decide) rfl (fun h83 => ?_) (fun h83 => ?_)
            · exact h96 J2 none hM9 hfr9 (fun hT => by rw [hg, hlv hT]; show none = orV none _; simp only [orV]; first | rfl | rw [if_pos (by assumption)]) _ _
            · exact absurd h83 (by omega)
          | some z =>
            refine g_ald0 (pc' := 75) dX9_workOut_74 rfl ?_
            refine g_getI (pc' := 78) mg.s40 (by decide) fX9_133 (MT.nf hM9 hnl) dX9_workOut_75 rfl ?_
            refine g_ifge (pc' := 81) (tgt := 96) dX9_workOut_78 (by decide) rfl (fun h78 => (by first | exact absurd h78 (by decide : ¬ (0 : Int32) ≤ -1) | exact absurd (by decide : ¬ (0 : Int32) ≤ -1) h78)) (fun h78 => ?_)
            refine g_ild7 (pc' := 83) dX9_workOut_81 rfl ?_
            refine g_ifeqN (pc' := 86) (by omega) (tgt := 96) dX9_workOut_83 (by decide) rfl (fun h83 => ?_) (fun h83 => ?_)
            · exact h96 J2 (some z) hM9 hfr9 (fun hT => by rw [hg]; rfl) _ _
            · exact absurd h83 (by omega)
        · obtain ⟨p, hp, h15, hsp, hsl⟩ := MT.sf hM9 hnl
          refine g_ald0 (pc' := 75) dX9_workOut_74 rfl ?_
          refine g_getI (pc' := 78) mg.s40 (by decide) fX9_133 h15 dX9_workOut_75 rfl ?_
          refine g_ifgeN (by omega) (tgt := 96) dX9_workOut_78 (by decide) ?_
          exact h96 J2 g hM9 hfr9 (fun hT => absurd hT hnl) _ _
      · refine g_iconst (pc' := 62) (v := nI 1) dX9_workOut_61 rfl (by decide) ?_
        refine g_goto (tgt := 66) dX9_workOut_62 (by decide) ?_
        refine g_ist7 (pc' := 68) rfl (by decide) dX9_workOut_66 rfl ?_
        refine g_ald0 (pc' := 69) dX9_workOut_68 rfl ?_
        refine g_callV (pc' := 72) ((vz_any (l := l) mg B len seen) Jq ((psMk 4 0 (psAdv ((tAny B len) s)))) hMq) mg.s40 (by decide) wX9_either lX9_164 rfl rfl (Nat.le_of_ble_eq_true rfl) ⟨Nat.le_of_ble_eq_true rfl, Nat.le_of_ble_eq_true rfl⟩ ⟨Nat.le_of_ble_eq_true rfl, Nat.le_of_ble_eq_true rfl⟩ dX9_workOut_69 rfl (kI (fun v2 J2 hq2 => ?_))
        obtain ⟨hM2, hF2, hv2⟩ := hq2
        refine g_ist6 (pc' := 74) rfl (by decide) dX9_workOut_72 rfl ?_
        have hM9 : MT B len 0 seen J2 (cLine B len (tAny B len) s) := hM2.same (by rw [eS]; rfl) (by rw [eS]; rfl)
        have hfr9 : Fr woP I0 J2 := hF.tr (mt_wo (hF1.tr (hFq.tr hF2)))
        have hk74 : True := trivial
        have hlv : (cLine B len (tAny B len) s).2.1 = none → lineV B len (tAny B len) (tVal B len seen) s = if v1 = 0 then none else some v2 := fun hT => by
          have hT2 : ((tAny B len) (psMk 4 0 (psAdv ((tAny B len) s)))).2.1 = none := by rw [eS] at hT; exact hT
          have hT1 : ((tAny B len) s).2.1 = none := hcq.1
          unfold lineV
          rw [if_pos hq63, ← hv1 hT1, ← hv2 hT2]
        by_cases hnl : (cLine B len (tAny B len) s).2.1 = none
        · cases hg : g with
          | none =>
            have h0g : nI 0 = (0 : Int32) := by decide
            refine g_ald0 (pc' := 75) dX9_workOut_74 rfl ?_
            refine g_getI (pc' := 78) mg.s40 (by decide) fX9_133 (MT.nf hM9 hnl) dX9_workOut_75 rfl ?_
            refine g_ifge (pc' := 81) (tgt := 96) dX9_workOut_78 (by decide) rfl (fun h78 => (by first | exact absurd h78 (by decide : ¬ (0 : Int32) ≤ -1) | exact absurd (by decide : ¬ (0 : Int32) ≤ -1) h78)) (fun h78 => ?_)
            refine g_ild7 (pc' := 83) dX9_workOut_81 rfl ?_
            refine g_ifeqN (pc' := 86) (by omega) (tgt := 96) dX9_workOut_83 (by decide) rfl (fun h83 => ?_) (fun h83 => ?_)
            · exact absurd h83 (by omega)
            · refine g_ild3 (pc' := 87) dX9_workOut_86 rfl ?_
              refine g_ifne (pc' := 90) (tgt := 96) dX9_workOut_87 (by decide) rfl (fun h87 => (by first | exact absurd h87 (by decide : gI none = 0) | exact absurd (by decide : gI none = 0) h87)) (fun h87 => ?_)
              refine g_iconst (pc' := 91) (v := nI 1) dX9_workOut_90 rfl (by decide) ?_
              refine g_ist3 (pc' := 92) rfl (by decide) dX9_workOut_91 rfl ?_
              refine g_ild6 (pc' := 94) dX9_workOut_92 rfl ?_
              refine g_ist4 (pc' := 96) rfl (by decide) dX9_workOut_94 rfl ?_
              exact h96 J2 (some v2) hM9 hfr9 (fun hT => by rw [hg, hlv hT]; show some _ = orV none _; first | rfl | (simp only [orV]; first | rfl | rw [if_neg (by assumption)])) _ _
          | some z =>
            refine g_ald0 (pc' := 75) dX9_workOut_74 rfl ?_
            refine g_getI (pc' := 78) mg.s40 (by decide) fX9_133 (MT.nf hM9 hnl) dX9_workOut_75 rfl ?_
            refine g_ifge (pc' := 81) (tgt := 96) dX9_workOut_78 (by decide) rfl (fun h78 => (by first | exact absurd h78 (by decide : ¬ (0 : Int32) ≤ -1) | exact absurd (by decide : ¬ (0 : Int32) ≤ -1) h78)) (fun h78 => ?_)
            refine g_ild7 (pc' := 83) dX9_workOut_81 rfl ?_
            refine g_ifeqN (pc' := 86) (by omega) (tgt := 96) dX9_workOut_83 (by decide) rfl (fun h83 => ?_) (fun h83 => ?_)
            · exact absurd h83 (by omega)
            · refine g_ild3 (pc' := 87) dX9_workOut_86 rfl ?_
              refine g_ifne (pc' := 90) (tgt := 96) dX9_workOut_87 (by decide) rfl (fun h87 => ?_) (fun h87 => (by first | exact absurd h87 (by decide : ¬ gI (some (nI 0)) = 0) | exact absurd (by decide : ¬ gI (some (nI 0)) = 0) h87))
              exact h96 J2 (some z) hM9 hfr9 (fun hT => by rw [hg]; rfl) _ _
        · obtain ⟨p, hp, h15, hsp, hsl⟩ := MT.sf hM9 hnl
          refine g_ald0 (pc' := 75) dX9_workOut_74 rfl ?_
          refine g_getI (pc' := 78) mg.s40 (by decide) fX9_133 h15 dX9_workOut_75 rfl ?_
          refine g_ifgeN (by omega) (tgt := 96) dX9_workOut_78 (by decide) ?_
          exact h96 J2 g hM9 hfr9 (fun hT => absurd hT hnl) _ _
    · have hq63 : ¬ nxt B len ((tAny B len) s).1 = some 63 := fun q => by
        unfold nxt at q
        by_cases hl2 : ((tAny B len) s).1 < len
        · rw [if_pos hl2] at q
          injection q with q
          by_cases hn2 : ((tAny B len) s).2.1 = none
          · exact hcq ⟨hn2, hl2, q⟩
          · have := (hM1.2.2.2.2.2 hn2).1; omega
        · rw [if_neg hl2] at q; cases q
      have eS : (cLine B len (tAny B len) s) = psMk 5 0 ((tAny B len) s) := by unfold cLine; rw [if_neg hq63]
      refine g_ald0 (pc' := 48) dX9_workOut_47 rfl ?_
      refine g_bipush (pc' := 50) (v := nI 63) dX9_workOut_48 rfl (by decide) ?_
      refine g_callV (pc' := 53) (c_mTakesN l mg hM1 (by decide) (by decide) hcq) mg.s40 (by decide) wX9_takes lX9_143 rfl rfl (Nat.le_of_ble_eq_true rfl) ⟨Nat.le_of_ble_eq_true rfl, Nat.le_of_ble_eq_true rfl⟩ ⟨Nat.le_of_ble_eq_true rfl, Nat.le_of_ble_eq_true rfl⟩ dX9_workOut_50 rfl (kIp ?_)
      refine g_ifeqB (pc' := 56) (tgt := 74) dX9_workOut_53 (by decide) rfl (fun h53 => ?_) (fun h53 => (by first | exact absurd h53 (by simp) | exact absurd (by simp) h53))
      have hM9 : MT B len 0 seen J1 (cLine B len (tAny B len) s) := hM1.same (by rw [eS]; rfl) (by rw [eS]; rfl)
      have hfr9 : Fr woP I0 J1 := hF.tr (mt_wo (hF1))
      have hk74 : True := trivial
      have hlv : (cLine B len (tAny B len) s).2.1 = none → lineV B len (tAny B len) (tVal B len seen) s = some v1 := fun hT => by
        have hT1 : ((tAny B len) s).2.1 = none := by rw [eS] at hT; exact hT
        unfold lineV
        rw [if_neg hq63, ← hv1 hT1]
      by_cases hnl : (cLine B len (tAny B len) s).2.1 = none
      · cases hg : g with
        | none =>
          have h0g : nI 0 = (0 : Int32) := by decide
          refine g_ald0 (pc' := 75) dX9_workOut_74 rfl ?_
          refine g_getI (pc' := 78) mg.s40 (by decide) fX9_133 (MT.nf hM9 hnl) dX9_workOut_75 rfl ?_
          refine g_ifge (pc' := 81) (tgt := 96) dX9_workOut_78 (by decide) rfl (fun h78 => (by first | exact absurd h78 (by decide : ¬ (0 : Int32) ≤ -1) | exact absurd (by decide : ¬ (0 : Int32) ≤ -1) h78)) (fun h78 => ?_)
          refine g_ild7 (pc' := 83) dX9_workOut_81 rfl ?_
          refine g_ifeqN (pc' := 86) (by omega) (tgt := 96) dX9_workOut_83 (by decide) rfl (fun h83 => ?_) (fun h83 => ?_)
          · exact absurd h83 (by omega)
          · refine g_ild3 (pc' := 87) dX9_workOut_86 rfl ?_
            refine g_ifne (pc' := 90) (tgt := 96) dX9_workOut_87 (by decide) rfl (fun h87 => (by first | exact absurd h87 (by decide : gI none = 0) | exact absurd (by decide : gI none = 0) h87)) (fun h87 => ?_)
            refine g_iconst (pc' := 91) (v := nI 1) dX9_workOut_90 rfl (by decide) ?_
            refine g_ist3 (pc' := 92) rfl (by decide) dX9_workOut_91 rfl ?_
            refine g_ild6 (pc' := 94) dX9_workOut_92 rfl ?_
            refine g_ist4 (pc' := 96) rfl (by decide) dX9_workOut_94 rfl ?_
            exact h96 J1 (some v1) hM9 hfr9 (fun hT => by rw [hg, hlv hT]; show some _ = orV none _; first | rfl | (simp only [orV]; first | rfl | rw [if_neg (by assumption)])) _ _
        | some z =>
          refine g_ald0 (pc' := 75) dX9_workOut_74 rfl ?_
          refine g_getI (pc' := 78) mg.s40 (by decide) fX9_133 (MT.nf hM9 hnl) dX9_workOut_75 rfl ?_
          refine g_ifge (pc' := 81) (tgt := 96) dX9_workOut_78 (by decide) rfl (fun h78 => (by first | exact absurd h78 (by decide : ¬ (0 : Int32) ≤ -1) | exact absurd (by decide : ¬ (0 : Int32) ≤ -1) h78)) (fun h78 => ?_)
          refine g_ild7 (pc' := 83) dX9_workOut_81 rfl ?_
          refine g_ifeqN (pc' := 86) (by omega) (tgt := 96) dX9_workOut_83 (by decide) rfl (fun h83 => ?_) (fun h83 => ?_)
          · exact absurd h83 (by omega)
          · refine g_ild3 (pc' := 87) dX9_workOut_86 rfl ?_
            refine g_ifne (pc' := 90) (tgt := 96) dX9_workOut_87 (by decide) rfl (fun h87 => ?_) (fun h87 => (by first | exact absurd h87 (by decide : ¬ gI (some (nI 0)) = 0) | exact absurd (by decide : ¬ gI (some (nI 0)) = 0) h87))
            exact h96 J1 (some z) hM9 hfr9 (fun hT => by rw [hg]; rfl) _ _
      · obtain ⟨p, hp, h15, hsp, hsl⟩ := MT.sf hM9 hnl
        refine g_ald0 (pc' := 75) dX9_workOut_74 rfl ?_
        refine g_getI (pc' := 78) mg.s40 (by decide) fX9_133 h15 dX9_workOut_75 rfl ?_
        refine g_ifgeN (by omega) (tgt := 96) dX9_workOut_78 (by decide) ?_
        exact h96 J1 g hM9 hfr9 (fun hT => absurd hT hnl) _ _
