/-! the model: what is open; working out -/
theorem c_oneP0 (l : Launch) {S : Shp} {I : MI} {L : ML} {R : MR} (mg : MG S R) {B : Nat → Nat} {len op : Nat} {seen : Nat → Int32} {s : PS} (h : MT B len op seen I s) (h6 : op = 6) (hn : s.2.1 = none) (hl : s.1 < len) (ho : isOp (B s.1)) {dp : Nat} (hdp : 3 ≤ dp) (X : Int32) : Ct l mX9_one (dp + 1) 0 0 [.inr (.inr (some (40, 0)))] S I L R (PIm S L R (fun v J => MT B len op seen J (psFail len s) ∧ Fr mtP I J ∧ ((psFail len s).2.1 = none → v = X))) := by
  refine Ct.of [some (.inr (.inr (some (40, 0)))), none, none, none, none] (by decide) rfl (Nat.le_of_ble_eq_true rfl) ?_
  have hl120 := h.1.1
  rcases ho with hB | hB | hB
  · have hk : True := trivial
    refine g_ald0 (pc' := 1) dX9_one_0 rfl ?_
    refine g_getI (pc' := 4) mg.s40 (by decide) fX9_133 (h.nf hn) dX9_one_1 rfl ?_
    refine g_iflt (pc' := 7) (tgt := 9) dX9_one_4 (by decide) rfl (fun h4 => ?_) (fun h4 => (by first | exact absurd h4 (by decide : (-1 : Int32) < 0) | exact absurd (by decide : (-1 : Int32) < 0) h4))
    refine g_ald0 (pc' := 10) dX9_one_9 rfl ?_
    refine g_callV (pc' := 13) (c_mByte l mg h.1 (h.2.2.2.2.1 hn).1 h.2.2.2.1) mg.s40 (by decide) wX9_byteAt lX9_136 rfl rfl (Nat.le_of_ble_eq_true rfl) (rOk (by omega) (by decide)) ⟨Nat.le_of_ble_eq_true rfl, Nat.le_of_ble_eq_true rfl⟩ dX9_one_10 rfl (kIp ?_)
    refine g_topi (v := nI 40) (by unfold bt; rw [if_pos hl, hB]) ?_
    refine g_ist1 (pc' := 14) rfl (by decide) dX9_one_13 rfl ?_
    refine g_ild1 (pc' := 15) dX9_one_14 rfl ?_
    refine g_bipush (pc' := 17) (v := nI 33) dX9_one_15 rfl (by decide) ?_
    refine g_icmpeqN (pc' := 20) (by omega) (by omega) (tgt := 32) dX9_one_17 (by decide) rfl (fun h17 => ?_) (fun h17 => ?_)
    · exact absurd h17 (by omega)
    · refine g_ild1 (pc' := 21) dX9_one_20 rfl ?_
      refine g_bipush (pc' := 23) (v := nI 45) dX9_one_21 rfl (by decide) ?_
      refine g_icmpeqN (pc' := 26) (by omega) (by omega) (tgt := 32) dX9_one_23 (by decide) rfl (fun h23 => ?_) (fun h23 => ?_)
      · exact absurd h23 (by omega)
      · refine g_ild1 (pc' := 27) dX9_one_26 rfl ?_
        refine g_bipush (pc' := 29) (v := nI 40) dX9_one_27 rfl (by decide) ?_
        refine g_icmpneN (pc' := 32) (by omega) (by omega) (tgt := 145) dX9_one_29 (by decide) rfl (fun h29 => ?_) (fun h29 => ?_)
        · exact absurd h29 (by omega)
        · refine g_ald0 (pc' := 33) dX9_one_32 rfl ?_
          refine g_getI (pc' := 36) mg.s40 (by decide) fX9_158 (h.2.2.2.2.1 hn).2 dX9_one_33 rfl ?_
          refine g_bipush (pc' := 38) (v := nI 6) dX9_one_36 rfl (by decide) ?_
          refine g_icmpneN (pc' := 41) (by omega) (by omega) (tgt := 46) dX9_one_38 (by decide) rfl (fun h38 => ?_) (fun h38 => ?_)
          · exact absurd h38 (by omega)
          · refine g_ald0 (pc' := 42) dX9_one_41 rfl ?_
            refine g_callV (pc' := 45) (c_mWrong l mg h) mg.s40 (by decide) wX9_wrong lX9_161 rfl rfl (Nat.le_of_ble_eq_true rfl) (rOk (by omega) (by decide)) ⟨Nat.le_of_ble_eq_true rfl, Nat.le_of_ble_eq_true rfl⟩ dX9_one_42 rfl (kI (fun v J hq => ?_))
            refine g_iret rfl dX9_one_45 ?_
            exact eI ⟨hq.2.1, hq.2.2, fun hF0 => absurd hF0 (psFail_some len s)⟩
  · have hk : True := trivial
    refine g_ald0 (pc' := 1) dX9_one_0 rfl ?_
    refine g_getI (pc' := 4) mg.s40 (by decide) fX9_133 (h.nf hn) dX9_one_1 rfl ?_
    refine g_iflt (pc' := 7) (tgt := 9) dX9_one_4 (by decide) rfl (fun h4 => ?_) (fun h4 => (by first | exact absurd h4 (by decide : (-1 : Int32) < 0) | exact absurd (by decide : (-1 : Int32) < 0) h4))
    refine g_ald0 (pc' := 10) dX9_one_9 rfl ?_
    refine g_callV (pc' := 13) (c_mByte l mg h.1 (h.2.2.2.2.1 hn).1 h.2.2.2.1) mg.s40 (by decide) wX9_byteAt lX9_136 rfl rfl (Nat.le_of_ble_eq_true rfl) (rOk (by omega) (by decide)) ⟨Nat.le_of_ble_eq_true rfl, Nat.le_of_ble_eq_true rfl⟩ dX9_one_10 rfl (kIp ?_)
    refine g_topi (v := nI 33) (by unfold bt; rw [if_pos hl, hB]) ?_
    refine g_ist1 (pc' := 14) rfl (by decide) dX9_one_13 rfl ?_
    refine g_ild1 (pc' := 15) dX9_one_14 rfl ?_
    refine g_bipush (pc' := 17) (v := nI 33) dX9_one_15 rfl (by decide) ?_
    refine g_icmpeqN (pc' := 20) (by omega) (by omega) (tgt := 32) dX9_one_17 (by decide) rfl (fun h17 => ?_) (fun h17 => ?_)
    · refine g_ald0 (pc' := 33) dX9_one_32 rfl ?_
      refine g_getI (pc' := 36) mg.s40 (by decide) fX9_158 (h.2.2.2.2.1 hn).2 dX9_one_33 rfl ?_
      refine g_bipush (pc' := 38) (v := nI 6) dX9_one_36 rfl (by decide) ?_
      refine g_icmpneN (pc' := 41) (by omega) (by omega) (tgt := 46) dX9_one_38 (by decide) rfl (fun h38 => ?_) (fun h38 => ?_)
      · exact absurd h38 (by omega)
      · refine g_ald0 (pc' := 42) dX9_one_41 rfl ?_
        refine g_callV (pc' := 45) (c_mWrong l mg h) mg.s40 (by decide) wX9_wrong lX9_161 rfl rfl (Nat.le_of_ble_eq_true rfl) (rOk (by omega) (by decide)) ⟨Nat.le_of_ble_eq_true rfl, Nat.le_of_ble_eq_true rfl⟩ dX9_one_42 rfl (kI (fun v J hq => ?_))
        refine g_iret rfl dX9_one_45 ?_
        exact eI ⟨hq.2.1, hq.2.2, fun hF0 => absurd hF0 (psFail_some len s)⟩
    · exact absurd h17 (by omega)
  · have hk : True := trivial
    refine g_ald0 (pc' := 1) dX9_one_0 rfl ?_
    refine g_getI (pc' := 4) mg.s40 (by decide) fX9_133 (h.nf hn) dX9_one_1 rfl ?_
    refine g_iflt (pc' := 7) (tgt := 9) dX9_one_4 (by decide) rfl (fun h4 => ?_) (fun h4 => (by first | exact absurd h4 (by decide : (-1 : Int32) < 0) | exact absurd (by decide : (-1 : Int32) < 0) h4))
    refine g_ald0 (pc' := 10) dX9_one_9 rfl ?_
    refine g_callV (pc' := 13) (c_mByte l mg h.1 (h.2.2.2.2.1 hn).1 h.2.2.2.1) mg.s40 (by decide) wX9_byteAt lX9_136 rfl rfl (Nat.le_of_ble_eq_true rfl) (rOk (by omega) (by decide)) ⟨Nat.le_of_ble_eq_true rfl, Nat.le_of_ble_eq_true rfl⟩ dX9_one_10 rfl (kIp ?_)
    refine g_topi (v := nI 45) (by unfold bt; rw [if_pos hl, hB]) ?_
    refine g_ist1 (pc' := 14) rfl (by decide) dX9_one_13 rfl ?_
    refine g_ild1 (pc' := 15) dX9_one_14 rfl ?_
    refine g_bipush (pc' := 17) (v := nI 33) dX9_one_15 rfl (by decide) ?_
    refine g_icmpeqN (pc' := 20) (by omega) (by omega) (tgt := 32) dX9_one_17 (by decide) rfl (fun h17 => ?_) (fun h17 => ?_)
    · exact absurd h17 (by omega)
    · refine g_ild1 (pc' := 21) dX9_one_20 rfl ?_
      refine g_bipush (pc' := 23) (v := nI 45) dX9_one_21 rfl (by decide) ?_
      refine g_icmpeqN (pc' := 26) (by omega) (by omega) (tgt := 32) dX9_one_23 (by decide) rfl (fun h23 => ?_) (fun h23 => ?_)
      · refine g_ald0 (pc' := 33) dX9_one_32 rfl ?_
        refine g_getI (pc' := 36) mg.s40 (by decide) fX9_158 (h.2.2.2.2.1 hn).2 dX9_one_33 rfl ?_
        refine g_bipush (pc' := 38) (v := nI 6) dX9_one_36 rfl (by decide) ?_
        refine g_icmpneN (pc' := 41) (by omega) (by omega) (tgt := 46) dX9_one_38 (by decide) rfl (fun h38 => ?_) (fun h38 => ?_)
        · exact absurd h38 (by omega)
        · refine g_ald0 (pc' := 42) dX9_one_41 rfl ?_
          refine g_callV (pc' := 45) (c_mWrong l mg h) mg.s40 (by decide) wX9_wrong lX9_161 rfl rfl (Nat.le_of_ble_eq_true rfl) (rOk (by omega) (by decide)) ⟨Nat.le_of_ble_eq_true rfl, Nat.le_of_ble_eq_true rfl⟩ dX9_one_42 rfl (kI (fun v J hq => ?_))
          refine g_iret rfl dX9_one_45 ?_
          exact eI ⟨hq.2.1, hq.2.2, fun hF0 => absurd hF0 (psFail_some len s)⟩
      · exact absurd h23 (by omega)

theorem c_oneP (l : Launch) {S : Shp} {I : MI} {L : ML} {R : MR} (mg : MG S R) {B : Nat → Nat} {len op : Nat} {seen : Nat → Int32} {s : PS} (h : MT B len op seen I s) (h6 : op < 6) (hn : s.2.1 = none) (hl : s.1 < len) (ho : isOp (B s.1)) {dp dE dO : Nat} (hdp : 3 ≤ dp) {one : PS → PS} {ov : PS → Int32} (hE : Vz l S L R B len seen mX9_either dE (op + 1) (cAny B len one) (anyV B len one ov)) (hO : Vz l S L R B len seen mX9_one dO (op + 1) one ov) (h1 : dE ≤ dp) (h2 : dO ≤ dp) : Ct l mX9_one (dp + 1) 0 0 [.inr (.inr (some (40, 0)))] S I L R (PIm S L R (fun v J => MT B len op seen J (cOpen B len one (B s.1) (psAdv s)) ∧ Fr mtP I J ∧ ((cOpen B len one (B s.1) (psAdv s)).2.1 = none → v = openV B len one ov (B s.1) (psAdv s)))) := by
  refine Ct.of [some (.inr (.inr (some (40, 0)))), none, none, none, none] (by decide) rfl (Nat.le_of_ble_eq_true rfl) ?_
  have hl120 := h.1.1
  rcases ho with hB | hB | hB
  · rw [hB]
    refine g_ald0 (pc' := 1) dX9_one_0 rfl ?_
    refine g_getI (pc' := 4) mg.s40 (by decide) fX9_133 (h.nf hn) dX9_one_1 rfl ?_
    refine g_iflt (pc' := 7) (tgt := 9) dX9_one_4 (by decide) rfl (fun h4 => ?_) (fun h4 => (by first | exact absurd h4 (by decide : (-1 : Int32) < 0) | exact absurd (by decide : (-1 : Int32) < 0) h4))
    refine g_ald0 (pc' := 10) dX9_one_9 rfl ?_
    refine g_callV (pc' := 13) (c_mByte l mg h.1 (h.2.2.2.2.1 hn).1 h.2.2.2.1) mg.s40 (by decide) wX9_byteAt lX9_136 rfl rfl (Nat.le_of_ble_eq_true rfl) (rOk (by omega) (by decide)) ⟨Nat.le_of_ble_eq_true rfl, Nat.le_of_ble_eq_true rfl⟩ dX9_one_10 rfl (kIp ?_)
    refine g_topi (v := nI 40) (by unfold bt; rw [if_pos hl, hB]) ?_
    refine g_ist1 (pc' := 14) rfl (by decide) dX9_one_13 rfl ?_
    refine g_ild1 (pc' := 15) dX9_one_14 rfl ?_
    refine g_bipush (pc' := 17) (v := nI 33) dX9_one_15 rfl (by decide) ?_
    refine g_icmpeqN (pc' := 20) (by omega) (by omega) (tgt := 32) dX9_one_17 (by decide) rfl (fun h17 => ?_) (fun h17 => ?_)
    · exact absurd h17 (by omega)
    · refine g_ild1 (pc' := 21) dX9_one_20 rfl ?_
      refine g_bipush (pc' := 23) (v := nI 45) dX9_one_21 rfl (by decide) ?_
      refine g_icmpeqN (pc' := 26) (by omega) (by omega) (tgt := 32) dX9_one_23 (by decide) rfl (fun h23 => ?_) (fun h23 => ?_)
      · exact absurd h23 (by omega)
      · refine g_ild1 (pc' := 27) dX9_one_26 rfl ?_
        refine g_bipush (pc' := 29) (v := nI 40) dX9_one_27 rfl (by decide) ?_
        refine g_icmpneN (pc' := 32) (by omega) (by omega) (tgt := 145) dX9_one_29 (by decide) rfl (fun h29 => ?_) (fun h29 => ?_)
        · exact absurd h29 (by omega)
        · refine g_ald0 (pc' := 33) dX9_one_32 rfl ?_
          refine g_getI (pc' := 36) mg.s40 (by decide) fX9_158 (h.2.2.2.2.1 hn).2 dX9_one_33 rfl ?_
          refine g_bipush (pc' := 38) (v := nI 6) dX9_one_36 rfl (by decide) ?_
          refine g_icmpneN (pc' := 41) (by omega) (by omega) (tgt := 46) dX9_one_38 (by decide) rfl (fun h38 => ?_) (fun h38 => ?_)
          · refine g_ald0 (pc' := 47) dX9_one_46 rfl ?_
            refine g_dupR (pc' := 48) dX9_one_47 rfl ?_
            refine g_getI (pc' := 51) mg.s40 (by decide) fX9_158 (v := nI op) ((h.2.2.2.2.1 hn).2) dX9_one_48 rfl ?_
            refine g_iconst (pc' := 52) (v := nI 1) dX9_one_51 rfl (by decide) ?_
            refine g_iaddN (pc' := 53) dX9_one_52 rfl ?_
            refine g_putI (pc' := 56) mg.s40 (by decide) ⟨fX9_158, rfl, pI⟩ dX9_one_53 rfl ?_
            refine g_ald0 (pc' := 57) dX9_one_56 rfl ?_
            refine g_dupR (pc' := 58) dX9_one_57 rfl ?_
            refine g_getI (pc' := 61) mg.s40 (by decide) fX9_124 (v := nI (s.1)) (by rw [upM_k _ _ (by decide)]; exact (h.2.2.2.2.1 hn).1) dX9_one_58 rfl ?_
            refine g_iconst (pc' := 62) (v := nI 1) dX9_one_61 rfl (by decide) ?_
            refine g_iaddN (pc' := 63) dX9_one_62 rfl ?_
            refine g_putI (pc' := 66) mg.s40 (by decide) ⟨fX9_124, rfl, pI⟩ dX9_one_63 rfl ?_
            refine g_name (fun J1 hJ1 => ?_)
            have hM1 : MT B len (op + 1) seen J1 (psAdv s) := by rw [hJ1]; exact h.inc hn hl
            have hfA : Fr mtP I J1 := by rw [hJ1]; exact (Fr.rf.up (by simp [mtP])).up (by simp [mtP])
            refine g_ild1 (pc' := 67) dX9_one_66 rfl ?_
            refine g_bipush (pc' := 69) (v := nI 40) dX9_one_67 rfl (by decide) ?_
            refine g_icmpneN (pc' := 72) (by omega) (by omega) (tgt := 79) dX9_one_69 (by decide) rfl (fun h69 => ?_) (fun h69 => ?_)
            · exact absurd h69 (by omega)
            · refine g_ald0 (pc' := 73) dX9_one_72 rfl ?_
              refine g_callV (pc' := 76) (hE J1 (psAdv s) hM1) mg.s40 (by decide) wX9_either lX9_164 rfl rfl (Nat.le_of_ble_eq_true rfl) (rOk (by omega) (by decide)) ⟨Nat.le_of_ble_eq_true rfl, Nat.le_of_ble_eq_true rfl⟩ dX9_one_73 rfl (kI (fun v2 J2 hq2 => ?_))
              obtain ⟨hM2, hF2, hv2⟩ := hq2
              refine g_goto (tgt := 83) dX9_one_76 (by decide) ?_
              refine g_ist2 (pc' := 84) rfl (by decide) dX9_one_83 rfl ?_
              refine g_ild1 (pc' := 85) dX9_one_84 rfl ?_
              refine g_bipush (pc' := 87) (v := nI 40) dX9_one_85 rfl (by decide) ?_
              refine g_icmpneN (pc' := 90) (by omega) (by omega) (tgt := 104) dX9_one_87 (by decide) rfl (fun h87 => ?_) (fun h87 => ?_)
              · exact absurd h87 (by omega)
              · by_cases hc : (cAny B len one (psAdv s)).2.1 = none ∧ (cAny B len one (psAdv s)).1 < len ∧ B (cAny B len one (psAdv s)).1 = 41
                · have hk : True := trivial
                  refine g_ald0 (pc' := 91) dX9_one_90 rfl ?_
                  refine g_bipush (pc' := 93) (v := nI 41) dX9_one_91 rfl (by decide) ?_
                  refine g_callV (pc' := 96) (c_mTakesY l mg hM2 (by decide) hc.1 hc.2.1 hc.2.2) mg.s40 (by decide) wX9_takes lX9_143 rfl rfl (Nat.le_of_ble_eq_true rfl) (rOk (by omega) (by decide)) ⟨Nat.le_of_ble_eq_true rfl, Nat.le_of_ble_eq_true rfl⟩ dX9_one_93 rfl (kI (fun v3 J3 hq3 => ?_))
                  obtain ⟨hv3, hJ3⟩ := hq3
                  rw [hv3]
                  have hM3 : MT B len (op + 1) seen J3 (psAdv (cAny B len one (psAdv s))) := by rw [hJ3]; exact hM2.adv hc.1 hc.2.1
                  have hF3 : Fr mtP J2 J3 := by rw [hJ3]; exact Fr.rf.up (by simp [mtP])
                  refine g_ifneB (pc' := 99) (tgt := 104) dX9_one_96 (by decide) rfl (fun h96 => ?_) (fun h96 => (by first | exact absurd h96 (by simp) | exact absurd (by simp) h96))
                  refine g_ald0 (pc' := 105) dX9_one_104 rfl ?_
                  refine g_dupR (pc' := 106) dX9_one_105 rfl ?_
                  refine g_getI (pc' := 109) mg.s40 (by decide) fX9_158 (v := nI (op + 1)) ((hM3.2.2.2.2.1 hc.1).2) dX9_one_106 rfl ?_
                  refine g_iconst (pc' := 110) (v := nI 1) dX9_one_109 rfl (by decide) ?_
                  refine g_isub (pc' := 111) dX9_one_110 rfl ?_
                  refine g_topi (v := nI op) (pk_sub (by omega)) ?_
                  refine g_putI (pc' := 114) mg.s40 (by decide) ⟨fX9_158, rfl, pI⟩ dX9_one_111 rfl ?_
                  refine g_ild1 (pc' := 115) dX9_one_114 rfl ?_
                  refine g_bipush (pc' := 117) (v := nI 40) dX9_one_115 rfl (by decide) ?_
                  refine g_icmpneN (pc' := 120) (by omega) (by omega) (tgt := 124) dX9_one_117 (by decide) rfl (fun h117 => ?_) (fun h117 => ?_)
                  · exact absurd h117 (by omega)
                  · refine g_ild2 (pc' := 121) dX9_one_120 rfl ?_
                    refine g_goto (tgt := 144) dX9_one_121 (by decide) ?_
                    refine g_iret rfl dX9_one_144 ?_
                    have eC : cOpen B len one 40 (psAdv s) = psAdv (cAny B len one (psAdv s)) := by unfold cOpen; rw [if_pos rfl, if_pos (show nxt B len _ = some 41 from by unfold nxt; rw [if_pos hc.2.1, hc.2.2])]
                    exact eI ⟨by rw [eC]; exact hM3.dec hc.1, hfA.tr (hF2.tr (hF3.up (by simp [mtP]))), fun _ => by rw [hv2 hc.1]; unfold openV; rw [if_pos rfl]⟩
                · have hk : True := trivial
                  refine g_ald0 (pc' := 91) dX9_one_90 rfl ?_
                  refine g_bipush (pc' := 93) (v := nI 41) dX9_one_91 rfl (by decide) ?_
                  refine g_callV (pc' := 96) (c_mTakesN l mg hM2 (by decide) (by decide) hc) mg.s40 (by decide) wX9_takes lX9_143 rfl rfl (Nat.le_of_ble_eq_true rfl) (rOk (by omega) (by decide)) ⟨Nat.le_of_ble_eq_true rfl, Nat.le_of_ble_eq_true rfl⟩ dX9_one_93 rfl (kIp ?_)
                  refine g_ifneB (pc' := 99) (tgt := 104) dX9_one_96 (by decide) rfl (fun h96 => (by first | exact absurd h96 (by simp) | exact absurd (by simp) h96)) (fun h96 => ?_)
                  refine g_ald0 (pc' := 100) dX9_one_99 rfl ?_
                  refine g_callV (pc' := 103) (c_mWrong l mg hM2) mg.s40 (by decide) wX9_wrong lX9_161 rfl rfl (Nat.le_of_ble_eq_true rfl) (rOk (by omega) (by decide)) ⟨Nat.le_of_ble_eq_true rfl, Nat.le_of_ble_eq_true rfl⟩ dX9_one_100 rfl (kI (fun v J hq => ?_))
                  refine g_iret rfl dX9_one_103 ?_
                  have eC : cOpen B len one 40 (psAdv s) = psFail len (cAny B len one (psAdv s)) := by
                    unfold cOpen
                    rw [if_pos rfl, if_neg]
                    intro q
                    unfold nxt at q
                    by_cases hl2 : (cAny B len one (psAdv s)).1 < len
                    · rw [if_pos hl2] at q
                      injection q with q
                      by_cases hn2 : (cAny B len one (psAdv s)).2.1 = none
                      · exact hc ⟨hn2, hl2, q⟩
                      · have := (hM2.2.2.2.2.2 hn2).1; omega
                    · rw [if_neg hl2] at q; cases q
                  exact eI ⟨by rw [eC]; exact hq.2.1.f2 (psFail_some len _), hfA.tr (hF2.tr hq.2.2), fun hF0 => absurd (by rw [eC] at hF0; exact hF0) (psFail_some len _)⟩
          · exact absurd h38 (by omega)
  · rw [hB]
    refine g_ald0 (pc' := 1) dX9_one_0 rfl ?_
    refine g_getI (pc' := 4) mg.s40 (by decide) fX9_133 (h.nf hn) dX9_one_1 rfl ?_
    refine g_iflt (pc' := 7) (tgt := 9) dX9_one_4 (by decide) rfl (fun h4 => ?_) (fun h4 => (by first | exact absurd h4 (by decide : (-1 : Int32) < 0) | exact absurd (by decide : (-1 : Int32) < 0) h4))
    refine g_ald0 (pc' := 10) dX9_one_9 rfl ?_
    refine g_callV (pc' := 13) (c_mByte l mg h.1 (h.2.2.2.2.1 hn).1 h.2.2.2.1) mg.s40 (by decide) wX9_byteAt lX9_136 rfl rfl (Nat.le_of_ble_eq_true rfl) (rOk (by omega) (by decide)) ⟨Nat.le_of_ble_eq_true rfl, Nat.le_of_ble_eq_true rfl⟩ dX9_one_10 rfl (kIp ?_)
    refine g_topi (v := nI 33) (by unfold bt; rw [if_pos hl, hB]) ?_
    refine g_ist1 (pc' := 14) rfl (by decide) dX9_one_13 rfl ?_
    refine g_ild1 (pc' := 15) dX9_one_14 rfl ?_
    refine g_bipush (pc' := 17) (v := nI 33) dX9_one_15 rfl (by decide) ?_
    refine g_icmpeqN (pc' := 20) (by omega) (by omega) (tgt := 32) dX9_one_17 (by decide) rfl (fun h17 => ?_) (fun h17 => ?_)
    · refine g_ald0 (pc' := 33) dX9_one_32 rfl ?_
      refine g_getI (pc' := 36) mg.s40 (by decide) fX9_158 (h.2.2.2.2.1 hn).2 dX9_one_33 rfl ?_
      refine g_bipush (pc' := 38) (v := nI 6) dX9_one_36 rfl (by decide) ?_
      refine g_icmpneN (pc' := 41) (by omega) (by omega) (tgt := 46) dX9_one_38 (by decide) rfl (fun h38 => ?_) (fun h38 => ?_)
      · refine g_ald0 (pc' := 47) dX9_one_46 rfl ?_
        refine g_dupR (pc' := 48) dX9_one_47 rfl ?_
        refine g_getI (pc' := 51) mg.s40 (by decide) fX9_158 (v := nI op) ((h.2.2.2.2.1 hn).2) dX9_one_48 rfl ?_
        refine g_iconst (pc' := 52) (v := nI 1) dX9_one_51 rfl (by decide) ?_
        refine g_iaddN (pc' := 53) dX9_one_52 rfl ?_
        refine g_putI (pc' := 56) mg.s40 (by decide) ⟨fX9_158, rfl, pI⟩ dX9_one_53 rfl ?_
        refine g_ald0 (pc' := 57) dX9_one_56 rfl ?_
        refine g_dupR (pc' := 58) dX9_one_57 rfl ?_
        refine g_getI (pc' := 61) mg.s40 (by decide) fX9_124 (v := nI (s.1)) (by rw [upM_k _ _ (by decide)]; exact (h.2.2.2.2.1 hn).1) dX9_one_58 rfl ?_
        refine g_iconst (pc' := 62) (v := nI 1) dX9_one_61 rfl (by decide) ?_
        refine g_iaddN (pc' := 63) dX9_one_62 rfl ?_
        refine g_putI (pc' := 66) mg.s40 (by decide) ⟨fX9_124, rfl, pI⟩ dX9_one_63 rfl ?_
        refine g_name (fun J1 hJ1 => ?_)
        have hM1 : MT B len (op + 1) seen J1 (psAdv s) := by rw [hJ1]; exact h.inc hn hl
        have hfA : Fr mtP I J1 := by rw [hJ1]; exact (Fr.rf.up (by simp [mtP])).up (by simp [mtP])
        refine g_ild1 (pc' := 67) dX9_one_66 rfl ?_
        refine g_bipush (pc' := 69) (v := nI 40) dX9_one_67 rfl (by decide) ?_
        refine g_icmpneN (pc' := 72) (by omega) (by omega) (tgt := 79) dX9_one_69 (by decide) rfl (fun h69 => ?_) (fun h69 => ?_)
        · refine g_ald0 (pc' := 80) dX9_one_79 rfl ?_
          refine g_callV (pc' := 83) (hO J1 (psAdv s) hM1) mg.s40 (by decide) wX9_one lX9_155 rfl rfl (Nat.le_of_ble_eq_true rfl) (rOk (by omega) (by decide)) ⟨Nat.le_of_ble_eq_true rfl, Nat.le_of_ble_eq_true rfl⟩ dX9_one_80 rfl (kI (fun v2 J2 hq2 => ?_))
          obtain ⟨hM2, hF2, hv2⟩ := hq2
          refine g_ist2 (pc' := 84) rfl (by decide) dX9_one_83 rfl ?_
          refine g_ild1 (pc' := 85) dX9_one_84 rfl ?_
          refine g_bipush (pc' := 87) (v := nI 40) dX9_one_85 rfl (by decide) ?_
          refine g_icmpneN (pc' := 90) (by omega) (by omega) (tgt := 104) dX9_one_87 (by decide) rfl (fun h87 => ?_) (fun h87 => ?_)
          · by_cases hx : (one (psAdv s)).2.1 = none
            · have hk : True := trivial
              refine g_ald0 (pc' := 105) dX9_one_104 rfl ?_
              refine g_dupR (pc' := 106) dX9_one_105 rfl ?_
              refine g_getI (pc' := 109) mg.s40 (by decide) fX9_158 (v := nI (op + 1)) ((hM2.2.2.2.2.1 hx).2) dX9_one_106 rfl ?_
              refine g_iconst (pc' := 110) (v := nI 1) dX9_one_109 rfl (by decide) ?_
              refine g_isub (pc' := 111) dX9_one_110 rfl ?_
              refine g_topi (v := nI op) (pk_sub (by omega)) ?_
              refine g_putI (pc' := 114) mg.s40 (by decide) ⟨fX9_158, rfl, pI⟩ dX9_one_111 rfl ?_
              refine g_ild1 (pc' := 115) dX9_one_114 rfl ?_
              refine g_bipush (pc' := 117) (v := nI 40) dX9_one_115 rfl (by decide) ?_
              refine g_icmpneN (pc' := 120) (by omega) (by omega) (tgt := 124) dX9_one_117 (by decide) rfl (fun h117 => ?_) (fun h117 => ?_)
              · refine g_ild1 (pc' := 125) dX9_one_124 rfl ?_
                refine g_bipush (pc' := 127) (v := nI 45) dX9_one_125 rfl (by decide) ?_
                refine g_icmpneN (pc' := 130) (by omega) (by omega) (tgt := 135) dX9_one_127 (by decide) rfl (fun h127 => ?_) (fun h127 => ?_)
                · refine g_ild2 (pc' := 136) dX9_one_135 rfl ?_
                  refine g_ifne (pc' := 139) (tgt := 143) dX9_one_136 (by decide) rfl (fun h136 => ?_) (fun h136 => ?_)
                  · refine g_iconst (pc' := 144) (v := nI 0) dX9_one_143 rfl (by decide) ?_
                    refine g_iret rfl dX9_one_144 ?_
                    have eC : cOpen B len one 33 (psAdv s) = psMk 2 0 (one (psAdv s)) := by unfold cOpen; rw [if_neg (by decide)]; rfl
                    exact eI ⟨by rw [eC]; exact (hM2.dec (op2 := op) hx).mk, hfA.tr (hF2.up (by simp [mtP])), fun hF0 => by unfold openV; rw [if_neg (by decide), if_pos rfl, ← hv2 hx]; first | rw [if_pos (by assumption)] | rw [if_neg (by assumption)]⟩
                  · refine g_iconst (pc' := 140) (v := nI 1) dX9_one_139 rfl (by decide) ?_
                    refine g_goto (tgt := 144) dX9_one_140 (by decide) ?_
                    refine g_iret rfl dX9_one_144 ?_
                    have eC : cOpen B len one 33 (psAdv s) = psMk 2 0 (one (psAdv s)) := by unfold cOpen; rw [if_neg (by decide)]; rfl
                    exact eI ⟨by rw [eC]; exact (hM2.dec (op2 := op) hx).mk, hfA.tr (hF2.up (by simp [mtP])), fun hF0 => by unfold openV; rw [if_neg (by decide), if_pos rfl, ← hv2 hx]; first | rw [if_pos (by assumption)] | rw [if_neg (by assumption)]⟩
                · exact absurd h127 (by omega)
              · exact absurd h117 (by omega)
            · have hk : True := trivial
              refine g_ald0 (pc' := 105) dX9_one_104 rfl ?_
              refine g_dupR (pc' := 106) dX9_one_105 rfl ?_
              refine g_getI (pc' := 109) mg.s40 (by decide) fX9_158 rfl dX9_one_106 rfl ?_
              refine g_iconst (pc' := 110) (v := nI 1) dX9_one_109 rfl (by decide) ?_
              refine g_isub (pc' := 111) dX9_one_110 rfl ?_
              refine g_putI (pc' := 114) mg.s40 (by decide) ⟨fX9_158, rfl, pI⟩ dX9_one_111 rfl ?_
              refine g_ild1 (pc' := 115) dX9_one_114 rfl ?_
              refine g_bipush (pc' := 117) (v := nI 40) dX9_one_115 rfl (by decide) ?_
              refine g_icmpneN (pc' := 120) (by omega) (by omega) (tgt := 124) dX9_one_117 (by decide) rfl (fun h117 => ?_) (fun h117 => ?_)
              · refine g_ild1 (pc' := 125) dX9_one_124 rfl ?_
                refine g_bipush (pc' := 127) (v := nI 45) dX9_one_125 rfl (by decide) ?_
                refine g_icmpneN (pc' := 130) (by omega) (by omega) (tgt := 135) dX9_one_127 (by decide) rfl (fun h127 => ?_) (fun h127 => ?_)
                · refine g_ild2 (pc' := 136) dX9_one_135 rfl ?_
                  refine g_ifne (pc' := 139) (tgt := 143) dX9_one_136 (by decide) rfl (fun h136 => ?_) (fun h136 => ?_)
                  · refine g_iconst (pc' := 144) (v := nI 0) dX9_one_143 rfl (by decide) ?_
                    refine g_iret rfl dX9_one_144 ?_
                    have eC : cOpen B len one 33 (psAdv s) = psMk 2 0 (one (psAdv s)) := by unfold cOpen; rw [if_neg (by decide)]; rfl
                    exact eI ⟨by rw [eC]; exact (hM2.ff (op2 := op) hx).mk, hfA.tr (hF2.up (by simp [mtP])), fun hF0 => absurd (by rw [eC] at hF0; exact hF0) hx⟩
                  · refine g_iconst (pc' := 140) (v := nI 1) dX9_one_139 rfl (by decide) ?_
                    refine g_goto (tgt := 144) dX9_one_140 (by decide) ?_
                    refine g_iret rfl dX9_one_144 ?_
                    have eC : cOpen B len one 33 (psAdv s) = psMk 2 0 (one (psAdv s)) := by unfold cOpen; rw [if_neg (by decide)]; rfl
                    exact eI ⟨by rw [eC]; exact (hM2.ff (op2 := op) hx).mk, hfA.tr (hF2.up (by simp [mtP])), fun hF0 => absurd (by rw [eC] at hF0; exact hF0) hx⟩
                · exact absurd h127 (by omega)
              · exact absurd h117 (by omega)
          · exact absurd h87 (by omega)
        · exact absurd h69 (by omega)
      · exact absurd h38 (by omega)
    · exact absurd h17 (by omega)
  · rw [hB]
    refine g_ald0 (pc' := 1) dX9_one_0 rfl ?_
    refine g_getI (pc' := 4) mg.s40 (by decide) fX9_133 (h.nf hn) dX9_one_1 rfl ?_
    refine g_iflt (pc' := 7) (tgt := 9) dX9_one_4 (by decide) rfl (fun h4 => ?_) (fun h4 => (by first | exact absurd h4 (by decide : (-1 : Int32) < 0) | exact absurd (by decide : (-1 : Int32) < 0) h4))
    refine g_ald0 (pc' := 10) dX9_one_9 rfl ?_
    refine g_callV (pc' := 13) (c_mByte l mg h.1 (h.2.2.2.2.1 hn).1 h.2.2.2.1) mg.s40 (by decide) wX9_byteAt lX9_136 rfl rfl (Nat.le_of_ble_eq_true rfl) (rOk (by omega) (by decide)) ⟨Nat.le_of_ble_eq_true rfl, Nat.le_of_ble_eq_true rfl⟩ dX9_one_10 rfl (kIp ?_)
    refine g_topi (v := nI 45) (by unfold bt; rw [if_pos hl, hB]) ?_
    refine g_ist1 (pc' := 14) rfl (by decide) dX9_one_13 rfl ?_
    refine g_ild1 (pc' := 15) dX9_one_14 rfl ?_
    refine g_bipush (pc' := 17) (v := nI 33) dX9_one_15 rfl (by decide) ?_
    refine g_icmpeqN (pc' := 20) (by omega) (by omega) (tgt := 32) dX9_one_17 (by decide) rfl (fun h17 => ?_) (fun h17 => ?_)
    · exact absurd h17 (by omega)
    · refine g_ild1 (pc' := 21) dX9_one_20 rfl ?_
      refine g_bipush (pc' := 23) (v := nI 45) dX9_one_21 rfl (by decide) ?_
      refine g_icmpeqN (pc' := 26) (by omega) (by omega) (tgt := 32) dX9_one_23 (by decide) rfl (fun h23 => ?_) (fun h23 => ?_)
      · refine g_ald0 (pc' := 33) dX9_one_32 rfl ?_
        refine g_getI (pc' := 36) mg.s40 (by decide) fX9_158 (h.2.2.2.2.1 hn).2 dX9_one_33 rfl ?_
        refine g_bipush (pc' := 38) (v := nI 6) dX9_one_36 rfl (by decide) ?_
        refine g_icmpneN (pc' := 41) (by omega) (by omega) (tgt := 46) dX9_one_38 (by decide) rfl (fun h38 => ?_) (fun h38 => ?_)
        · refine g_ald0 (pc' := 47) dX9_one_46 rfl ?_
          refine g_dupR (pc' := 48) dX9_one_47 rfl ?_
          refine g_getI (pc' := 51) mg.s40 (by decide) fX9_158 (v := nI op) ((h.2.2.2.2.1 hn).2) dX9_one_48 rfl ?_
          refine g_iconst (pc' := 52) (v := nI 1) dX9_one_51 rfl (by decide) ?_
          refine g_iaddN (pc' := 53) dX9_one_52 rfl ?_
          refine g_putI (pc' := 56) mg.s40 (by decide) ⟨fX9_158, rfl, pI⟩ dX9_one_53 rfl ?_
          refine g_ald0 (pc' := 57) dX9_one_56 rfl ?_
          refine g_dupR (pc' := 58) dX9_one_57 rfl ?_
          refine g_getI (pc' := 61) mg.s40 (by decide) fX9_124 (v := nI (s.1)) (by rw [upM_k _ _ (by decide)]; exact (h.2.2.2.2.1 hn).1) dX9_one_58 rfl ?_
          refine g_iconst (pc' := 62) (v := nI 1) dX9_one_61 rfl (by decide) ?_
          refine g_iaddN (pc' := 63) dX9_one_62 rfl ?_
          refine g_putI (pc' := 66) mg.s40 (by decide) ⟨fX9_124, rfl, pI⟩ dX9_one_63 rfl ?_
          refine g_name (fun J1 hJ1 => ?_)
          have hM1 : MT B len (op + 1) seen J1 (psAdv s) := by rw [hJ1]; exact h.inc hn hl
          have hfA : Fr mtP I J1 := by rw [hJ1]; exact (Fr.rf.up (by simp [mtP])).up (by simp [mtP])
          refine g_ild1 (pc' := 67) dX9_one_66 rfl ?_
          refine g_bipush (pc' := 69) (v := nI 40) dX9_one_67 rfl (by decide) ?_
          refine g_icmpneN (pc' := 72) (by omega) (by omega) (tgt := 79) dX9_one_69 (by decide) rfl (fun h69 => ?_) (fun h69 => ?_)
          · refine g_ald0 (pc' := 80) dX9_one_79 rfl ?_
            refine g_callV (pc' := 83) (hO J1 (psAdv s) hM1) mg.s40 (by decide) wX9_one lX9_155 rfl rfl (Nat.le_of_ble_eq_true rfl) (rOk (by omega) (by decide)) ⟨Nat.le_of_ble_eq_true rfl, Nat.le_of_ble_eq_true rfl⟩ dX9_one_80 rfl (kI (fun v2 J2 hq2 => ?_))
            obtain ⟨hM2, hF2, hv2⟩ := hq2
            refine g_ist2 (pc' := 84) rfl (by decide) dX9_one_83 rfl ?_
            refine g_ild1 (pc' := 85) dX9_one_84 rfl ?_
            refine g_bipush (pc' := 87) (v := nI 40) dX9_one_85 rfl (by decide) ?_
            refine g_icmpneN (pc' := 90) (by omega) (by omega) (tgt := 104) dX9_one_87 (by decide) rfl (fun h87 => ?_) (fun h87 => ?_)
            · by_cases hx : (one (psAdv s)).2.1 = none
              · have hk : True := trivial
                refine g_ald0 (pc' := 105) dX9_one_104 rfl ?_
                refine g_dupR (pc' := 106) dX9_one_105 rfl ?_
                refine g_getI (pc' := 109) mg.s40 (by decide) fX9_158 (v := nI (op + 1)) ((hM2.2.2.2.2.1 hx).2) dX9_one_106 rfl ?_
                refine g_iconst (pc' := 110) (v := nI 1) dX9_one_109 rfl (by decide) ?_
                refine g_isub (pc' := 111) dX9_one_110 rfl ?_
                refine g_topi (v := nI op) (pk_sub (by omega)) ?_
                refine g_putI (pc' := 114) mg.s40 (by decide) ⟨fX9_158, rfl, pI⟩ dX9_one_111 rfl ?_
                refine g_ild1 (pc' := 115) dX9_one_114 rfl ?_
                refine g_bipush (pc' := 117) (v := nI 40) dX9_one_115 rfl (by decide) ?_
                refine g_icmpneN (pc' := 120) (by omega) (by omega) (tgt := 124) dX9_one_117 (by decide) rfl (fun h117 => ?_) (fun h117 => ?_)
                · refine g_ild1 (pc' := 125) dX9_one_124 rfl ?_
                  refine g_bipush (pc' := 127) (v := nI 45) dX9_one_125 rfl (by decide) ?_
                  refine g_icmpneN (pc' := 130) (by omega) (by omega) (tgt := 135) dX9_one_127 (by decide) rfl (fun h127 => ?_) (fun h127 => ?_)
                  · exact absurd h127 (by omega)
                  · refine g_ild2 (pc' := 131) dX9_one_130 rfl ?_
                    refine g_ineg (pc' := 132) dX9_one_131 rfl ?_
                    refine g_goto (tgt := 144) dX9_one_132 (by decide) ?_
                    refine g_iret rfl dX9_one_144 ?_
                    have eC : cOpen B len one 45 (psAdv s) = psMk 3 0 (one (psAdv s)) := by unfold cOpen; rw [if_neg (by decide)]; rfl
                    exact eI ⟨by rw [eC]; exact (hM2.dec (op2 := op) hx).mk, hfA.tr (hF2.up (by simp [mtP])), fun hF0 => by rw [hv2 hx]; unfold openV; rw [if_neg (by decide), if_neg (by decide)]⟩
                · exact absurd h117 (by omega)
              · have hk : True := trivial
                refine g_ald0 (pc' := 105) dX9_one_104 rfl ?_
                refine g_dupR (pc' := 106) dX9_one_105 rfl ?_
                refine g_getI (pc' := 109) mg.s40 (by decide) fX9_158 rfl dX9_one_106 rfl ?_
                refine g_iconst (pc' := 110) (v := nI 1) dX9_one_109 rfl (by decide) ?_
                refine g_isub (pc' := 111) dX9_one_110 rfl ?_
                refine g_putI (pc' := 114) mg.s40 (by decide) ⟨fX9_158, rfl, pI⟩ dX9_one_111 rfl ?_
                refine g_ild1 (pc' := 115) dX9_one_114 rfl ?_
                refine g_bipush (pc' := 117) (v := nI 40) dX9_one_115 rfl (by decide) ?_
                refine g_icmpneN (pc' := 120) (by omega) (by omega) (tgt := 124) dX9_one_117 (by decide) rfl (fun h117 => ?_) (fun h117 => ?_)
                · refine g_ild1 (pc' := 125) dX9_one_124 rfl ?_
                  refine g_bipush (pc' := 127) (v := nI 45) dX9_one_125 rfl (by decide) ?_
                  refine g_icmpneN (pc' := 130) (by omega) (by omega) (tgt := 135) dX9_one_127 (by decide) rfl (fun h127 => ?_) (fun h127 => ?_)
                  · exact absurd h127 (by omega)
                  · refine g_ild2 (pc' := 131) dX9_one_130 rfl ?_
                    refine g_ineg (pc' := 132) dX9_one_131 rfl ?_
                    refine g_goto (tgt := 144) dX9_one_132 (by decide) ?_
                    refine g_iret rfl dX9_one_144 ?_
                    have eC : cOpen B len one 45 (psAdv s) = psMk 3 0 (one (psAdv s)) := by unfold cOpen; rw [if_neg (by decide)]; rfl
                    exact eI ⟨by rw [eC]; exact (hM2.ff (op2 := op) hx).mk, hfA.tr (hF2.up (by simp [mtP])), fun hF0 => absurd (by rw [eC] at hF0; exact hF0) hx⟩
                · exact absurd h117 (by omega)
            · exact absurd h87 (by omega)
          · exact absurd h69 (by omega)
        · exact absurd h38 (by omega)
      · exact absurd h23 (by omega)

theorem vz_one {l : Launch} {S : Shp} {L : ML} {R : MR} (mg : MG S R) (B : Nat → Nat) (len : Nat) (seen : Nat → Int32) : ∀ d, d ≤ 6 → Vz l S L R B len seen mX9_one (4 + 6 * d) (6 - d) (cOne B len d) (oneV B len d seen)
  | 0, _ => fun I s h => by
    by_cases hc : s.2.1 = none ∧ s.1 < len ∧ isOp (B s.1)
    · obtain ⟨hn, hl, ho⟩ := hc
      have hi := isOp_no ho
      have eC : cOne B len 0 s = psFail len s := by
        show cStep B len (fun _ s => psFail len s) s = _
        unfold cStep
        rw [show nxt B len s.1 = some (B s.1) from if_pos hl]
        simp only
        rw [if_neg hi.2, hi.1]
        simp only
        exact if_pos ho
      rw [eC]
      exact c_oneP0 l (L := L) mg h rfl hn hl ho (dp := 3) (by omega) _
    · exact c_oneC l (L := L) mg h (opn := fun _ s => psFail len s) (opv := fun _ _ => nI 0) (fun hn hl ho => hc ⟨hn, hl, ho⟩) (dp := 3) (by omega)
  | d + 1, hd => fun I s h => by
    have ih := vz_one (l := l) (L := L) mg B len seen d (by omega)
    have hn1 := Nice.one B len d
    have g1 := vz_product mg hn1 ih (by omega)
    have g2 := vz_sums mg hn1 g1 (by omega)
    have g3 := vz_compared mg hn1 g2 (by omega)
    have g4 := vz_both mg hn1 g3 (by omega)
    have g5 := vz_either mg hn1 g4 (by omega)
    have e : 4 + 6 * (d + 1) = (4 + 6 * d + 5) + 1 := by omega
    rw [e]
    by_cases hc : s.2.1 = none ∧ s.1 < len ∧ isOp (B s.1)
    · obtain ⟨hn, hl, ho⟩ := hc
      have hi := isOp_no ho
      have eC : cOne B len (d + 1) s = cOpen B len (cOne B len d) (B s.1) (psAdv s) := by
        show cStep B len _ s = _
        unfold cStep
        rw [show nxt B len s.1 = some (B s.1) from if_pos hl]
        simp only
        rw [if_neg hi.2, hi.1]
        simp only
        exact if_pos ho
      have eV : oneV B len (d + 1) seen s = openV B len (cOne B len d) (oneV B len d seen) (B s.1) (psAdv s) := by
        show stepV B len _ seen s = _
        unfold stepV
        rw [show nxt B len s.1 = some (B s.1) from if_pos hl]
        simp only
        rw [if_neg hi.2, hi.1]
        simp only
        exact if_pos ho
      rw [eC, eV]
      have eo : 6 - d = 6 - (d + 1) + 1 := by omega
      rw [eo] at g5 ih
      exact c_oneP l mg h (by omega) hn hl ho (by omega) g5 ih (by omega) (by omega)
    · exact c_oneC l (L := L) mg h (fun hn hl ho => hc ⟨hn, hl, ho⟩) (by omega)
theorem vz_any {l : Launch} {S : Shp} {L : ML} {R : MR} (mg : MG S R) (B : Nat → Nat) (len : Nat) (seen : Nat → Int32) : Vz l S L R B len seen mX9_either 45 0 (tAny B len) (tVal B len seen) := by
  have ih := vz_one (l := l) (S := S) (L := L) (R := R) mg B len seen 6 (by omega)
  have hn1 := Nice.one B len 6
  have g1 := vz_product mg hn1 ih (by omega)
  have g2 := vz_sums mg hn1 g1 (by omega)
  have g3 := vz_compared mg hn1 g2 (by omega)
  have g4 := vz_both mg hn1 g3 (by omega)
  exact vz_either mg hn1 g4 (by omega)