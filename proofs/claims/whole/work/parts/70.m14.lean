/-! the model: comparing, sums, products -/
theorem cCmp_no {B : Nat → Nat} {len : Nat} {one : PS → PS} {ov : PS → Int32} {s : PS} (h : (cSum B len one s).1 < len → opC (B (cSum B len one s).1) = none) : cCmp B len one s = cSum B len one s ∧ cmpV B len one ov s = sumV B len one ov s := by
  have key : nxt B len (cSum B len one s).1 = none ∨ ∃ c, nxt B len (cSum B len one s).1 = some c ∧ opC c = none := by
    by_cases hl : (cSum B len one s).1 < len
    · exact Or.inr ⟨_, if_pos hl, h hl⟩
    · exact Or.inl (if_neg hl)
  constructor
  · unfold cCmp
    simp only
    rcases key with e | ⟨c, e, e2⟩
    · rw [e]
    · rw [e]; simp only; rw [e2]
  · unfold cmpV
    rcases key with e | ⟨c, e, e2⟩
    · rw [e]
    · rw [e]; simp only; rw [e2]
theorem vz_compared {l : Launch} {S : Shp} {L : ML} {R : MR} (mg : MG S R) {B : Nat → Nat} {len dp op : Nat} {seen : Nat → Int32} {one : PS → PS} {ov : PS → Int32} (hn1 : Nice len one) (hsubc : Vz l S L R B len seen mX9_sums dp op (cSum B len one) (sumV B len one ov)) (hdp : 3 ≤ dp) : Vz l S L R B len seen mX9_compared (dp + 1) op (cCmp B len one) (cmpV B len one ov) := by
  intro I s0 h
  refine Ct.of [some (.inr (.inr (some (40, 0)))), none, none, none] (by decide) rfl (Nat.le_of_ble_eq_true rfl) ?_
  refine g_ald0 (pc' := 1) dX9_compared_0 rfl ?_
  refine g_callV (pc' := 4) (hsubc I s0 h) mg.s40 (by decide) wX9_sums lX9_149 rfl rfl (Nat.le_of_ble_eq_true rfl) (rOk (by omega) (by decide)) ⟨Nat.le_of_ble_eq_true rfl, Nat.le_of_ble_eq_true rfl⟩ dX9_compared_1 rfl (kI (fun v1 J1 hq1 => ?_))
  obtain ⟨hM1, hF1, hv1⟩ := hq1
  obtain ⟨a, hal, hia, has⟩ := hM1.at
  have hl120 := hM1.1.1
  have hb2 := bt_lt (a := a) hM1.1.2.1
  refine g_ist1 (pc' := 5) rfl (by decide) dX9_compared_4 rfl ?_
  refine g_ald0 (pc' := 6) dX9_compared_5 rfl ?_
  refine g_callV (pc' := 9) (c_mByte l mg hM1.1 hia hal) mg.s40 (by decide) wX9_byteAt lX9_136 rfl rfl (Nat.le_of_ble_eq_true rfl) (rOk (by omega) (by decide)) ⟨Nat.le_of_ble_eq_true rfl, Nat.le_of_ble_eq_true rfl⟩ dX9_compared_6 rfl (kIp ?_)
  refine g_ist2 (pc' := 10) rfl (by decide) dX9_compared_9 rfl ?_
  by_cases hn : ((cSum B len one) s0).2.1 = none
  · by_cases hyes : ((cSum B len one) s0).1 < len ∧ (B ((cSum B len one) s0).1 = 60 ∨ B ((cSum B len one) s0).1 = 61 ∨ B ((cSum B len one) s0).1 = 62)
    · obtain ⟨hl, hB | hB | hB⟩ := hyes
      · have hk : True := trivial
        have hc : cCmp B len one s0 = psMk 8 0 ((cSum B len one) (psAdv ((cSum B len one) s0))) := by unfold cCmp; simp only; rw [show nxt B len ((cSum B len one) s0).1 = some (B ((cSum B len one) s0).1) from if_pos hl, hB]; rfl
        have hvv : cmpV B len one ov s0 = joinI 8 ((sumV B len one ov) s0) ((sumV B len one ov) (psAdv ((cSum B len one) s0))) := by unfold cmpV; rw [show nxt B len ((cSum B len one) s0).1 = some (B ((cSum B len one) s0).1) from if_pos hl, hB]; rfl
        rw [has hn, show bt B len ((cSum B len one) s0).1 = 60 from by unfold bt; rw [if_pos hl]; exact hB]
        refine g_ald0 (pc' := 11) dX9_compared_10 rfl ?_
        refine g_getI (pc' := 14) mg.s40 (by decide) fX9_133 (hM1.nf hn) dX9_compared_11 rfl ?_
        refine g_ifge (pc' := 17) (tgt := 35) dX9_compared_14 (by decide) rfl (fun h14 => (by first | exact absurd h14 (by decide : ¬ (0 : Int32) ≤ -1) | exact absurd (by decide : ¬ (0 : Int32) ≤ -1) h14)) (fun h14 => ?_)
        refine g_ild2 (pc' := 18) dX9_compared_17 rfl ?_
        refine g_bipush (pc' := 20) (v := nI 60) dX9_compared_18 rfl (by decide) ?_
        refine g_icmpeqN (pc' := 23) (by omega) (by omega) (tgt := 37) dX9_compared_20 (by decide) rfl (fun h20 => ?_) (fun h20 => ?_)
        · refine g_ald0 (pc' := 38) dX9_compared_37 rfl ?_
          refine g_dupR (pc' := 39) dX9_compared_38 rfl ?_
          refine g_getI (pc' := 42) mg.s40 (by decide) fX9_124 (v := nI (((cSum B len one) s0).1)) ((hM1.2.2.2.2.1 hn).1) dX9_compared_39 rfl ?_
          refine g_iconst (pc' := 43) (v := nI 1) dX9_compared_42 rfl (by decide) ?_
          refine g_iaddN (pc' := 44) dX9_compared_43 rfl ?_
          refine g_putI (pc' := 47) mg.s40 (by decide) ⟨fX9_124, rfl, pI⟩ dX9_compared_44 rfl ?_
          refine g_name (fun J2 hJ2 => ?_)
          have hM2 : MT B len op seen J2 (psAdv ((cSum B len one) s0)) := by rw [hJ2]; exact hM1.adv hn hl
          have hF2 : Fr mtP J1 J2 := by rw [hJ2]; exact Fr.rf.up (by simp [mtP])
          refine g_ald0 (pc' := 48) dX9_compared_47 rfl ?_
          refine g_callV (pc' := 51) (hsubc J2 (psAdv ((cSum B len one) s0)) hM2) mg.s40 (by decide) wX9_sums lX9_149 rfl rfl (Nat.le_of_ble_eq_true rfl) (rOk (by omega) (by decide)) ⟨Nat.le_of_ble_eq_true rfl, Nat.le_of_ble_eq_true rfl⟩ dX9_compared_48 rfl (kI (fun w J3 hq3 => ?_))
          obtain ⟨hM3, hF3, hv3⟩ := hq3
          refine g_ist3 (pc' := 52) rfl (by decide) dX9_compared_51 rfl ?_
          refine g_ild2 (pc' := 53) dX9_compared_52 rfl ?_
          refine g_bipush (pc' := 55) (v := nI 60) dX9_compared_53 rfl (by decide) ?_
          refine g_icmpneN (pc' := 58) (by omega) (by omega) (tgt := 66) dX9_compared_55 (by decide) rfl (fun h55 => ?_) (fun h55 => ?_)
          · exact absurd h55 (by omega)
          · refine g_ild1 (pc' := 59) dX9_compared_58 rfl ?_
            refine g_ild3 (pc' := 60) dX9_compared_59 rfl ?_
            refine g_icmpge (pc' := 63) (tgt := 89) dX9_compared_60 (by decide) rfl (fun h60 => ?_) (fun h60 => ?_)
            · refine g_iconst (pc' := 90) (v := nI 0) dX9_compared_89 rfl (by decide) ?_
              refine g_iret rfl dX9_compared_90 ?_
              refine eI ⟨by rw [hc]; exact hM3.mk, hF1.tr (hF2.tr hF3), fun hF0 => ?_⟩
              have hx : ((cSum B len one) (psAdv ((cSum B len one) s0))).2.1 = none := by rw [hc] at hF0; exact hF0
              rw [hvv, ← hv3 hx, ← hv1 hn]
              unfold joinI
              (repeat' split) <;> first | rfl | (exfalso; simp_all; done) | (exfalso; simp_all [-Int32.not_le, ← Int32.not_le]; done)
            · refine g_goto (tgt := 85) dX9_compared_63 (by decide) ?_
              refine g_iconst (pc' := 86) (v := nI 1) dX9_compared_85 rfl (by decide) ?_
              refine g_goto (tgt := 90) dX9_compared_86 (by decide) ?_
              refine g_iret rfl dX9_compared_90 ?_
              refine eI ⟨by rw [hc]; exact hM3.mk, hF1.tr (hF2.tr hF3), fun hF0 => ?_⟩
              have hx : ((cSum B len one) (psAdv ((cSum B len one) s0))).2.1 = none := by rw [hc] at hF0; exact hF0
              rw [hvv, ← hv3 hx, ← hv1 hn]
              unfold joinI
              (repeat' split) <;> first | rfl | (exfalso; simp_all; done) | (exfalso; simp_all [-Int32.not_le, ← Int32.not_le]; done)
        · exact absurd h20 (by omega)
      · have hk : True := trivial
        have hc : cCmp B len one s0 = psMk 9 0 ((cSum B len one) (psAdv ((cSum B len one) s0))) := by unfold cCmp; simp only; rw [show nxt B len ((cSum B len one) s0).1 = some (B ((cSum B len one) s0).1) from if_pos hl, hB]; rfl
        have hvv : cmpV B len one ov s0 = joinI 9 ((sumV B len one ov) s0) ((sumV B len one ov) (psAdv ((cSum B len one) s0))) := by unfold cmpV; rw [show nxt B len ((cSum B len one) s0).1 = some (B ((cSum B len one) s0).1) from if_pos hl, hB]; rfl
        rw [has hn, show bt B len ((cSum B len one) s0).1 = 61 from by unfold bt; rw [if_pos hl]; exact hB]
        refine g_ald0 (pc' := 11) dX9_compared_10 rfl ?_
        refine g_getI (pc' := 14) mg.s40 (by decide) fX9_133 (hM1.nf hn) dX9_compared_11 rfl ?_
        refine g_ifge (pc' := 17) (tgt := 35) dX9_compared_14 (by decide) rfl (fun h14 => (by first | exact absurd h14 (by decide : ¬ (0 : Int32) ≤ -1) | exact absurd (by decide : ¬ (0 : Int32) ≤ -1) h14)) (fun h14 => ?_)
        refine g_ild2 (pc' := 18) dX9_compared_17 rfl ?_
        refine g_bipush (pc' := 20) (v := nI 60) dX9_compared_18 rfl (by decide) ?_
        refine g_icmpeqN (pc' := 23) (by omega) (by omega) (tgt := 37) dX9_compared_20 (by decide) rfl (fun h20 => ?_) (fun h20 => ?_)
        · exact absurd h20 (by omega)
        · refine g_ild2 (pc' := 24) dX9_compared_23 rfl ?_
          refine g_bipush (pc' := 26) (v := nI 61) dX9_compared_24 rfl (by decide) ?_
          refine g_icmpeqN (pc' := 29) (by omega) (by omega) (tgt := 37) dX9_compared_26 (by decide) rfl (fun h26 => ?_) (fun h26 => ?_)
          · refine g_ald0 (pc' := 38) dX9_compared_37 rfl ?_
            refine g_dupR (pc' := 39) dX9_compared_38 rfl ?_
            refine g_getI (pc' := 42) mg.s40 (by decide) fX9_124 (v := nI (((cSum B len one) s0).1)) ((hM1.2.2.2.2.1 hn).1) dX9_compared_39 rfl ?_
            refine g_iconst (pc' := 43) (v := nI 1) dX9_compared_42 rfl (by decide) ?_
            refine g_iaddN (pc' := 44) dX9_compared_43 rfl ?_
            refine g_putI (pc' := 47) mg.s40 (by decide) ⟨fX9_124, rfl, pI⟩ dX9_compared_44 rfl ?_
            refine g_name (fun J2 hJ2 => ?_)
            have hM2 : MT B len op seen J2 (psAdv ((cSum B len one) s0)) := by rw [hJ2]; exact hM1.adv hn hl
            have hF2 : Fr mtP J1 J2 := by rw [hJ2]; exact Fr.rf.up (by simp [mtP])
            refine g_ald0 (pc' := 48) dX9_compared_47 rfl ?_
            refine g_callV (pc' := 51) (hsubc J2 (psAdv ((cSum B len one) s0)) hM2) mg.s40 (by decide) wX9_sums lX9_149 rfl rfl (Nat.le_of_ble_eq_true rfl) (rOk (by omega) (by decide)) ⟨Nat.le_of_ble_eq_true rfl, Nat.le_of_ble_eq_true rfl⟩ dX9_compared_48 rfl (kI (fun w J3 hq3 => ?_))
            obtain ⟨hM3, hF3, hv3⟩ := hq3
            refine g_ist3 (pc' := 52) rfl (by decide) dX9_compared_51 rfl ?_
            refine g_ild2 (pc' := 53) dX9_compared_52 rfl ?_
            refine g_bipush (pc' := 55) (v := nI 60) dX9_compared_53 rfl (by decide) ?_
            refine g_icmpneN (pc' := 58) (by omega) (by omega) (tgt := 66) dX9_compared_55 (by decide) rfl (fun h55 => ?_) (fun h55 => ?_)
            · refine g_ild2 (pc' := 67) dX9_compared_66 rfl ?_
              refine g_bipush (pc' := 69) (v := nI 61) dX9_compared_67 rfl (by decide) ?_
              refine g_icmpneN (pc' := 72) (by omega) (by omega) (tgt := 80) dX9_compared_69 (by decide) rfl (fun h69 => ?_) (fun h69 => ?_)
              · exact absurd h69 (by omega)
              · refine g_ild1 (pc' := 73) dX9_compared_72 rfl ?_
                refine g_ild3 (pc' := 74) dX9_compared_73 rfl ?_
                refine g_icmpne (pc' := 77) (tgt := 89) dX9_compared_74 (by decide) rfl (fun h74 => ?_) (fun h74 => ?_)
                · refine g_iconst (pc' := 90) (v := nI 0) dX9_compared_89 rfl (by decide) ?_
                  refine g_iret rfl dX9_compared_90 ?_
                  refine eI ⟨by rw [hc]; exact hM3.mk, hF1.tr (hF2.tr hF3), fun hF0 => ?_⟩
                  have hx : ((cSum B len one) (psAdv ((cSum B len one) s0))).2.1 = none := by rw [hc] at hF0; exact hF0
                  rw [hvv, ← hv3 hx, ← hv1 hn]
                  unfold joinI
                  (repeat' split) <;> first | rfl | (exfalso; simp_all; done) | (exfalso; simp_all [-Int32.not_le, ← Int32.not_le]; done)
                · refine g_goto (tgt := 85) dX9_compared_77 (by decide) ?_
                  refine g_iconst (pc' := 86) (v := nI 1) dX9_compared_85 rfl (by decide) ?_
                  refine g_goto (tgt := 90) dX9_compared_86 (by decide) ?_
                  refine g_iret rfl dX9_compared_90 ?_
                  refine eI ⟨by rw [hc]; exact hM3.mk, hF1.tr (hF2.tr hF3), fun hF0 => ?_⟩
                  have hx : ((cSum B len one) (psAdv ((cSum B len one) s0))).2.1 = none := by rw [hc] at hF0; exact hF0
                  rw [hvv, ← hv3 hx, ← hv1 hn]
                  unfold joinI
                  (repeat' split) <;> first | rfl | (exfalso; simp_all; done) | (exfalso; simp_all [-Int32.not_le, ← Int32.not_le]; done)
            · exact absurd h55 (by omega)
          · exact absurd h26 (by omega)
      · have hk : True := trivial
        have hc : cCmp B len one s0 = psMk 10 0 ((cSum B len one) (psAdv ((cSum B len one) s0))) := by unfold cCmp; simp only; rw [show nxt B len ((cSum B len one) s0).1 = some (B ((cSum B len one) s0).1) from if_pos hl, hB]; rfl
        have hvv : cmpV B len one ov s0 = joinI 10 ((sumV B len one ov) s0) ((sumV B len one ov) (psAdv ((cSum B len one) s0))) := by unfold cmpV; rw [show nxt B len ((cSum B len one) s0).1 = some (B ((cSum B len one) s0).1) from if_pos hl, hB]; rfl
        rw [has hn, show bt B len ((cSum B len one) s0).1 = 62 from by unfold bt; rw [if_pos hl]; exact hB]
        refine g_ald0 (pc' := 11) dX9_compared_10 rfl ?_
        refine g_getI (pc' := 14) mg.s40 (by decide) fX9_133 (hM1.nf hn) dX9_compared_11 rfl ?_
        refine g_ifge (pc' := 17) (tgt := 35) dX9_compared_14 (by decide) rfl (fun h14 => (by first | exact absurd h14 (by decide : ¬ (0 : Int32) ≤ -1) | exact absurd (by decide : ¬ (0 : Int32) ≤ -1) h14)) (fun h14 => ?_)
        refine g_ild2 (pc' := 18) dX9_compared_17 rfl ?_
        refine g_bipush (pc' := 20) (v := nI 60) dX9_compared_18 rfl (by decide) ?_
        refine g_icmpeqN (pc' := 23) (by omega) (by omega) (tgt := 37) dX9_compared_20 (by decide) rfl (fun h20 => ?_) (fun h20 => ?_)
        · exact absurd h20 (by omega)
        · refine g_ild2 (pc' := 24) dX9_compared_23 rfl ?_
          refine g_bipush (pc' := 26) (v := nI 61) dX9_compared_24 rfl (by decide) ?_
          refine g_icmpeqN (pc' := 29) (by omega) (by omega) (tgt := 37) dX9_compared_26 (by decide) rfl (fun h26 => ?_) (fun h26 => ?_)
          · exact absurd h26 (by omega)
          · refine g_ild2 (pc' := 30) dX9_compared_29 rfl ?_
            refine g_bipush (pc' := 32) (v := nI 62) dX9_compared_30 rfl (by decide) ?_
            refine g_icmpeqN (pc' := 35) (by omega) (by omega) (tgt := 37) dX9_compared_32 (by decide) rfl (fun h32 => ?_) (fun h32 => ?_)
            · refine g_ald0 (pc' := 38) dX9_compared_37 rfl ?_
              refine g_dupR (pc' := 39) dX9_compared_38 rfl ?_
              refine g_getI (pc' := 42) mg.s40 (by decide) fX9_124 (v := nI (((cSum B len one) s0).1)) ((hM1.2.2.2.2.1 hn).1) dX9_compared_39 rfl ?_
              refine g_iconst (pc' := 43) (v := nI 1) dX9_compared_42 rfl (by decide) ?_
              refine g_iaddN (pc' := 44) dX9_compared_43 rfl ?_
              refine g_putI (pc' := 47) mg.s40 (by decide) ⟨fX9_124, rfl, pI⟩ dX9_compared_44 rfl ?_
              refine g_name (fun J2 hJ2 => ?_)
              have hM2 : MT B len op seen J2 (psAdv ((cSum B len one) s0)) := by rw [hJ2]; exact hM1.adv hn hl
              have hF2 : Fr mtP J1 J2 := by rw [hJ2]; exact Fr.rf.up (by simp [mtP])
              refine g_ald0 (pc' := 48) dX9_compared_47 rfl ?_
              refine g_callV (pc' := 51) (hsubc J2 (psAdv ((cSum B len one) s0)) hM2) mg.s40 (by decide) wX9_sums lX9_149 rfl rfl (Nat.le_of_ble_eq_true rfl) (rOk (by omega) (by decide)) ⟨Nat.le_of_ble_eq_true rfl, Nat.le_of_ble_eq_true rfl⟩ dX9_compared_48 rfl (kI (fun w J3 hq3 => ?_))
              obtain ⟨hM3, hF3, hv3⟩ := hq3
              refine g_ist3 (pc' := 52) rfl (by decide) dX9_compared_51 rfl ?_
              refine g_ild2 (pc' := 53) dX9_compared_52 rfl ?_
              refine g_bipush (pc' := 55) (v := nI 60) dX9_compared_53 rfl (by decide) ?_
              refine g_icmpneN (pc' := 58) (by omega) (by omega) (tgt := 66) dX9_compared_55 (by decide) rfl (fun h55 => ?_) (fun h55 => ?_)
              · refine g_ild2 (pc' := 67) dX9_compared_66 rfl ?_
                refine g_bipush (pc' := 69) (v := nI 61) dX9_compared_67 rfl (by decide) ?_
                refine g_icmpneN (pc' := 72) (by omega) (by omega) (tgt := 80) dX9_compared_69 (by decide) rfl (fun h69 => ?_) (fun h69 => ?_)
                · refine g_ild1 (pc' := 81) dX9_compared_80 rfl ?_
                  refine g_ild3 (pc' := 82) dX9_compared_81 rfl ?_
                  refine g_icmple (pc' := 85) (tgt := 89) dX9_compared_82 (by decide) rfl (fun h82 => ?_) (fun h82 => ?_)
                  · refine g_iconst (pc' := 90) (v := nI 0) dX9_compared_89 rfl (by decide) ?_
                    refine g_iret rfl dX9_compared_90 ?_
                    refine eI ⟨by rw [hc]; exact hM3.mk, hF1.tr (hF2.tr hF3), fun hF0 => ?_⟩
                    have hx : ((cSum B len one) (psAdv ((cSum B len one) s0))).2.1 = none := by rw [hc] at hF0; exact hF0
                    rw [hvv, ← hv3 hx, ← hv1 hn]
                    unfold joinI
                    (repeat' split) <;> first | rfl | (exfalso; simp_all; done) | (exfalso; simp_all [-Int32.not_le, ← Int32.not_le]; done)
                  · refine g_iconst (pc' := 86) (v := nI 1) dX9_compared_85 rfl (by decide) ?_
                    refine g_goto (tgt := 90) dX9_compared_86 (by decide) ?_
                    refine g_iret rfl dX9_compared_90 ?_
                    refine eI ⟨by rw [hc]; exact hM3.mk, hF1.tr (hF2.tr hF3), fun hF0 => ?_⟩
                    have hx : ((cSum B len one) (psAdv ((cSum B len one) s0))).2.1 = none := by rw [hc] at hF0; exact hF0
                    rw [hvv, ← hv3 hx, ← hv1 hn]
                    unfold joinI
                    (repeat' split) <;> first | rfl | (exfalso; simp_all; done) | (exfalso; simp_all [-Int32.not_le, ← Int32.not_le]; done)
                · exact absurd h69 (by omega)
              · exact absurd h55 (by omega)
            · exact absurd h32 (by omega)
    · have hno : ((cSum B len one) s0).1 < len → (B ((cSum B len one) s0).1 = 60 ∨ B ((cSum B len one) s0).1 = 61 ∨ B ((cSum B len one) s0).1 = 62) → False := fun q1 q2 => hyes ⟨q1, q2⟩
      have eC : cCmp B len one s0 = (cSum B len one) s0 ∧ cmpV B len one ov s0 = (sumV B len one ov) s0 := cCmp_no (fun hl => by
        unfold opC
        rw [if_neg (fun e => hno hl (Or.inl e)), if_neg (fun e => hno hl (Or.inr (Or.inl e))), if_neg (fun e => hno hl (Or.inr (Or.inr e)))])
      refine g_ald0 (pc' := 11) dX9_compared_10 rfl ?_
      refine g_getI (pc' := 14) mg.s40 (by decide) fX9_133 (hM1.nf hn) dX9_compared_11 rfl ?_
      refine g_ifge (pc' := 17) (tgt := 35) dX9_compared_14 (by decide) rfl (fun h14 => (by first | exact absurd h14 (by decide : ¬ (0 : Int32) ≤ -1) | exact absurd (by decide : ¬ (0 : Int32) ≤ -1) h14)) (fun h14 => ?_)
      refine g_ild2 (pc' := 18) dX9_compared_17 rfl ?_
      refine g_bipush (pc' := 20) (v := nI 60) dX9_compared_18 rfl (by decide) ?_
      refine g_icmpeqN (pc' := 23) (by omega) (by omega) (tgt := 37) dX9_compared_20 (by decide) rfl (fun h20 => ?_) (fun h20 => ?_)
      · exact absurd (bt_in h20 (by decide)) (fun q => hno (has hn ▸ q.1) (Or.inl (has hn ▸ q.2)))
      · refine g_ild2 (pc' := 24) dX9_compared_23 rfl ?_
        refine g_bipush (pc' := 26) (v := nI 61) dX9_compared_24 rfl (by decide) ?_
        refine g_icmpeqN (pc' := 29) (by omega) (by omega) (tgt := 37) dX9_compared_26 (by decide) rfl (fun h26 => ?_) (fun h26 => ?_)
        · exact absurd (bt_in h26 (by decide)) (fun q => hno (has hn ▸ q.1) (Or.inr (Or.inl (has hn ▸ q.2))))
        · refine g_ild2 (pc' := 30) dX9_compared_29 rfl ?_
          refine g_bipush (pc' := 32) (v := nI 62) dX9_compared_30 rfl (by decide) ?_
          refine g_icmpeqN (pc' := 35) (by omega) (by omega) (tgt := 37) dX9_compared_32 (by decide) rfl (fun h32 => ?_) (fun h32 => ?_)
          · exact absurd (bt_in h32 (by decide)) (fun q => hno (has hn ▸ q.1) (Or.inr (Or.inr (has hn ▸ q.2))))
          · refine g_ild1 (pc' := 36) dX9_compared_35 rfl ?_
            refine g_iret rfl dX9_compared_36 ?_
            exact eI ⟨by rw [eC.1]; exact hM1, hF1, fun _ => by rw [eC.2]; exact hv1 hn⟩
  · obtain ⟨p, hp, h15, hsp, hsl⟩ := hM1.sf hn
    have eC : cCmp B len one s0 = (cSum B len one) s0 := (cCmp_no (ov := ov) (fun hl => absurd hl (by omega))).1
    refine g_ald0 (pc' := 11) dX9_compared_10 rfl ?_
    refine g_getI (pc' := 14) mg.s40 (by decide) fX9_133 h15 dX9_compared_11 rfl ?_
    refine g_ifgeN (by omega) (tgt := 35) dX9_compared_14 (by decide) ?_
    refine g_ild1 (pc' := 36) dX9_compared_35 rfl ?_
    refine g_iret rfl dX9_compared_36 ?_
    exact eI ⟨by rw [eC]; exact hM1, hF1, fun hF0 => absurd (by rw [eC] at hF0; exact hF0) hn⟩
