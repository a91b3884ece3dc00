/-! the model: sums, products -/
theorem vz_sums {l : Launch} {S : Shp} {L : ML} {R : MR} (mg : MG S R) {B : Nat → Nat} {len dp op : Nat} {seen : Nat → Int32} {one : PS → PS} {ov : PS → Int32} (hn1 : Nice len one) (hsubc : Vz l S L R B len seen mX9_product dp op (cProd B len one) (prodV B len one ov)) (hdp : 3 ≤ dp) : Vz l S L R B len seen mX9_sums (dp + 1) op (cSum B len one) (sumV B len one ov) := by
  intro I s0 h
  have hnice : Nice len (cProd B len one) := hn1.prod
  refine Ct.of [some (.inr (.inr (some (40, 0)))), none, none, none] (by decide) rfl (Nat.le_of_ble_eq_true rfl) ?_
  refine g_ald0 (pc' := 1) dX9_sums_0 rfl ?_
  refine g_callV (pc' := 4) (hsubc I s0 h) mg.s40 (by decide) wX9_product lX9_152 rfl rfl (Nat.le_of_ble_eq_true rfl) (rOk (by omega) (by decide)) ⟨Nat.le_of_ble_eq_true rfl, Nat.le_of_ble_eq_true rfl⟩ dX9_sums_1 rfl (kI (fun v0 J0 hq0 => ?_))
  refine g_ist1 (pc' := 5) rfl (by decide) dX9_sums_4 rfl ?_
  obtain ⟨hMa, hFa, hva⟩ := hq0
  refine g_loopD (σ := MI × PS × Int32 × Unit) (fun f (q : MI × PS × Int32 × Unit) => MT B len op seen q.1 q.2.1 ∧ Fr mtP I q.1 ∧ lpR B len opS (cProd B len one) f q.2.1 = cSum B len one s0 ∧ ((cSum B len one s0).2.1 = none → lpV B len opS (cProd B len one) (prodV B len one ov) f q.2.1 q.2.2.1 = sumV B len one ov s0) ∧ len < f + q.2.1.1 ∧ q.2.2.2 = ()) (fun f q => [some (.inr (.inr (some (40, 0)))), some (.inl q.2.2.1), none, none]) (fun f q => q.1) 121 (J0, (cProd B len one) s0, v0, ()) ⟨hMa, hFa, rfl, fun hF0 => by rw [hva ((hnice.loop (B := B) (op := opS) 121).run0 (hnice s0 h.2.2.2.1).2.1 hF0)]; rfl, by have := h.1.1; show len < 121 + _; omega, rfl⟩ ?_
  rintro f ⟨J, s, v, a⟩ hP ihD
  obtain ⟨hM, hF, hR, hV, hfu, hA⟩ := hP
  simp only at hM hF hR hV hfu hA ⊢
  have hl120 := hM.1.1
  cases f with
  | zero => exact absurd hfu (by have := hM.2.2.2.1; omega)
  | succ f =>
    by_cases hyes : (s.2.1 = none ∧ s.1 < len ∧ (B s.1 = 43 ∨ B s.1 = 45))
    · obtain ⟨hn, hl, hB | hB⟩ := hyes
      · have hb : bt B len s.1 = 43 := by unfold bt; rw [if_pos hl]; exact hB
        have eR : lpR B len opS (cProd B len one) (f + 1) s = lpR B len opS (cProd B len one) f (psMk 11 0 ((cProd B len one) (psAdv s))) := by rw [lpR, if_pos hl, hB]; rfl
        have eV : lpV B len opS (cProd B len one) (prodV B len one ov) (f + 1) s v = lpV B len opS (cProd B len one) (prodV B len one ov) f (psMk 11 0 ((cProd B len one) (psAdv s))) (joinI 11 v ((prodV B len one ov) (psAdv s))) := by rw [lpV, if_pos hl, hB]; rfl
        refine g_ald0 (pc' := 6) dX9_sums_5 rfl ?_
        refine g_getI (pc' := 9) mg.s40 (by decide) fX9_133 (hM.nf hn) dX9_sums_6 rfl ?_
        refine g_ifge (pc' := 12) (tgt := 77) dX9_sums_9 (by decide) rfl (fun h9 => (by first | exact absurd h9 (by decide : ¬ (0 : Int32) ≤ -1) | exact absurd (by decide : ¬ (0 : Int32) ≤ -1) h9)) (fun h9 => ?_)
        refine g_ald0 (pc' := 13) dX9_sums_12 rfl ?_
        refine g_callV (pc' := 16) (c_mByte l mg hM.1 (hM.2.2.2.2.1 hn).1 hM.2.2.2.1) mg.s40 (by decide) wX9_byteAt lX9_136 rfl rfl (Nat.le_of_ble_eq_true rfl) (rOk (by omega) (by decide)) ⟨Nat.le_of_ble_eq_true rfl, Nat.le_of_ble_eq_true rfl⟩ dX9_sums_13 rfl (kIp ?_)
        refine g_topi (v := nI 43) (by rw [hb]) ?_
        refine g_bipush (pc' := 18) (v := nI 43) dX9_sums_16 rfl (by decide) ?_
        refine g_icmpeqN (pc' := 21) (by omega) (by omega) (tgt := 30) dX9_sums_18 (by decide) rfl (fun h18 => ?_) (fun h18 => ?_)
        · refine g_ald0 (pc' := 31) dX9_sums_30 rfl ?_
          refine g_callV (pc' := 34) (c_mByte l mg hM.1 (hM.2.2.2.2.1 hn).1 hM.2.2.2.1) mg.s40 (by decide) wX9_byteAt lX9_136 rfl rfl (Nat.le_of_ble_eq_true rfl) (rOk (by omega) (by decide)) ⟨Nat.le_of_ble_eq_true rfl, Nat.le_of_ble_eq_true rfl⟩ dX9_sums_31 rfl (kIp ?_)
          refine g_topi (v := nI 43) (by rw [hb]) ?_
          refine g_bipush (pc' := 36) (v := nI 43) dX9_sums_34 rfl (by decide) ?_
          refine g_icmpneN (pc' := 39) (by omega) (by omega) (tgt := 43) dX9_sums_36 (by decide) rfl (fun h36 => ?_) (fun h36 => ?_)
          · exact absurd h36 (by omega)
          · refine g_iconst (pc' := 40) (v := nI 1) dX9_sums_39 rfl (by decide) ?_
            refine g_goto (tgt := 44) dX9_sums_40 (by decide) ?_
            refine g_ist2 (pc' := 45) rfl (by decide) dX9_sums_44 rfl ?_
            refine g_ald0 (pc' := 46) dX9_sums_45 rfl ?_
            refine g_dupR (pc' := 47) dX9_sums_46 rfl ?_
            refine g_getI (pc' := 50) mg.s40 (by decide) fX9_124 (v := nI (s.1)) ((hM.2.2.2.2.1 hn).1) dX9_sums_47 rfl ?_
            refine g_iconst (pc' := 51) (v := nI 1) dX9_sums_50 rfl (by decide) ?_
            refine g_iaddN (pc' := 52) dX9_sums_51 rfl ?_
            refine g_putI (pc' := 55) mg.s40 (by decide) ⟨fX9_124, rfl, pI⟩ dX9_sums_52 rfl ?_
            refine g_name (fun J1 hJ1 => ?_)
            have hM1 : MT B len op seen J1 (psAdv s) := by rw [hJ1]; exact hM.adv hn hl
            have hfA : Fr mtP J J1 := by rw [hJ1]; exact Fr.rf.up (by simp [mtP])
            refine g_ald0 (pc' := 56) dX9_sums_55 rfl ?_
            refine g_callV (pc' := 59) (hsubc J1 (psAdv s) hM1) mg.s40 (by decide) wX9_product lX9_152 rfl rfl (Nat.le_of_ble_eq_true rfl) (rOk (by omega) (by decide)) ⟨Nat.le_of_ble_eq_true rfl, Nat.le_of_ble_eq_true rfl⟩ dX9_sums_56 rfl (kI (fun x J2 hq2 => ?_))
            obtain ⟨hM2, hF2, hv2⟩ := hq2
            refine g_ist3 (pc' := 60) rfl (by decide) dX9_sums_59 rfl ?_
            refine g_ild2 (pc' := 61) dX9_sums_60 rfl ?_
            refine g_ifeqN (pc' := 64) (by omega) (tgt := 70) dX9_sums_61 (by decide) rfl (fun h61 => ?_) (fun h61 => ?_)
            · exact absurd h61 (by omega)
            · refine g_ild1 (pc' := 65) dX9_sums_64 rfl ?_
              refine g_ild3 (pc' := 66) dX9_sums_65 rfl ?_
              refine g_iadd (pc' := 67) dX9_sums_66 rfl ?_
              refine g_goto (tgt := 73) dX9_sums_67 (by decide) ?_
              refine g_ist1 (pc' := 74) rfl (by decide) dX9_sums_73 rfl ?_
              refine g_goto (tgt := 5) dX9_sums_74 (by decide) ?_
              have ej : joinI 11 v x = v + x := rfl
              refine G.lsub [some (.inr (.inr (some (40, 0)))), some (.inl (v + x)), none, none] (by intro j v; rcases j with _ | _ | _ | _ | j <;> simp) ?_
              refine ihD f (J2, psMk 11 0 ((cProd B len one) (psAdv s)), v + x, ()) (by omega) ⟨hM2.mk, hF.tr (hfA.tr hF2), by rw [← hR, eR], fun hF0 => ?_, by have h1 := (hnice (psAdv s) hl).1; have h2 : (psAdv s).1 = s.1 + 1 := rfl; show len < f + ((cProd B len one) (psAdv s)).1; omega, rfl⟩
              have hsub : ((cProd B len one) (psAdv s)).2.1 = none := (hnice.loop (B := B) (op := opS) f).run0 (s := psMk 11 0 ((cProd B len one) (psAdv s))) (hnice (psAdv s) hl).2.1 (by rw [← eR, hR]; exact hF0)
              rw [← hV hF0, eV, ← hv2 hsub, ej]
        · exact absurd h18 (by omega)
      · have hb : bt B len s.1 = 45 := by unfold bt; rw [if_pos hl]; exact hB
        have eR : lpR B len opS (cProd B len one) (f + 1) s = lpR B len opS (cProd B len one) f (psMk 12 0 ((cProd B len one) (psAdv s))) := by rw [lpR, if_pos hl, hB]; rfl
        have eV : lpV B len opS (cProd B len one) (prodV B len one ov) (f + 1) s v = lpV B len opS (cProd B len one) (prodV B len one ov) f (psMk 12 0 ((cProd B len one) (psAdv s))) (joinI 12 v ((prodV B len one ov) (psAdv s))) := by rw [lpV, if_pos hl, hB]; rfl
        refine g_ald0 (pc' := 6) dX9_sums_5 rfl ?_
        refine g_getI (pc' := 9) mg.s40 (by decide) fX9_133 (hM.nf hn) dX9_sums_6 rfl ?_
        refine g_ifge (pc' := 12) (tgt := 77) dX9_sums_9 (by decide) rfl (fun h9 => (by first | exact absurd h9 (by decide : ¬ (0 : Int32) ≤ -1) | exact absurd (by decide : ¬ (0 : Int32) ≤ -1) h9)) (fun h9 => ?_)
        refine g_ald0 (pc' := 13) dX9_sums_12 rfl ?_
        refine g_callV (pc' := 16) (c_mByte l mg hM.1 (hM.2.2.2.2.1 hn).1 hM.2.2.2.1) mg.s40 (by decide) wX9_byteAt lX9_136 rfl rfl (Nat.le_of_ble_eq_true rfl) (rOk (by omega) (by decide)) ⟨Nat.le_of_ble_eq_true rfl, Nat.le_of_ble_eq_true rfl⟩ dX9_sums_13 rfl (kIp ?_)
        refine g_topi (v := nI 45) (by rw [hb]) ?_
        refine g_bipush (pc' := 18) (v := nI 43) dX9_sums_16 rfl (by decide) ?_
        refine g_icmpeqN (pc' := 21) (by omega) (by omega) (tgt := 30) dX9_sums_18 (by decide) rfl (fun h18 => ?_) (fun h18 => ?_)
        · exact absurd h18 (by omega)
        · refine g_ald0 (pc' := 22) dX9_sums_21 rfl ?_
          refine g_callV (pc' := 25) (c_mByte l mg hM.1 (hM.2.2.2.2.1 hn).1 hM.2.2.2.1) mg.s40 (by decide) wX9_byteAt lX9_136 rfl rfl (Nat.le_of_ble_eq_true rfl) (rOk (by omega) (by decide)) ⟨Nat.le_of_ble_eq_true rfl, Nat.le_of_ble_eq_true rfl⟩ dX9_sums_22 rfl (kIp ?_)
          refine g_topi (v := nI 45) (by rw [hb]) ?_
          refine g_bipush (pc' := 27) (v := nI 45) dX9_sums_25 rfl (by decide) ?_
          refine g_icmpneN (pc' := 30) (by omega) (by omega) (tgt := 77) dX9_sums_27 (by decide) rfl (fun h27 => ?_) (fun h27 => ?_)
          · exact absurd h27 (by omega)
          · refine g_ald0 (pc' := 31) dX9_sums_30 rfl ?_
            refine g_callV (pc' := 34) (c_mByte l mg hM.1 (hM.2.2.2.2.1 hn).1 hM.2.2.2.1) mg.s40 (by decide) wX9_byteAt lX9_136 rfl rfl (Nat.le_of_ble_eq_true rfl) (rOk (by omega) (by decide)) ⟨Nat.le_of_ble_eq_true rfl, Nat.le_of_ble_eq_true rfl⟩ dX9_sums_31 rfl (kIp ?_)
            refine g_topi (v := nI 45) (by rw [hb]) ?_
            refine g_bipush (pc' := 36) (v := nI 43) dX9_sums_34 rfl (by decide) ?_
            refine g_icmpneN (pc' := 39) (by omega) (by omega) (tgt := 43) dX9_sums_36 (by decide) rfl (fun h36 => ?_) (fun h36 => ?_)
            · refine g_iconst (pc' := 44) (v := nI 0) dX9_sums_43 rfl (by decide) ?_
              refine g_ist2 (pc' := 45) rfl (by decide) dX9_sums_44 rfl ?_
              refine g_ald0 (pc' := 46) dX9_sums_45 rfl ?_
              refine g_dupR (pc' := 47) dX9_sums_46 rfl ?_
              refine g_getI (pc' := 50) mg.s40 (by decide) fX9_124 (v := nI (s.1)) ((hM.2.2.2.2.1 hn).1) dX9_sums_47 rfl ?_
              refine g_iconst (pc' := 51) (v := nI 1) dX9_sums_50 rfl (by decide) ?_
              refine g_iaddN (pc' := 52) dX9_sums_51 rfl ?_
              refine g_putI (pc' := 55) mg.s40 (by decide) ⟨fX9_124, rfl, pI⟩ dX9_sums_52 rfl ?_
              refine g_name (fun J1 hJ1 => ?_)
              have hM1 : MT B len op seen J1 (psAdv s) := by rw [hJ1]; exact hM.adv hn hl
              have hfA : Fr mtP J J1 := by rw [hJ1]; exact Fr.rf.up (by simp [mtP])
              refine g_ald0 (pc' := 56) dX9_sums_55 rfl ?_
              refine g_callV (pc' := 59) (hsubc J1 (psAdv s) hM1) mg.s40 (by decide) wX9_product lX9_152 rfl rfl (Nat.le_of_ble_eq_true rfl) (rOk (by omega) (by decide)) ⟨Nat.le_of_ble_eq_true rfl, Nat.le_of_ble_eq_true rfl⟩ dX9_sums_56 rfl (kI (fun x J2 hq2 => ?_))
              obtain ⟨hM2, hF2, hv2⟩ := hq2
              refine g_ist3 (pc' := 60) rfl (by decide) dX9_sums_59 rfl ?_
              refine g_ild2 (pc' := 61) dX9_sums_60 rfl ?_
              refine g_ifeqN (pc' := 64) (by omega) (tgt := 70) dX9_sums_61 (by decide) rfl (fun h61 => ?_) (fun h61 => ?_)
              · refine g_ild1 (pc' := 71) dX9_sums_70 rfl ?_
                refine g_ild3 (pc' := 72) dX9_sums_71 rfl ?_
                refine g_isub (pc' := 73) dX9_sums_72 rfl ?_
                refine g_ist1 (pc' := 74) rfl (by decide) dX9_sums_73 rfl ?_
                refine g_goto (tgt := 5) dX9_sums_74 (by decide) ?_
                have ej : joinI 12 v x = v - x := rfl
                refine G.lsub [some (.inr (.inr (some (40, 0)))), some (.inl (v - x)), none, none] (by intro j v; rcases j with _ | _ | _ | _ | j <;> simp) ?_
                refine ihD f (J2, psMk 12 0 ((cProd B len one) (psAdv s)), v - x, ()) (by omega) ⟨hM2.mk, hF.tr (hfA.tr hF2), by rw [← hR, eR], fun hF0 => ?_, by have h1 := (hnice (psAdv s) hl).1; have h2 : (psAdv s).1 = s.1 + 1 := rfl; show len < f + ((cProd B len one) (psAdv s)).1; omega, rfl⟩
                have hsub : ((cProd B len one) (psAdv s)).2.1 = none := (hnice.loop (B := B) (op := opS) f).run0 (s := psMk 12 0 ((cProd B len one) (psAdv s))) (hnice (psAdv s) hl).2.1 (by rw [← eR, hR]; exact hF0)
                rw [← hV hF0, eV, ← hv2 hsub, ej]
              · exact absurd h61 (by omega)
            · exact absurd h36 (by omega)
    · have eR : lpR B len opS (cProd B len one) (f + 1) s = s ∧ lpV B len opS (cProd B len one) (prodV B len one ov) (f + 1) s v = v := by
        rw [lpR, lpV]
        by_cases hl : s.1 < len
        · have ho : opS (B s.1) = none := by
            by_cases hn : s.2.1 = none
            · unfold opS
              rw [if_neg (fun e => hyes ⟨hn, hl, Or.inl e⟩), if_neg (fun e => hyes ⟨hn, hl, Or.inr e⟩)]
            · have := (hM.2.2.2.2.2 hn).1; omega
          rw [if_pos hl, if_pos hl, ho]
          exact ⟨rfl, rfl⟩
        · rw [if_neg hl, if_neg hl]
          exact ⟨rfl, rfl⟩
      by_cases hn : s.2.1 = none
      · have hk : True := trivial
        refine g_ald0 (pc' := 6) dX9_sums_5 rfl ?_
        refine g_getI (pc' := 9) mg.s40 (by decide) fX9_133 (hM.nf hn) dX9_sums_6 rfl ?_
        refine g_ifge (pc' := 12) (tgt := 77) dX9_sums_9 (by decide) rfl (fun h9 => (by first | exact absurd h9 (by decide : ¬ (0 : Int32) ≤ -1) | exact absurd (by decide : ¬ (0 : Int32) ≤ -1) h9)) (fun h9 => ?_)
        have hb2 := bt_lt (a := s.1) hM.1.2.1
        refine g_ald0 (pc' := 13) dX9_sums_12 rfl ?_
        refine g_callV (pc' := 16) (c_mByte l mg hM.1 (hM.2.2.2.2.1 hn).1 hM.2.2.2.1) mg.s40 (by decide) wX9_byteAt lX9_136 rfl rfl (Nat.le_of_ble_eq_true rfl) (rOk (by omega) (by decide)) ⟨Nat.le_of_ble_eq_true rfl, Nat.le_of_ble_eq_true rfl⟩ dX9_sums_13 rfl (kIp ?_)
        refine g_bipush (pc' := 18) (v := nI 43) dX9_sums_16 rfl (by decide) ?_
        refine g_icmpeqN (pc' := 21) (by omega) (by omega) (tgt := 30) dX9_sums_18 (by decide) rfl (fun h18 => ?_) (fun h18 => ?_)
        · exact absurd (bt_in h18 (by decide)) (fun q => hyes ⟨hn, q.1, Or.inl q.2⟩)
        · refine g_ald0 (pc' := 22) dX9_sums_21 rfl ?_
          refine g_callV (pc' := 25) (c_mByte l mg hM.1 (hM.2.2.2.2.1 hn).1 hM.2.2.2.1) mg.s40 (by decide) wX9_byteAt lX9_136 rfl rfl (Nat.le_of_ble_eq_true rfl) (rOk (by omega) (by decide)) ⟨Nat.le_of_ble_eq_true rfl, Nat.le_of_ble_eq_true rfl⟩ dX9_sums_22 rfl (kIp ?_)
          refine g_bipush (pc' := 27) (v := nI 45) dX9_sums_25 rfl (by decide) ?_
          refine g_icmpneN (pc' := 30) (by omega) (by omega) (tgt := 77) dX9_sums_27 (by decide) rfl (fun h27 => ?_) (fun h27 => ?_)
          · refine g_ild1 (pc' := 78) dX9_sums_77 rfl ?_
            refine g_iret rfl dX9_sums_78 ?_
            exact eI ⟨by rw [← hR, eR.1]; exact hM, hF, fun hF0 => by rw [← hV hF0, eR.2]⟩
          · exact absurd (bt_in h27 (by decide)) (fun q => hyes ⟨hn, q.1, Or.inr q.2⟩)
      · obtain ⟨p, hp, h15, hsp, hsl⟩ := hM.sf hn
        refine g_ald0 (pc' := 6) dX9_sums_5 rfl ?_
        refine g_getI (pc' := 9) mg.s40 (by decide) fX9_133 h15 dX9_sums_6 rfl ?_
        refine g_ifgeN (by omega) (tgt := 77) dX9_sums_9 (by decide) ?_
        refine g_ild1 (pc' := 78) dX9_sums_77 rfl ?_
        refine g_iret rfl dX9_sums_78 ?_
        exact eI ⟨by rw [← hR, eR.1]; exact hM, hF, fun hF0 => by rw [← hV hF0, eR.2]⟩

theorem vz_product {l : Launch} {S : Shp} {L : ML} {R : MR} (mg : MG S R) {B : Nat → Nat} {len dp op : Nat} {seen : Nat → Int32} {one : PS → PS} {ov : PS → Int32} (hn1 : Nice len one) (hsubc : Vz l S L R B len seen mX9_one dp op one ov) (hdp : 3 ≤ dp) : Vz l S L R B len seen mX9_product (dp + 1) op (cProd B len one) (prodV B len one ov) := by
  intro I s0 h
  have hnice : Nice len one := hn1
  refine Ct.of [some (.inr (.inr (some (40, 0)))), none, none, none] (by decide) rfl (Nat.le_of_ble_eq_true rfl) ?_
  refine g_ald0 (pc' := 1) dX9_product_0 rfl ?_
  refine g_callV (pc' := 4) (hsubc I s0 h) mg.s40 (by decide) wX9_one lX9_155 rfl rfl (Nat.le_of_ble_eq_true rfl) (rOk (by omega) (by decide)) ⟨Nat.le_of_ble_eq_true rfl, Nat.le_of_ble_eq_true rfl⟩ dX9_product_1 rfl (kI (fun v0 J0 hq0 => ?_))
  obtain ⟨hMa, hFa, hva⟩ := hq0
  obtain ⟨a0, ha0, hia0, has0⟩ := hMa.at
  refine g_ist1 (pc' := 5) rfl (by decide) dX9_product_4 rfl ?_
  refine g_ald0 (pc' := 6) dX9_product_5 rfl ?_
  refine g_callV (pc' := 9) (c_mByte l mg hMa.1 hia0 ha0) mg.s40 (by decide) wX9_byteAt lX9_136 rfl rfl (Nat.le_of_ble_eq_true rfl) (rOk (by omega) (by decide)) ⟨Nat.le_of_ble_eq_true rfl, Nat.le_of_ble_eq_true rfl⟩ dX9_product_6 rfl (kIp ?_)
  refine g_ist2 (pc' := 10) rfl (by decide) dX9_product_9 rfl ?_
  refine g_loopD (σ := MI × PS × Int32 × Nat) (fun f (q : MI × PS × Int32 × Nat) => MT B len op seen q.1 q.2.1 ∧ Fr mtP I q.1 ∧ lpR B len opP one f q.2.1 = cProd B len one s0 ∧ ((cProd B len one s0).2.1 = none → lpV B len opP one ov f q.2.1 q.2.2.1 = prodV B len one ov s0) ∧ len < f + q.2.1.1 ∧ q.2.2.2 ≤ len ∧ q.1 (40, 0) 13 = nI q.2.2.2 ∧ (q.2.1.2.1 = none → q.2.2.2 = q.2.1.1)) (fun f q => [some (.inr (.inr (some (40, 0)))), some (.inl q.2.2.1), some (.inl (nI (bt B len q.2.2.2))), none]) (fun f q => q.1) 121 (J0, one s0, v0, a0) ⟨hMa, hFa, rfl, fun hF0 => by rw [hva ((hnice.loop (B := B) (op := opP) 121).run0 (hnice s0 h.2.2.2.1).2.1 hF0)]; rfl, by have := h.1.1; show len < 121 + _; omega, ha0, hia0, has0⟩ ?_
  rintro f ⟨J, s, v, a⟩ hP ihD
  obtain ⟨hM, hF, hR, hV, hfu, hA⟩ := hP
  simp only at hM hF hR hV hfu hA ⊢
  have hl120 := hM.1.1
  cases f with
  | zero => exact absurd hfu (by have := hM.2.2.2.1; omega)
  | succ f =>
    by_cases hyes : (s.2.1 = none ∧ s.1 < len ∧ (B s.1 = 42 ∨ B s.1 = 47 ∨ B s.1 = 37))
    · obtain ⟨hn, hl, hB | hB | hB⟩ := hyes
      · have hb : bt B len s.1 = 42 := by unfold bt; rw [if_pos hl]; exact hB
        have eR : lpR B len opP one (f + 1) s = lpR B len opP one f (psMk 13 0 (one (psAdv s))) := by rw [lpR, if_pos hl, hB]; rfl
        have eV : lpV B len opP one ov (f + 1) s v = lpV B len opP one ov f (psMk 13 0 (one (psAdv s))) (joinI 13 v (ov (psAdv s))) := by rw [lpV, if_pos hl, hB]; rfl
        rw [hA.2.2 hn, hb]
        refine g_ald0 (pc' := 11) dX9_product_10 rfl ?_
        refine g_getI (pc' := 14) mg.s40 (by decide) fX9_133 (hM.nf hn) dX9_product_11 rfl ?_
        refine g_ifge (pc' := 17) (tgt := 94) dX9_product_14 (by decide) rfl (fun h14 => (by first | exact absurd h14 (by decide : ¬ (0 : Int32) ≤ -1) | exact absurd (by decide : ¬ (0 : Int32) ≤ -1) h14)) (fun h14 => ?_)
        refine g_ild2 (pc' := 18) dX9_product_17 rfl ?_
        refine g_bipush (pc' := 20) (v := nI 42) dX9_product_18 rfl (by decide) ?_
        refine g_icmpeqN (pc' := 23) (by omega) (by omega) (tgt := 35) dX9_product_20 (by decide) rfl (fun h20 => ?_) (fun h20 => ?_)
        · refine g_ald0 (pc' := 36) dX9_product_35 rfl ?_
          refine g_dupR (pc' := 37) dX9_product_36 rfl ?_
          refine g_getI (pc' := 40) mg.s40 (by decide) fX9_124 (v := nI (s.1)) ((hM.2.2.2.2.1 hn).1) dX9_product_37 rfl ?_
          refine g_iconst (pc' := 41) (v := nI 1) dX9_product_40 rfl (by decide) ?_
          refine g_iaddN (pc' := 42) dX9_product_41 rfl ?_
          refine g_putI (pc' := 45) mg.s40 (by decide) ⟨fX9_124, rfl, pI⟩ dX9_product_42 rfl ?_
          refine g_name (fun J1 hJ1 => ?_)
          have hM1 : MT B len op seen J1 (psAdv s) := by rw [hJ1]; exact hM.adv hn hl
          have hfA : Fr mtP J J1 := by rw [hJ1]; exact Fr.rf.up (by simp [mtP])
          refine g_ald0 (pc' := 46) dX9_product_45 rfl ?_
          refine g_callV (pc' := 49) (hsubc J1 (psAdv s) hM1) mg.s40 (by decide) wX9_one lX9_155 rfl rfl (Nat.le_of_ble_eq_true rfl) (rOk (by omega) (by decide)) ⟨Nat.le_of_ble_eq_true rfl, Nat.le_of_ble_eq_true rfl⟩ dX9_product_46 rfl (kI (fun x J2 hq2 => ?_))
          obtain ⟨hM2, hF2, hv2⟩ := hq2
          obtain ⟨a2, ha2, hia2, has2⟩ := hM2.at
          refine g_ist3 (pc' := 50) rfl (by decide) dX9_product_49 rfl ?_
          refine g_ild2 (pc' := 51) dX9_product_50 rfl ?_
          refine g_bipush (pc' := 53) (v := nI 42) dX9_product_51 rfl (by decide) ?_
          refine g_icmpneN (pc' := 56) (by omega) (by omega) (tgt := 62) dX9_product_53 (by decide) rfl (fun h53 => ?_) (fun h53 => ?_)
          · exact absurd h53 (by omega)
          · refine g_ild1 (pc' := 57) dX9_product_56 rfl ?_
            refine g_ild3 (pc' := 58) dX9_product_57 rfl ?_
            refine g_imul (pc' := 59) dX9_product_58 rfl ?_
            refine g_goto (tgt := 85) dX9_product_59 (by decide) ?_
            refine g_ist1 (pc' := 86) rfl (by decide) dX9_product_85 rfl ?_
            refine g_ald0 (pc' := 87) dX9_product_86 rfl ?_
            refine g_callV (pc' := 90) (c_mByte l mg hM2.1 hia2 ha2) mg.s40 (by decide) wX9_byteAt lX9_136 rfl rfl (Nat.le_of_ble_eq_true rfl) (rOk (by omega) (by decide)) ⟨Nat.le_of_ble_eq_true rfl, Nat.le_of_ble_eq_true rfl⟩ dX9_product_87 rfl (kIp ?_)
            refine g_ist2 (pc' := 91) rfl (by decide) dX9_product_90 rfl ?_
            refine g_goto (tgt := 10) dX9_product_91 (by decide) ?_
            have ej : joinI 13 v x = v * x := rfl
            refine G.lsub [some (.inr (.inr (some (40, 0)))), some (.inl (v * x)), some (.inl (nI (bt B len a2))), none] (by intro j v; rcases j with _ | _ | _ | _ | j <;> simp) ?_
            refine ihD f (J2, psMk 13 0 (one (psAdv s)), v * x, a2) (by omega) ⟨hM2.mk, hF.tr (hfA.tr hF2), by rw [← hR, eR], fun hF0 => ?_, by have h1 := (hnice (psAdv s) hl).1; have h2 : (psAdv s).1 = s.1 + 1 := rfl; show len < f + (one (psAdv s)).1; omega, ha2, hia2, has2⟩
            have hsub : (one (psAdv s)).2.1 = none := (hnice.loop (B := B) (op := opP) f).run0 (s := psMk 13 0 (one (psAdv s))) (hnice (psAdv s) hl).2.1 (by rw [← eR, hR]; exact hF0)
            rw [← hV hF0, eV, ← hv2 hsub, ej]
        · exact absurd h20 (by omega)
      · have hb : bt B len s.1 = 47 := by unfold bt; rw [if_pos hl]; exact hB
        have eR : lpR B len opP one (f + 1) s = lpR B len opP one f (psMk 14 0 (one (psAdv s))) := by rw [lpR, if_pos hl, hB]; rfl
        have eV : lpV B len opP one ov (f + 1) s v = lpV B len opP one ov f (psMk 14 0 (one (psAdv s))) (joinI 14 v (ov (psAdv s))) := by rw [lpV, if_pos hl, hB]; rfl
        rw [hA.2.2 hn, hb]
        refine g_ald0 (pc' := 11) dX9_product_10 rfl ?_
        refine g_getI (pc' := 14) mg.s40 (by decide) fX9_133 (hM.nf hn) dX9_product_11 rfl ?_
        refine g_ifge (pc' := 17) (tgt := 94) dX9_product_14 (by decide) rfl (fun h14 => (by first | exact absurd h14 (by decide : ¬ (0 : Int32) ≤ -1) | exact absurd (by decide : ¬ (0 : Int32) ≤ -1) h14)) (fun h14 => ?_)
        refine g_ild2 (pc' := 18) dX9_product_17 rfl ?_
        refine g_bipush (pc' := 20) (v := nI 42) dX9_product_18 rfl (by decide) ?_
        refine g_icmpeqN (pc' := 23) (by omega) (by omega) (tgt := 35) dX9_product_20 (by decide) rfl (fun h20 => ?_) (fun h20 => ?_)
        · exact absurd h20 (by omega)
        · refine g_ild2 (pc' := 24) dX9_product_23 rfl ?_
          refine g_bipush (pc' := 26) (v := nI 47) dX9_product_24 rfl (by decide) ?_
          refine g_icmpeqN (pc' := 29) (by omega) (by omega) (tgt := 35) dX9_product_26 (by decide) rfl (fun h26 => ?_) (fun h26 => ?_)
          · refine g_ald0 (pc' := 36) dX9_product_35 rfl ?_
            refine g_dupR (pc' := 37) dX9_product_36 rfl ?_
            refine g_getI (pc' := 40) mg.s40 (by decide) fX9_124 (v := nI (s.1)) ((hM.2.2.2.2.1 hn).1) dX9_product_37 rfl ?_
            refine g_iconst (pc' := 41) (v := nI 1) dX9_product_40 rfl (by decide) ?_
            refine g_iaddN (pc' := 42) dX9_product_41 rfl ?_
            refine g_putI (pc' := 45) mg.s40 (by decide) ⟨fX9_124, rfl, pI⟩ dX9_product_42 rfl ?_
            refine g_name (fun J1 hJ1 => ?_)
            have hM1 : MT B len op seen J1 (psAdv s) := by rw [hJ1]; exact hM.adv hn hl
            have hfA : Fr mtP J J1 := by rw [hJ1]; exact Fr.rf.up (by simp [mtP])
            refine g_ald0 (pc' := 46) dX9_product_45 rfl ?_
            refine g_callV (pc' := 49) (hsubc J1 (psAdv s) hM1) mg.s40 (by decide) wX9_one lX9_155 rfl rfl (Nat.le_of_ble_eq_true rfl) (rOk (by omega) (by decide)) ⟨Nat.le_of_ble_eq_true rfl, Nat.le_of_ble_eq_true rfl⟩ dX9_product_46 rfl (kI (fun x J2 hq2 => ?_))
            obtain ⟨hM2, hF2, hv2⟩ := hq2
            obtain ⟨a2, ha2, hia2, has2⟩ := hM2.at
            refine g_ist3 (pc' := 50) rfl (by decide) dX9_product_49 rfl ?_
            refine g_ild2 (pc' := 51) dX9_product_50 rfl ?_
            refine g_bipush (pc' := 53) (v := nI 42) dX9_product_51 rfl (by decide) ?_
            refine g_icmpneN (pc' := 56) (by omega) (by omega) (tgt := 62) dX9_product_53 (by decide) rfl (fun h53 => ?_) (fun h53 => ?_)
            · refine g_ild3 (pc' := 63) dX9_product_62 rfl ?_
              refine g_ifne (pc' := 66) (tgt := 70) dX9_product_63 (by decide) rfl (fun h63 => ?_) (fun h63 => ?_)
              · refine g_ild2 (pc' := 71) dX9_product_70 rfl ?_
                refine g_bipush (pc' := 73) (v := nI 47) dX9_product_71 rfl (by decide) ?_
                refine g_icmpneN (pc' := 76) (by omega) (by omega) (tgt := 82) dX9_product_73 (by decide) rfl (fun h73 => ?_) (fun h73 => ?_)
                · exact absurd h73 (by omega)
                · refine g_ild1 (pc' := 77) dX9_product_76 rfl ?_
                  refine g_ild3 (pc' := 78) dX9_product_77 rfl ?_
                  refine g_idiv (pc' := 79) dX9_product_78 rfl (by assumption) ?_
                  refine g_goto (tgt := 85) dX9_product_79 (by decide) ?_
                  refine g_ist1 (pc' := 86) rfl (by decide) dX9_product_85 rfl ?_
                  refine g_ald0 (pc' := 87) dX9_product_86 rfl ?_
                  refine g_callV (pc' := 90) (c_mByte l mg hM2.1 hia2 ha2) mg.s40 (by decide) wX9_byteAt lX9_136 rfl rfl (Nat.le_of_ble_eq_true rfl) (rOk (by omega) (by decide)) ⟨Nat.le_of_ble_eq_true rfl, Nat.le_of_ble_eq_true rfl⟩ dX9_product_87 rfl (kIp ?_)
                  refine g_ist2 (pc' := 91) rfl (by decide) dX9_product_90 rfl ?_
                  refine g_goto (tgt := 10) dX9_product_91 (by decide) ?_
                  have ej : joinI 14 v x = v / x := by show (if x = 0 then nI 0 else _) = _; first | rw [if_pos (by assumption)] | rw [if_neg (by assumption)]
                  refine G.lsub [some (.inr (.inr (some (40, 0)))), some (.inl (v / x)), some (.inl (nI (bt B len a2))), none] (by intro j v; rcases j with _ | _ | _ | _ | j <;> simp) ?_
                  refine ihD f (J2, psMk 14 0 (one (psAdv s)), v / x, a2) (by omega) ⟨hM2.mk, hF.tr (hfA.tr hF2), by rw [← hR, eR], fun hF0 => ?_, by have h1 := (hnice (psAdv s) hl).1; have h2 : (psAdv s).1 = s.1 + 1 := rfl; show len < f + (one (psAdv s)).1; omega, ha2, hia2, has2⟩
                  have hsub : (one (psAdv s)).2.1 = none := (hnice.loop (B := B) (op := opP) f).run0 (s := psMk 14 0 (one (psAdv s))) (hnice (psAdv s) hl).2.1 (by rw [← eR, hR]; exact hF0)
                  rw [← hV hF0, eV, ← hv2 hsub, ej]
              · refine g_iconst (pc' := 67) (v := nI 0) dX9_product_66 rfl (by decide) ?_
                refine g_goto (tgt := 85) dX9_product_67 (by decide) ?_
                refine g_ist1 (pc' := 86) rfl (by decide) dX9_product_85 rfl ?_
                refine g_ald0 (pc' := 87) dX9_product_86 rfl ?_
                refine g_callV (pc' := 90) (c_mByte l mg hM2.1 hia2 ha2) mg.s40 (by decide) wX9_byteAt lX9_136 rfl rfl (Nat.le_of_ble_eq_true rfl) (rOk (by omega) (by decide)) ⟨Nat.le_of_ble_eq_true rfl, Nat.le_of_ble_eq_true rfl⟩ dX9_product_87 rfl (kIp ?_)
                refine g_ist2 (pc' := 91) rfl (by decide) dX9_product_90 rfl ?_
                refine g_goto (tgt := 10) dX9_product_91 (by decide) ?_
                have ej : joinI 14 v x = nI 0 := by show (if x = 0 then nI 0 else _) = _; first | rw [if_pos (by assumption)] | rw [if_neg (by assumption)]
                refine G.lsub [some (.inr (.inr (some (40, 0)))), some (.inl (nI 0)), some (.inl (nI (bt B len a2))), none] (by intro j v; rcases j with _ | _ | _ | _ | j <;> simp) ?_
                refine ihD f (J2, psMk 14 0 (one (psAdv s)), nI 0, a2) (by omega) ⟨hM2.mk, hF.tr (hfA.tr hF2), by rw [← hR, eR], fun hF0 => ?_, by have h1 := (hnice (psAdv s) hl).1; have h2 : (psAdv s).1 = s.1 + 1 := rfl; show len < f + (one (psAdv s)).1; omega, ha2, hia2, has2⟩
                have hsub : (one (psAdv s)).2.1 = none := (hnice.loop (B := B) (op := opP) f).run0 (s := psMk 14 0 (one (psAdv s))) (hnice (psAdv s) hl).2.1 (by rw [← eR, hR]; exact hF0)
                rw [← hV hF0, eV, ← hv2 hsub, ej]
            · exact absurd h53 (by omega)
          · exact absurd h26 (by omega)
      · have hb : bt B len s.1 = 37 := by unfold bt; rw [if_pos hl]; exact hB
        have eR : lpR B len opP one (f + 1) s = lpR B len opP one f (psMk 15 0 (one (psAdv s))) := by rw [lpR, if_pos hl, hB]; rfl
        have eV : lpV B len opP one ov (f + 1) s v = lpV B len opP one ov f (psMk 15 0 (one (psAdv s))) (joinI 15 v (ov (psAdv s))) := by rw [lpV, if_pos hl, hB]; rfl
        rw [hA.2.2 hn, hb]
        refine g_ald0 (pc' := 11) dX9_product_10 rfl ?_
        refine g_getI (pc' := 14) mg.s40 (by decide) fX9_133 (hM.nf hn) dX9_product_11 rfl ?_
        refine g_ifge (pc' := 17) (tgt := 94) dX9_product_14 (by decide) rfl (fun h14 => (by first | exact absurd h14 (by decide : ¬ (0 : Int32) ≤ -1) | exact absurd (by decide : ¬ (0 : Int32) ≤ -1) h14)) (fun h14 => ?_)
        refine g_ild2 (pc' := 18) dX9_product_17 rfl ?_
        refine g_bipush (pc' := 20) (v := nI 42) dX9_product_18 rfl (by decide) ?_
        refine g_icmpeqN (pc' := 23) (by omega) (by omega) (tgt := 35) dX9_product_20 (by decide) rfl (fun h20 => ?_) (fun h20 => ?_)
        · exact absurd h20 (by omega)
        · refine g_ild2 (pc' := 24) dX9_product_23 rfl ?_
          refine g_bipush (pc' := 26) (v := nI 47) dX9_product_24 rfl (by decide) ?_
          refine g_icmpeqN (pc' := 29) (by omega) (by omega) (tgt := 35) dX9_product_26 (by decide) rfl (fun h26 => ?_) (fun h26 => ?_)
          · exact absurd h26 (by omega)
          · refine g_ild2 (pc' := 30) dX9_product_29 rfl ?_
            refine g_bipush (pc' := 32) (v := nI 37) dX9_product_30 rfl (by decide) ?_
            refine g_icmpneN (pc' := 35) (by omega) (by omega) (tgt := 94) dX9_product_32 (by decide) rfl (fun h32 => ?_) (fun h32 => ?_)
            · exact absurd h32 (by omega)
            · refine g_ald0 (pc' := 36) dX9_product_35 rfl ?_
              refine g_dupR (pc' := 37) dX9_product_36 rfl ?_
              refine g_getI (pc' := 40) mg.s40 (by decide) fX9_124 (v := nI (s.1)) ((hM.2.2.2.2.1 hn).1) dX9_product_37 rfl ?_
              refine g_iconst (pc' := 41) (v := nI 1) dX9_product_40 rfl (by decide) ?_
              refine g_iaddN (pc' := 42) dX9_product_41 rfl ?_
              refine g_putI (pc' := 45) mg.s40 (by decide) ⟨fX9_124, rfl, pI⟩ dX9_product_42 rfl ?_
              refine g_name (fun J1 hJ1 => ?_)
              have hM1 : MT B len op seen J1 (psAdv s) := by rw [hJ1]; exact hM.adv hn hl
              have hfA : Fr mtP J J1 := by rw [hJ1]; exact Fr.rf.up (by simp [mtP])
              refine g_ald0 (pc' := 46) dX9_product_45 rfl ?_
              refine g_callV (pc' := 49) (hsubc J1 (psAdv s) hM1) mg.s40 (by decide) wX9_one lX9_155 rfl rfl (Nat.le_of_ble_eq_true rfl) (rOk (by omega) (by decide)) ⟨Nat.le_of_ble_eq_true rfl, Nat.le_of_ble_eq_true rfl⟩ dX9_product_46 rfl (kI (fun x J2 hq2 => ?_))
              obtain ⟨hM2, hF2, hv2⟩ := hq2
              obtain ⟨a2, ha2, hia2, has2⟩ := hM2.at
              refine g_ist3 (pc' := 50) rfl (by decide) dX9_product_49 rfl ?_
              refine g_ild2 (pc' := 51) dX9_product_50 rfl ?_
              refine g_bipush (pc' := 53) (v := nI 42) dX9_product_51 rfl (by decide) ?_
              refine g_icmpneN (pc' := 56) (by omega) (by omega) (tgt := 62) dX9_product_53 (by decide) rfl (fun h53 => ?_) (fun h53 => ?_)
              · refine g_ild3 (pc' := 63) dX9_product_62 rfl ?_
                refine g_ifne (pc' := 66) (tgt := 70) dX9_product_63 (by decide) rfl (fun h63 => ?_) (fun h63 => ?_)
                · refine g_ild2 (pc' := 71) dX9_product_70 rfl ?_
                  refine g_bipush (pc' := 73) (v := nI 47) dX9_product_71 rfl (by decide) ?_
                  refine g_icmpneN (pc' := 76) (by omega) (by omega) (tgt := 82) dX9_product_73 (by decide) rfl (fun h73 => ?_) (fun h73 => ?_)
                  · refine g_ild1 (pc' := 83) dX9_product_82 rfl ?_
                    refine g_ild3 (pc' := 84) dX9_product_83 rfl ?_
                    refine g_irem (pc' := 85) dX9_product_84 rfl (by assumption) ?_
                    refine g_ist1 (pc' := 86) rfl (by decide) dX9_product_85 rfl ?_
                    refine g_ald0 (pc' := 87) dX9_product_86 rfl ?_
                    refine g_callV (pc' := 90) (c_mByte l mg hM2.1 hia2 ha2) mg.s40 (by decide) wX9_byteAt lX9_136 rfl rfl (Nat.le_of_ble_eq_true rfl) (rOk (by omega) (by decide)) ⟨Nat.le_of_ble_eq_true rfl, Nat.le_of_ble_eq_true rfl⟩ dX9_product_87 rfl (kIp ?_)
                    refine g_ist2 (pc' := 91) rfl (by decide) dX9_product_90 rfl ?_
                    refine g_goto (tgt := 10) dX9_product_91 (by decide) ?_
                    have ej : joinI 15 v x = v - v / x * x := by show (if x = 0 then nI 0 else _) = _; first | rw [if_pos (by assumption)] | rw [if_neg (by assumption)]
                    refine G.lsub [some (.inr (.inr (some (40, 0)))), some (.inl (v - v / x * x)), some (.inl (nI (bt B len a2))), none] (by intro j v; rcases j with _ | _ | _ | _ | j <;> simp) ?_
                    refine ihD f (J2, psMk 15 0 (one (psAdv s)), v - v / x * x, a2) (by omega) ⟨hM2.mk, hF.tr (hfA.tr hF2), by rw [← hR, eR], fun hF0 => ?_, by have h1 := (hnice (psAdv s) hl).1; have h2 : (psAdv s).1 = s.1 + 1 := rfl; show len < f + (one (psAdv s)).1; omega, ha2, hia2, has2⟩
                    have hsub : (one (psAdv s)).2.1 = none := (hnice.loop (B := B) (op := opP) f).run0 (s := psMk 15 0 (one (psAdv s))) (hnice (psAdv s) hl).2.1 (by rw [← eR, hR]; exact hF0)
                    rw [← hV hF0, eV, ← hv2 hsub, ej]
                  · exact absurd h73 (by omega)
                · refine g_iconst (pc' := 67) (v := nI 0) dX9_product_66 rfl (by decide) ?_
                  refine g_goto (tgt := 85) dX9_product_67 (by decide) ?_
                  refine g_ist1 (pc' := 86) rfl (by decide) dX9_product_85 rfl ?_
                  refine g_ald0 (pc' := 87) dX9_product_86 rfl ?_
                  refine g_callV (pc' := 90) (c_mByte l mg hM2.1 hia2 ha2) mg.s40 (by decide) wX9_byteAt lX9_136 rfl rfl (Nat.le_of_ble_eq_true rfl) (rOk (by omega) (by decide)) ⟨Nat.le_of_ble_eq_true rfl, Nat.le_of_ble_eq_true rfl⟩ dX9_product_87 rfl (kIp ?_)
                  refine g_ist2 (pc' := 91) rfl (by decide) dX9_product_90 rfl ?_
                  refine g_goto (tgt := 10) dX9_product_91 (by decide) ?_
                  have ej : joinI 15 v x = nI 0 := by show (if x = 0 then nI 0 else _) = _; first | rw [if_pos (by assumption)] | rw [if_neg (by assumption)]
                  refine G.lsub [some (.inr (.inr (some (40, 0)))), some (.inl (nI 0)), some (.inl (nI (bt B len a2))), none] (by intro j v; rcases j with _ | _ | _ | _ | j <;> simp) ?_
                  refine ihD f (J2, psMk 15 0 (one (psAdv s)), nI 0, a2) (by omega) ⟨hM2.mk, hF.tr (hfA.tr hF2), by rw [← hR, eR], fun hF0 => ?_, by have h1 := (hnice (psAdv s) hl).1; have h2 : (psAdv s).1 = s.1 + 1 := rfl; show len < f + (one (psAdv s)).1; omega, ha2, hia2, has2⟩
                  have hsub : (one (psAdv s)).2.1 = none := (hnice.loop (B := B) (op := opP) f).run0 (s := psMk 15 0 (one (psAdv s))) (hnice (psAdv s) hl).2.1 (by rw [← eR, hR]; exact hF0)
                  rw [← hV hF0, eV, ← hv2 hsub, ej]
              · exact absurd h53 (by omega)
    · have eR : lpR B len opP one (f + 1) s = s ∧ lpV B len opP one ov (f + 1) s v = v := by
        rw [lpR, lpV]
        by_cases hl : s.1 < len
        · have ho : opP (B s.1) = none := by
            by_cases hn : s.2.1 = none
            · unfold opP
              rw [if_neg (fun e => hyes ⟨hn, hl, Or.inl e⟩), if_neg (fun e => hyes ⟨hn, hl, Or.inr (Or.inl e)⟩), if_neg (fun e => hyes ⟨hn, hl, Or.inr (Or.inr e)⟩)]
            · have := (hM.2.2.2.2.2 hn).1; omega
          rw [if_pos hl, if_pos hl, ho]
          exact ⟨rfl, rfl⟩
        · rw [if_neg hl, if_neg hl]
          exact ⟨rfl, rfl⟩
      by_cases hn : s.2.1 = none
      · have hk : True := trivial
        have hb2 := bt_lt (a := a) hM.1.2.1
        refine g_ald0 (pc' := 11) dX9_product_10 rfl ?_
        refine g_getI (pc' := 14) mg.s40 (by decide) fX9_133 (hM.nf hn) dX9_product_11 rfl ?_
        refine g_ifge (pc' := 17) (tgt := 94) dX9_product_14 (by decide) rfl (fun h14 => (by first | exact absurd h14 (by decide : ¬ (0 : Int32) ≤ -1) | exact absurd (by decide : ¬ (0 : Int32) ≤ -1) h14)) (fun h14 => ?_)
        refine g_ild2 (pc' := 18) dX9_product_17 rfl ?_
        refine g_bipush (pc' := 20) (v := nI 42) dX9_product_18 rfl (by decide) ?_
        refine g_icmpeqN (pc' := 23) (by omega) (by omega) (tgt := 35) dX9_product_20 (by decide) rfl (fun h20 => ?_) (fun h20 => ?_)
        · exact absurd (bt_in h20 (by decide)) (fun q => hyes ⟨hn, by rw [← hA.2.2 hn]; exact q.1, by rw [← hA.2.2 hn]; exact Or.inl q.2⟩)
        · refine g_ild2 (pc' := 24) dX9_product_23 rfl ?_
          refine g_bipush (pc' := 26) (v := nI 47) dX9_product_24 rfl (by decide) ?_
          refine g_icmpeqN (pc' := 29) (by omega) (by omega) (tgt := 35) dX9_product_26 (by decide) rfl (fun h26 => ?_) (fun h26 => ?_)
          · exact absurd (bt_in h26 (by decide)) (fun q => hyes ⟨hn, by rw [← hA.2.2 hn]; exact q.1, by rw [← hA.2.2 hn]; exact Or.inr (Or.inl q.2)⟩)
          · refine g_ild2 (pc' := 30) dX9_product_29 rfl ?_
            refine g_bipush (pc' := 32) (v := nI 37) dX9_product_30 rfl (by decide) ?_
            refine g_icmpneN (pc' := 35) (by omega) (by omega) (tgt := 94) dX9_product_32 (by decide) rfl (fun h32 => ?_) (fun h32 => ?_)
            · refine g_ild1 (pc' := 95) dX9_product_94 rfl ?_
              refine g_iret rfl dX9_product_95 ?_
              exact eI ⟨by rw [← hR, eR.1]; exact hM, hF, fun hF0 => by rw [← hV hF0, eR.2]⟩
            · exact absurd (bt_in h32 (by decide)) (fun q => hyes ⟨hn, by rw [← hA.2.2 hn]; exact q.1, by rw [← hA.2.2 hn]; exact Or.inr (Or.inr q.2)⟩)
      · obtain ⟨p, hp, h15, hsp, hsl⟩ := hM.sf hn
        refine g_ald0 (pc' := 11) dX9_product_10 rfl ?_
        refine g_getI (pc' := 14) mg.s40 (by decide) fX9_133 h15 dX9_product_11 rfl ?_
        refine g_ifgeN (by omega) (tgt := 94) dX9_product_14 (by decide) ?_
        refine g_ild1 (pc' := 95) dX9_product_94 rfl ?_
        refine g_iret rfl dX9_product_95 ?_
        exact eI ⟨by rw [← hR, eR.1]; exact hM, hF, fun hF0 => by rw [← hV hF0, eR.2]⟩
