/-! Tape: numbers, what stands behind a sign, one, lines, the whole TEXT -/
theorem c_readNumber (l : Launch) {S : Shp} {I : MI} {L : ML} {R : MR} (tg : TG S R) {B : Nat → Nat} {len s0 : Nat} {fl : Option Nat} {out : List (Nat × Nat)} (h : TR B len I (s0, fl, out)) (hroom : fl = none → out.length < 121) : Ct l mX6_readNumber 2 0 0 [.inr (.inr (some (3, 0)))] S I L R (PVm S L R (fun J => TR B len J (cNum B len (s0, fl, out)) ∧ Fr tpP I J)) := by
  refine Ct.of [some (.inr (.inr (some (3, 0)))), none, none] (by decide) rfl (Nat.le_of_ble_eq_true rfl) ?_
  refine g_iconst (pc' := 1) (v := nI 0) dX6_readNumber_0 rfl (by decide) ?_
  refine g_ist1 (pc' := 2) rfl (by decide) dX6_readNumber_1 rfl ?_
  refine g_iconst (pc' := 3) (v := nI 0) dX6_readNumber_2 rfl (by decide) ?_
  refine g_ist2 (pc' := 4) rfl (by decide) dX6_readNumber_3 rfl ?_
  refine g_loop (σ := Nat × Nat × MI) (fun i q => TR B len q.2.2 (q.2.1, fl, out) ∧ Fr tpP I q.2.2 ∧ digs B len 4 0 s0 = digs B len (4 - i) q.1 q.2.1 ∧ q.1 < ([1, 10, 100, 1000, 10000] : List Nat).getD i 0) (fun i s => [some (.inr (.inr (some (3, 0)))), some (.inl (nI s.1)), some (.inl (nI i))]) (fun i s => s.2.2) 4 0 (0, s0, I) (by omega) ⟨h, Fr.rf, rfl, by simp⟩ ?_ ?_
  · intro i s2 hi hP ih
    obtain ⟨v, a, J⟩ := s2
    simp only at hP
    obtain ⟨t1, t2, t3, t4, ⟨t5, t5b⟩, t6, t7, t8⟩ := id hP.1
    have hbd := hP.2.2.2
    have hv9 : v < 10000 := by
      rcases (show i = 0 ∨ i = 1 ∨ i = 2 ∨ i = 3 ∨ i = 4 by omega) with rfl | rfl | rfl | rfl | rfl <;> simp at hbd <;> omega
    refine g_ild2 (pc' := 5) dX6_readNumber_4 rfl ?_
    refine g_iconst (pc' := 6) (v := nI 4) dX6_readNumber_5 rfl (by decide) ?_
    refine g_icmpgeN (pc' := 9) (by omega) (by omega) (tgt := 56) dX6_readNumber_6 (by decide) rfl (fun h6 => ?_) (fun h6 => ?_)
    · exact absurd h6 (by omega)
    · refine g_ald0 (pc' := 10) dX6_readNumber_9 rfl ?_
      refine g_callV (pc' := 13) (c_tNext l tg (a := a) (fl := fl) (out := out) hP.1) tg.s3 (by decide) wX6_next lX6_45 rfl rfl (Nat.le_of_ble_eq_true rfl) ⟨Nat.le_of_ble_eq_true rfl, Nat.le_of_ble_eq_true rfl⟩ ⟨Nat.le_of_ble_eq_true rfl, Nat.le_of_ble_eq_true rfl⟩ dX6_readNumber_10 rfl (kIp ?_)
      cases hnx : nxt B len a with
      | none =>
        refine g_bipush (pc' := 15) (v := nI 48) dX6_readNumber_13 rfl (by decide) ?_
        refine g_icmplt (pc' := 18) (tgt := 56) dX6_readNumber_15 (by decide) rfl (fun h15 => ?_) (fun h15 => (by first | exact absurd h15 (show (-1 : Int32) < nI 48 by decide) | exact absurd (show (-1 : Int32) < nI 48 by decide) h15))
        refine g_ald0 (pc' := 57) dX6_readNumber_56 rfl ?_
        refine g_iconst (pc' := 58) (v := nI 0) dX6_readNumber_57 rfl (by decide) ?_
        refine g_ild1 (pc' := 59) dX6_readNumber_58 rfl ?_
        refine g_callV (pc' := 62) (c_tMark l tg (a := a) (fl := fl) (out := out) hP.1 (m := 0) (x := v) (by decide) (by rcases (show i = 0 ∨ i = 1 ∨ i = 2 ∨ i = 3 by omega) with rfl | rfl | rfl | rfl <;> simp at hbd ⊢ <;> omega) hroom) tg.s3 (by decide) wX6_mark lX6_51 rfl rfl (Nat.le_of_ble_eq_true rfl) ⟨Nat.le_of_ble_eq_true rfl, Nat.le_of_ble_eq_true rfl⟩ ⟨Nat.le_of_ble_eq_true rfl, Nat.le_of_ble_eq_true rfl⟩ dX6_readNumber_59 rfl (kV (fun J3 hq3 => ?_))
        refine g_vret rfl dX6_readNumber_62 ?_
        have e : digs B len (4 - i) v a = (v, a) := by
          obtain ⟨f, hf⟩ : ∃ f, 4 - i = f + 1 := ⟨3 - i, by omega⟩
          rw [hf, digs, if_neg]
          intro q
          unfold nxt at hnx
          rw [if_pos q.1] at hnx
          cases hnx
        exact eV ⟨by unfold cNum; rw [hP.2.2.1, e]; exact hq3.1, hP.2.1.tr hq3.2⟩
      | some b =>
        have hlt : a < len := by
          unfold nxt at hnx
          by_cases q : a < len
          · exact q
          · rw [if_neg q] at hnx; cases hnx
        have hb : b < 256 := by
          unfold nxt at hnx
          rw [if_pos hlt] at hnx
          cases hnx
          exact t2 _ hlt
        have hbe : b = B a := by
          unfold nxt at hnx
          rw [if_pos hlt] at hnx
          cases hnx
          rfl
        refine g_bipush (pc' := 15) (v := nI 48) dX6_readNumber_13 rfl (by decide) ?_
        refine g_icmpltN (pc' := 18) (by omega) (by omega) (tgt := 56) dX6_readNumber_15 (by decide) rfl (fun h15 => ?_) (fun h15 => ?_)
        · refine g_ald0 (pc' := 57) dX6_readNumber_56 rfl ?_
          refine g_iconst (pc' := 58) (v := nI 0) dX6_readNumber_57 rfl (by decide) ?_
          refine g_ild1 (pc' := 59) dX6_readNumber_58 rfl ?_
          refine g_callV (pc' := 62) (c_tMark l tg (a := a) (fl := fl) (out := out) hP.1 (m := 0) (x := v) (by decide) (by rcases (show i = 0 ∨ i = 1 ∨ i = 2 ∨ i = 3 by omega) with rfl | rfl | rfl | rfl <;> simp at hbd ⊢ <;> omega) hroom) tg.s3 (by decide) wX6_mark lX6_51 rfl rfl (Nat.le_of_ble_eq_true rfl) ⟨Nat.le_of_ble_eq_true rfl, Nat.le_of_ble_eq_true rfl⟩ ⟨Nat.le_of_ble_eq_true rfl, Nat.le_of_ble_eq_true rfl⟩ dX6_readNumber_59 rfl (kV (fun J3 hq3 => ?_))
          refine g_vret rfl dX6_readNumber_62 ?_
          have e : digs B len (4 - i) v a = (v, a) := by
            obtain ⟨f, hf⟩ : ∃ f, 4 - i = f + 1 := ⟨3 - i, by omega⟩
            rw [hf, digs, if_neg (by omega)]
          exact eV ⟨by unfold cNum; rw [hP.2.2.1, e]; exact hq3.1, hP.2.1.tr hq3.2⟩
        · refine g_ald0 (pc' := 19) dX6_readNumber_18 rfl ?_
          refine g_callV (pc' := 22) (c_tNext l tg (a := a) (fl := fl) (out := out) hP.1) tg.s3 (by decide) wX6_next lX6_45 rfl rfl (Nat.le_of_ble_eq_true rfl) ⟨Nat.le_of_ble_eq_true rfl, Nat.le_of_ble_eq_true rfl⟩ ⟨Nat.le_of_ble_eq_true rfl, Nat.le_of_ble_eq_true rfl⟩ dX6_readNumber_19 rfl (kIp ?_)
          rw [hnx]
          refine g_bipush (pc' := 24) (v := nI 57) dX6_readNumber_22 rfl (by decide) ?_
          refine g_icmpgtN (pc' := 27) (by omega) (by omega) (tgt := 56) dX6_readNumber_24 (by decide) rfl (fun h24 => ?_) (fun h24 => ?_)
          · refine g_ald0 (pc' := 57) dX6_readNumber_56 rfl ?_
            refine g_iconst (pc' := 58) (v := nI 0) dX6_readNumber_57 rfl (by decide) ?_
            refine g_ild1 (pc' := 59) dX6_readNumber_58 rfl ?_
            refine g_callV (pc' := 62) (c_tMark l tg (a := a) (fl := fl) (out := out) hP.1 (m := 0) (x := v) (by decide) (by rcases (show i = 0 ∨ i = 1 ∨ i = 2 ∨ i = 3 by omega) with rfl | rfl | rfl | rfl <;> simp at hbd ⊢ <;> omega) hroom) tg.s3 (by decide) wX6_mark lX6_51 rfl rfl (Nat.le_of_ble_eq_true rfl) ⟨Nat.le_of_ble_eq_true rfl, Nat.le_of_ble_eq_true rfl⟩ ⟨Nat.le_of_ble_eq_true rfl, Nat.le_of_ble_eq_true rfl⟩ dX6_readNumber_59 rfl (kV (fun J3 hq3 => ?_))
            refine g_vret rfl dX6_readNumber_62 ?_
            have e : digs B len (4 - i) v a = (v, a) := by
              obtain ⟨f, hf⟩ : ∃ f, 4 - i = f + 1 := ⟨3 - i, by omega⟩
              rw [hf, digs, if_neg (by omega)]
            exact eV ⟨by unfold cNum; rw [hP.2.2.1, e]; exact hq3.1, hP.2.1.tr hq3.2⟩
          · refine g_ild1 (pc' := 28) dX6_readNumber_27 rfl ?_
            refine g_bipush (pc' := 30) (v := nI 10) dX6_readNumber_28 rfl (by decide) ?_
            refine g_imulN (pc' := 31) dX6_readNumber_30 rfl ?_
            refine g_ald0 (pc' := 32) dX6_readNumber_31 rfl ?_
            refine g_callV (pc' := 35) (c_tNext l tg (a := a) (fl := fl) (out := out) hP.1) tg.s3 (by decide) wX6_next lX6_45 rfl rfl (Nat.le_of_ble_eq_true rfl) ⟨Nat.le_of_ble_eq_true rfl, Nat.le_of_ble_eq_true rfl⟩ ⟨Nat.le_of_ble_eq_true rfl, Nat.le_of_ble_eq_true rfl⟩ dX6_readNumber_32 rfl (kIp ?_)
            rw [hnx]
            refine g_iaddN (pc' := 36) dX6_readNumber_35 rfl ?_
            refine g_bipush (pc' := 38) (v := nI 48) dX6_readNumber_36 rfl (by decide) ?_
            refine g_isubN (pc' := 39) (by omega) dX6_readNumber_38 rfl ?_
            refine g_ist1 (pc' := 40) rfl (by decide) dX6_readNumber_39 rfl ?_
            refine g_ald0 (pc' := 41) dX6_readNumber_40 rfl ?_
            refine g_dupR (pc' := 42) dX6_readNumber_41 rfl ?_
            refine g_getI (pc' := 45) tg.s3 (by decide) fX6_23 t6 dX6_readNumber_42 rfl ?_
            refine g_iconst (pc' := 46) (v := nI 1) dX6_readNumber_45 rfl (by decide) ?_
            refine g_iaddN (pc' := 47) dX6_readNumber_46 rfl ?_
            refine g_putI (pc' := 50) tg.s3 (by decide) ⟨fX6_23, rfl, pI⟩ dX6_readNumber_47 rfl ?_
            refine g_inc2 (pc' := 53) rfl (by decide) (v := nI (i + 1)) (nI_1 _) dX6_readNumber_50 rfl ?_
            refine g_goto (tgt := 4) dX6_readNumber_53 (by decide) ?_
            refine ih (v * 10 + b - 48, a + 1, _) ⟨hP.1.adv hlt, hP.2.1.tr fr_adv, ?_, ?_⟩
            · rw [hP.2.2.1, show 4 - i = (4 - (i + 1)) + 1 by omega, digs, if_pos (by omega), hbe]
            · have hbd := hP.2.2.2
              rcases (show i = 0 ∨ i = 1 ∨ i = 2 ∨ i = 3 by omega) with rfl | rfl | rfl | rfl <;> simp at hbd ⊢ <;> omega
  · intro s2 hP
    obtain ⟨v, a, J⟩ := s2
    simp only at hP
    obtain ⟨t1, t2, t3, t4, ⟨t5, t5b⟩, t6, t7, t8⟩ := id hP.1
    have hbd := hP.2.2.2
    have hv9 : v < 10000 := by
      simp at hbd; omega
    refine g_ild2 (pc' := 5) dX6_readNumber_4 rfl ?_
    refine g_iconst (pc' := 6) (v := nI 4) dX6_readNumber_5 rfl (by decide) ?_
    refine g_icmpgeN (pc' := 9) (by omega) (by omega) (tgt := 56) dX6_readNumber_6 (by decide) rfl (fun h6 => ?_) (fun h6 => ?_)
    · refine g_ald0 (pc' := 57) dX6_readNumber_56 rfl ?_
      refine g_iconst (pc' := 58) (v := nI 0) dX6_readNumber_57 rfl (by decide) ?_
      refine g_ild1 (pc' := 59) dX6_readNumber_58 rfl ?_
      refine g_callV (pc' := 62) (c_tMark l tg (a := a) (fl := fl) (out := out) hP.1 (m := 0) (x := v) (by decide) (by simp at hbd; omega) hroom) tg.s3 (by decide) wX6_mark lX6_51 rfl rfl (Nat.le_of_ble_eq_true rfl) ⟨Nat.le_of_ble_eq_true rfl, Nat.le_of_ble_eq_true rfl⟩ ⟨Nat.le_of_ble_eq_true rfl, Nat.le_of_ble_eq_true rfl⟩ dX6_readNumber_59 rfl (kV (fun J3 hq3 => ?_))
      refine g_vret rfl dX6_readNumber_62 ?_
      exact eV ⟨by unfold cNum; rw [hP.2.2.1]; exact hq3.1, hP.2.1.tr hq3.2⟩
    · exact absurd h6 (by omega)

theorem rz_readOpen {l : Launch} {S : Shp} {L : ML} {R : MR} (tg : TG S R) {B : Nat → Nat} {len dp o c : Nat} {one : PS → PS} (hn1 : Nice len one) (hone : Rz l S L R B len mX6_readOne dp o one) (hany : Rz l S L R B len mX6_readAny (dp + 5) o (cAny B len one)) (hc : c < 256) {I : MI} {s : PS} (hlt0 : s.1 < len) (hg : gd s) (hA : TR B len I (psAdv s)) : Ct l mX6_readOpen (dp + 6) 0 0 [.inr (.inr (some (3, 0))), .inl (nI c), .inl (nI o)] S I L R (PVm S L R (fun J => TR B len J (cOpen B len one c (psAdv s)) ∧ Fr tpP I J)) := by
  refine Ct.of [some (.inr (.inr (some (3, 0)))), some (.inl (nI c)), some (.inl (nI o))] (by decide) rfl (Nat.le_of_ble_eq_true rfl) ?_
  refine g_ild1 (pc' := 1) dX6_readOpen_0 rfl ?_
  refine g_bipush (pc' := 3) (v := nI 40) dX6_readOpen_1 rfl (by decide) ?_
  refine g_icmpeqN (pc' := 6) (by omega) (by omega) (tgt := 28) dX6_readOpen_3 (by decide) rfl (fun h3 => ?_) (fun h3 => ?_)
  · refine g_ald0 (pc' := 29) dX6_readOpen_28 rfl ?_
    refine g_ild2 (pc' := 30) dX6_readOpen_29 rfl ?_
    refine g_callV (pc' := 33) (hany _ _ hA (fun hf => Nat.le_succ_of_le (hg hf))) tg.s3 (by decide) wX6_readAny lX6_41 rfl rfl (Nat.le_of_ble_eq_true rfl) (rOk (by omega) (by decide)) ⟨Nat.le_of_ble_eq_true rfl, Nat.le_of_ble_eq_true rfl⟩ dX6_readOpen_30 rfl (kV (fun J1 hq1 => ?_))
    obtain ⟨t1, t2, t3, t4, ⟨t5, t5b⟩, t6, t7, t8⟩ := id hq1.1
    refine g_ald0 (pc' := 34) dX6_readOpen_33 rfl ?_
    refine g_callV (pc' := 37) (c_tNext l tg (a := (cAny B len one (psAdv s)).1) (fl := (cAny B len one (psAdv s)).2.1) (out := (cAny B len one (psAdv s)).2.2) hq1.1) tg.s3 (by decide) wX6_next lX6_45 rfl rfl (Nat.le_of_ble_eq_true rfl) (rOk (by omega) (by decide)) ⟨Nat.le_of_ble_eq_true rfl, Nat.le_of_ble_eq_true rfl⟩ dX6_readOpen_34 rfl (kIp ?_)
    cases hnx : nxt B len (cAny B len one (psAdv s)).1 with
    | none =>
      refine g_bipush (pc' := 39) (v := nI 41) dX6_readOpen_37 rfl (by decide) ?_
      refine g_icmpne (pc' := 42) (tgt := 55) dX6_readOpen_39 (by decide) rfl (fun h39 => ?_) (fun h39 => (by first | exact absurd h39 (show ¬ (-1 : Int32) = nI 41 by decide) | exact absurd (show ¬ (-1 : Int32) = nI 41 by decide) h39))
      refine g_ald0 (pc' := 56) dX6_readOpen_55 rfl ?_
      refine g_callV (pc' := 59) (c_tFail l tg (a := (cAny B len one (psAdv s)).1) (fl := (cAny B len one (psAdv s)).2.1) (out := (cAny B len one (psAdv s)).2.2) hq1.1) tg.s3 (by decide) wX6_fail lX6_32 rfl rfl (Nat.le_of_ble_eq_true rfl) (rOk (by omega) (by decide)) ⟨Nat.le_of_ble_eq_true rfl, Nat.le_of_ble_eq_true rfl⟩ dX6_readOpen_56 rfl (kV (fun J2 hq2 => ?_))
      refine g_vret rfl dX6_readOpen_59 ?_
      exact eV ⟨by unfold cOpen; rw [if_pos h3, if_neg (by rw [hnx]; simp)]; exact hq2.1, hq1.2.tr hq2.2⟩
    | some b =>
      have hlt : (cAny B len one (psAdv s)).1 < len := by
        unfold nxt at hnx
        by_cases q : (cAny B len one (psAdv s)).1 < len
        · exact q
        · rw [if_neg q] at hnx; cases hnx
      have hb : b < 256 := by
        unfold nxt at hnx
        rw [if_pos hlt] at hnx
        cases hnx
        exact t2 _ hlt
      have hbe : b = B (cAny B len one (psAdv s)).1 := by
        unfold nxt at hnx
        rw [if_pos hlt] at hnx
        cases hnx
        rfl
      refine g_bipush (pc' := 39) (v := nI 41) dX6_readOpen_37 rfl (by decide) ?_
      refine g_icmpneN (pc' := 42) (by omega) (by omega) (tgt := 55) dX6_readOpen_39 (by decide) rfl (fun h39 => ?_) (fun h39 => ?_)
      · refine g_ald0 (pc' := 56) dX6_readOpen_55 rfl ?_
        refine g_callV (pc' := 59) (c_tFail l tg (a := (cAny B len one (psAdv s)).1) (fl := (cAny B len one (psAdv s)).2.1) (out := (cAny B len one (psAdv s)).2.2) hq1.1) tg.s3 (by decide) wX6_fail lX6_32 rfl rfl (Nat.le_of_ble_eq_true rfl) (rOk (by omega) (by decide)) ⟨Nat.le_of_ble_eq_true rfl, Nat.le_of_ble_eq_true rfl⟩ dX6_readOpen_56 rfl (kV (fun J2 hq2 => ?_))
        refine g_vret rfl dX6_readOpen_59 ?_
        exact eV ⟨by unfold cOpen; rw [if_pos h3, if_neg (by rw [hnx]; simp; omega)]; exact hq2.1, hq1.2.tr hq2.2⟩
      · refine g_ald0 (pc' := 43) dX6_readOpen_42 rfl ?_
        refine g_dupR (pc' := 44) dX6_readOpen_43 rfl ?_
        refine g_getI (pc' := 47) tg.s3 (by decide) fX6_23 t6 dX6_readOpen_44 rfl ?_
        refine g_iconst (pc' := 48) (v := nI 1) dX6_readOpen_47 rfl (by decide) ?_
        refine g_iaddN (pc' := 49) dX6_readOpen_48 rfl ?_
        refine g_putI (pc' := 52) tg.s3 (by decide) ⟨fX6_23, rfl, pI⟩ dX6_readOpen_49 rfl ?_
        refine g_goto (tgt := 59) dX6_readOpen_52 (by decide) ?_
        refine g_vret rfl dX6_readOpen_59 ?_
        exact eV ⟨by unfold cOpen; rw [if_pos h3, if_pos (by rw [hnx, h39])]; exact hq1.1.adv hlt, hq1.2.tr fr_adv⟩
  · refine g_ald0 (pc' := 7) dX6_readOpen_6 rfl ?_
    refine g_ild2 (pc' := 8) dX6_readOpen_7 rfl ?_
    refine g_callV (pc' := 11) (hone _ _ hA (fun hf => Nat.le_succ_of_le (hg hf))) tg.s3 (by decide) wX6_readOne lX6_67 rfl rfl (Nat.le_of_ble_eq_true rfl) (rOk (by omega) (by decide)) ⟨Nat.le_of_ble_eq_true rfl, Nat.le_of_ble_eq_true rfl⟩ dX6_readOpen_8 rfl (kV (fun J1 hq1 => ?_))
    have hrm := hn1.room hA.1 hlt0 hg 2
    refine g_ald0 (pc' := 12) dX6_readOpen_11 rfl ?_
    refine g_ild1 (pc' := 13) dX6_readOpen_12 rfl ?_
    refine g_bipush (pc' := 15) (v := nI 33) dX6_readOpen_13 rfl (by decide) ?_
    refine g_icmpneN (pc' := 18) (by omega) (by omega) (tgt := 22) dX6_readOpen_15 (by decide) rfl (fun h15 => ?_) (fun h15 => ?_)
    · refine g_iconst (pc' := 23) (v := nI 3) dX6_readOpen_22 rfl (by decide) ?_
      refine g_iconst (pc' := 24) (v := nI 0) dX6_readOpen_23 rfl (by decide) ?_
      refine g_callV (pc' := 27) (c_tMark l tg (a := (one (psAdv s)).1) (fl := (one (psAdv s)).2.1) (out := (one (psAdv s)).2.2) hq1.1 (m := 3) (x := 0) (by decide) (by decide) hrm.1) tg.s3 (by decide) wX6_mark lX6_51 rfl rfl (Nat.le_of_ble_eq_true rfl) (rOk (by omega) (by decide)) ⟨Nat.le_of_ble_eq_true rfl, Nat.le_of_ble_eq_true rfl⟩ dX6_readOpen_24 rfl (kV (fun J3 hq3 => ?_))
      refine g_vret rfl dX6_readOpen_27 ?_
      exact eV ⟨by unfold cOpen; rw [if_neg h3]; first | (rw [if_pos h15]; exact hq3.1) | (rw [if_neg h15]; exact hq3.1), hq1.2.tr hq3.2⟩
    · refine g_iconst (pc' := 19) (v := nI 2) dX6_readOpen_18 rfl (by decide) ?_
      refine g_goto (tgt := 23) dX6_readOpen_19 (by decide) ?_
      refine g_iconst (pc' := 24) (v := nI 0) dX6_readOpen_23 rfl (by decide) ?_
      refine g_callV (pc' := 27) (c_tMark l tg (a := (one (psAdv s)).1) (fl := (one (psAdv s)).2.1) (out := (one (psAdv s)).2.2) hq1.1 (m := 2) (x := 0) (by decide) (by decide) hrm.1) tg.s3 (by decide) wX6_mark lX6_51 rfl rfl (Nat.le_of_ble_eq_true rfl) (rOk (by omega) (by decide)) ⟨Nat.le_of_ble_eq_true rfl, Nat.le_of_ble_eq_true rfl⟩ dX6_readOpen_24 rfl (kV (fun J3 hq3 => ?_))
      refine g_vret rfl dX6_readOpen_27 ?_
      exact eV ⟨by unfold cOpen; rw [if_neg h3]; first | (rw [if_pos h15]; exact hq3.1) | (rw [if_neg h15]; exact hq3.1), hq1.2.tr hq3.2⟩

theorem rz_readOne {l : Launch} {S : Shp} {L : ML} {R : MR} (tg : TG S R) {B : Nat → Nat} {len dp o : Nat} {opn : Nat → PS → PS} (ho : o < 7) (hdp : 2 ≤ dp) (H : (o < 6 ∧ ∀ (c : Nat) (I : MI) (s : PS), (c = 40 ∨ c = 33 ∨ c = 45) → c < 256 → s.1 < len → gd s → TR B len I (psAdv s) → Ct l mX6_readOpen dp 0 0 [.inr (.inr (some (3, 0))), .inl (nI c), .inl (nI (o + 1))] S I L R (PVm S L R (fun J => TR B len J (opn c s) ∧ Fr tpP I J))) ∨ (6 ≤ o ∧ ∀ c s, opn c s = psFail len s)) : Rz l S L R B len mX6_readOne (dp + 1) o (cStep B len opn) := by
  intro I s h hg
  obtain ⟨a, fl, out⟩ := s
  obtain ⟨t1, t2, t3, t4, ⟨t5, t5b⟩, t6, t7, t8⟩ := id h
  simp only at t5 t6 t7
  rcases H with ⟨H1, H2⟩ | ⟨H1, H2⟩
  · refine Ct.of [some (.inr (.inr (some (3, 0)))), some (.inl (nI o)), none, none] (by decide) rfl (Nat.le_of_ble_eq_true rfl) ?_
    refine g_ald0 (pc' := 1) dX6_readOne_0 rfl ?_
    refine g_callV (pc' := 4) (c_tNext l tg (a := a) (fl := fl) (out := out) h) tg.s3 (by decide) wX6_next lX6_45 rfl rfl (Nat.le_of_ble_eq_true rfl) (rOk (by omega) (by decide)) ⟨Nat.le_of_ble_eq_true rfl, Nat.le_of_ble_eq_true rfl⟩ dX6_readOne_1 rfl (kIp ?_)
    cases hnx : nxt B len a with
    | none =>
      refine g_ist2 (pc' := 5) rfl (by decide) dX6_readOne_4 rfl ?_
      refine g_ild2 (pc' := 6) dX6_readOne_5 rfl ?_
      refine g_callS (pc' := 9) (c_nameOfN l) wX6_nameOf lX6_70 rfl rfl (Nat.le_of_ble_eq_true rfl) (rOk (by omega) (by decide)) ⟨Nat.le_of_ble_eq_true rfl, Nat.le_of_ble_eq_true rfl⟩ dX6_readOne_6 rfl (kIp ?_)
      refine g_ist3 (pc' := 10) rfl (by decide) dX6_readOne_9 rfl ?_
      refine g_ild2 (pc' := 11) dX6_readOne_10 rfl ?_
      refine g_bipush (pc' := 13) (v := nI 48) dX6_readOne_11 rfl (by decide) ?_
      refine g_icmplt (pc' := 16) (tgt := 29) dX6_readOne_13 (by decide) rfl (fun h13 => ?_) (fun h13 => (by first | exact absurd h13 (show (-1 : Int32) < nI 48 by decide) | exact absurd (show (-1 : Int32) < nI 48 by decide) h13))
      refine g_ild3 (pc' := 30) dX6_readOne_29 rfl ?_
      refine g_iflt (pc' := 33) (tgt := 52) dX6_readOne_30 (by decide) rfl (fun h30 => ?_) (fun h30 => (by first | exact absurd h30 (show (-1 : Int32) < 0 by decide) | exact absurd (show (-1 : Int32) < 0 by decide) h30))
      refine g_ild2 (pc' := 53) dX6_readOne_52 rfl ?_
      refine g_bipush (pc' := 55) (v := nI 40) dX6_readOne_53 rfl (by decide) ?_
      refine g_icmpeq (pc' := 58) (tgt := 70) dX6_readOne_55 (by decide) rfl (fun h55 => (by first | exact absurd h55 (show ¬ (-1 : Int32) = nI 40 by decide) | exact absurd (show ¬ (-1 : Int32) = nI 40 by decide) h55)) (fun h55 => ?_)
      refine g_ild2 (pc' := 59) dX6_readOne_58 rfl ?_
      refine g_bipush (pc' := 61) (v := nI 33) dX6_readOne_59 rfl (by decide) ?_
      refine g_icmpeq (pc' := 64) (tgt := 70) dX6_readOne_61 (by decide) rfl (fun h61 => (by first | exact absurd h61 (show ¬ (-1 : Int32) = nI 33 by decide) | exact absurd (show ¬ (-1 : Int32) = nI 33 by decide) h61)) (fun h61 => ?_)
      refine g_ild2 (pc' := 65) dX6_readOne_64 rfl ?_
      refine g_bipush (pc' := 67) (v := nI 45) dX6_readOne_65 rfl (by decide) ?_
      refine g_icmpne (pc' := 70) (tgt := 97) dX6_readOne_67 (by decide) rfl (fun h67 => ?_) (fun h67 => (by first | exact absurd h67 (show ¬ (-1 : Int32) = nI 45 by decide) | exact absurd (show ¬ (-1 : Int32) = nI 45 by decide) h67))
      refine g_ald0 (pc' := 98) dX6_readOne_97 rfl ?_
      refine g_callV (pc' := 101) (c_tFail l tg (a := a) (fl := fl) (out := out) h) tg.s3 (by decide) wX6_fail lX6_32 rfl rfl (Nat.le_of_ble_eq_true rfl) (rOk (by omega) (by decide)) ⟨Nat.le_of_ble_eq_true rfl, Nat.le_of_ble_eq_true rfl⟩ dX6_readOne_98 rfl (kV (fun J2 hq2 => ?_))
      refine g_vret rfl dX6_readOne_101 ?_
      exact eV ⟨by unfold cStep; simp only [hnx]; exact hq2.1, hq2.2⟩
    | some b =>
      have hlt : a < len := by
        unfold nxt at hnx
        by_cases q : a < len
        · exact q
        · rw [if_neg q] at hnx; cases hnx
      have hb : b < 256 := by
        unfold nxt at hnx
        rw [if_pos hlt] at hnx
        cases hnx
        exact t2 _ hlt
      have hbe : b = B a := by
        unfold nxt at hnx
        rw [if_pos hlt] at hnx
        cases hnx
        rfl
      refine g_ist2 (pc' := 5) rfl (by decide) dX6_readOne_4 rfl ?_
      refine g_ild2 (pc' := 6) dX6_readOne_5 rfl ?_
      refine g_callS (pc' := 9) (c_nameOf l hb) wX6_nameOf lX6_70 rfl rfl (Nat.le_of_ble_eq_true rfl) (rOk (by omega) (by decide)) ⟨Nat.le_of_ble_eq_true rfl, Nat.le_of_ble_eq_true rfl⟩ dX6_readOne_6 rfl (kIp ?_)
      cases hnc : nameC b with
      | none =>
        refine g_ist3 (pc' := 10) rfl (by decide) dX6_readOne_9 rfl ?_
        refine g_ild2 (pc' := 11) dX6_readOne_10 rfl ?_
        refine g_bipush (pc' := 13) (v := nI 48) dX6_readOne_11 rfl (by decide) ?_
        refine g_icmpltN (pc' := 16) (by omega) (by omega) (tgt := 29) dX6_readOne_13 (by decide) rfl (fun h13 => ?_) (fun h13 => ?_)
        · refine g_ild3 (pc' := 30) dX6_readOne_29 rfl ?_
          refine g_iflt (pc' := 33) (tgt := 52) dX6_readOne_30 (by decide) rfl (fun h30 => ?_) (fun h30 => (by first | exact absurd h30 (show (-1 : Int32) < 0 by decide) | exact absurd (show (-1 : Int32) < 0 by decide) h30))
          refine g_ild2 (pc' := 53) dX6_readOne_52 rfl ?_
          refine g_bipush (pc' := 55) (v := nI 40) dX6_readOne_53 rfl (by decide) ?_
          refine g_icmpeqN (pc' := 58) (by omega) (by omega) (tgt := 70) dX6_readOne_55 (by decide) rfl (fun h55 => ?_) (fun h55 => ?_)
          · refine g_ild1 (pc' := 71) dX6_readOne_70 rfl ?_
            refine g_bipush (pc' := 73) (v := nI 6) dX6_readOne_71 rfl (by decide) ?_
            refine g_icmpgeN (pc' := 76) (by omega) (by omega) (tgt := 97) dX6_readOne_73 (by decide) rfl (fun h73 => ?_) (fun h73 => ?_)
            · exact absurd h73 (by omega)
            · refine g_ald0 (pc' := 77) dX6_readOne_76 rfl ?_
              refine g_dupR (pc' := 78) dX6_readOne_77 rfl ?_
              refine g_getI (pc' := 81) tg.s3 (by decide) fX6_23 t6 dX6_readOne_78 rfl ?_
              refine g_iconst (pc' := 82) (v := nI 1) dX6_readOne_81 rfl (by decide) ?_
              refine g_iaddN (pc' := 83) dX6_readOne_82 rfl ?_
              refine g_putI (pc' := 86) tg.s3 (by decide) ⟨fX6_23, rfl, pI⟩ dX6_readOne_83 rfl ?_
              refine g_ald0 (pc' := 87) dX6_readOne_86 rfl ?_
              refine g_ild2 (pc' := 88) dX6_readOne_87 rfl ?_
              refine g_ild1 (pc' := 89) dX6_readOne_88 rfl ?_
              refine g_iconst (pc' := 90) (v := nI 1) dX6_readOne_89 rfl (by decide) ?_
              refine g_iaddN (pc' := 91) dX6_readOne_90 rfl ?_
              refine g_callV (pc' := 94) (H2 b _ _ (by omega) hb (show a < len from hlt) hg (h.adv hlt)) tg.s3 (by decide) wX6_readOpen lX6_77 rfl rfl (Nat.le_of_ble_eq_true rfl) (rOk (by omega) (by decide)) ⟨Nat.le_of_ble_eq_true rfl, Nat.le_of_ble_eq_true rfl⟩ dX6_readOne_91 rfl (kV (fun J2 hq2 => ?_))
              refine g_goto (tgt := 101) dX6_readOne_94 (by decide) ?_
              refine g_vret rfl dX6_readOne_101 ?_
              exact eV ⟨by unfold cStep; simp only [hnx]; rw [if_neg (by omega)]; simp only [hnc]; rw [if_pos (by omega)]; exact hq2.1, fr_adv.tr hq2.2⟩
          · refine g_ild2 (pc' := 59) dX6_readOne_58 rfl ?_
            refine g_bipush (pc' := 61) (v := nI 33) dX6_readOne_59 rfl (by decide) ?_
            refine g_icmpeqN (pc' := 64) (by omega) (by omega) (tgt := 70) dX6_readOne_61 (by decide) rfl (fun h61 => ?_) (fun h61 => ?_)
            · refine g_ild1 (pc' := 71) dX6_readOne_70 rfl ?_
              refine g_bipush (pc' := 73) (v := nI 6) dX6_readOne_71 rfl (by decide) ?_
              refine g_icmpgeN (pc' := 76) (by omega) (by omega) (tgt := 97) dX6_readOne_73 (by decide) rfl (fun h73 => ?_) (fun h73 => ?_)
              · exact absurd h73 (by omega)
              · refine g_ald0 (pc' := 77) dX6_readOne_76 rfl ?_
                refine g_dupR (pc' := 78) dX6_readOne_77 rfl ?_
                refine g_getI (pc' := 81) tg.s3 (by decide) fX6_23 t6 dX6_readOne_78 rfl ?_
                refine g_iconst (pc' := 82) (v := nI 1) dX6_readOne_81 rfl (by decide) ?_
                refine g_iaddN (pc' := 83) dX6_readOne_82 rfl ?_
                refine g_putI (pc' := 86) tg.s3 (by decide) ⟨fX6_23, rfl, pI⟩ dX6_readOne_83 rfl ?_
                refine g_ald0 (pc' := 87) dX6_readOne_86 rfl ?_
                refine g_ild2 (pc' := 88) dX6_readOne_87 rfl ?_
                refine g_ild1 (pc' := 89) dX6_readOne_88 rfl ?_
                refine g_iconst (pc' := 90) (v := nI 1) dX6_readOne_89 rfl (by decide) ?_
                refine g_iaddN (pc' := 91) dX6_readOne_90 rfl ?_
                refine g_callV (pc' := 94) (H2 b _ _ (by omega) hb (show a < len from hlt) hg (h.adv hlt)) tg.s3 (by decide) wX6_readOpen lX6_77 rfl rfl (Nat.le_of_ble_eq_true rfl) (rOk (by omega) (by decide)) ⟨Nat.le_of_ble_eq_true rfl, Nat.le_of_ble_eq_true rfl⟩ dX6_readOne_91 rfl (kV (fun J2 hq2 => ?_))
                refine g_goto (tgt := 101) dX6_readOne_94 (by decide) ?_
                refine g_vret rfl dX6_readOne_101 ?_
                exact eV ⟨by unfold cStep; simp only [hnx]; rw [if_neg (by omega)]; simp only [hnc]; rw [if_pos (by omega)]; exact hq2.1, fr_adv.tr hq2.2⟩
            · refine g_ild2 (pc' := 65) dX6_readOne_64 rfl ?_
              refine g_bipush (pc' := 67) (v := nI 45) dX6_readOne_65 rfl (by decide) ?_
              refine g_icmpneN (pc' := 70) (by omega) (by omega) (tgt := 97) dX6_readOne_67 (by decide) rfl (fun h67 => ?_) (fun h67 => ?_)
              · refine g_ald0 (pc' := 98) dX6_readOne_97 rfl ?_
                refine g_callV (pc' := 101) (c_tFail l tg (a := a) (fl := fl) (out := out) h) tg.s3 (by decide) wX6_fail lX6_32 rfl rfl (Nat.le_of_ble_eq_true rfl) (rOk (by omega) (by decide)) ⟨Nat.le_of_ble_eq_true rfl, Nat.le_of_ble_eq_true rfl⟩ dX6_readOne_98 rfl (kV (fun J2 hq2 => ?_))
                refine g_vret rfl dX6_readOne_101 ?_
                exact eV ⟨by unfold cStep; simp only [hnx]; rw [if_neg (by omega)]; simp only [hnc]; rw [if_neg (by omega)]; exact hq2.1, hq2.2⟩
              · refine g_ild1 (pc' := 71) dX6_readOne_70 rfl ?_
                refine g_bipush (pc' := 73) (v := nI 6) dX6_readOne_71 rfl (by decide) ?_
                refine g_icmpgeN (pc' := 76) (by omega) (by omega) (tgt := 97) dX6_readOne_73 (by decide) rfl (fun h73 => ?_) (fun h73 => ?_)
                · exact absurd h73 (by omega)
                · refine g_ald0 (pc' := 77) dX6_readOne_76 rfl ?_
                  refine g_dupR (pc' := 78) dX6_readOne_77 rfl ?_
                  refine g_getI (pc' := 81) tg.s3 (by decide) fX6_23 t6 dX6_readOne_78 rfl ?_
                  refine g_iconst (pc' := 82) (v := nI 1) dX6_readOne_81 rfl (by decide) ?_
                  refine g_iaddN (pc' := 83) dX6_readOne_82 rfl ?_
                  refine g_putI (pc' := 86) tg.s3 (by decide) ⟨fX6_23, rfl, pI⟩ dX6_readOne_83 rfl ?_
                  refine g_ald0 (pc' := 87) dX6_readOne_86 rfl ?_
                  refine g_ild2 (pc' := 88) dX6_readOne_87 rfl ?_
                  refine g_ild1 (pc' := 89) dX6_readOne_88 rfl ?_
                  refine g_iconst (pc' := 90) (v := nI 1) dX6_readOne_89 rfl (by decide) ?_
                  refine g_iaddN (pc' := 91) dX6_readOne_90 rfl ?_
                  refine g_callV (pc' := 94) (H2 b _ _ (by omega) hb (show a < len from hlt) hg (h.adv hlt)) tg.s3 (by decide) wX6_readOpen lX6_77 rfl rfl (Nat.le_of_ble_eq_true rfl) (rOk (by omega) (by decide)) ⟨Nat.le_of_ble_eq_true rfl, Nat.le_of_ble_eq_true rfl⟩ dX6_readOne_91 rfl (kV (fun J2 hq2 => ?_))
                  refine g_goto (tgt := 101) dX6_readOne_94 (by decide) ?_
                  refine g_vret rfl dX6_readOne_101 ?_
                  exact eV ⟨by unfold cStep; simp only [hnx]; rw [if_neg (by omega)]; simp only [hnc]; rw [if_pos (by omega)]; exact hq2.1, fr_adv.tr hq2.2⟩
        · refine g_ild2 (pc' := 17) dX6_readOne_16 rfl ?_
          refine g_bipush (pc' := 19) (v := nI 57) dX6_readOne_17 rfl (by decide) ?_
          refine g_icmpgtN (pc' := 22) (by omega) (by omega) (tgt := 29) dX6_readOne_19 (by decide) rfl (fun h19 => ?_) (fun h19 => ?_)
          · refine g_ild3 (pc' := 30) dX6_readOne_29 rfl ?_
            refine g_iflt (pc' := 33) (tgt := 52) dX6_readOne_30 (by decide) rfl (fun h30 => ?_) (fun h30 => (by first | exact absurd h30 (show (-1 : Int32) < 0 by decide) | exact absurd (show (-1 : Int32) < 0 by decide) h30))
            refine g_ild2 (pc' := 53) dX6_readOne_52 rfl ?_
            refine g_bipush (pc' := 55) (v := nI 40) dX6_readOne_53 rfl (by decide) ?_
            refine g_icmpeqN (pc' := 58) (by omega) (by omega) (tgt := 70) dX6_readOne_55 (by decide) rfl (fun h55 => ?_) (fun h55 => ?_)
            · refine g_ild1 (pc' := 71) dX6_readOne_70 rfl ?_
              refine g_bipush (pc' := 73) (v := nI 6) dX6_readOne_71 rfl (by decide) ?_
              refine g_icmpgeN (pc' := 76) (by omega) (by omega) (tgt := 97) dX6_readOne_73 (by decide) rfl (fun h73 => ?_) (fun h73 => ?_)
              · exact absurd h73 (by omega)
              · refine g_ald0 (pc' := 77) dX6_readOne_76 rfl ?_
                refine g_dupR (pc' := 78) dX6_readOne_77 rfl ?_
                refine g_getI (pc' := 81) tg.s3 (by decide) fX6_23 t6 dX6_readOne_78 rfl ?_
                refine g_iconst (pc' := 82) (v := nI 1) dX6_readOne_81 rfl (by decide) ?_
                refine g_iaddN (pc' := 83) dX6_readOne_82 rfl ?_
                refine g_putI (pc' := 86) tg.s3 (by decide) ⟨fX6_23, rfl, pI⟩ dX6_readOne_83 rfl ?_
                refine g_ald0 (pc' := 87) dX6_readOne_86 rfl ?_
                refine g_ild2 (pc' := 88) dX6_readOne_87 rfl ?_
                refine g_ild1 (pc' := 89) dX6_readOne_88 rfl ?_
                refine g_iconst (pc' := 90) (v := nI 1) dX6_readOne_89 rfl (by decide) ?_
                refine g_iaddN (pc' := 91) dX6_readOne_90 rfl ?_
                refine g_callV (pc' := 94) (H2 b _ _ (by omega) hb (show a < len from hlt) hg (h.adv hlt)) tg.s3 (by decide) wX6_readOpen lX6_77 rfl rfl (Nat.le_of_ble_eq_true rfl) (rOk (by omega) (by decide)) ⟨Nat.le_of_ble_eq_true rfl, Nat.le_of_ble_eq_true rfl⟩ dX6_readOne_91 rfl (kV (fun J2 hq2 => ?_))
                refine g_goto (tgt := 101) dX6_readOne_94 (by decide) ?_
                refine g_vret rfl dX6_readOne_101 ?_
                exact eV ⟨by unfold cStep; simp only [hnx]; rw [if_neg (by omega)]; simp only [hnc]; rw [if_pos (by omega)]; exact hq2.1, fr_adv.tr hq2.2⟩
            · refine g_ild2 (pc' := 59) dX6_readOne_58 rfl ?_
              refine g_bipush (pc' := 61) (v := nI 33) dX6_readOne_59 rfl (by decide) ?_
              refine g_icmpeqN (pc' := 64) (by omega) (by omega) (tgt := 70) dX6_readOne_61 (by decide) rfl (fun h61 => ?_) (fun h61 => ?_)
              · refine g_ild1 (pc' := 71) dX6_readOne_70 rfl ?_
                refine g_bipush (pc' := 73) (v := nI 6) dX6_readOne_71 rfl (by decide) ?_
                refine g_icmpgeN (pc' := 76) (by omega) (by omega) (tgt := 97) dX6_readOne_73 (by decide) rfl (fun h73 => ?_) (fun h73 => ?_)
                · exact absurd h73 (by omega)
                · refine g_ald0 (pc' := 77) dX6_readOne_76 rfl ?_
                  refine g_dupR (pc' := 78) dX6_readOne_77 rfl ?_
                  refine g_getI (pc' := 81) tg.s3 (by decide) fX6_23 t6 dX6_readOne_78 rfl ?_
                  refine g_iconst (pc' := 82) (v := nI 1) dX6_readOne_81 rfl (by decide) ?_
                  refine g_iaddN (pc' := 83) dX6_readOne_82 rfl ?_
                  refine g_putI (pc' := 86) tg.s3 (by decide) ⟨fX6_23, rfl, pI⟩ dX6_readOne_83 rfl ?_
                  refine g_ald0 (pc' := 87) dX6_readOne_86 rfl ?_
                  refine g_ild2 (pc' := 88) dX6_readOne_87 rfl ?_
                  refine g_ild1 (pc' := 89) dX6_readOne_88 rfl ?_
                  refine g_iconst (pc' := 90) (v := nI 1) dX6_readOne_89 rfl (by decide) ?_
                  refine g_iaddN (pc' := 91) dX6_readOne_90 rfl ?_
                  refine g_callV (pc' := 94) (H2 b _ _ (by omega) hb (show a < len from hlt) hg (h.adv hlt)) tg.s3 (by decide) wX6_readOpen lX6_77 rfl rfl (Nat.le_of_ble_eq_true rfl) (rOk (by omega) (by decide)) ⟨Nat.le_of_ble_eq_true rfl, Nat.le_of_ble_eq_true rfl⟩ dX6_readOne_91 rfl (kV (fun J2 hq2 => ?_))
                  refine g_goto (tgt := 101) dX6_readOne_94 (by decide) ?_
                  refine g_vret rfl dX6_readOne_101 ?_
                  exact eV ⟨by unfold cStep; simp only [hnx]; rw [if_neg (by omega)]; simp only [hnc]; rw [if_pos (by omega)]; exact hq2.1, fr_adv.tr hq2.2⟩
              · refine g_ild2 (pc' := 65) dX6_readOne_64 rfl ?_
                refine g_bipush (pc' := 67) (v := nI 45) dX6_readOne_65 rfl (by decide) ?_
                refine g_icmpneN (pc' := 70) (by omega) (by omega) (tgt := 97) dX6_readOne_67 (by decide) rfl (fun h67 => ?_) (fun h67 => ?_)
                · refine g_ald0 (pc' := 98) dX6_readOne_97 rfl ?_
                  refine g_callV (pc' := 101) (c_tFail l tg (a := a) (fl := fl) (out := out) h) tg.s3 (by decide) wX6_fail lX6_32 rfl rfl (Nat.le_of_ble_eq_true rfl) (rOk (by omega) (by decide)) ⟨Nat.le_of_ble_eq_true rfl, Nat.le_of_ble_eq_true rfl⟩ dX6_readOne_98 rfl (kV (fun J2 hq2 => ?_))
                  refine g_vret rfl dX6_readOne_101 ?_
                  exact eV ⟨by unfold cStep; simp only [hnx]; rw [if_neg (by omega)]; simp only [hnc]; rw [if_neg (by omega)]; exact hq2.1, hq2.2⟩
                · refine g_ild1 (pc' := 71) dX6_readOne_70 rfl ?_
                  refine g_bipush (pc' := 73) (v := nI 6) dX6_readOne_71 rfl (by decide) ?_
                  refine g_icmpgeN (pc' := 76) (by omega) (by omega) (tgt := 97) dX6_readOne_73 (by decide) rfl (fun h73 => ?_) (fun h73 => ?_)
                  · exact absurd h73 (by omega)
                  · refine g_ald0 (pc' := 77) dX6_readOne_76 rfl ?_
                    refine g_dupR (pc' := 78) dX6_readOne_77 rfl ?_
                    refine g_getI (pc' := 81) tg.s3 (by decide) fX6_23 t6 dX6_readOne_78 rfl ?_
                    refine g_iconst (pc' := 82) (v := nI 1) dX6_readOne_81 rfl (by decide) ?_
                    refine g_iaddN (pc' := 83) dX6_readOne_82 rfl ?_
                    refine g_putI (pc' := 86) tg.s3 (by decide) ⟨fX6_23, rfl, pI⟩ dX6_readOne_83 rfl ?_
                    refine g_ald0 (pc' := 87) dX6_readOne_86 rfl ?_
                    refine g_ild2 (pc' := 88) dX6_readOne_87 rfl ?_
                    refine g_ild1 (pc' := 89) dX6_readOne_88 rfl ?_
                    refine g_iconst (pc' := 90) (v := nI 1) dX6_readOne_89 rfl (by decide) ?_
                    refine g_iaddN (pc' := 91) dX6_readOne_90 rfl ?_
                    refine g_callV (pc' := 94) (H2 b _ _ (by omega) hb (show a < len from hlt) hg (h.adv hlt)) tg.s3 (by decide) wX6_readOpen lX6_77 rfl rfl (Nat.le_of_ble_eq_true rfl) (rOk (by omega) (by decide)) ⟨Nat.le_of_ble_eq_true rfl, Nat.le_of_ble_eq_true rfl⟩ dX6_readOne_91 rfl (kV (fun J2 hq2 => ?_))
                    refine g_goto (tgt := 101) dX6_readOne_94 (by decide) ?_
                    refine g_vret rfl dX6_readOne_101 ?_
                    exact eV ⟨by unfold cStep; simp only [hnx]; rw [if_neg (by omega)]; simp only [hnc]; rw [if_pos (by omega)]; exact hq2.1, fr_adv.tr hq2.2⟩
          · refine g_ald0 (pc' := 23) dX6_readOne_22 rfl ?_
            refine g_callV (pc' := 26) (c_readNumber l tg h (fun hf => by have := hg hf; simp only at this; omega)) tg.s3 (by decide) wX6_readNumber lX6_74 rfl rfl (Nat.le_of_ble_eq_true rfl) (rOk (by omega) (by decide)) ⟨Nat.le_of_ble_eq_true rfl, Nat.le_of_ble_eq_true rfl⟩ dX6_readOne_23 rfl (kV (fun J2 hq2 => ?_))
            refine g_goto (tgt := 101) dX6_readOne_26 (by decide) ?_
            refine g_vret rfl dX6_readOne_101 ?_
            exact eV ⟨by unfold cStep; simp only [hnx]; rw [if_pos (by omega)]; exact hq2.1, hq2.2⟩
      | some q =>
        have hq7 := nameC_lt hnc
        refine g_ist3 (pc' := 10) rfl (by decide) dX6_readOne_9 rfl ?_
        refine g_ild2 (pc' := 11) dX6_readOne_10 rfl ?_
        refine g_bipush (pc' := 13) (v := nI 48) dX6_readOne_11 rfl (by decide) ?_
        refine g_icmpltN (pc' := 16) (by omega) (by omega) (tgt := 29) dX6_readOne_13 (by decide) rfl (fun h13 => ?_) (fun h13 => ?_)
        · refine g_ild3 (pc' := 30) dX6_readOne_29 rfl ?_
          refine g_ifltN (pc' := 33) (by omega) dX6_readOne_30 rfl ?_
          refine g_ald0 (pc' := 34) dX6_readOne_33 rfl ?_
          refine g_dupR (pc' := 35) dX6_readOne_34 rfl ?_
          refine g_getI (pc' := 38) tg.s3 (by decide) fX6_23 t6 dX6_readOne_35 rfl ?_
          refine g_iconst (pc' := 39) (v := nI 1) dX6_readOne_38 rfl (by decide) ?_
          refine g_iaddN (pc' := 40) dX6_readOne_39 rfl ?_
          refine g_putI (pc' := 43) tg.s3 (by decide) ⟨fX6_23, rfl, pI⟩ dX6_readOne_40 rfl ?_
          refine g_ald0 (pc' := 44) dX6_readOne_43 rfl ?_
          refine g_iconst (pc' := 45) (v := nI 1) dX6_readOne_44 rfl (by decide) ?_
          refine g_ild3 (pc' := 46) dX6_readOne_45 rfl ?_
          refine g_callV (pc' := 49) (c_tMark l tg (a := a + 1) (fl := fl) (out := out) (h.adv hlt) (m := 1) (x := q) (by decide) (by have := nameC_lt hnc; omega) (fun hf => by have := hg hf; simp only at this; omega)) tg.s3 (by decide) wX6_mark lX6_51 rfl rfl (Nat.le_of_ble_eq_true rfl) (rOk (by omega) (by decide)) ⟨Nat.le_of_ble_eq_true rfl, Nat.le_of_ble_eq_true rfl⟩ dX6_readOne_46 rfl (kV (fun J2 hq2 => ?_))
          refine g_goto (tgt := 101) dX6_readOne_49 (by decide) ?_
          refine g_vret rfl dX6_readOne_101 ?_
          exact eV ⟨by unfold cStep; simp only [hnx]; rw [if_neg (by omega)]; simp only [hnc]; exact hq2.1, fr_adv.tr hq2.2⟩
        · refine g_ild2 (pc' := 17) dX6_readOne_16 rfl ?_
          refine g_bipush (pc' := 19) (v := nI 57) dX6_readOne_17 rfl (by decide) ?_
          refine g_icmpgtN (pc' := 22) (by omega) (by omega) (tgt := 29) dX6_readOne_19 (by decide) rfl (fun h19 => ?_) (fun h19 => ?_)
          · refine g_ild3 (pc' := 30) dX6_readOne_29 rfl ?_
            refine g_ifltN (pc' := 33) (by omega) dX6_readOne_30 rfl ?_
            refine g_ald0 (pc' := 34) dX6_readOne_33 rfl ?_
            refine g_dupR (pc' := 35) dX6_readOne_34 rfl ?_
            refine g_getI (pc' := 38) tg.s3 (by decide) fX6_23 t6 dX6_readOne_35 rfl ?_
            refine g_iconst (pc' := 39) (v := nI 1) dX6_readOne_38 rfl (by decide) ?_
            refine g_iaddN (pc' := 40) dX6_readOne_39 rfl ?_
            refine g_putI (pc' := 43) tg.s3 (by decide) ⟨fX6_23, rfl, pI⟩ dX6_readOne_40 rfl ?_
            refine g_ald0 (pc' := 44) dX6_readOne_43 rfl ?_
            refine g_iconst (pc' := 45) (v := nI 1) dX6_readOne_44 rfl (by decide) ?_
            refine g_ild3 (pc' := 46) dX6_readOne_45 rfl ?_
            refine g_callV (pc' := 49) (c_tMark l tg (a := a + 1) (fl := fl) (out := out) (h.adv hlt) (m := 1) (x := q) (by decide) (by have := nameC_lt hnc; omega) (fun hf => by have := hg hf; simp only at this; omega)) tg.s3 (by decide) wX6_mark lX6_51 rfl rfl (Nat.le_of_ble_eq_true rfl) (rOk (by omega) (by decide)) ⟨Nat.le_of_ble_eq_true rfl, Nat.le_of_ble_eq_true rfl⟩ dX6_readOne_46 rfl (kV (fun J2 hq2 => ?_))
            refine g_goto (tgt := 101) dX6_readOne_49 (by decide) ?_
            refine g_vret rfl dX6_readOne_101 ?_
            exact eV ⟨by unfold cStep; simp only [hnx]; rw [if_neg (by omega)]; simp only [hnc]; exact hq2.1, fr_adv.tr hq2.2⟩
          · refine g_ald0 (pc' := 23) dX6_readOne_22 rfl ?_
            refine g_callV (pc' := 26) (c_readNumber l tg h (fun hf => by have := hg hf; simp only at this; omega)) tg.s3 (by decide) wX6_readNumber lX6_74 rfl rfl (Nat.le_of_ble_eq_true rfl) (rOk (by omega) (by decide)) ⟨Nat.le_of_ble_eq_true rfl, Nat.le_of_ble_eq_true rfl⟩ dX6_readOne_23 rfl (kV (fun J2 hq2 => ?_))
            refine g_goto (tgt := 101) dX6_readOne_26 (by decide) ?_
            refine g_vret rfl dX6_readOne_101 ?_
            exact eV ⟨by unfold cStep; simp only [hnx]; rw [if_pos (by omega)]; exact hq2.1, hq2.2⟩
  · refine Ct.of [some (.inr (.inr (some (3, 0)))), some (.inl (nI o)), none, none] (by decide) rfl (Nat.le_of_ble_eq_true rfl) ?_
    refine g_ald0 (pc' := 1) dX6_readOne_0 rfl ?_
    refine g_callV (pc' := 4) (c_tNext l tg (a := a) (fl := fl) (out := out) h) tg.s3 (by decide) wX6_next lX6_45 rfl rfl (Nat.le_of_ble_eq_true rfl) (rOk (by omega) (by decide)) ⟨Nat.le_of_ble_eq_true rfl, Nat.le_of_ble_eq_true rfl⟩ dX6_readOne_1 rfl (kIp ?_)
    cases hnx : nxt B len a with
    | none =>
      refine g_ist2 (pc' := 5) rfl (by decide) dX6_readOne_4 rfl ?_
      refine g_ild2 (pc' := 6) dX6_readOne_5 rfl ?_
      refine g_callS (pc' := 9) (c_nameOfN l) wX6_nameOf lX6_70 rfl rfl (Nat.le_of_ble_eq_true rfl) (rOk (by omega) (by decide)) ⟨Nat.le_of_ble_eq_true rfl, Nat.le_of_ble_eq_true rfl⟩ dX6_readOne_6 rfl (kIp ?_)
      refine g_ist3 (pc' := 10) rfl (by decide) dX6_readOne_9 rfl ?_
      refine g_ild2 (pc' := 11) dX6_readOne_10 rfl ?_
      refine g_bipush (pc' := 13) (v := nI 48) dX6_readOne_11 rfl (by decide) ?_
      refine g_icmplt (pc' := 16) (tgt := 29) dX6_readOne_13 (by decide) rfl (fun h13 => ?_) (fun h13 => (by first | exact absurd h13 (show (-1 : Int32) < nI 48 by decide) | exact absurd (show (-1 : Int32) < nI 48 by decide) h13))
      refine g_ild3 (pc' := 30) dX6_readOne_29 rfl ?_
      refine g_iflt (pc' := 33) (tgt := 52) dX6_readOne_30 (by decide) rfl (fun h30 => ?_) (fun h30 => (by first | exact absurd h30 (show (-1 : Int32) < 0 by decide) | exact absurd (show (-1 : Int32) < 0 by decide) h30))
      refine g_ild2 (pc' := 53) dX6_readOne_52 rfl ?_
      refine g_bipush (pc' := 55) (v := nI 40) dX6_readOne_53 rfl (by decide) ?_
      refine g_icmpeq (pc' := 58) (tgt := 70) dX6_readOne_55 (by decide) rfl (fun h55 => (by first | exact absurd h55 (show ¬ (-1 : Int32) = nI 40 by decide) | exact absurd (show ¬ (-1 : Int32) = nI 40 by decide) h55)) (fun h55 => ?_)
      refine g_ild2 (pc' := 59) dX6_readOne_58 rfl ?_
      refine g_bipush (pc' := 61) (v := nI 33) dX6_readOne_59 rfl (by decide) ?_
      refine g_icmpeq (pc' := 64) (tgt := 70) dX6_readOne_61 (by decide) rfl (fun h61 => (by first | exact absurd h61 (show ¬ (-1 : Int32) = nI 33 by decide) | exact absurd (show ¬ (-1 : Int32) = nI 33 by decide) h61)) (fun h61 => ?_)
      refine g_ild2 (pc' := 65) dX6_readOne_64 rfl ?_
      refine g_bipush (pc' := 67) (v := nI 45) dX6_readOne_65 rfl (by decide) ?_
      refine g_icmpne (pc' := 70) (tgt := 97) dX6_readOne_67 (by decide) rfl (fun h67 => ?_) (fun h67 => (by first | exact absurd h67 (show ¬ (-1 : Int32) = nI 45 by decide) | exact absurd (show ¬ (-1 : Int32) = nI 45 by decide) h67))
      refine g_ald0 (pc' := 98) dX6_readOne_97 rfl ?_
      refine g_callV (pc' := 101) (c_tFail l tg (a := a) (fl := fl) (out := out) h) tg.s3 (by decide) wX6_fail lX6_32 rfl rfl (Nat.le_of_ble_eq_true rfl) (rOk (by omega) (by decide)) ⟨Nat.le_of_ble_eq_true rfl, Nat.le_of_ble_eq_true rfl⟩ dX6_readOne_98 rfl (kV (fun J2 hq2 => ?_))
      refine g_vret rfl dX6_readOne_101 ?_
      exact eV ⟨by unfold cStep; simp only [hnx]; exact hq2.1, hq2.2⟩
    | some b =>
      have hlt : a < len := by
        unfold nxt at hnx
        by_cases q : a < len
        · exact q
        · rw [if_neg q] at hnx; cases hnx
      have hb : b < 256 := by
        unfold nxt at hnx
        rw [if_pos hlt] at hnx
        cases hnx
        exact t2 _ hlt
      have hbe : b = B a := by
        unfold nxt at hnx
        rw [if_pos hlt] at hnx
        cases hnx
        rfl
      refine g_ist2 (pc' := 5) rfl (by decide) dX6_readOne_4 rfl ?_
      refine g_ild2 (pc' := 6) dX6_readOne_5 rfl ?_
      refine g_callS (pc' := 9) (c_nameOf l hb) wX6_nameOf lX6_70 rfl rfl (Nat.le_of_ble_eq_true rfl) (rOk (by omega) (by decide)) ⟨Nat.le_of_ble_eq_true rfl, Nat.le_of_ble_eq_true rfl⟩ dX6_readOne_6 rfl (kIp ?_)
      cases hnc : nameC b with
      | none =>
        refine g_ist3 (pc' := 10) rfl (by decide) dX6_readOne_9 rfl ?_
        refine g_ild2 (pc' := 11) dX6_readOne_10 rfl ?_
        refine g_bipush (pc' := 13) (v := nI 48) dX6_readOne_11 rfl (by decide) ?_
        refine g_icmpltN (pc' := 16) (by omega) (by omega) (tgt := 29) dX6_readOne_13 (by decide) rfl (fun h13 => ?_) (fun h13 => ?_)
        · refine g_ild3 (pc' := 30) dX6_readOne_29 rfl ?_
          refine g_iflt (pc' := 33) (tgt := 52) dX6_readOne_30 (by decide) rfl (fun h30 => ?_) (fun h30 => (by first | exact absurd h30 (show (-1 : Int32) < 0 by decide) | exact absurd (show (-1 : Int32) < 0 by decide) h30))
          refine g_ild2 (pc' := 53) dX6_readOne_52 rfl ?_
          refine g_bipush (pc' := 55) (v := nI 40) dX6_readOne_53 rfl (by decide) ?_
          refine g_icmpeqN (pc' := 58) (by omega) (by omega) (tgt := 70) dX6_readOne_55 (by decide) rfl (fun h55 => ?_) (fun h55 => ?_)
          · refine g_ild1 (pc' := 71) dX6_readOne_70 rfl ?_
            refine g_bipush (pc' := 73) (v := nI 6) dX6_readOne_71 rfl (by decide) ?_
            refine g_icmpgeN (pc' := 76) (by omega) (by omega) (tgt := 97) dX6_readOne_73 (by decide) rfl (fun h73 => ?_) (fun h73 => ?_)
            · refine g_ald0 (pc' := 98) dX6_readOne_97 rfl ?_
              refine g_callV (pc' := 101) (c_tFail l tg (a := a) (fl := fl) (out := out) h) tg.s3 (by decide) wX6_fail lX6_32 rfl rfl (Nat.le_of_ble_eq_true rfl) (rOk (by omega) (by decide)) ⟨Nat.le_of_ble_eq_true rfl, Nat.le_of_ble_eq_true rfl⟩ dX6_readOne_98 rfl (kV (fun J2 hq2 => ?_))
              refine g_vret rfl dX6_readOne_101 ?_
              first
              | (exact eV ⟨by unfold cStep; simp only [hnx]; rw [if_neg (by omega)]; simp only [hnc]; rw [if_pos (by omega), H2]; exact hq2.1, hq2.2⟩)
              | (exact eV ⟨by unfold cStep; simp only [hnx]; rw [if_neg (by omega)]; simp only [hnc]; rw [if_neg (by omega)]; exact hq2.1, hq2.2⟩)
            · exact absurd h73 (by omega)
          · refine g_ild2 (pc' := 59) dX6_readOne_58 rfl ?_
            refine g_bipush (pc' := 61) (v := nI 33) dX6_readOne_59 rfl (by decide) ?_
            refine g_icmpeqN (pc' := 64) (by omega) (by omega) (tgt := 70) dX6_readOne_61 (by decide) rfl (fun h61 => ?_) (fun h61 => ?_)
            · refine g_ild1 (pc' := 71) dX6_readOne_70 rfl ?_
              refine g_bipush (pc' := 73) (v := nI 6) dX6_readOne_71 rfl (by decide) ?_
              refine g_icmpgeN (pc' := 76) (by omega) (by omega) (tgt := 97) dX6_readOne_73 (by decide) rfl (fun h73 => ?_) (fun h73 => ?_)
              · refine g_ald0 (pc' := 98) dX6_readOne_97 rfl ?_
                refine g_callV (pc' := 101) (c_tFail l tg (a := a) (fl := fl) (out := out) h) tg.s3 (by decide) wX6_fail lX6_32 rfl rfl (Nat.le_of_ble_eq_true rfl) (rOk (by omega) (by decide)) ⟨Nat.le_of_ble_eq_true rfl, Nat.le_of_ble_eq_true rfl⟩ dX6_readOne_98 rfl (kV (fun J2 hq2 => ?_))
                refine g_vret rfl dX6_readOne_101 ?_
                first
                | (exact eV ⟨by unfold cStep; simp only [hnx]; rw [if_neg (by omega)]; simp only [hnc]; rw [if_pos (by omega), H2]; exact hq2.1, hq2.2⟩)
                | (exact eV ⟨by unfold cStep; simp only [hnx]; rw [if_neg (by omega)]; simp only [hnc]; rw [if_neg (by omega)]; exact hq2.1, hq2.2⟩)
              · exact absurd h73 (by omega)
            · refine g_ild2 (pc' := 65) dX6_readOne_64 rfl ?_
              refine g_bipush (pc' := 67) (v := nI 45) dX6_readOne_65 rfl (by decide) ?_
              refine g_icmpneN (pc' := 70) (by omega) (by omega) (tgt := 97) dX6_readOne_67 (by decide) rfl (fun h67 => ?_) (fun h67 => ?_)
              · refine g_ald0 (pc' := 98) dX6_readOne_97 rfl ?_
                refine g_callV (pc' := 101) (c_tFail l tg (a := a) (fl := fl) (out := out) h) tg.s3 (by decide) wX6_fail lX6_32 rfl rfl (Nat.le_of_ble_eq_true rfl) (rOk (by omega) (by decide)) ⟨Nat.le_of_ble_eq_true rfl, Nat.le_of_ble_eq_true rfl⟩ dX6_readOne_98 rfl (kV (fun J2 hq2 => ?_))
                refine g_vret rfl dX6_readOne_101 ?_
                first
                | (exact eV ⟨by unfold cStep; simp only [hnx]; rw [if_neg (by omega)]; simp only [hnc]; rw [if_pos (by omega), H2]; exact hq2.1, hq2.2⟩)
                | (exact eV ⟨by unfold cStep; simp only [hnx]; rw [if_neg (by omega)]; simp only [hnc]; rw [if_neg (by omega)]; exact hq2.1, hq2.2⟩)
              · refine g_ild1 (pc' := 71) dX6_readOne_70 rfl ?_
                refine g_bipush (pc' := 73) (v := nI 6) dX6_readOne_71 rfl (by decide) ?_
                refine g_icmpgeN (pc' := 76) (by omega) (by omega) (tgt := 97) dX6_readOne_73 (by decide) rfl (fun h73 => ?_) (fun h73 => ?_)
                · refine g_ald0 (pc' := 98) dX6_readOne_97 rfl ?_
                  refine g_callV (pc' := 101) (c_tFail l tg (a := a) (fl := fl) (out := out) h) tg.s3 (by decide) wX6_fail lX6_32 rfl rfl (Nat.le_of_ble_eq_true rfl) (rOk (by omega) (by decide)) ⟨Nat.le_of_ble_eq_true rfl, Nat.le_of_ble_eq_true rfl⟩ dX6_readOne_98 rfl (kV (fun J2 hq2 => ?_))
                  refine g_vret rfl dX6_readOne_101 ?_
                  first
                  | (exact eV ⟨by unfold cStep; simp only [hnx]; rw [if_neg (by omega)]; simp only [hnc]; rw [if_pos (by omega), H2]; exact hq2.1, hq2.2⟩)
                  | (exact eV ⟨by unfold cStep; simp only [hnx]; rw [if_neg (by omega)]; simp only [hnc]; rw [if_neg (by omega)]; exact hq2.1, hq2.2⟩)
                · exact absurd h73 (by omega)
        · refine g_ild2 (pc' := 17) dX6_readOne_16 rfl ?_
          refine g_bipush (pc' := 19) (v := nI 57) dX6_readOne_17 rfl (by decide) ?_
          refine g_icmpgtN (pc' := 22) (by omega) (by omega) (tgt := 29) dX6_readOne_19 (by decide) rfl (fun h19 => ?_) (fun h19 => ?_)
          · refine g_ild3 (pc' := 30) dX6_readOne_29 rfl ?_
            refine g_iflt (pc' := 33) (tgt := 52) dX6_readOne_30 (by decide) rfl (fun h30 => ?_) (fun h30 => (by first | exact absurd h30 (show (-1 : Int32) < 0 by decide) | exact absurd (show (-1 : Int32) < 0 by decide) h30))
            refine g_ild2 (pc' := 53) dX6_readOne_52 rfl ?_
            refine g_bipush (pc' := 55) (v := nI 40) dX6_readOne_53 rfl (by decide) ?_
            refine g_icmpeqN (pc' := 58) (by omega) (by omega) (tgt := 70) dX6_readOne_55 (by decide) rfl (fun h55 => ?_) (fun h55 => ?_)
            · refine g_ild1 (pc' := 71) dX6_readOne_70 rfl ?_
              refine g_bipush (pc' := 73) (v := nI 6) dX6_readOne_71 rfl (by decide) ?_
              refine g_icmpgeN (pc' := 76) (by omega) (by omega) (tgt := 97) dX6_readOne_73 (by decide) rfl (fun h73 => ?_) (fun h73 => ?_)
              · refine g_ald0 (pc' := 98) dX6_readOne_97 rfl ?_
                refine g_callV (pc' := 101) (c_tFail l tg (a := a) (fl := fl) (out := out) h) tg.s3 (by decide) wX6_fail lX6_32 rfl rfl (Nat.le_of_ble_eq_true rfl) (rOk (by omega) (by decide)) ⟨Nat.le_of_ble_eq_true rfl, Nat.le_of_ble_eq_true rfl⟩ dX6_readOne_98 rfl (kV (fun J2 hq2 => ?_))
                refine g_vret rfl dX6_readOne_101 ?_
                first
                | (exact eV ⟨by unfold cStep; simp only [hnx]; rw [if_neg (by omega)]; simp only [hnc]; rw [if_pos (by omega), H2]; exact hq2.1, hq2.2⟩)
                | (exact eV ⟨by unfold cStep; simp only [hnx]; rw [if_neg (by omega)]; simp only [hnc]; rw [if_neg (by omega)]; exact hq2.1, hq2.2⟩)
              · exact absurd h73 (by omega)
            · refine g_ild2 (pc' := 59) dX6_readOne_58 rfl ?_
              refine g_bipush (pc' := 61) (v := nI 33) dX6_readOne_59 rfl (by decide) ?_
              refine g_icmpeqN (pc' := 64) (by omega) (by omega) (tgt := 70) dX6_readOne_61 (by decide) rfl (fun h61 => ?_) (fun h61 => ?_)
              · refine g_ild1 (pc' := 71) dX6_readOne_70 rfl ?_
                refine g_bipush (pc' := 73) (v := nI 6) dX6_readOne_71 rfl (by decide) ?_
                refine g_icmpgeN (pc' := 76) (by omega) (by omega) (tgt := 97) dX6_readOne_73 (by decide) rfl (fun h73 => ?_) (fun h73 => ?_)
                · refine g_ald0 (pc' := 98) dX6_readOne_97 rfl ?_
                  refine g_callV (pc' := 101) (c_tFail l tg (a := a) (fl := fl) (out := out) h) tg.s3 (by decide) wX6_fail lX6_32 rfl rfl (Nat.le_of_ble_eq_true rfl) (rOk (by omega) (by decide)) ⟨Nat.le_of_ble_eq_true rfl, Nat.le_of_ble_eq_true rfl⟩ dX6_readOne_98 rfl (kV (fun J2 hq2 => ?_))
                  refine g_vret rfl dX6_readOne_101 ?_
                  first
                  | (exact eV ⟨by unfold cStep; simp only [hnx]; rw [if_neg (by omega)]; simp only [hnc]; rw [if_pos (by omega), H2]; exact hq2.1, hq2.2⟩)
                  | (exact eV ⟨by unfold cStep; simp only [hnx]; rw [if_neg (by omega)]; simp only [hnc]; rw [if_neg (by omega)]; exact hq2.1, hq2.2⟩)
                · exact absurd h73 (by omega)
              · refine g_ild2 (pc' := 65) dX6_readOne_64 rfl ?_
                refine g_bipush (pc' := 67) (v := nI 45) dX6_readOne_65 rfl (by decide) ?_
                refine g_icmpneN (pc' := 70) (by omega) (by omega) (tgt := 97) dX6_readOne_67 (by decide) rfl (fun h67 => ?_) (fun h67 => ?_)
                · refine g_ald0 (pc' := 98) dX6_readOne_97 rfl ?_
                  refine g_callV (pc' := 101) (c_tFail l tg (a := a) (fl := fl) (out := out) h) tg.s3 (by decide) wX6_fail lX6_32 rfl rfl (Nat.le_of_ble_eq_true rfl) (rOk (by omega) (by decide)) ⟨Nat.le_of_ble_eq_true rfl, Nat.le_of_ble_eq_true rfl⟩ dX6_readOne_98 rfl (kV (fun J2 hq2 => ?_))
                  refine g_vret rfl dX6_readOne_101 ?_
                  first
                  | (exact eV ⟨by unfold cStep; simp only [hnx]; rw [if_neg (by omega)]; simp only [hnc]; rw [if_pos (by omega), H2]; exact hq2.1, hq2.2⟩)
                  | (exact eV ⟨by unfold cStep; simp only [hnx]; rw [if_neg (by omega)]; simp only [hnc]; rw [if_neg (by omega)]; exact hq2.1, hq2.2⟩)
                · refine g_ild1 (pc' := 71) dX6_readOne_70 rfl ?_
                  refine g_bipush (pc' := 73) (v := nI 6) dX6_readOne_71 rfl (by decide) ?_
                  refine g_icmpgeN (pc' := 76) (by omega) (by omega) (tgt := 97) dX6_readOne_73 (by decide) rfl (fun h73 => ?_) (fun h73 => ?_)
                  · refine g_ald0 (pc' := 98) dX6_readOne_97 rfl ?_
                    refine g_callV (pc' := 101) (c_tFail l tg (a := a) (fl := fl) (out := out) h) tg.s3 (by decide) wX6_fail lX6_32 rfl rfl (Nat.le_of_ble_eq_true rfl) (rOk (by omega) (by decide)) ⟨Nat.le_of_ble_eq_true rfl, Nat.le_of_ble_eq_true rfl⟩ dX6_readOne_98 rfl (kV (fun J2 hq2 => ?_))
                    refine g_vret rfl dX6_readOne_101 ?_
                    first
                    | (exact eV ⟨by unfold cStep; simp only [hnx]; rw [if_neg (by omega)]; simp only [hnc]; rw [if_pos (by omega), H2]; exact hq2.1, hq2.2⟩)
                    | (exact eV ⟨by unfold cStep; simp only [hnx]; rw [if_neg (by omega)]; simp only [hnc]; rw [if_neg (by omega)]; exact hq2.1, hq2.2⟩)
                  · exact absurd h73 (by omega)
          · refine g_ald0 (pc' := 23) dX6_readOne_22 rfl ?_
            refine g_callV (pc' := 26) (c_readNumber l tg h (fun hf => by have := hg hf; simp only at this; omega)) tg.s3 (by decide) wX6_readNumber lX6_74 rfl rfl (Nat.le_of_ble_eq_true rfl) (rOk (by omega) (by decide)) ⟨Nat.le_of_ble_eq_true rfl, Nat.le_of_ble_eq_true rfl⟩ dX6_readOne_23 rfl (kV (fun J2 hq2 => ?_))
            refine g_goto (tgt := 101) dX6_readOne_26 (by decide) ?_
            refine g_vret rfl dX6_readOne_101 ?_
            exact eV ⟨by unfold cStep; simp only [hnx]; rw [if_pos (by omega)]; exact hq2.1, hq2.2⟩
      | some q =>
        have hq7 := nameC_lt hnc
        refine g_ist3 (pc' := 10) rfl (by decide) dX6_readOne_9 rfl ?_
        refine g_ild2 (pc' := 11) dX6_readOne_10 rfl ?_
        refine g_bipush (pc' := 13) (v := nI 48) dX6_readOne_11 rfl (by decide) ?_
        refine g_icmpltN (pc' := 16) (by omega) (by omega) (tgt := 29) dX6_readOne_13 (by decide) rfl (fun h13 => ?_) (fun h13 => ?_)
        · refine g_ild3 (pc' := 30) dX6_readOne_29 rfl ?_
          refine g_ifltN (pc' := 33) (by omega) dX6_readOne_30 rfl ?_
          refine g_ald0 (pc' := 34) dX6_readOne_33 rfl ?_
          refine g_dupR (pc' := 35) dX6_readOne_34 rfl ?_
          refine g_getI (pc' := 38) tg.s3 (by decide) fX6_23 t6 dX6_readOne_35 rfl ?_
          refine g_iconst (pc' := 39) (v := nI 1) dX6_readOne_38 rfl (by decide) ?_
          refine g_iaddN (pc' := 40) dX6_readOne_39 rfl ?_
          refine g_putI (pc' := 43) tg.s3 (by decide) ⟨fX6_23, rfl, pI⟩ dX6_readOne_40 rfl ?_
          refine g_ald0 (pc' := 44) dX6_readOne_43 rfl ?_
          refine g_iconst (pc' := 45) (v := nI 1) dX6_readOne_44 rfl (by decide) ?_
          refine g_ild3 (pc' := 46) dX6_readOne_45 rfl ?_
          refine g_callV (pc' := 49) (c_tMark l tg (a := a + 1) (fl := fl) (out := out) (h.adv hlt) (m := 1) (x := q) (by decide) (by have := nameC_lt hnc; omega) (fun hf => by have := hg hf; simp only at this; omega)) tg.s3 (by decide) wX6_mark lX6_51 rfl rfl (Nat.le_of_ble_eq_true rfl) (rOk (by omega) (by decide)) ⟨Nat.le_of_ble_eq_true rfl, Nat.le_of_ble_eq_true rfl⟩ dX6_readOne_46 rfl (kV (fun J2 hq2 => ?_))
          refine g_goto (tgt := 101) dX6_readOne_49 (by decide) ?_
          refine g_vret rfl dX6_readOne_101 ?_
          exact eV ⟨by unfold cStep; simp only [hnx]; rw [if_neg (by omega)]; simp only [hnc]; exact hq2.1, fr_adv.tr hq2.2⟩
        · refine g_ild2 (pc' := 17) dX6_readOne_16 rfl ?_
          refine g_bipush (pc' := 19) (v := nI 57) dX6_readOne_17 rfl (by decide) ?_
          refine g_icmpgtN (pc' := 22) (by omega) (by omega) (tgt := 29) dX6_readOne_19 (by decide) rfl (fun h19 => ?_) (fun h19 => ?_)
          · refine g_ild3 (pc' := 30) dX6_readOne_29 rfl ?_
            refine g_ifltN (pc' := 33) (by omega) dX6_readOne_30 rfl ?_
            refine g_ald0 (pc' := 34) dX6_readOne_33 rfl ?_
            refine g_dupR (pc' := 35) dX6_readOne_34 rfl ?_
            refine g_getI (pc' := 38) tg.s3 (by decide) fX6_23 t6 dX6_readOne_35 rfl ?_
            refine g_iconst (pc' := 39) (v := nI 1) dX6_readOne_38 rfl (by decide) ?_
            refine g_iaddN (pc' := 40) dX6_readOne_39 rfl ?_
            refine g_putI (pc' := 43) tg.s3 (by decide) ⟨fX6_23, rfl, pI⟩ dX6_readOne_40 rfl ?_
            refine g_ald0 (pc' := 44) dX6_readOne_43 rfl ?_
            refine g_iconst (pc' := 45) (v := nI 1) dX6_readOne_44 rfl (by decide) ?_
            refine g_ild3 (pc' := 46) dX6_readOne_45 rfl ?_
            refine g_callV (pc' := 49) (c_tMark l tg (a := a + 1) (fl := fl) (out := out) (h.adv hlt) (m := 1) (x := q) (by decide) (by have := nameC_lt hnc; omega) (fun hf => by have := hg hf; simp only at this; omega)) tg.s3 (by decide) wX6_mark lX6_51 rfl rfl (Nat.le_of_ble_eq_true rfl) (rOk (by omega) (by decide)) ⟨Nat.le_of_ble_eq_true rfl, Nat.le_of_ble_eq_true rfl⟩ dX6_readOne_46 rfl (kV (fun J2 hq2 => ?_))
            refine g_goto (tgt := 101) dX6_readOne_49 (by decide) ?_
            refine g_vret rfl dX6_readOne_101 ?_
            exact eV ⟨by unfold cStep; simp only [hnx]; rw [if_neg (by omega)]; simp only [hnc]; exact hq2.1, fr_adv.tr hq2.2⟩
          · refine g_ald0 (pc' := 23) dX6_readOne_22 rfl ?_
            refine g_callV (pc' := 26) (c_readNumber l tg h (fun hf => by have := hg hf; simp only at this; omega)) tg.s3 (by decide) wX6_readNumber lX6_74 rfl rfl (Nat.le_of_ble_eq_true rfl) (rOk (by omega) (by decide)) ⟨Nat.le_of_ble_eq_true rfl, Nat.le_of_ble_eq_true rfl⟩ dX6_readOne_23 rfl (kV (fun J2 hq2 => ?_))
            refine g_goto (tgt := 101) dX6_readOne_26 (by decide) ?_
            refine g_vret rfl dX6_readOne_101 ?_
            exact eV ⟨by unfold cStep; simp only [hnx]; rw [if_pos (by omega)]; exact hq2.1, hq2.2⟩

theorem rz_one {l : Launch} {S : Shp} {L : ML} {R : MR} (tg : TG S R) (B : Nat → Nat) (len : Nat) : ∀ d, d ≤ 6 → Rz l S L R B len mX6_readOne (3 + 7 * d) (6 - d) (cOne B len d)
  | 0, _ => rz_readOne tg (by omega) (by omega) (Or.inr ⟨by omega, fun _ _ => rfl⟩)
  | d + 1, hd => by
    have ih := rz_one (l := l) (L := L) tg B len d (by omega)
    have hn := Nice.one B len d
    have h1 := rz_readProduct tg hn ih (by omega)
    have h2 := rz_readSum tg hn h1 (by omega)
    have h3 := rz_readCompared tg hn h2 (by omega)
    have h4 := rz_readAll tg hn h3 (by omega)
    have h5 := rz_readAny tg hn h4 (by omega)
    have e : 3 + 7 * (d + 1) = (3 + 7 * d + 6) + 1 := by omega
    rw [e]
    refine rz_readOne tg (dp := 3 + 7 * d + 6) (by omega) (by omega) (Or.inl ⟨by omega, fun c I s hc hc2 hlt hg hA => ?_⟩)
    rw [show 6 - (d + 1) + 1 = 6 - d by omega]
    exact rz_readOpen tg hn ih h5 hc2 hlt hg hA
theorem rz_any {l : Launch} {S : Shp} {L : ML} {R : MR} (tg : TG S R) (B : Nat → Nat) (len : Nat) : Rz l S L R B len mX6_readAny 50 0 (cAny B len (cOne B len 6)) := by
  have ih := rz_one (l := l) (L := L) tg B len 6 (by omega)
  have hn := Nice.one B len 6
  exact rz_readAny tg hn (rz_readAll tg hn (rz_readCompared tg hn (rz_readSum tg hn (rz_readProduct tg hn ih (by omega)) (by omega)) (by omega)) (by omega)) (by omega)