/-! Acts: asked, and performed -/
theorem askV_none (kd num f a : Nat) (x : Int32) : askV kd num f none a x = (nI 0, []) := by cases f <;> rfl
theorem bod_lt : ∀ i, i < 32 → bod i < 100 := by decide
theorem ask_step (l : Launch) {S : Shp} {L : ML} {R : MR} {num kd : Nat} (ag : AG S R) (hnum : num < 50) (hkd : kd < 8) (f : Nat) (IH : ∀ f', f = f' + 1 → AskC l S L R num kd f') : AskC l S L R num kd f := by
  intro I t at_ a x δ hT hA hlen hk ha hδ
  refine Ct.of [some (.inr (.inr (some (23, 0)))), some (.inl (flI at_)), some (.inl (nI a)), some (.inl x), some (.inl (nI δ)), none, none] (by decide) rfl (Nat.le_of_ble_eq_true rfl) ?_
  cases at_ with
  | none =>
    refine g_ild1 (pc' := 1) dX0_ask_0 rfl ?_
    refine g_ist5 (pc' := 3) rfl (by decide) dX0_ask_1 rfl ?_
    refine g_iconst (pc' := 4) (v := nI 0) dX0_ask_3 rfl (by decide) ?_
    refine g_ist6 (pc' := 6) rfl (by decide) dX0_ask_4 rfl ?_
    refine g_ild6 (pc' := 8) dX0_ask_6 rfl ?_
    refine g_bipush (pc' := 10) (v := nI 8) dX0_ask_8 rfl (by decide) ?_
    refine g_icmpgeN (pc' := 13) (by omega) (by omega) (tgt := 45) dX0_ask_10 (by decide) rfl (fun h10 => absurd h10 (by omega)) (fun h10 => ?_)
    refine g_ild5 (pc' := 15) dX0_ask_13 rfl ?_
    refine g_ifle (pc' := 18) (tgt := 45) dX0_ask_15 (by decide) rfl (fun h15 => ?_) (fun h15 => (by first | exact absurd h15 (show (-1 : Int32) ≤ 0 by decide) | exact absurd (show (-1 : Int32) ≤ 0 by decide) h15))
    refine g_ild5 (pc' := 47) dX0_ask_45 rfl ?_
    refine g_iflt (pc' := 50) (tgt := 57) dX0_ask_47 (by decide) rfl (fun h47 => ?_) (fun h47 => (by first | exact absurd h47 (show (-1 : Int32) < 0 by decide) | exact absurd (show (-1 : Int32) < 0 by decide) h47))
    refine g_iconst (pc' := 58) (v := nI 0) dX0_ask_57 rfl (by decide) ?_
    refine g_iret rfl dX0_ask_58 ?_
    exact eI ⟨by rw [askV_none], by rw [askV_none]; simpa using hA, Fr.rf⟩
  | some k =>
    refine g_ild1 (pc' := 1) dX0_ask_0 rfl ?_
    refine g_ist5 (pc' := 3) rfl (by decide) dX0_ask_1 rfl ?_
    refine g_iconst (pc' := 4) (v := nI 0) dX0_ask_3 rfl (by decide) ?_
    refine g_ist6 (pc' := 6) rfl (by decide) dX0_ask_4 rfl ?_
    refine g_loop (σ := Nat) (fun i s => upto 8 k a = upto (8 - i) s a ∧ s < 8) (fun i s => [some (.inr (.inr (some (23, 0)))), some (.inl (nI k)), some (.inl (nI a)), some (.inl x), some (.inl (nI δ)), some (.inl (nI s)), some (.inl (nI i))]) (fun i s => I) 8 0 k (by omega) ⟨rfl, hk k rfl⟩ ?_ ?_
    · intro i s hi hP ih
      have hs8 := hP.2
      obtain ⟨g, hg⟩ : ∃ g, 8 - i = g + 1 := ⟨7 - i, by omega⟩
      have hbd : bod (s * 4 + a) < 100 := bod_lt _ (by omega)
      refine g_ild6 (pc' := 8) dX0_ask_6 rfl ?_
      refine g_bipush (pc' := 10) (v := nI 8) dX0_ask_8 rfl (by decide) ?_
      refine g_icmpgeN (pc' := 13) (by omega) (by omega) (tgt := 45) dX0_ask_10 (by decide) rfl (fun h10 => ?_) (fun h10 => ?_)
      · exact absurd h10 (by omega)
      · refine g_ild5 (pc' := 15) dX0_ask_13 rfl ?_
        refine g_ifleN (pc' := 18) (by omega) (tgt := 45) dX0_ask_15 (by decide) rfl (fun h15 => ?_) (fun h15 => ?_)
        · have e : upto 8 k a = s := by rw [hP.1, h15, upto_0]
          refine g_ild5 (pc' := 47) dX0_ask_45 rfl ?_
          refine g_ifltN (pc' := 50) (by omega) dX0_ask_47 rfl ?_
          refine g_ild4 (pc' := 52) dX0_ask_50 rfl ?_
          refine g_bipush (pc' := 54) (v := nI 30) dX0_ask_52 rfl (by decide) ?_
          refine g_icmpleN (pc' := 57) (by omega) (by omega) (tgt := 59) dX0_ask_54 (by decide) rfl (fun h54 => ?_) (fun h54 => ?_)
          · obtain ⟨f', rfl⟩ : ∃ f', f = f' + 1 := ⟨f - 1, by omega⟩
            refine g_ald0 (pc' := 60) dX0_ask_59 rfl ?_
            refine g_bodies (pc' := 63) fX0_41 dX0_ask_60 rfl ?_
            refine g_ild5 (pc' := 65) dX0_ask_63 rfl ?_
            refine g_iconst (pc' := 66) (v := nI 4) dX0_ask_65 rfl (by decide) ?_
            refine g_imulN (pc' := 67) dX0_ask_66 rfl ?_
            refine g_ild2 (pc' := 68) dX0_ask_67 rfl ?_
            refine g_iaddN (pc' := 69) dX0_ask_68 rfl ?_
            refine g_xald (pc' := 70) (j := (s * 4) + a) ag.s38 rfl (by omega) (by decide) (v := nI (bod (s * 4 + a))) (hT.2 _ (by omega)) dX0_ask_69 rfl ?_
            refine g_ild5 (pc' := 72) dX0_ask_70 rfl ?_
            refine g_ild3 (pc' := 73) dX0_ask_72 rfl ?_
            refine g_ild4 (pc' := 75) dX0_ask_73 rfl ?_
            refine g_iconst (pc' := 76) (v := nI 1) dX0_ask_75 rfl (by decide) ?_
            refine g_iaddN (pc' := 77) dX0_ask_76 rfl ?_
            refine g_callV (pc' := 80) (c_run l ag hnum hkd (IH f' rfl) (bod_mem _ (by omega)) hs8 hT hA hlen (by omega)) ag.s23 (by decide) wX0_run lX0_44 rfl rfl (Nat.le_of_ble_eq_true rfl) (rOk3 (c := 1) (by omega) (by omega) (by decide)) ⟨Nat.le_of_ble_eq_true rfl, Nat.le_of_ble_eq_true rfl⟩ dX0_ask_77 rfl (kI (fun v J hq => ?_))
            refine g_iret rfl dX0_ask_80 ?_
            refine eI ⟨?_, ?_, hq.2.2⟩
            · simp only [askV]
              rw [e]
              exact hq.1
            · simp only [askV]
              rw [e]
              exact hq.2.1
          · refine g_iconst (pc' := 58) (v := nI 0) dX0_ask_57 rfl (by decide) ?_
            refine g_iret rfl dX0_ask_58 ?_
            obtain rfl : f = 0 := by omega
            exact eI ⟨rfl, by simpa [askV] using hA, Fr.rf⟩
        · refine g_bodies (pc' := 21) fX0_41 dX0_ask_18 rfl ?_
          refine g_ild5 (pc' := 23) dX0_ask_21 rfl ?_
          refine g_iconst (pc' := 24) (v := nI 4) dX0_ask_23 rfl (by decide) ?_
          refine g_imulN (pc' := 25) dX0_ask_24 rfl ?_
          refine g_ild2 (pc' := 26) dX0_ask_25 rfl ?_
          refine g_iaddN (pc' := 27) dX0_ask_26 rfl ?_
          refine g_xald (pc' := 28) (j := (s * 4) + a) ag.s38 rfl (by omega) (by decide) (v := nI (bod (s * 4 + a))) (hT.2 _ (by omega)) dX0_ask_27 rfl ?_
          refine g_ifneN (pc' := 31) (by omega) (tgt := 45) dX0_ask_28 (by decide) rfl (fun h28 => ?_) (fun h28 => ?_)
          · have e : upto 8 k a = s := by rw [hP.1, hg, upto, if_neg (by omega)]
            refine g_ild5 (pc' := 47) dX0_ask_45 rfl ?_
            refine g_ifltN (pc' := 50) (by omega) dX0_ask_47 rfl ?_
            refine g_ild4 (pc' := 52) dX0_ask_50 rfl ?_
            refine g_bipush (pc' := 54) (v := nI 30) dX0_ask_52 rfl (by decide) ?_
            refine g_icmpleN (pc' := 57) (by omega) (by omega) (tgt := 59) dX0_ask_54 (by decide) rfl (fun h54 => ?_) (fun h54 => ?_)
            · obtain ⟨f', rfl⟩ : ∃ f', f = f' + 1 := ⟨f - 1, by omega⟩
              refine g_ald0 (pc' := 60) dX0_ask_59 rfl ?_
              refine g_bodies (pc' := 63) fX0_41 dX0_ask_60 rfl ?_
              refine g_ild5 (pc' := 65) dX0_ask_63 rfl ?_
              refine g_iconst (pc' := 66) (v := nI 4) dX0_ask_65 rfl (by decide) ?_
              refine g_imulN (pc' := 67) dX0_ask_66 rfl ?_
              refine g_ild2 (pc' := 68) dX0_ask_67 rfl ?_
              refine g_iaddN (pc' := 69) dX0_ask_68 rfl ?_
              refine g_xald (pc' := 70) (j := (s * 4) + a) ag.s38 rfl (by omega) (by decide) (v := nI (bod (s * 4 + a))) (hT.2 _ (by omega)) dX0_ask_69 rfl ?_
              refine g_ild5 (pc' := 72) dX0_ask_70 rfl ?_
              refine g_ild3 (pc' := 73) dX0_ask_72 rfl ?_
              refine g_ild4 (pc' := 75) dX0_ask_73 rfl ?_
              refine g_iconst (pc' := 76) (v := nI 1) dX0_ask_75 rfl (by decide) ?_
              refine g_iaddN (pc' := 77) dX0_ask_76 rfl ?_
              refine g_callV (pc' := 80) (c_run l ag hnum hkd (IH f' rfl) (bod_mem _ (by omega)) hs8 hT hA hlen (by omega)) ag.s23 (by decide) wX0_run lX0_44 rfl rfl (Nat.le_of_ble_eq_true rfl) (rOk3 (c := 1) (by omega) (by omega) (by decide)) ⟨Nat.le_of_ble_eq_true rfl, Nat.le_of_ble_eq_true rfl⟩ dX0_ask_77 rfl (kI (fun v J hq => ?_))
              refine g_iret rfl dX0_ask_80 ?_
              refine eI ⟨?_, ?_, hq.2.2⟩
              · simp only [askV]
                rw [e]
                exact hq.1
              · simp only [askV]
                rw [e]
                exact hq.2.1
            · refine g_iconst (pc' := 58) (v := nI 0) dX0_ask_57 rfl (by decide) ?_
              refine g_iret rfl dX0_ask_58 ?_
              obtain rfl : f = 0 := by omega
              exact eI ⟨rfl, by simpa [askV] using hA, Fr.rf⟩
          · obtain ⟨j, hj, hj8⟩ := abv_pos s hs8 h15
            refine g_above (pc' := 34) fX0_20 dX0_ask_31 rfl ?_
            refine g_ild5 (pc' := 36) dX0_ask_34 rfl ?_
            refine g_xald (pc' := 37) (j := s) ag.s37 rfl (by omega) (by decide) (v := nI j) ((hT.1 s hs8).trans (by rw [hj]; rfl)) dX0_ask_36 rfl ?_
            refine g_ist5 (pc' := 39) rfl (by decide) dX0_ask_37 rfl ?_
            refine g_inc6 (pc' := 42) rfl (by decide) (v := nI (i + 1)) (nI_1 _) dX0_ask_39 rfl ?_
            refine g_goto (tgt := 6) dX0_ask_42 (by decide) ?_
            exact ih j ⟨by rw [hP.1, hg, upto, if_pos ⟨h15, h28⟩, hj, show 8 - (i + 1) = g by omega], hj8⟩
    · intro s hP
      have hs8 := hP.2
      refine g_ild6 (pc' := 8) dX0_ask_6 rfl ?_
      refine g_bipush (pc' := 10) (v := nI 8) dX0_ask_8 rfl (by decide) ?_
      refine g_icmpgeN (pc' := 13) (by omega) (by omega) (tgt := 45) dX0_ask_10 (by decide) rfl (fun h10 => ?_) (fun h10 => ?_)
      · have e : upto 8 k a = s := hP.1
        refine g_ild5 (pc' := 47) dX0_ask_45 rfl ?_
        refine g_ifltN (pc' := 50) (by omega) dX0_ask_47 rfl ?_
        refine g_ild4 (pc' := 52) dX0_ask_50 rfl ?_
        refine g_bipush (pc' := 54) (v := nI 30) dX0_ask_52 rfl (by decide) ?_
        refine g_icmpleN (pc' := 57) (by omega) (by omega) (tgt := 59) dX0_ask_54 (by decide) rfl (fun h54 => ?_) (fun h54 => ?_)
        · obtain ⟨f', rfl⟩ : ∃ f', f = f' + 1 := ⟨f - 1, by omega⟩
          refine g_ald0 (pc' := 60) dX0_ask_59 rfl ?_
          refine g_bodies (pc' := 63) fX0_41 dX0_ask_60 rfl ?_
          refine g_ild5 (pc' := 65) dX0_ask_63 rfl ?_
          refine g_iconst (pc' := 66) (v := nI 4) dX0_ask_65 rfl (by decide) ?_
          refine g_imulN (pc' := 67) dX0_ask_66 rfl ?_
          refine g_ild2 (pc' := 68) dX0_ask_67 rfl ?_
          refine g_iaddN (pc' := 69) dX0_ask_68 rfl ?_
          refine g_xald (pc' := 70) (j := (s * 4) + a) ag.s38 rfl (by omega) (by decide) (v := nI (bod (s * 4 + a))) (hT.2 _ (by omega)) dX0_ask_69 rfl ?_
          refine g_ild5 (pc' := 72) dX0_ask_70 rfl ?_
          refine g_ild3 (pc' := 73) dX0_ask_72 rfl ?_
          refine g_ild4 (pc' := 75) dX0_ask_73 rfl ?_
          refine g_iconst (pc' := 76) (v := nI 1) dX0_ask_75 rfl (by decide) ?_
          refine g_iaddN (pc' := 77) dX0_ask_76 rfl ?_
          refine g_callV (pc' := 80) (c_run l ag hnum hkd (IH f' rfl) (bod_mem _ (by omega)) hs8 hT hA hlen (by omega)) ag.s23 (by decide) wX0_run lX0_44 rfl rfl (Nat.le_of_ble_eq_true rfl) (rOk3 (c := 1) (by omega) (by omega) (by decide)) ⟨Nat.le_of_ble_eq_true rfl, Nat.le_of_ble_eq_true rfl⟩ dX0_ask_77 rfl (kI (fun v J hq => ?_))
          refine g_iret rfl dX0_ask_80 ?_
          refine eI ⟨?_, ?_, hq.2.2⟩
          · simp only [askV]
            rw [e]
            exact hq.1
          · simp only [askV]
            rw [e]
            exact hq.2.1
        · refine g_iconst (pc' := 58) (v := nI 0) dX0_ask_57 rfl (by decide) ?_
          refine g_iret rfl dX0_ask_58 ?_
          obtain rfl : f = 0 := by omega
          exact eI ⟨rfl, by simpa [askV] using hA, Fr.rf⟩
      · exact absurd h10 (by omega)

theorem ask_all (l : Launch) {S : Shp} {L : ML} {R : MR} {num kd : Nat} (ag : AG S R) (hnum : num < 50) (hkd : kd < 8) : ∀ f, AskC l S L R num kd f
  | 0 => ask_step l ag hnum hkd 0 (fun f' h => by cases h)
  | f + 1 => ask_step l ag hnum hkd (f + 1) (fun f' h => by cases h; exact ask_all l ag hnum hkd f)
def acP2 (t : Tok) (i : Nat) : Prop := acP t i ∨ (t = (23, 0) ∧ i = 4)

theorem c_performN (l : Launch) {S : Shp} {I : MI} {L : ML} {R : MR} (ag : AG S R) {n : Nat} (hn : I (23, 0) 1 = nI n) (hN : n ≤ 50) {x1 x2 : Int32} (x : Int32) (hbad : inb x1 n = false ∨ x2 < 0 ∨ ¬ x2 < nI 4) : Ct l mX0_perform 2 0 0 [.inr (.inr (some (23, 0))), .inl x1, .inl x2, .inl x] S I L R (PIm S L R (fun v J => v = nI 0 ∧ J (23, 0) 3 = nI 0 ∧ Fr acP I J)) := by
  refine Ct.of [some (.inr (.inr (some (23, 0)))), some (.inl x1), some (.inl x2), some (.inl x)] (by decide) rfl (Nat.le_of_ble_eq_true rfl) ?_
  refine g_ald0 (pc' := 1) dX0_perform_0 rfl ?_
  refine g_iconst (pc' := 2) (v := nI 0) dX0_perform_1 rfl (by decide) ?_
  refine g_putI (pc' := 5) ag.s23 (by decide) ⟨fX0_23, rfl, pI⟩ dX0_perform_2 rfl ?_
  refine g_ald0 (pc' := 6) dX0_perform_5 rfl ?_
  refine g_ild1 (pc' := 7) dX0_perform_6 rfl ?_
  refine g_callV (pc' := 10) (c_aHas l ag (by simp [upM, hn]) hN x1) ag.s23 (by decide) wX0_has lX0_26 rfl rfl (Nat.le_of_ble_eq_true rfl) ⟨Nat.le_of_ble_eq_true rfl, Nat.le_of_ble_eq_true rfl⟩ ⟨Nat.le_of_ble_eq_true rfl, Nat.le_of_ble_eq_true rfl⟩ dX0_perform_7 rfl (kIp ?_)
  refine g_ifeqB (pc' := 13) (tgt := 22) dX0_perform_10 (by decide) rfl (fun h10 => ?_) (fun h10 => ?_)
  · refine g_iconst (pc' := 23) (v := nI 0) dX0_perform_22 rfl (by decide) ?_
    refine g_iret rfl dX0_perform_23 ?_
    exact eI ⟨rfl, upM_s _ _ _ _, Fr.rf.up (Or.inl ⟨rfl, rfl⟩)⟩
  · refine g_ild2 (pc' := 14) dX0_perform_13 rfl ?_
    refine g_iflt (pc' := 17) (tgt := 22) dX0_perform_14 (by decide) rfl (fun h14 => ?_) (fun h14 => ?_)
    · refine g_iconst (pc' := 23) (v := nI 0) dX0_perform_22 rfl (by decide) ?_
      refine g_iret rfl dX0_perform_23 ?_
      exact eI ⟨rfl, upM_s _ _ _ _, Fr.rf.up (Or.inl ⟨rfl, rfl⟩)⟩
    · refine g_ild2 (pc' := 18) dX0_perform_17 rfl ?_
      refine g_iconst (pc' := 19) (v := nI 4) dX0_perform_18 rfl (by decide) ?_
      refine g_icmplt (pc' := 22) (tgt := 24) dX0_perform_19 (by decide) rfl (fun h19 => ?_) (fun h19 => ?_)
      · exfalso
        rcases hbad with h | h | h
        · rw [h] at h10; cases h10
        · exact h14 h
        · exact h h19
      · refine g_iconst (pc' := 23) (v := nI 0) dX0_perform_22 rfl (by decide) ?_
        refine g_iret rfl dX0_perform_23 ?_
        exact eI ⟨rfl, upM_s _ _ _ _, Fr.rf.up (Or.inl ⟨rfl, rfl⟩)⟩

theorem c_perform (l : Launch) {S : Shp} {I : MI} {L : ML} {R : MR} (ag : AG S R) {n num kd a : Nat} (hn : I (23, 0) 1 = nI n) (hN : n ≤ 50) (hnum : num < n) (hT : AT I) (hk : I (24, 0) num = nI kd) (hkd : kd < 8) (ha : a < 4) (x : Int32) : Ct l mX0_perform 96 0 0 [.inr (.inr (some (23, 0))), .inl (nI num), .inl (nI a), .inl x] S I L R (PIm S L R (fun v J => v = (askV kd num 31 (some kd) a x).1 ∧ AM J num kd (askV kd num 31 (some kd) a x).2 ∧ Fr acP2 I J)) := by
  have hT0 : AT (upM (upM I (23, 0) 3 (nI 0)) (23, 0) 4 (nI num)) := ⟨fun i hi => by simp [upM]; exact hT.1 i hi, fun i hi => by simp [upM]; exact hT.2 i hi⟩
  refine Ct.of [some (.inr (.inr (some (23, 0)))), some (.inl (nI num)), some (.inl (nI a)), some (.inl x)] (by decide) rfl (Nat.le_of_ble_eq_true rfl) ?_
  refine g_ald0 (pc' := 1) dX0_perform_0 rfl ?_
  refine g_iconst (pc' := 2) (v := nI 0) dX0_perform_1 rfl (by decide) ?_
  refine g_putI (pc' := 5) ag.s23 (by decide) ⟨fX0_23, rfl, pI⟩ dX0_perform_2 rfl ?_
  refine g_ald0 (pc' := 6) dX0_perform_5 rfl ?_
  refine g_ild1 (pc' := 7) dX0_perform_6 rfl ?_
  refine g_callV (pc' := 10) (c_aHas l ag (by simp [upM, hn]) hN (nI num)) ag.s23 (by decide) wX0_has lX0_26 rfl rfl (Nat.le_of_ble_eq_true rfl) ⟨Nat.le_of_ble_eq_true rfl, Nat.le_of_ble_eq_true rfl⟩ ⟨Nat.le_of_ble_eq_true rfl, Nat.le_of_ble_eq_true rfl⟩ dX0_perform_7 rfl (kIp ?_)
  refine g_ifeqB (pc' := 13) (tgt := 22) dX0_perform_10 (by decide) rfl (fun h10 => (by first | exact absurd h10 (by rw [inb_nI (by omega) (by omega)]; simp [hnum]) | exact absurd (by rw [inb_nI (by omega) (by omega)]; simp [hnum]) h10)) (fun h10 => ?_)
  refine g_ild2 (pc' := 14) dX0_perform_13 rfl ?_
  refine g_ifltN (pc' := 17) (by omega) dX0_perform_14 rfl ?_
  refine g_ild2 (pc' := 18) dX0_perform_17 rfl ?_
  refine g_iconst (pc' := 19) (v := nI 4) dX0_perform_18 rfl (by decide) ?_
  refine g_icmpltN (pc' := 22) (by omega) (by omega) (tgt := 24) dX0_perform_19 (by decide) rfl (fun h19 => ?_) (fun h19 => absurd h19 (by omega))
  refine g_ald0 (pc' := 25) dX0_perform_24 rfl ?_
  refine g_ild1 (pc' := 26) dX0_perform_25 rfl ?_
  refine g_putI (pc' := 29) ag.s23 (by decide) ⟨fX0_30, rfl, pI⟩ dX0_perform_26 rfl ?_
  refine g_ald0 (pc' := 30) dX0_perform_29 rfl ?_
  refine g_ild2 (pc' := 31) dX0_perform_30 rfl ?_
  refine g_ild3 (pc' := 32) dX0_perform_31 rfl ?_
  refine g_iconst (pc' := 33) (v := nI 0) dX0_perform_32 rfl (by decide) ?_
  refine g_callV (pc' := 36) (c_own l ag (by omega) hkd (ask_all l ag (by omega) hkd 31) (t := []) (δ := 0) hT0 ⟨upM_s _ _ _ _, by simp [upM]; exact hk, by simp [upM], fun i hi => absurd hi (by simp)⟩ (by decide) ha (by decide)) ag.s23 (by decide) wX0_own lX0_33 rfl rfl (Nat.le_of_ble_eq_true rfl) (rOk3 (f := 31) (dp := 3) (c := 1) (by decide) (by decide) (by decide)) ⟨Nat.le_of_ble_eq_true rfl, Nat.le_of_ble_eq_true rfl⟩ dX0_perform_33 rfl (kI (fun v J hq => ?_))
  refine g_iret rfl dX0_perform_36 ?_
  exact eI ⟨hq.1, by simpa using hq.2.1, ((Fr.rf.up (Or.inl (Or.inl ⟨rfl, rfl⟩))).up (Or.inr ⟨rfl, rfl⟩)).tr (hq.2.2.le (fun t i q => Or.inl q))⟩
