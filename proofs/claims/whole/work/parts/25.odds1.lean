/-! Odds: the numbers more, one after another -/
abbrev V4 : Type := Nat × Nat × Nat × Nat
def sm (v : V4) : Nat := v.1 + v.2.1 + v.2.2.1 + v.2.2.2
def cN (v : V4) : Nat := v.1 + 7 * v.2.1 + 49 * v.2.2.1 + 343 * v.2.2.2
def OKv (n m : Nat) (v : V4) : Prop := (n = 0 → v.1 = 0) ∧ (n ≤ 1 → v.2.1 = 0) ∧ (n ≤ 2 → v.2.2.1 = 0) ∧ (n ≤ 3 → v.2.2.2 = 0) ∧ sm v ≤ m
def OM (J : MI) (v : V4) : Prop := J (31, 0) 0 = nI v.1 ∧ J (31, 0) 1 = nI v.2.1 ∧ J (31, 0) 2 = nI v.2.2.1 ∧ J (31, 0) 3 = nI v.2.2.2 ∧ J (29, 0) 4 = nI (sm v) ∧ J (29, 0) 5 = nI (cN v)
def odP (t : Tok) (i : Nat) : Prop := (t = (29, 0) ∧ (i = 4 ∨ i = 5)) ∨ t = (31, 0)
def ST (I : MI) : Prop := I (36, 0) 0 = nI 1 ∧ I (36, 0) 1 = nI 7 ∧ I (36, 0) 2 = nI 49 ∧ I (36, 0) 3 = nI 343

theorem c_oStart (l : Launch) {S : Shp} {I : MI} {L : ML} {R : MR} (og : OG S R) : Ct l mX3_start 2 0 0 [.inr (.inr (some (29, 0)))] S I L R (PVm S L R (fun J => OM J (0, 0, 0, 0) ∧ Fr odP I J)) := by
  refine Ct.of [some (.inr (.inr (some (29, 0))))] (by decide) rfl (Nat.le_of_ble_eq_true rfl) ?_
  refine g_ald0 (pc' := 1) dX3_start_0 rfl ?_
  refine g_getR (pc' := 4) og.s29 (by decide) fX3_15 og.r29_3 dX3_start_1 rfl ?_
  refine g_iconst (pc' := 5) (v := nI 0) dX3_start_4 rfl (by decide) ?_
  refine g_callS (pc' := 8) (c_fillI l S _ L R og.s31 (by decide)) wJ7_fill_53178 lX3_83 rfl rfl (Nat.le_of_ble_eq_true rfl) ⟨Nat.le_of_ble_eq_true rfl, Nat.le_of_ble_eq_true rfl⟩ ⟨Nat.le_of_ble_eq_true rfl, Nat.le_of_ble_eq_true rfl⟩ dX3_start_5 rfl (kV (fun J hq => ?_))
  refine g_ald0 (pc' := 9) dX3_start_8 rfl ?_
  refine g_iconst (pc' := 10) (v := nI 0) dX3_start_9 rfl (by decide) ?_
  refine g_putI (pc' := 13) og.s29 (by decide) ⟨fX3_89, rfl, pI⟩ dX3_start_10 rfl ?_
  refine g_ald0 (pc' := 14) dX3_start_13 rfl ?_
  refine g_iconst (pc' := 15) (v := nI 0) dX3_start_14 rfl (by decide) ?_
  refine g_putI (pc' := 18) og.s29 (by decide) ⟨fX3_40, rfl, pI⟩ dX3_start_15 rfl ?_
  refine g_vret rfl dX3_start_18 ?_
  exact eV ⟨⟨by simp [upM, hq, upT, filN], by simp [upM, hq, upT, filN], by simp [upM, hq, upT, filN], by simp [upM, hq, upT, filN], by simp [upM, sm], by simp [upM, cN]⟩, by rw [hq]; exact ((Fr.rf.upT (by simp [odP])).up (by simp [odP])).up (by simp [odP])⟩

theorem c_turn (l : Launch) {S : Shp} {I : MI} {L : ML} {R : MR} (og : OG S R) (sg : SG S R) {n m : Nat} (hn : I (1, 0) 1 = nI n) (hn4 : n ≤ 4) (hm : m ≤ 6) (st : ST I) {v : V4} (hv : OM I v) (hok : OKv n m v) : Ct l mX3_turn 1 0 0 [.inr (.inr (some (29, 0))), .inl (nI m)] S I L R (PIm S L R (fun r J => (∃ v', r = nI 1 ∧ OM J v' ∧ OKv n m v' ∧ cN v < cN v' ∧ (∀ x, OKv n m x → cN v < cN x → cN v' ≤ cN x) ∧ Fr odP I J) ∨ (r = nI 0 ∧ (∀ x, OKv n m x → cN x ≤ cN v) ∧ Fr odP I J))) := by
  obtain ⟨a, b, c, d⟩ := v
  obtain ⟨o0, o1, o2, o3, o4, o5⟩ := hv
  obtain ⟨k0, k1, k2, k3, k4⟩ := hok
  simp only [sm, cN] at o0 o1 o2 o3 o4 o5 k0 k1 k2 k3 k4 ⊢
  refine Ct.of [some (.inr (.inr (some (29, 0)))), some (.inl (nI m)), none] (by decide) rfl (Nat.le_of_ble_eq_true rfl) ?_
  refine g_iconst (pc' := 1) (v := nI 0) dX3_turn_0 rfl (by decide) ?_
  refine g_ist2 (pc' := 2) rfl (by decide) dX3_turn_1 rfl ?_
  refine g_ild2 (pc' := 3) dX3_turn_2 rfl ?_
  refine g_ald0 (pc' := 4) dX3_turn_3 rfl ?_
  refine g_getR (pc' := 7) og.s29 (by decide) fX3_19 og.r29_0 dX3_turn_4 rfl ?_
  refine g_getI (pc' := 10) sg.s1 (by decide) fX3_72 hn dX3_turn_7 rfl ?_
  refine g_icmpgeN (pc' := 13) (by omega) (by omega) (tgt := 111) dX3_turn_10 (by decide) rfl (fun h10 => ?_) (fun h10 => ?_)
  · refine g_iconst (pc' := 112) (v := nI 0) dX3_turn_111 rfl (by decide) ?_
    refine g_zret (ty := .boolean) rfl (by decide) dX3_turn_112 ?_
    exact eI (Or.inr ⟨rfl, fun ⟨x0, x1, x2, x3⟩ hx => (by simp only [OKv, cN, sm] at hx ⊢; omega), Fr.rf⟩)
  · refine g_ild2 (pc' := 14) dX3_turn_13 rfl ?_
    refine g_iconst (pc' := 15) (v := nI 4) dX3_turn_14 rfl (by decide) ?_
    refine g_icmpgeN (pc' := 18) (by omega) (by omega) (tgt := 111) dX3_turn_15 (by decide) rfl (fun h15 => absurd h15 (by omega)) (fun h15 => ?_)
    refine g_ald0 (pc' := 19) dX3_turn_18 rfl ?_
    refine g_getI (pc' := 22) og.s29 (by decide) fX3_89 o4 dX3_turn_19 rfl ?_
    refine g_ild1 (pc' := 23) dX3_turn_22 rfl ?_
    refine g_icmpgeN (pc' := 26) (by omega) (by omega) (tgt := 62) dX3_turn_23 (by decide) rfl (fun h23 => ?_) (fun h23 => ?_)
    · refine g_ald0 (pc' := 63) dX3_turn_62 rfl ?_
      refine g_dupR (pc' := 64) dX3_turn_63 rfl ?_
      refine g_getI (pc' := 67) og.s29 (by decide) fX3_89 o4 dX3_turn_64 rfl ?_
      refine g_ald0 (pc' := 68) dX3_turn_67 rfl ?_
      refine g_getR (pc' := 71) og.s29 (by decide) fX3_15 og.r29_3 dX3_turn_68 rfl ?_
      refine g_ild2 (pc' := 72) dX3_turn_71 rfl ?_
      refine g_iald (pc' := 73) (j := 0) og.s31 rfl (by omega) (by decide) o0 dX3_turn_72 rfl ?_
      refine g_isub (pc' := 74) dX3_turn_73 rfl ?_
      refine g_topi (v := nI (b + c + d)) ((pk_sub (by omega)).trans (congrArg nI (by omega))) ?_
      refine g_putI (pc' := 77) og.s29 (by decide) ⟨fX3_89, rfl, pI⟩ dX3_turn_74 rfl ?_
      refine g_ald0 (pc' := 78) dX3_turn_77 rfl ?_
      refine g_dupR (pc' := 79) dX3_turn_78 rfl ?_
      refine g_getI (pc' := 82) og.s29 (by decide) fX3_40 (v := nI (a + 7 * b + 49 * c + 343 * d)) (by simp [upM, o5]) dX3_turn_79 rfl ?_
      refine g_ald0 (pc' := 83) dX3_turn_82 rfl ?_
      refine g_getR (pc' := 86) og.s29 (by decide) fX3_15 og.r29_3 dX3_turn_83 rfl ?_
      refine g_ild2 (pc' := 87) dX3_turn_86 rfl ?_
      refine g_iald (pc' := 88) (j := 0) og.s31 rfl (by omega) (by decide) (v := nI a) (by simp [upM, o0]) dX3_turn_87 rfl ?_
      refine g_steps (pc' := 91) fX3_77 dX3_turn_88 rfl ?_
      refine g_ild2 (pc' := 92) dX3_turn_91 rfl ?_
      refine g_xald (pc' := 93) (j := 0) og.s36 rfl (by omega) (by decide) (v := nI 1) (by simp [upM, st.1]) dX3_turn_92 rfl ?_
      refine g_imulN (pc' := 94) dX3_turn_93 rfl ?_
      refine g_isub (pc' := 95) dX3_turn_94 rfl ?_
      refine g_topi (v := nI (7 * b + 49 * c + 343 * d)) ((pk_sub (by omega)).trans (congrArg nI (by omega))) ?_
      refine g_putI (pc' := 98) og.s29 (by decide) ⟨fX3_40, rfl, pI⟩ dX3_turn_95 rfl ?_
      refine g_ald0 (pc' := 99) dX3_turn_98 rfl ?_
      refine g_getR (pc' := 102) og.s29 (by decide) fX3_15 og.r29_3 dX3_turn_99 rfl ?_
      refine g_ild2 (pc' := 103) dX3_turn_102 rfl ?_
      refine g_iconst (pc' := 104) (v := nI 0) dX3_turn_103 rfl (by decide) ?_
      refine g_iast (pc' := 105) (j := 0) og.s31 rfl (by omega) (by decide) dX3_turn_104 rfl ?_
      refine g_inc2 (pc' := 108) rfl (by decide) (v := nI (0 + 1)) (nI_1 _) dX3_turn_105 rfl ?_
      refine g_goto (tgt := 2) dX3_turn_108 (by decide) ?_
      refine g_ild2 (pc' := 3) dX3_turn_2 rfl ?_
      refine g_ald0 (pc' := 4) dX3_turn_3 rfl ?_
      refine g_getR (pc' := 7) og.s29 (by decide) fX3_19 og.r29_0 dX3_turn_4 rfl ?_
      refine g_getI (pc' := 10) sg.s1 (by decide) fX3_72 (v := nI n) (by simp [upM, hn]) dX3_turn_7 rfl ?_
      refine g_icmpgeN (pc' := 13) (by omega) (by omega) (tgt := 111) dX3_turn_10 (by decide) rfl (fun h10 => ?_) (fun h10 => ?_)
      · refine g_iconst (pc' := 112) (v := nI 0) dX3_turn_111 rfl (by decide) ?_
        refine g_zret (ty := .boolean) rfl (by decide) dX3_turn_112 ?_
        exact eI (Or.inr ⟨rfl, fun ⟨x0, x1, x2, x3⟩ hx => (by simp only [OKv, cN, sm] at hx ⊢; omega), (((Fr.rf.up (by simp [odP])).up (by simp [odP])).up (by simp [odP]))⟩)
      · refine g_ild2 (pc' := 14) dX3_turn_13 rfl ?_
        refine g_iconst (pc' := 15) (v := nI 4) dX3_turn_14 rfl (by decide) ?_
        refine g_icmpgeN (pc' := 18) (by omega) (by omega) (tgt := 111) dX3_turn_15 (by decide) rfl (fun h15 => absurd h15 (by omega)) (fun h15 => ?_)
        refine g_ald0 (pc' := 19) dX3_turn_18 rfl ?_
        refine g_getI (pc' := 22) og.s29 (by decide) fX3_89 (v := nI (b + c + d)) (by simp [upM]) dX3_turn_19 rfl ?_
        refine g_ild1 (pc' := 23) dX3_turn_22 rfl ?_
        refine g_icmpgeN (pc' := 26) (by omega) (by omega) (tgt := 62) dX3_turn_23 (by decide) rfl (fun h23 => ?_) (fun h23 => ?_)
        · refine g_ald0 (pc' := 63) dX3_turn_62 rfl ?_
          refine g_dupR (pc' := 64) dX3_turn_63 rfl ?_
          refine g_getI (pc' := 67) og.s29 (by decide) fX3_89 (v := nI (b + c + d)) (by simp [upM]) dX3_turn_64 rfl ?_
          refine g_ald0 (pc' := 68) dX3_turn_67 rfl ?_
          refine g_getR (pc' := 71) og.s29 (by decide) fX3_15 og.r29_3 dX3_turn_68 rfl ?_
          refine g_ild2 (pc' := 72) dX3_turn_71 rfl ?_
          refine g_iald (pc' := 73) (j := 1) og.s31 rfl (by omega) (by decide) (v := nI b) (by simp [upM, o1]) dX3_turn_72 rfl ?_
          refine g_isub (pc' := 74) dX3_turn_73 rfl ?_
          refine g_topi (v := nI (c + d)) ((pk_sub (by omega)).trans (congrArg nI (by omega))) ?_
          refine g_putI (pc' := 77) og.s29 (by decide) ⟨fX3_89, rfl, pI⟩ dX3_turn_74 rfl ?_
          refine g_ald0 (pc' := 78) dX3_turn_77 rfl ?_
          refine g_dupR (pc' := 79) dX3_turn_78 rfl ?_
          refine g_getI (pc' := 82) og.s29 (by decide) fX3_40 (v := nI (7 * b + 49 * c + 343 * d)) (by simp [upM]) dX3_turn_79 rfl ?_
          refine g_ald0 (pc' := 83) dX3_turn_82 rfl ?_
          refine g_getR (pc' := 86) og.s29 (by decide) fX3_15 og.r29_3 dX3_turn_83 rfl ?_
          refine g_ild2 (pc' := 87) dX3_turn_86 rfl ?_
          refine g_iald (pc' := 88) (j := 1) og.s31 rfl (by omega) (by decide) (v := nI b) (by simp [upM, o1]) dX3_turn_87 rfl ?_
          refine g_steps (pc' := 91) fX3_77 dX3_turn_88 rfl ?_
          refine g_ild2 (pc' := 92) dX3_turn_91 rfl ?_
          refine g_xald (pc' := 93) (j := 1) og.s36 rfl (by omega) (by decide) (v := nI 7) (by simp [upM, st.2.1]) dX3_turn_92 rfl ?_
          refine g_imulN (pc' := 94) dX3_turn_93 rfl ?_
          refine g_isub (pc' := 95) dX3_turn_94 rfl ?_
          refine g_topi (v := nI (49 * c + 343 * d)) ((pk_sub (by omega)).trans (congrArg nI (by omega))) ?_
          refine g_putI (pc' := 98) og.s29 (by decide) ⟨fX3_40, rfl, pI⟩ dX3_turn_95 rfl ?_
          refine g_ald0 (pc' := 99) dX3_turn_98 rfl ?_
          refine g_getR (pc' := 102) og.s29 (by decide) fX3_15 og.r29_3 dX3_turn_99 rfl ?_
          refine g_ild2 (pc' := 103) dX3_turn_102 rfl ?_
          refine g_iconst (pc' := 104) (v := nI 0) dX3_turn_103 rfl (by decide) ?_
          refine g_iast (pc' := 105) (j := 1) og.s31 rfl (by omega) (by decide) dX3_turn_104 rfl ?_
          refine g_inc2 (pc' := 108) rfl (by decide) (v := nI (1 + 1)) (nI_1 _) dX3_turn_105 rfl ?_
          refine g_goto (tgt := 2) dX3_turn_108 (by decide) ?_
          refine g_ild2 (pc' := 3) dX3_turn_2 rfl ?_
          refine g_ald0 (pc' := 4) dX3_turn_3 rfl ?_
          refine g_getR (pc' := 7) og.s29 (by decide) fX3_19 og.r29_0 dX3_turn_4 rfl ?_
          refine g_getI (pc' := 10) sg.s1 (by decide) fX3_72 (v := nI n) (by simp [upM, hn]) dX3_turn_7 rfl ?_
          refine g_icmpgeN (pc' := 13) (by omega) (by omega) (tgt := 111) dX3_turn_10 (by decide) rfl (fun h10 => ?_) (fun h10 => ?_)
          · refine g_iconst (pc' := 112) (v := nI 0) dX3_turn_111 rfl (by decide) ?_
            refine g_zret (ty := .boolean) rfl (by decide) dX3_turn_112 ?_
            exact eI (Or.inr ⟨rfl, fun ⟨x0, x1, x2, x3⟩ hx => (by simp only [OKv, cN, sm] at hx ⊢; omega), ((((((Fr.rf.up (by simp [odP])).up (by simp [odP])).up (by simp [odP])).up (by simp [odP])).up (by simp [odP])).up (by simp [odP]))⟩)
          · refine g_ild2 (pc' := 14) dX3_turn_13 rfl ?_
            refine g_iconst (pc' := 15) (v := nI 4) dX3_turn_14 rfl (by decide) ?_
            refine g_icmpgeN (pc' := 18) (by omega) (by omega) (tgt := 111) dX3_turn_15 (by decide) rfl (fun h15 => absurd h15 (by omega)) (fun h15 => ?_)
            refine g_ald0 (pc' := 19) dX3_turn_18 rfl ?_
            refine g_getI (pc' := 22) og.s29 (by decide) fX3_89 (v := nI (c + d)) (by simp [upM]) dX3_turn_19 rfl ?_
            refine g_ild1 (pc' := 23) dX3_turn_22 rfl ?_
            refine g_icmpgeN (pc' := 26) (by omega) (by omega) (tgt := 62) dX3_turn_23 (by decide) rfl (fun h23 => ?_) (fun h23 => ?_)
            · refine g_ald0 (pc' := 63) dX3_turn_62 rfl ?_
              refine g_dupR (pc' := 64) dX3_turn_63 rfl ?_
              refine g_getI (pc' := 67) og.s29 (by decide) fX3_89 (v := nI (c + d)) (by simp [upM]) dX3_turn_64 rfl ?_
              refine g_ald0 (pc' := 68) dX3_turn_67 rfl ?_
              refine g_getR (pc' := 71) og.s29 (by decide) fX3_15 og.r29_3 dX3_turn_68 rfl ?_
              refine g_ild2 (pc' := 72) dX3_turn_71 rfl ?_
              refine g_iald (pc' := 73) (j := 2) og.s31 rfl (by omega) (by decide) (v := nI c) (by simp [upM, o2]) dX3_turn_72 rfl ?_
              refine g_isub (pc' := 74) dX3_turn_73 rfl ?_
              refine g_topi (v := nI (d)) ((pk_sub (by omega)).trans (congrArg nI (by omega))) ?_
              refine g_putI (pc' := 77) og.s29 (by decide) ⟨fX3_89, rfl, pI⟩ dX3_turn_74 rfl ?_
              refine g_ald0 (pc' := 78) dX3_turn_77 rfl ?_
              refine g_dupR (pc' := 79) dX3_turn_78 rfl ?_
              refine g_getI (pc' := 82) og.s29 (by decide) fX3_40 (v := nI (49 * c + 343 * d)) (by simp [upM]) dX3_turn_79 rfl ?_
              refine g_ald0 (pc' := 83) dX3_turn_82 rfl ?_
              refine g_getR (pc' := 86) og.s29 (by decide) fX3_15 og.r29_3 dX3_turn_83 rfl ?_
              refine g_ild2 (pc' := 87) dX3_turn_86 rfl ?_
              refine g_iald (pc' := 88) (j := 2) og.s31 rfl (by omega) (by decide) (v := nI c) (by simp [upM, o2]) dX3_turn_87 rfl ?_
              refine g_steps (pc' := 91) fX3_77 dX3_turn_88 rfl ?_
              refine g_ild2 (pc' := 92) dX3_turn_91 rfl ?_
              refine g_xald (pc' := 93) (j := 2) og.s36 rfl (by omega) (by decide) (v := nI 49) (by simp [upM, st.2.2.1]) dX3_turn_92 rfl ?_
              refine g_imulN (pc' := 94) dX3_turn_93 rfl ?_
              refine g_isub (pc' := 95) dX3_turn_94 rfl ?_
              refine g_topi (v := nI (343 * d)) ((pk_sub (by omega)).trans (congrArg nI (by omega))) ?_
              refine g_putI (pc' := 98) og.s29 (by decide) ⟨fX3_40, rfl, pI⟩ dX3_turn_95 rfl ?_
              refine g_ald0 (pc' := 99) dX3_turn_98 rfl ?_
              refine g_getR (pc' := 102) og.s29 (by decide) fX3_15 og.r29_3 dX3_turn_99 rfl ?_
              refine g_ild2 (pc' := 103) dX3_turn_102 rfl ?_
              refine g_iconst (pc' := 104) (v := nI 0) dX3_turn_103 rfl (by decide) ?_
              refine g_iast (pc' := 105) (j := 2) og.s31 rfl (by omega) (by decide) dX3_turn_104 rfl ?_
              refine g_inc2 (pc' := 108) rfl (by decide) (v := nI (2 + 1)) (nI_1 _) dX3_turn_105 rfl ?_
              refine g_goto (tgt := 2) dX3_turn_108 (by decide) ?_
              refine g_ild2 (pc' := 3) dX3_turn_2 rfl ?_
              refine g_ald0 (pc' := 4) dX3_turn_3 rfl ?_
              refine g_getR (pc' := 7) og.s29 (by decide) fX3_19 og.r29_0 dX3_turn_4 rfl ?_
              refine g_getI (pc' := 10) sg.s1 (by decide) fX3_72 (v := nI n) (by simp [upM, hn]) dX3_turn_7 rfl ?_
              refine g_icmpgeN (pc' := 13) (by omega) (by omega) (tgt := 111) dX3_turn_10 (by decide) rfl (fun h10 => ?_) (fun h10 => ?_)
              · refine g_iconst (pc' := 112) (v := nI 0) dX3_turn_111 rfl (by decide) ?_
                refine g_zret (ty := .boolean) rfl (by decide) dX3_turn_112 ?_
                exact eI (Or.inr ⟨rfl, fun ⟨x0, x1, x2, x3⟩ hx => (by simp only [OKv, cN, sm] at hx ⊢; omega), (((((((((Fr.rf.up (by simp [odP])).up (by simp [odP])).up (by simp [odP])).up (by simp [odP])).up (by simp [odP])).up (by simp [odP])).up (by simp [odP])).up (by simp [odP])).up (by simp [odP]))⟩)
              · refine g_ild2 (pc' := 14) dX3_turn_13 rfl ?_
                refine g_iconst (pc' := 15) (v := nI 4) dX3_turn_14 rfl (by decide) ?_
                refine g_icmpgeN (pc' := 18) (by omega) (by omega) (tgt := 111) dX3_turn_15 (by decide) rfl (fun h15 => absurd h15 (by omega)) (fun h15 => ?_)
                refine g_ald0 (pc' := 19) dX3_turn_18 rfl ?_
                refine g_getI (pc' := 22) og.s29 (by decide) fX3_89 (v := nI (d)) (by simp [upM]) dX3_turn_19 rfl ?_
                refine g_ild1 (pc' := 23) dX3_turn_22 rfl ?_
                refine g_icmpgeN (pc' := 26) (by omega) (by omega) (tgt := 62) dX3_turn_23 (by decide) rfl (fun h23 => ?_) (fun h23 => ?_)
                · refine g_ald0 (pc' := 63) dX3_turn_62 rfl ?_
                  refine g_dupR (pc' := 64) dX3_turn_63 rfl ?_
                  refine g_getI (pc' := 67) og.s29 (by decide) fX3_89 (v := nI (d)) (by simp [upM]) dX3_turn_64 rfl ?_
                  refine g_ald0 (pc' := 68) dX3_turn_67 rfl ?_
                  refine g_getR (pc' := 71) og.s29 (by decide) fX3_15 og.r29_3 dX3_turn_68 rfl ?_
                  refine g_ild2 (pc' := 72) dX3_turn_71 rfl ?_
                  refine g_iald (pc' := 73) (j := 3) og.s31 rfl (by omega) (by decide) (v := nI d) (by simp [upM, o3]) dX3_turn_72 rfl ?_
                  refine g_isub (pc' := 74) dX3_turn_73 rfl ?_
                  refine g_topi (v := nI 0) ((pk_sub (by omega)).trans (congrArg nI (by omega))) ?_
                  refine g_putI (pc' := 77) og.s29 (by decide) ⟨fX3_89, rfl, pI⟩ dX3_turn_74 rfl ?_
                  refine g_ald0 (pc' := 78) dX3_turn_77 rfl ?_
                  refine g_dupR (pc' := 79) dX3_turn_78 rfl ?_
                  refine g_getI (pc' := 82) og.s29 (by decide) fX3_40 (v := nI (343 * d)) (by simp [upM]) dX3_turn_79 rfl ?_
                  refine g_ald0 (pc' := 83) dX3_turn_82 rfl ?_
                  refine g_getR (pc' := 86) og.s29 (by decide) fX3_15 og.r29_3 dX3_turn_83 rfl ?_
                  refine g_ild2 (pc' := 87) dX3_turn_86 rfl ?_
                  refine g_iald (pc' := 88) (j := 3) og.s31 rfl (by omega) (by decide) (v := nI d) (by simp [upM, o3]) dX3_turn_87 rfl ?_
                  refine g_steps (pc' := 91) fX3_77 dX3_turn_88 rfl ?_
                  refine g_ild2 (pc' := 92) dX3_turn_91 rfl ?_
                  refine g_xald (pc' := 93) (j := 3) og.s36 rfl (by omega) (by decide) (v := nI 343) (by simp [upM, st.2.2.2]) dX3_turn_92 rfl ?_
                  refine g_imulN (pc' := 94) dX3_turn_93 rfl ?_
                  refine g_isub (pc' := 95) dX3_turn_94 rfl ?_
                  refine g_topi (v := nI 0) ((pk_sub (by omega)).trans (congrArg nI (by omega))) ?_
                  refine g_putI (pc' := 98) og.s29 (by decide) ⟨fX3_40, rfl, pI⟩ dX3_turn_95 rfl ?_
                  refine g_ald0 (pc' := 99) dX3_turn_98 rfl ?_
                  refine g_getR (pc' := 102) og.s29 (by decide) fX3_15 og.r29_3 dX3_turn_99 rfl ?_
                  refine g_ild2 (pc' := 103) dX3_turn_102 rfl ?_
                  refine g_iconst (pc' := 104) (v := nI 0) dX3_turn_103 rfl (by decide) ?_
                  refine g_iast (pc' := 105) (j := 3) og.s31 rfl (by omega) (by decide) dX3_turn_104 rfl ?_
                  refine g_inc2 (pc' := 108) rfl (by decide) (v := nI (3 + 1)) (nI_1 _) dX3_turn_105 rfl ?_
                  refine g_goto (tgt := 2) dX3_turn_108 (by decide) ?_
                  refine g_ild2 (pc' := 3) dX3_turn_2 rfl ?_
                  refine g_ald0 (pc' := 4) dX3_turn_3 rfl ?_
                  refine g_getR (pc' := 7) og.s29 (by decide) fX3_19 og.r29_0 dX3_turn_4 rfl ?_
                  refine g_getI (pc' := 10) sg.s1 (by decide) fX3_72 (v := nI n) (by simp [upM, hn]) dX3_turn_7 rfl ?_
                  refine g_icmpgeN (pc' := 13) (by omega) (by omega) (tgt := 111) dX3_turn_10 (by decide) rfl (fun h10 => ?_) (fun h10 => absurd h10 (by omega))
                  refine g_iconst (pc' := 112) (v := nI 0) dX3_turn_111 rfl (by decide) ?_
                  refine g_zret (ty := .boolean) rfl (by decide) dX3_turn_112 ?_
                  exact eI (Or.inr ⟨rfl, fun ⟨x0, x1, x2, x3⟩ hx => (by simp only [OKv, cN, sm] at hx ⊢; omega), ((((((((((((Fr.rf.up (by simp [odP])).up (by simp [odP])).up (by simp [odP])).up (by simp [odP])).up (by simp [odP])).up (by simp [odP])).up (by simp [odP])).up (by simp [odP])).up (by simp [odP])).up (by simp [odP])).up (by simp [odP])).up (by simp [odP]))⟩)
                · refine g_ald0 (pc' := 27) dX3_turn_26 rfl ?_
                  refine g_getR (pc' := 30) og.s29 (by decide) fX3_15 og.r29_3 dX3_turn_27 rfl ?_
                  refine g_ild2 (pc' := 31) dX3_turn_30 rfl ?_
                  refine g_dup2 (pc' := 32) dX3_turn_31 rfl ?_
                  refine g_iald (pc' := 33) (j := 3) og.s31 rfl (by omega) (by decide) (v := nI d) (by simp [upM, o3]) dX3_turn_32 rfl ?_
                  refine g_iconst (pc' := 34) (v := nI 1) dX3_turn_33 rfl (by decide) ?_
                  refine g_iaddN (pc' := 35) dX3_turn_34 rfl ?_
                  refine g_iast (pc' := 36) (j := 3) og.s31 rfl (by omega) (by decide) dX3_turn_35 rfl ?_
                  refine g_ald0 (pc' := 37) dX3_turn_36 rfl ?_
                  refine g_dupR (pc' := 38) dX3_turn_37 rfl ?_
                  refine g_getI (pc' := 41) og.s29 (by decide) fX3_89 (v := nI (d)) (by simp [upM]) dX3_turn_38 rfl ?_
                  refine g_iconst (pc' := 42) (v := nI 1) dX3_turn_41 rfl (by decide) ?_
                  refine g_iaddN (pc' := 43) dX3_turn_42 rfl ?_
                  refine g_putI (pc' := 46) og.s29 (by decide) ⟨fX3_89, rfl, pI⟩ dX3_turn_43 rfl ?_
                  refine g_ald0 (pc' := 47) dX3_turn_46 rfl ?_
                  refine g_dupR (pc' := 48) dX3_turn_47 rfl ?_
                  refine g_getI (pc' := 51) og.s29 (by decide) fX3_40 (v := nI (343 * d)) (by simp [upM]) dX3_turn_48 rfl ?_
                  refine g_steps (pc' := 54) fX3_77 dX3_turn_51 rfl ?_
                  refine g_ild2 (pc' := 55) dX3_turn_54 rfl ?_
                  refine g_xald (pc' := 56) (j := 3) og.s36 rfl (by omega) (by decide) (v := nI 343) (by simp [upM, st.2.2.2]) dX3_turn_55 rfl ?_
                  refine g_iaddN (pc' := 57) dX3_turn_56 rfl ?_
                  refine g_putI (pc' := 60) og.s29 (by decide) ⟨fX3_40, rfl, pI⟩ dX3_turn_57 rfl ?_
                  refine g_iconst (pc' := 61) (v := nI 1) dX3_turn_60 rfl (by decide) ?_
                  refine g_zret (ty := .boolean) rfl (by decide) dX3_turn_61 ?_
                  exact eI (Or.inl ⟨(0, 0, 0, d + 1), rfl, ⟨by simp [upM, o0], by simp [upM, o1], by simp [upM, o2], by simp [upM, o3], (show _ = nI (d + 1) by simp [upM]).trans (congrArg nI (by simp only [sm]; omega)), (show _ = nI (343 * d + 343) by simp [upM]).trans (congrArg nI (by simp only [cN]; omega))⟩, by simp only [OKv, sm]; omega, by simp only [cN]; omega, fun ⟨x0, x1, x2, x3⟩ hx hc => (by simp only [OKv, cN, sm] at hx hc ⊢; omega), ((((((((((((Fr.rf.up (by simp [odP])).up (by simp [odP])).up (by simp [odP])).up (by simp [odP])).up (by simp [odP])).up (by simp [odP])).up (by simp [odP])).up (by simp [odP])).up (by simp [odP])).up (by simp [odP])).up (by simp [odP])).up (by simp [odP]))⟩)
            · refine g_ald0 (pc' := 27) dX3_turn_26 rfl ?_
              refine g_getR (pc' := 30) og.s29 (by decide) fX3_15 og.r29_3 dX3_turn_27 rfl ?_
              refine g_ild2 (pc' := 31) dX3_turn_30 rfl ?_
              refine g_dup2 (pc' := 32) dX3_turn_31 rfl ?_
              refine g_iald (pc' := 33) (j := 2) og.s31 rfl (by omega) (by decide) (v := nI c) (by simp [upM, o2]) dX3_turn_32 rfl ?_
              refine g_iconst (pc' := 34) (v := nI 1) dX3_turn_33 rfl (by decide) ?_
              refine g_iaddN (pc' := 35) dX3_turn_34 rfl ?_
              refine g_iast (pc' := 36) (j := 2) og.s31 rfl (by omega) (by decide) dX3_turn_35 rfl ?_
              refine g_ald0 (pc' := 37) dX3_turn_36 rfl ?_
              refine g_dupR (pc' := 38) dX3_turn_37 rfl ?_
              refine g_getI (pc' := 41) og.s29 (by decide) fX3_89 (v := nI (c + d)) (by simp [upM]) dX3_turn_38 rfl ?_
              refine g_iconst (pc' := 42) (v := nI 1) dX3_turn_41 rfl (by decide) ?_
              refine g_iaddN (pc' := 43) dX3_turn_42 rfl ?_
              refine g_putI (pc' := 46) og.s29 (by decide) ⟨fX3_89, rfl, pI⟩ dX3_turn_43 rfl ?_
              refine g_ald0 (pc' := 47) dX3_turn_46 rfl ?_
              refine g_dupR (pc' := 48) dX3_turn_47 rfl ?_
              refine g_getI (pc' := 51) og.s29 (by decide) fX3_40 (v := nI (49 * c + 343 * d)) (by simp [upM]) dX3_turn_48 rfl ?_
              refine g_steps (pc' := 54) fX3_77 dX3_turn_51 rfl ?_
              refine g_ild2 (pc' := 55) dX3_turn_54 rfl ?_
              refine g_xald (pc' := 56) (j := 2) og.s36 rfl (by omega) (by decide) (v := nI 49) (by simp [upM, st.2.2.1]) dX3_turn_55 rfl ?_
              refine g_iaddN (pc' := 57) dX3_turn_56 rfl ?_
              refine g_putI (pc' := 60) og.s29 (by decide) ⟨fX3_40, rfl, pI⟩ dX3_turn_57 rfl ?_
              refine g_iconst (pc' := 61) (v := nI 1) dX3_turn_60 rfl (by decide) ?_
              refine g_zret (ty := .boolean) rfl (by decide) dX3_turn_61 ?_
              exact eI (Or.inl ⟨(0, 0, c + 1, d), rfl, ⟨by simp [upM, o0], by simp [upM, o1], by simp [upM, o2], by simp [upM, o3], (show _ = nI (c + d + 1) by simp [upM]).trans (congrArg nI (by simp only [sm]; omega)), (show _ = nI (49 * c + 343 * d + 49) by simp [upM]).trans (congrArg nI (by simp only [cN]; omega))⟩, by simp only [OKv, sm]; omega, by simp only [cN]; omega, fun ⟨x0, x1, x2, x3⟩ hx hc => (by simp only [OKv, cN, sm] at hx hc ⊢; omega), (((((((((Fr.rf.up (by simp [odP])).up (by simp [odP])).up (by simp [odP])).up (by simp [odP])).up (by simp [odP])).up (by simp [odP])).up (by simp [odP])).up (by simp [odP])).up (by simp [odP]))⟩)
        · refine g_ald0 (pc' := 27) dX3_turn_26 rfl ?_
          refine g_getR (pc' := 30) og.s29 (by decide) fX3_15 og.r29_3 dX3_turn_27 rfl ?_
          refine g_ild2 (pc' := 31) dX3_turn_30 rfl ?_
          refine g_dup2 (pc' := 32) dX3_turn_31 rfl ?_
          refine g_iald (pc' := 33) (j := 1) og.s31 rfl (by omega) (by decide) (v := nI b) (by simp [upM, o1]) dX3_turn_32 rfl ?_
          refine g_iconst (pc' := 34) (v := nI 1) dX3_turn_33 rfl (by decide) ?_
          refine g_iaddN (pc' := 35) dX3_turn_34 rfl ?_
          refine g_iast (pc' := 36) (j := 1) og.s31 rfl (by omega) (by decide) dX3_turn_35 rfl ?_
          refine g_ald0 (pc' := 37) dX3_turn_36 rfl ?_
          refine g_dupR (pc' := 38) dX3_turn_37 rfl ?_
          refine g_getI (pc' := 41) og.s29 (by decide) fX3_89 (v := nI (b + c + d)) (by simp [upM]) dX3_turn_38 rfl ?_
          refine g_iconst (pc' := 42) (v := nI 1) dX3_turn_41 rfl (by decide) ?_
          refine g_iaddN (pc' := 43) dX3_turn_42 rfl ?_
          refine g_putI (pc' := 46) og.s29 (by decide) ⟨fX3_89, rfl, pI⟩ dX3_turn_43 rfl ?_
          refine g_ald0 (pc' := 47) dX3_turn_46 rfl ?_
          refine g_dupR (pc' := 48) dX3_turn_47 rfl ?_
          refine g_getI (pc' := 51) og.s29 (by decide) fX3_40 (v := nI (7 * b + 49 * c + 343 * d)) (by simp [upM]) dX3_turn_48 rfl ?_
          refine g_steps (pc' := 54) fX3_77 dX3_turn_51 rfl ?_
          refine g_ild2 (pc' := 55) dX3_turn_54 rfl ?_
          refine g_xald (pc' := 56) (j := 1) og.s36 rfl (by omega) (by decide) (v := nI 7) (by simp [upM, st.2.1]) dX3_turn_55 rfl ?_
          refine g_iaddN (pc' := 57) dX3_turn_56 rfl ?_
          refine g_putI (pc' := 60) og.s29 (by decide) ⟨fX3_40, rfl, pI⟩ dX3_turn_57 rfl ?_
          refine g_iconst (pc' := 61) (v := nI 1) dX3_turn_60 rfl (by decide) ?_
          refine g_zret (ty := .boolean) rfl (by decide) dX3_turn_61 ?_
          exact eI (Or.inl ⟨(0, b + 1, c, d), rfl, ⟨by simp [upM, o0], by simp [upM, o1], by simp [upM, o2], by simp [upM, o3], (show _ = nI (b + c + d + 1) by simp [upM]).trans (congrArg nI (by simp only [sm]; omega)), (show _ = nI (7 * b + 49 * c + 343 * d + 7) by simp [upM]).trans (congrArg nI (by simp only [cN]; omega))⟩, by simp only [OKv, sm]; omega, by simp only [cN]; omega, fun ⟨x0, x1, x2, x3⟩ hx hc => (by simp only [OKv, cN, sm] at hx hc ⊢; omega), ((((((Fr.rf.up (by simp [odP])).up (by simp [odP])).up (by simp [odP])).up (by simp [odP])).up (by simp [odP])).up (by simp [odP]))⟩)
    · refine g_ald0 (pc' := 27) dX3_turn_26 rfl ?_
      refine g_getR (pc' := 30) og.s29 (by decide) fX3_15 og.r29_3 dX3_turn_27 rfl ?_
      refine g_ild2 (pc' := 31) dX3_turn_30 rfl ?_
      refine g_dup2 (pc' := 32) dX3_turn_31 rfl ?_
      refine g_iald (pc' := 33) (j := 0) og.s31 rfl (by omega) (by decide) o0 dX3_turn_32 rfl ?_
      refine g_iconst (pc' := 34) (v := nI 1) dX3_turn_33 rfl (by decide) ?_
      refine g_iaddN (pc' := 35) dX3_turn_34 rfl ?_
      refine g_iast (pc' := 36) (j := 0) og.s31 rfl (by omega) (by decide) dX3_turn_35 rfl ?_
      refine g_ald0 (pc' := 37) dX3_turn_36 rfl ?_
      refine g_dupR (pc' := 38) dX3_turn_37 rfl ?_
      refine g_getI (pc' := 41) og.s29 (by decide) fX3_89 (v := nI (a + b + c + d)) (by simp [upM, o4]) dX3_turn_38 rfl ?_
      refine g_iconst (pc' := 42) (v := nI 1) dX3_turn_41 rfl (by decide) ?_
      refine g_iaddN (pc' := 43) dX3_turn_42 rfl ?_
      refine g_putI (pc' := 46) og.s29 (by decide) ⟨fX3_89, rfl, pI⟩ dX3_turn_43 rfl ?_
      refine g_ald0 (pc' := 47) dX3_turn_46 rfl ?_
      refine g_dupR (pc' := 48) dX3_turn_47 rfl ?_
      refine g_getI (pc' := 51) og.s29 (by decide) fX3_40 (v := nI (a + 7 * b + 49 * c + 343 * d)) (by simp [upM, o5]) dX3_turn_48 rfl ?_
      refine g_steps (pc' := 54) fX3_77 dX3_turn_51 rfl ?_
      refine g_ild2 (pc' := 55) dX3_turn_54 rfl ?_
      refine g_xald (pc' := 56) (j := 0) og.s36 rfl (by omega) (by decide) (v := nI 1) (by simp [upM, st.1]) dX3_turn_55 rfl ?_
      refine g_iaddN (pc' := 57) dX3_turn_56 rfl ?_
      refine g_putI (pc' := 60) og.s29 (by decide) ⟨fX3_40, rfl, pI⟩ dX3_turn_57 rfl ?_
      refine g_iconst (pc' := 61) (v := nI 1) dX3_turn_60 rfl (by decide) ?_
      refine g_zret (ty := .boolean) rfl (by decide) dX3_turn_61 ?_
      exact eI (Or.inl ⟨(a + 1, b, c, d), rfl, ⟨by simp [upM, o0], by simp [upM, o1], by simp [upM, o2], by simp [upM, o3], (show _ = nI (a + b + c + d + 1) by simp [upM]).trans (congrArg nI (by simp only [sm]; omega)), (show _ = nI (a + 7 * b + 49 * c + 343 * d + 1) by simp [upM]).trans (congrArg nI (by simp only [cN]; omega))⟩, by simp only [OKv, sm]; omega, by simp only [cN]; omega, fun ⟨x0, x1, x2, x3⟩ hx hc => (by simp only [OKv, cN, sm] at hx hc ⊢; omega), (((Fr.rf.up (by simp [odP])).up (by simp [odP])).up (by simp [odP]))⟩)
