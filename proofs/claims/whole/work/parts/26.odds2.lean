/-! Odds: a WORLD in thought, and what is mixed -/
def vG (v : V4) (s : Nat) : Nat := match s with
  | 0 => v.1
  | 1 => v.2.1
  | 2 => v.2.2.1
  | _ => v.2.2.2
def thP (t : Tok) (i : Nat) : Prop := (t = (11, 9) ∧ (i = 7 ∨ i = 8)) ∨ (t = (12, 9) ∧ i < 4)

theorem c_think (l : Launch) {S : Shp} {I : MI} {L : ML} {R : MR} (og : OG S R) (sg : SG S R) (wg : WG 9 S R) {k n g : Nat} (wgk : WG k S R) (hk9 : ¬ k = 9) (hn : I (1, 0) 1 = nI n) (hn4 : n ≤ 4) {v : V4} (hv : OM I v) : Ct l mX3_think 2 0 0 [.inr (.inr (some (29, 0))), .inr (.inr (some (11, k))), .inl (nI g)] S I L R (PVm S L R (fun J => J (11, 9) 7 = I (11, k) 7 + nI g ∧ J (11, 9) 8 = I (11, k) 8 + nI (sm v) ∧ (∀ s, s < n → J (12, 9) s = minI (I (12, k) s + nI (vG v s)) 99999) ∧ Fr thP I J)) := by
  obtain ⟨a, b, c, d⟩ := v
  obtain ⟨o0, o1, o2, o3, o4, o5⟩ := hv
  simp only at o0 o1 o2 o3 o5
  refine Ct.of [some (.inr (.inr (some (29, 0)))), some (.inr (.inr (some (11, k)))), some (.inl (nI g)), none] (by decide) rfl (Nat.le_of_ble_eq_true rfl) ?_
  refine g_ald0 (pc' := 1) dX3_think_0 rfl ?_
  refine g_getR (pc' := 4) og.s29 (by decide) fX3_23 og.r29_1 dX3_think_1 rfl ?_
  refine g_ald1 (pc' := 5) dX3_think_4 rfl ?_
  refine g_getI (pc' := 8) wgk.s11 (by decide) fX3_92 (v := I (11, k) 7) (rfl) dX3_think_5 rfl ?_
  refine g_ild2 (pc' := 9) dX3_think_8 rfl ?_
  refine g_iadd (pc' := 10) dX3_think_9 rfl ?_
  refine g_putI (pc' := 13) wg.s11 (by decide) ⟨fX3_92, rfl, pI⟩ dX3_think_10 rfl ?_
  refine g_ald0 (pc' := 14) dX3_think_13 rfl ?_
  refine g_getR (pc' := 17) og.s29 (by decide) fX3_23 og.r29_1 dX3_think_14 rfl ?_
  refine g_ald1 (pc' := 18) dX3_think_17 rfl ?_
  refine g_getI (pc' := 21) wgk.s11 (by decide) fX3_95 (v := I (11, k) 8) (by simp [upM, hk9]) dX3_think_18 rfl ?_
  refine g_ald0 (pc' := 22) dX3_think_21 rfl ?_
  refine g_getI (pc' := 25) og.s29 (by decide) fX3_89 (v := nI (sm (a, b, c, d))) (by simp [upM, o4]) dX3_think_22 rfl ?_
  refine g_iadd (pc' := 26) dX3_think_25 rfl ?_
  refine g_putI (pc' := 29) wg.s11 (by decide) ⟨fX3_95, rfl, pI⟩ dX3_think_26 rfl ?_
  refine g_iconst (pc' := 30) (v := nI 0) dX3_think_29 rfl (by decide) ?_
  refine g_ist3 (pc' := 31) rfl (by decide) dX3_think_30 rfl ?_
  refine g_ild3 (pc' := 32) dX3_think_31 rfl ?_
  refine g_ald0 (pc' := 33) dX3_think_32 rfl ?_
  refine g_getR (pc' := 36) og.s29 (by decide) fX3_19 og.r29_0 dX3_think_33 rfl ?_
  refine g_getI (pc' := 39) sg.s1 (by decide) fX3_72 (v := nI n) (by simp [upM, hn]) dX3_think_36 rfl ?_
  refine g_icmpgeN (pc' := 42) (by omega) (by omega) (tgt := 80) dX3_think_39 (by decide) rfl (fun h39 => ?_) (fun h39 => ?_)
  · refine g_vret rfl dX3_think_80 ?_
    have hns : n = 0 := by omega
    exact eV ⟨by simp [upM], by simp [upM], fun i hi => (by have : i = 0 ∨ i = 1 ∨ i = 2 ∨ i = 3 := by omega
                                                            rcases this with rfl | rfl | rfl | rfl <;> first | (exfalso; omega) | simp [upM, vG]), ((Fr.rf.up (by simp [thP])).up (by simp [thP]))⟩
  · refine g_ild3 (pc' := 43) dX3_think_42 rfl ?_
    refine g_iconst (pc' := 44) (v := nI 4) dX3_think_43 rfl (by decide) ?_
    refine g_icmpgeN (pc' := 47) (by omega) (by omega) (tgt := 80) dX3_think_44 (by decide) rfl (fun h44 => absurd h44 (by omega)) (fun h44 => ?_)
    refine g_ald0 (pc' := 48) dX3_think_47 rfl ?_
    refine g_getR (pc' := 51) og.s29 (by decide) fX3_23 og.r29_1 dX3_think_48 rfl ?_
    refine g_getR (pc' := 54) wg.s11 (by decide) fX3_44 wg.r11_10 dX3_think_51 rfl ?_
    refine g_ild3 (pc' := 55) dX3_think_54 rfl ?_
    refine g_ald1 (pc' := 56) dX3_think_55 rfl ?_
    refine g_getR (pc' := 59) wgk.s11 (by decide) fX3_44 wgk.r11_10 dX3_think_56 rfl ?_
    refine g_ild3 (pc' := 60) dX3_think_59 rfl ?_
    refine g_iald (pc' := 61) (j := 0) wgk.s12 rfl (by omega) (by decide) (v := I (12, k) 0) (by simp [upM, hk9]) dX3_think_60 rfl ?_
    refine g_ald0 (pc' := 62) dX3_think_61 rfl ?_
    refine g_getR (pc' := 65) og.s29 (by decide) fX3_15 og.r29_3 dX3_think_62 rfl ?_
    refine g_ild3 (pc' := 66) dX3_think_65 rfl ?_
    refine g_iald (pc' := 67) (j := 0) og.s31 rfl (by omega) (by decide) (v := nI a) (by simp [upM, o0]) dX3_think_66 rfl ?_
    refine g_iadd (pc' := 68) dX3_think_67 rfl ?_
    refine g_ldc (pc' := 70) dX3_think_68 rfl kX3_98 ?_
    refine g_callS (pc' := 73) (c_J9_min l S _ L R _ _) wJ9_min_7cf53 lX3_99 rfl rfl (Nat.le_of_ble_eq_true rfl) ⟨Nat.le_of_ble_eq_true rfl, Nat.le_of_ble_eq_true rfl⟩ ⟨Nat.le_of_ble_eq_true rfl, Nat.le_of_ble_eq_true rfl⟩ dX3_think_70 rfl (kIp ?_)
    refine g_iast (pc' := 74) (j := 0) wg.s12 rfl (by omega) (by decide) dX3_think_73 rfl ?_
    refine g_inc3 (pc' := 77) rfl (by decide) (v := nI (0 + 1)) (nI_1 _) dX3_think_74 rfl ?_
    refine g_goto (tgt := 31) dX3_think_77 (by decide) ?_
    refine g_ild3 (pc' := 32) dX3_think_31 rfl ?_
    refine g_ald0 (pc' := 33) dX3_think_32 rfl ?_
    refine g_getR (pc' := 36) og.s29 (by decide) fX3_19 og.r29_0 dX3_think_33 rfl ?_
    refine g_getI (pc' := 39) sg.s1 (by decide) fX3_72 (v := nI n) (by simp [upM, hn]) dX3_think_36 rfl ?_
    refine g_icmpgeN (pc' := 42) (by omega) (by omega) (tgt := 80) dX3_think_39 (by decide) rfl (fun h39 => ?_) (fun h39 => ?_)
    · refine g_vret rfl dX3_think_80 ?_
      have hns : n = 1 := by omega
      exact eV ⟨by simp [upM], by simp [upM], fun i hi => (by have : i = 0 ∨ i = 1 ∨ i = 2 ∨ i = 3 := by omega
                                                              rcases this with rfl | rfl | rfl | rfl <;> first | (exfalso; omega) | simp [upM, vG]), (((Fr.rf.up (by simp [thP])).up (by simp [thP])).up (by simp [thP]))⟩
    · refine g_ild3 (pc' := 43) dX3_think_42 rfl ?_
      refine g_iconst (pc' := 44) (v := nI 4) dX3_think_43 rfl (by decide) ?_
      refine g_icmpgeN (pc' := 47) (by omega) (by omega) (tgt := 80) dX3_think_44 (by decide) rfl (fun h44 => absurd h44 (by omega)) (fun h44 => ?_)
      refine g_ald0 (pc' := 48) dX3_think_47 rfl ?_
      refine g_getR (pc' := 51) og.s29 (by decide) fX3_23 og.r29_1 dX3_think_48 rfl ?_
      refine g_getR (pc' := 54) wg.s11 (by decide) fX3_44 wg.r11_10 dX3_think_51 rfl ?_
      refine g_ild3 (pc' := 55) dX3_think_54 rfl ?_
      refine g_ald1 (pc' := 56) dX3_think_55 rfl ?_
      refine g_getR (pc' := 59) wgk.s11 (by decide) fX3_44 wgk.r11_10 dX3_think_56 rfl ?_
      refine g_ild3 (pc' := 60) dX3_think_59 rfl ?_
      refine g_iald (pc' := 61) (j := 1) wgk.s12 rfl (by omega) (by decide) (v := I (12, k) 1) (by simp [upM, hk9]) dX3_think_60 rfl ?_
      refine g_ald0 (pc' := 62) dX3_think_61 rfl ?_
      refine g_getR (pc' := 65) og.s29 (by decide) fX3_15 og.r29_3 dX3_think_62 rfl ?_
      refine g_ild3 (pc' := 66) dX3_think_65 rfl ?_
      refine g_iald (pc' := 67) (j := 1) og.s31 rfl (by omega) (by decide) (v := nI b) (by simp [upM, o1]) dX3_think_66 rfl ?_
      refine g_iadd (pc' := 68) dX3_think_67 rfl ?_
      refine g_ldc (pc' := 70) dX3_think_68 rfl kX3_98 ?_
      refine g_callS (pc' := 73) (c_J9_min l S _ L R _ _) wJ9_min_7cf53 lX3_99 rfl rfl (Nat.le_of_ble_eq_true rfl) ⟨Nat.le_of_ble_eq_true rfl, Nat.le_of_ble_eq_true rfl⟩ ⟨Nat.le_of_ble_eq_true rfl, Nat.le_of_ble_eq_true rfl⟩ dX3_think_70 rfl (kIp ?_)
      refine g_iast (pc' := 74) (j := 1) wg.s12 rfl (by omega) (by decide) dX3_think_73 rfl ?_
      refine g_inc3 (pc' := 77) rfl (by decide) (v := nI (1 + 1)) (nI_1 _) dX3_think_74 rfl ?_
      refine g_goto (tgt := 31) dX3_think_77 (by decide) ?_
      refine g_ild3 (pc' := 32) dX3_think_31 rfl ?_
      refine g_ald0 (pc' := 33) dX3_think_32 rfl ?_
      refine g_getR (pc' := 36) og.s29 (by decide) fX3_19 og.r29_0 dX3_think_33 rfl ?_
      refine g_getI (pc' := 39) sg.s1 (by decide) fX3_72 (v := nI n) (by simp [upM, hn]) dX3_think_36 rfl ?_
      refine g_icmpgeN (pc' := 42) (by omega) (by omega) (tgt := 80) dX3_think_39 (by decide) rfl (fun h39 => ?_) (fun h39 => ?_)
      · refine g_vret rfl dX3_think_80 ?_
        have hns : n = 2 := by omega
        exact eV ⟨by simp [upM], by simp [upM], fun i hi => (by have : i = 0 ∨ i = 1 ∨ i = 2 ∨ i = 3 := by omega
                                                                rcases this with rfl | rfl | rfl | rfl <;> first | (exfalso; omega) | simp [upM, vG]), ((((Fr.rf.up (by simp [thP])).up (by simp [thP])).up (by simp [thP])).up (by simp [thP]))⟩
      · refine g_ild3 (pc' := 43) dX3_think_42 rfl ?_
        refine g_iconst (pc' := 44) (v := nI 4) dX3_think_43 rfl (by decide) ?_
        refine g_icmpgeN (pc' := 47) (by omega) (by omega) (tgt := 80) dX3_think_44 (by decide) rfl (fun h44 => absurd h44 (by omega)) (fun h44 => ?_)
        refine g_ald0 (pc' := 48) dX3_think_47 rfl ?_
        refine g_getR (pc' := 51) og.s29 (by decide) fX3_23 og.r29_1 dX3_think_48 rfl ?_
        refine g_getR (pc' := 54) wg.s11 (by decide) fX3_44 wg.r11_10 dX3_think_51 rfl ?_
        refine g_ild3 (pc' := 55) dX3_think_54 rfl ?_
        refine g_ald1 (pc' := 56) dX3_think_55 rfl ?_
        refine g_getR (pc' := 59) wgk.s11 (by decide) fX3_44 wgk.r11_10 dX3_think_56 rfl ?_
        refine g_ild3 (pc' := 60) dX3_think_59 rfl ?_
        refine g_iald (pc' := 61) (j := 2) wgk.s12 rfl (by omega) (by decide) (v := I (12, k) 2) (by simp [upM, hk9]) dX3_think_60 rfl ?_
        refine g_ald0 (pc' := 62) dX3_think_61 rfl ?_
        refine g_getR (pc' := 65) og.s29 (by decide) fX3_15 og.r29_3 dX3_think_62 rfl ?_
        refine g_ild3 (pc' := 66) dX3_think_65 rfl ?_
        refine g_iald (pc' := 67) (j := 2) og.s31 rfl (by omega) (by decide) (v := nI c) (by simp [upM, o2]) dX3_think_66 rfl ?_
        refine g_iadd (pc' := 68) dX3_think_67 rfl ?_
        refine g_ldc (pc' := 70) dX3_think_68 rfl kX3_98 ?_
        refine g_callS (pc' := 73) (c_J9_min l S _ L R _ _) wJ9_min_7cf53 lX3_99 rfl rfl (Nat.le_of_ble_eq_true rfl) ⟨Nat.le_of_ble_eq_true rfl, Nat.le_of_ble_eq_true rfl⟩ ⟨Nat.le_of_ble_eq_true rfl, Nat.le_of_ble_eq_true rfl⟩ dX3_think_70 rfl (kIp ?_)
        refine g_iast (pc' := 74) (j := 2) wg.s12 rfl (by omega) (by decide) dX3_think_73 rfl ?_
        refine g_inc3 (pc' := 77) rfl (by decide) (v := nI (2 + 1)) (nI_1 _) dX3_think_74 rfl ?_
        refine g_goto (tgt := 31) dX3_think_77 (by decide) ?_
        refine g_ild3 (pc' := 32) dX3_think_31 rfl ?_
        refine g_ald0 (pc' := 33) dX3_think_32 rfl ?_
        refine g_getR (pc' := 36) og.s29 (by decide) fX3_19 og.r29_0 dX3_think_33 rfl ?_
        refine g_getI (pc' := 39) sg.s1 (by decide) fX3_72 (v := nI n) (by simp [upM, hn]) dX3_think_36 rfl ?_
        refine g_icmpgeN (pc' := 42) (by omega) (by omega) (tgt := 80) dX3_think_39 (by decide) rfl (fun h39 => ?_) (fun h39 => ?_)
        · refine g_vret rfl dX3_think_80 ?_
          have hns : n = 3 := by omega
          exact eV ⟨by simp [upM], by simp [upM], fun i hi => (by have : i = 0 ∨ i = 1 ∨ i = 2 ∨ i = 3 := by omega
                                                                  rcases this with rfl | rfl | rfl | rfl <;> first | (exfalso; omega) | simp [upM, vG]), (((((Fr.rf.up (by simp [thP])).up (by simp [thP])).up (by simp [thP])).up (by simp [thP])).up (by simp [thP]))⟩
        · refine g_ild3 (pc' := 43) dX3_think_42 rfl ?_
          refine g_iconst (pc' := 44) (v := nI 4) dX3_think_43 rfl (by decide) ?_
          refine g_icmpgeN (pc' := 47) (by omega) (by omega) (tgt := 80) dX3_think_44 (by decide) rfl (fun h44 => absurd h44 (by omega)) (fun h44 => ?_)
          refine g_ald0 (pc' := 48) dX3_think_47 rfl ?_
          refine g_getR (pc' := 51) og.s29 (by decide) fX3_23 og.r29_1 dX3_think_48 rfl ?_
          refine g_getR (pc' := 54) wg.s11 (by decide) fX3_44 wg.r11_10 dX3_think_51 rfl ?_
          refine g_ild3 (pc' := 55) dX3_think_54 rfl ?_
          refine g_ald1 (pc' := 56) dX3_think_55 rfl ?_
          refine g_getR (pc' := 59) wgk.s11 (by decide) fX3_44 wgk.r11_10 dX3_think_56 rfl ?_
          refine g_ild3 (pc' := 60) dX3_think_59 rfl ?_
          refine g_iald (pc' := 61) (j := 3) wgk.s12 rfl (by omega) (by decide) (v := I (12, k) 3) (by simp [upM, hk9]) dX3_think_60 rfl ?_
          refine g_ald0 (pc' := 62) dX3_think_61 rfl ?_
          refine g_getR (pc' := 65) og.s29 (by decide) fX3_15 og.r29_3 dX3_think_62 rfl ?_
          refine g_ild3 (pc' := 66) dX3_think_65 rfl ?_
          refine g_iald (pc' := 67) (j := 3) og.s31 rfl (by omega) (by decide) (v := nI d) (by simp [upM, o3]) dX3_think_66 rfl ?_
          refine g_iadd (pc' := 68) dX3_think_67 rfl ?_
          refine g_ldc (pc' := 70) dX3_think_68 rfl kX3_98 ?_
          refine g_callS (pc' := 73) (c_J9_min l S _ L R _ _) wJ9_min_7cf53 lX3_99 rfl rfl (Nat.le_of_ble_eq_true rfl) ⟨Nat.le_of_ble_eq_true rfl, Nat.le_of_ble_eq_true rfl⟩ ⟨Nat.le_of_ble_eq_true rfl, Nat.le_of_ble_eq_true rfl⟩ dX3_think_70 rfl (kIp ?_)
          refine g_iast (pc' := 74) (j := 3) wg.s12 rfl (by omega) (by decide) dX3_think_73 rfl ?_
          refine g_inc3 (pc' := 77) rfl (by decide) (v := nI (3 + 1)) (nI_1 _) dX3_think_74 rfl ?_
          refine g_goto (tgt := 31) dX3_think_77 (by decide) ?_
          refine g_ild3 (pc' := 32) dX3_think_31 rfl ?_
          refine g_ald0 (pc' := 33) dX3_think_32 rfl ?_
          refine g_getR (pc' := 36) og.s29 (by decide) fX3_19 og.r29_0 dX3_think_33 rfl ?_
          refine g_getI (pc' := 39) sg.s1 (by decide) fX3_72 (v := nI n) (by simp [upM, hn]) dX3_think_36 rfl ?_
          refine g_icmpgeN (pc' := 42) (by omega) (by omega) (tgt := 80) dX3_think_39 (by decide) rfl (fun h39 => ?_) (fun h39 => absurd h39 (by omega))
          refine g_vret rfl dX3_think_80 ?_
          have hns : n = 4 := by omega
          exact eV ⟨by simp [upM], by simp [upM], fun i hi => (by have : i = 0 ∨ i = 1 ∨ i = 2 ∨ i = 3 := by omega
                                                                  rcases this with rfl | rfl | rfl | rfl <;> first | (exfalso; omega) | simp [upM, vG]), ((((((Fr.rf.up (by simp [thP])).up (by simp [thP])).up (by simp [thP])).up (by simp [thP])).up (by simp [thP])).up (by simp [thP]))⟩

def mixF (no : Int32) (w : Nat → Int32) (C : Nat → Int64) (c : Nat) : Nat → Int64
  | 0 => no.toInt64 * C c
  | s + 1 => if w s ≤ 0 then mixF no w C c s else mixF no w C c s + (w s).toInt64 * C (c + 7 ^ s)
theorem ST.v {I : MI} (st : ST I) {i : Nat} (h : i < 4) : I (36, 0) i = nI (7 ^ i) := by
  rcases (show i = 0 ∨ i = 1 ∨ i = 2 ∨ i = 3 by omega) with rfl | rfl | rfl | rfl
  · exact st.1
  · exact st.2.1
  · exact st.2.2.1
  · exact st.2.2.2
theorem c_mixed (l : Launch) {S : Shp} {I : MI} {L : ML} {R : MR} (og : OG S R) (sg : SG S R) (wg : WG 9 S R) {n c : Nat} (hn : I (1, 0) 1 = nI n) (hn4 : n ≤ 4) (st : ST I) (hc : I (29, 0) 5 = nI c) (hc2 : c < 2401) (hb : ∀ s, s < n → c + 7 ^ s < 2401) : Ct l mX3_mixed 1 0 0 [.inr (.inr (some (29, 0)))] S I L R (PJp S I L R (mixF (I (11, 9) 5) (I (15, 9)) (L (30, 0)) c n)) := by
  refine Ct.of [some (.inr (.inr (some (29, 0)))), none, none, none, none] (by decide) rfl (Nat.le_of_ble_eq_true rfl) ?_
  refine g_ald0 (pc' := 1) dX3_mixed_0 rfl ?_
  refine g_getR (pc' := 4) og.s29 (by decide) fX3_23 og.r29_1 dX3_mixed_1 rfl ?_
  refine g_getI (pc' := 7) wg.s11 (by decide) fX3_69 rfl dX3_mixed_4 rfl ?_
  refine g_i2l (pc' := 8) dX3_mixed_7 rfl ?_
  refine g_ald0 (pc' := 9) dX3_mixed_8 rfl ?_
  refine g_getR (pc' := 12) og.s29 (by decide) fX3_11 og.r29_2 dX3_mixed_9 rfl ?_
  refine g_ald0 (pc' := 13) dX3_mixed_12 rfl ?_
  refine g_getI (pc' := 16) og.s29 (by decide) fX3_40 hc dX3_mixed_13 rfl ?_
  refine g_lald (pc' := 17) (j := c) og.s30 rfl (by omega) (by decide) rfl dX3_mixed_16 rfl ?_
  refine g_lmul (pc' := 18) dX3_mixed_17 rfl ?_
  refine g_lst1 (pc' := 19) rfl (by decide) dX3_mixed_18 rfl ?_
  refine g_iconst (pc' := 20) (v := nI 0) dX3_mixed_19 rfl (by decide) ?_
  refine g_ist3 (pc' := 21) rfl (by decide) dX3_mixed_20 rfl ?_
  refine g_loop (σ := Unit) (fun _ _ => True) (fun i s => [some (.inr (.inr (some (29, 0)))), some (.inr (.inl (mixF (I (11, 9) 5) (I (15, 9)) (L (30, 0)) c i))), none, some (.inl (nI i)), none]) (fun i s => I) (n) (0) () (by omega) (trivial) ?_ ?_
  · intro i s hi hP ih
    refine g_ild3 (pc' := 22) dX3_mixed_21 rfl ?_
    refine g_ald0 (pc' := 23) dX3_mixed_22 rfl ?_
    refine g_getR (pc' := 26) og.s29 (by decide) fX3_19 og.r29_0 dX3_mixed_23 rfl ?_
    refine g_getI (pc' := 29) sg.s1 (by decide) fX3_72 hn dX3_mixed_26 rfl ?_
    refine g_icmpgeN (pc' := 32) (by omega) (by omega) (tgt := 96) dX3_mixed_29 (by decide) rfl (fun h29 => ?_) (fun h29 => ?_)
    · exact absurd h29 (by omega)
    · refine g_ild3 (pc' := 33) dX3_mixed_32 rfl ?_
      refine g_iconst (pc' := 34) (v := nI 4) dX3_mixed_33 rfl (by decide) ?_
      refine g_icmpgeN (pc' := 37) (by omega) (by omega) (tgt := 96) dX3_mixed_34 (by decide) rfl (fun h34 => absurd h34 (by omega)) (fun h34 => ?_)
      refine g_ald0 (pc' := 38) dX3_mixed_37 rfl ?_
      refine g_getI (pc' := 41) og.s29 (by decide) fX3_40 hc dX3_mixed_38 rfl ?_
      refine g_steps (pc' := 44) fX3_77 dX3_mixed_41 rfl ?_
      refine g_ild3 (pc' := 45) dX3_mixed_44 rfl ?_
      refine g_xald (pc' := 46) (j := i) og.s36 rfl (by omega) (by decide) (v := nI (7 ^ i)) (st.v (by omega)) dX3_mixed_45 rfl ?_
      refine g_iaddN (pc' := 47) dX3_mixed_46 rfl ?_
      refine g_ist4 (pc' := 49) rfl (by decide) dX3_mixed_47 rfl ?_
      refine g_ald0 (pc' := 50) dX3_mixed_49 rfl ?_
      refine g_getR (pc' := 53) og.s29 (by decide) fX3_23 og.r29_1 dX3_mixed_50 rfl ?_
      refine g_getR (pc' := 56) wg.s11 (by decide) fX3_80 wg.r11_13 dX3_mixed_53 rfl ?_
      refine g_ild3 (pc' := 57) dX3_mixed_56 rfl ?_
      refine g_iald (pc' := 58) (j := i) wg.s15 rfl (by omega) (by decide) (v := I (15, 9) i) (rfl) dX3_mixed_57 rfl ?_
      refine g_ifle (pc' := 61) (tgt := 90) dX3_mixed_58 (by decide) rfl (fun h58 => ?_) (fun h58 => ?_)
      · refine g_inc3 (pc' := 93) rfl (by decide) (v := nI (i + 1)) (nI_1 _) dX3_mixed_90 rfl ?_
        refine g_goto (tgt := 21) dX3_mixed_93 (by decide) ?_
        have e : mixF (I (11, 9) 5) (I (15, 9)) (L (30, 0)) c (i + 1) = mixF (I (11, 9) 5) (I (15, 9)) (L (30, 0)) c i := by simp only [mixF]; first | rw [if_pos h58] | rw [if_neg h58]
        refine G.lsub [some (.inr (.inr (some (29, 0)))), some (.inr (.inl (mixF (I (11, 9) 5) (I (15, 9)) (L (30, 0)) c i))), none, some (.inl (nI (i + 1))), none] (by intro j v; rcases j with _ | _ | _ | _ | _ | j <;> simp) ?_
        rw [← e]
        exact ih () trivial
      · refine g_ild4 (pc' := 63) dX3_mixed_61 rfl ?_
        have hbi := hb i (by omega)
        refine g_sipush (pc' := 66) (v := nI 2401) dX3_mixed_63 rfl (by decide) ?_
        refine g_icmpgeN (pc' := 69) (by omega) (by omega) (tgt := 90) dX3_mixed_66 (by decide) rfl (fun h66 => (by first | exact absurd h66 (by omega) | exact absurd (by omega) h66)) (fun h66 => ?_)
        refine g_lld1 (pc' := 70) dX3_mixed_69 rfl ?_
        refine g_ald0 (pc' := 71) dX3_mixed_70 rfl ?_
        refine g_getR (pc' := 74) og.s29 (by decide) fX3_23 og.r29_1 dX3_mixed_71 rfl ?_
        refine g_getR (pc' := 77) wg.s11 (by decide) fX3_80 wg.r11_13 dX3_mixed_74 rfl ?_
        refine g_ild3 (pc' := 78) dX3_mixed_77 rfl ?_
        refine g_iald (pc' := 79) (j := i) wg.s15 rfl (by omega) (by decide) (v := I (15, 9) i) (rfl) dX3_mixed_78 rfl ?_
        refine g_i2l (pc' := 80) dX3_mixed_79 rfl ?_
        refine g_ald0 (pc' := 81) dX3_mixed_80 rfl ?_
        refine g_getR (pc' := 84) og.s29 (by decide) fX3_11 og.r29_2 dX3_mixed_81 rfl ?_
        refine g_ild4 (pc' := 86) dX3_mixed_84 rfl ?_
        refine g_lald (pc' := 87) (j := c + 7 ^ i) og.s30 rfl (hb i hi) (by decide) rfl dX3_mixed_86 rfl ?_
        refine g_lmul (pc' := 88) dX3_mixed_87 rfl ?_
        refine g_ladd (pc' := 89) dX3_mixed_88 rfl ?_
        refine g_lst1 (pc' := 90) rfl (by decide) dX3_mixed_89 rfl ?_
        refine g_inc3 (pc' := 93) rfl (by decide) (v := nI (i + 1)) (nI_1 _) dX3_mixed_90 rfl ?_
        refine g_goto (tgt := 21) dX3_mixed_93 (by decide) ?_
        have e : mixF (I (11, 9) 5) (I (15, 9)) (L (30, 0)) c (i + 1) = (mixF (I (11, 9) 5) (I (15, 9)) (L (30, 0)) c i) + (((I (15, 9) i).toInt64) * (L (30, 0) (c + 7 ^ i))) := by simp only [mixF]; first | rw [if_pos h58] | rw [if_neg h58]
        refine G.lsub [some (.inr (.inr (some (29, 0)))), some (.inr (.inl ((mixF (I (11, 9) 5) (I (15, 9)) (L (30, 0)) c i) + (((I (15, 9) i).toInt64) * (L (30, 0) (c + 7 ^ i)))))), none, some (.inl (nI (i + 1))), none] (by intro j v; rcases j with _ | _ | _ | _ | _ | j <;> simp) ?_
        rw [← e]
        exact ih () trivial
  · intro s hP
    refine g_ild3 (pc' := 22) dX3_mixed_21 rfl ?_
    refine g_ald0 (pc' := 23) dX3_mixed_22 rfl ?_
    refine g_getR (pc' := 26) og.s29 (by decide) fX3_19 og.r29_0 dX3_mixed_23 rfl ?_
    refine g_getI (pc' := 29) sg.s1 (by decide) fX3_72 hn dX3_mixed_26 rfl ?_
    refine g_icmpgeN (pc' := 32) (by omega) (by omega) (tgt := 96) dX3_mixed_29 (by decide) rfl (fun h29 => ?_) (fun h29 => ?_)
    · refine g_lld1 (pc' := 97) dX3_mixed_96 rfl ?_
      refine g_lret rfl dX3_mixed_97 ?_
      exact eJp rfl
    · exact absurd h29 (by omega)
