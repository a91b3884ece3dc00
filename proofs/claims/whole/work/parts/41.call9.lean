/-! EightWorlds: finding, houses, feeding, asking -/
def fdA (I : MI) (j n s : Nat) : Int32 := I (12, j) s - ((sumN (I (12, j)) n).toInt64 * (I (2, 0) s).toInt64 / (sumN (I (2, 0)) n).toInt64).toInt32
def fdN (a : Nat → Int32) : Nat → Nat × Int32
  | 0 => (0, nI 0)
  | s + 1 => if s = 0 ∨ ¬ a s ≤ (fdN a s).2 then (s, a s) else fdN a s
def fdV (I : MI) (n j w : Nat) : Int32 := if w = 0 then nI (fdN (fdA I j n) n).1 else (fdN (fdA I j n) n).2
theorem ne64 {v : Int32} (h : ¬ v = 0) : ¬ v.toInt64 = 0 := fun e => h (by
  have h1 := congrArg Int64.toInt e
  rw [Int32.toInt_toInt64] at h1
  exact Int32.toInt_inj.mp h1)
theorem c_foundN (l : Launch) {S : Shp} {I : MI} {L : ML} {R : MR} (xg : XG S R) {m : Nat} {x : Int32} (hm : I (0, 0) 5 = nI m) (hx : inb x m = false) (y0 : Int32) : Ct l mX8_found 2 0 0 [.inr (.inr (some (0, 0))), .inl x, .inl y0] S I L R (PIp S I L R (-1)) := by
  refine Ct.of [some (.inr (.inr (some (0, 0)))), some (.inl x), some (.inl y0), none, none, none, none, none, none, none] (by decide) rfl (Nat.le_of_ble_eq_true rfl) ?_
  refine g_ald0 (pc' := 1) dX8_found_0 rfl ?_
  refine g_ild1 (pc' := 2) dX8_found_1 rfl ?_
  refine g_callV (pc' := 5) (c_worldOfN l xg hm hx) xg.s0 (by decide) wX8_worldOf lX8_147 rfl rfl (Nat.le_of_ble_eq_true rfl) ⟨Nat.le_of_ble_eq_true rfl, Nat.le_of_ble_eq_true rfl⟩ ⟨Nat.le_of_ble_eq_true rfl, Nat.le_of_ble_eq_true rfl⟩ dX8_found_2 rfl (kRp ?_)
  refine g_ast3 (pc' := 6) rfl (by decide) dX8_found_5 rfl ?_
  refine g_ald3 (pc' := 7) dX8_found_6 rfl ?_
  refine g_ifnullT (tgt := 19) dX8_found_7 (by decide) ?_
  refine g_iconst (pc' := 20) (v := (-1)) dX8_found_19 rfl (by decide) ?_
  refine g_iret rfl dX8_found_20 ?_
  exact eIp rfl

theorem c_foundB (l : Launch) {S : Shp} {I : MI} {L : ML} {R : MR} (xg : XG S R) (sg : SG S R) {n : Nat} (hn : I (1, 0) 1 = nI n) (hN : n ≤ 12) {m j : Nat} (hm : I (0, 0) 5 = nI m) (hj : j < m) (hM : m ≤ 9) (hR : R (10, 0) j = some (11, j)) (wg : WG j S R) {z : Int32} (hb : z < 0 ∨ nI 1 < z) : Ct l mX8_found 2 0 0 [.inr (.inr (some (0, 0))), .inl (nI j), .inl z] S I L R (PIp S I L R (-1)) := by
  refine Ct.of [some (.inr (.inr (some (0, 0)))), some (.inl (nI j)), some (.inl z), none, none, none, none, none, none, none] (by decide) rfl (Nat.le_of_ble_eq_true rfl) ?_
  refine g_ald0 (pc' := 1) dX8_found_0 rfl ?_
  refine g_ild1 (pc' := 2) dX8_found_1 rfl ?_
  refine g_callV (pc' := 5) (c_worldOfS l xg hm hj hM hR) xg.s0 (by decide) wX8_worldOf lX8_147 rfl rfl (Nat.le_of_ble_eq_true rfl) ⟨Nat.le_of_ble_eq_true rfl, Nat.le_of_ble_eq_true rfl⟩ ⟨Nat.le_of_ble_eq_true rfl, Nat.le_of_ble_eq_true rfl⟩ dX8_found_2 rfl (kRp ?_)
  refine g_ast3 (pc' := 6) rfl (by decide) dX8_found_5 rfl ?_
  refine g_ald3 (pc' := 7) dX8_found_6 rfl ?_
  refine g_ifnullF (pc' := 10) dX8_found_7 rfl ?_
  refine g_ild2 (pc' := 11) dX8_found_10 rfl ?_
  refine g_iflt (pc' := 14) (tgt := 19) dX8_found_11 (by decide) rfl (fun h11 => ?_) (fun h11 => ?_)
  · refine g_iconst (pc' := 20) (v := (-1)) dX8_found_19 rfl (by decide) ?_
    refine g_iret rfl dX8_found_20 ?_
    exact eIp rfl
  · refine g_ild2 (pc' := 15) dX8_found_14 rfl ?_
    refine g_iconst (pc' := 16) (v := nI 1) dX8_found_15 rfl (by decide) ?_
    refine g_icmple (pc' := 19) (tgt := 21) dX8_found_16 (by decide) rfl (fun h16 => ?_) (fun h16 => ?_)
    · exfalso
      rcases hb with h | h
      · exact h11 h
      · exact absurd h16 (Int32.not_le.mpr h)
    · refine g_iconst (pc' := 20) (v := (-1)) dX8_found_19 rfl (by decide) ?_
      refine g_iret rfl dX8_found_20 ?_
      exact eIp rfl

theorem c_foundZ (l : Launch) {S : Shp} {I : MI} {L : ML} {R : MR} (xg : XG S R) (sg : SG S R) {n : Nat} (hn : I (1, 0) 1 = nI n) (hN : n ≤ 12) {m j : Nat} (hm : I (0, 0) 5 = nI m) (hj : j < m) (hM : m ≤ 9) (hR : R (10, 0) j = some (11, j)) (wg : WG j S R) {w : Nat} (hw : w ≤ 1) (hz : sumN (I (12, j)) n = 0 ∨ sumN (I (2, 0)) n = 0) : Ct l mX8_found 2 0 0 [.inr (.inr (some (0, 0))), .inl (nI j), .inl (nI w)] S I L R (PIp S I L R (-2)) := by
  refine Ct.of [some (.inr (.inr (some (0, 0)))), some (.inl (nI j)), some (.inl (nI w)), none, none, none, none, none, none, none] (by decide) rfl (Nat.le_of_ble_eq_true rfl) ?_
  refine g_ald0 (pc' := 1) dX8_found_0 rfl ?_
  refine g_ild1 (pc' := 2) dX8_found_1 rfl ?_
  refine g_callV (pc' := 5) (c_worldOfS l xg hm hj hM hR) xg.s0 (by decide) wX8_worldOf lX8_147 rfl rfl (Nat.le_of_ble_eq_true rfl) ⟨Nat.le_of_ble_eq_true rfl, Nat.le_of_ble_eq_true rfl⟩ ⟨Nat.le_of_ble_eq_true rfl, Nat.le_of_ble_eq_true rfl⟩ dX8_found_2 rfl (kRp ?_)
  refine g_ast3 (pc' := 6) rfl (by decide) dX8_found_5 rfl ?_
  refine g_ald3 (pc' := 7) dX8_found_6 rfl ?_
  refine g_ifnullF (pc' := 10) dX8_found_7 rfl ?_
  refine g_ild2 (pc' := 11) dX8_found_10 rfl ?_
  refine g_ifltN (pc' := 14) (by omega) dX8_found_11 rfl ?_
  refine g_ild2 (pc' := 15) dX8_found_14 rfl ?_
  refine g_iconst (pc' := 16) (v := nI 1) dX8_found_15 rfl (by decide) ?_
  refine g_icmpleN (pc' := 19) (by omega) (by omega) (tgt := 21) dX8_found_16 (by decide) rfl (fun h16 => ?_) (fun h16 => ?_)
  · refine g_ald3 (pc' := 22) dX8_found_21 rfl ?_
    refine g_callV (pc' := 25) (c_allCounts l sg wg hn hN) wg.s11 (by decide) wX7_allCounts lX8_256 rfl rfl (Nat.le_of_ble_eq_true rfl) ⟨Nat.le_of_ble_eq_true rfl, Nat.le_of_ble_eq_true rfl⟩ ⟨Nat.le_of_ble_eq_true rfl, Nat.le_of_ble_eq_true rfl⟩ dX8_found_22 rfl (kIp ?_)
    refine g_ist4 (pc' := 27) rfl (by decide) dX8_found_25 rfl ?_
    refine g_ald0 (pc' := 28) dX8_found_27 rfl ?_
    refine g_getR (pc' := 31) xg.s0 (by decide) fX8_10 xg.r0_0 dX8_found_28 rfl ?_
    refine g_callV (pc' := 34) (c_allWorths l sg hn hN) sg.s1 (by decide) wX5_allWorths lX8_259 rfl rfl (Nat.le_of_ble_eq_true rfl) ⟨Nat.le_of_ble_eq_true rfl, Nat.le_of_ble_eq_true rfl⟩ ⟨Nat.le_of_ble_eq_true rfl, Nat.le_of_ble_eq_true rfl⟩ dX8_found_31 rfl (kIp ?_)
    refine g_ist5 (pc' := 36) rfl (by decide) dX8_found_34 rfl ?_
    refine g_ild4 (pc' := 38) dX8_found_36 rfl ?_
    refine g_ifeq (pc' := 41) (tgt := 46) dX8_found_38 (by decide) rfl (fun h38 => ?_) (fun h38 => ?_)
    · refine g_bipush (pc' := 48) (v := (-2)) dX8_found_46 rfl (by decide) ?_
      refine g_iret rfl dX8_found_48 ?_
      exact eIp rfl
    · refine g_ild5 (pc' := 43) dX8_found_41 rfl ?_
      refine g_ifne (pc' := 46) (tgt := 49) dX8_found_43 (by decide) rfl (fun h43 => ?_) (fun h43 => ?_)
      · exact (hz.elim (fun h => h38 h) (fun h => h43 h)).elim
      · refine g_bipush (pc' := 48) (v := (-2)) dX8_found_46 rfl (by decide) ?_
        refine g_iret rfl dX8_found_48 ?_
        exact eIp rfl
  · exact absurd h16 (by omega)

theorem fdA_eq {I : MI} {j n s : Nat} : I (12, j) s - ((sumN (I (12, j)) n).toInt64 * (I (2, 0) s).toInt64 / (sumN (I (2, 0)) n).toInt64).toInt32 = fdA I j n s := rfl
theorem fdN_0 {a : Nat → Int32} : fdN a 0 = (0, nI 0) := rfl
theorem fdN_p {a : Nat → Int32} {s : Nat} (h : s = 0 ∨ ¬ a s ≤ (fdN a s).2) : fdN a (s + 1) = (s, a s) := if_pos h
theorem fdN_n {a : Nat → Int32} {s : Nat} (h : ¬ s = 0) (h2 : a s ≤ (fdN a s).2) : fdN a (s + 1) = fdN a s := if_neg (fun q => q.elim h (fun q => q h2))
theorem c_foundS (l : Launch) {S : Shp} {I : MI} {L : ML} {R : MR} (xg : XG S R) (sg : SG S R) {n : Nat} (hn : I (1, 0) 1 = nI n) (hN : n ≤ 12) {m j : Nat} (hm : I (0, 0) 5 = nI m) (hj : j < m) (hM : m ≤ 9) (hR : R (10, 0) j = some (11, j)) (wg : WG j S R) {w : Nat} (hw : w ≤ 1) (hco : ¬ sumN (I (12, j)) n = 0) (hwo : ¬ sumN (I (2, 0)) n = 0) : Ct l mX8_found 3 0 0 [.inr (.inr (some (0, 0))), .inl (nI j), .inl (nI w)] S I L R (PIp S I L R (fdV I n j w)) := by
  refine Ct.of [some (.inr (.inr (some (0, 0)))), some (.inl (nI j)), some (.inl (nI w)), none, none, none, none, none, none, none] (by decide) rfl (Nat.le_of_ble_eq_true rfl) ?_
  refine g_ald0 (pc' := 1) dX8_found_0 rfl ?_
  refine g_ild1 (pc' := 2) dX8_found_1 rfl ?_
  refine g_callV (pc' := 5) (c_worldOfS l xg hm hj hM hR) xg.s0 (by decide) wX8_worldOf lX8_147 rfl rfl (Nat.le_of_ble_eq_true rfl) ⟨Nat.le_of_ble_eq_true rfl, Nat.le_of_ble_eq_true rfl⟩ ⟨Nat.le_of_ble_eq_true rfl, Nat.le_of_ble_eq_true rfl⟩ dX8_found_2 rfl (kRp ?_)
  refine g_ast3 (pc' := 6) rfl (by decide) dX8_found_5 rfl ?_
  refine g_ald3 (pc' := 7) dX8_found_6 rfl ?_
  refine g_ifnullF (pc' := 10) dX8_found_7 rfl ?_
  refine g_ild2 (pc' := 11) dX8_found_10 rfl ?_
  refine g_ifltN (pc' := 14) (by omega) dX8_found_11 rfl ?_
  refine g_ild2 (pc' := 15) dX8_found_14 rfl ?_
  refine g_iconst (pc' := 16) (v := nI 1) dX8_found_15 rfl (by decide) ?_
  refine g_icmpleN (pc' := 19) (by omega) (by omega) (tgt := 21) dX8_found_16 (by decide) rfl (fun h16 => ?_) (fun h16 => ?_)
  · refine g_ald3 (pc' := 22) dX8_found_21 rfl ?_
    refine g_callV (pc' := 25) (c_allCounts l sg wg hn hN) wg.s11 (by decide) wX7_allCounts lX8_256 rfl rfl (Nat.le_of_ble_eq_true rfl) ⟨Nat.le_of_ble_eq_true rfl, Nat.le_of_ble_eq_true rfl⟩ ⟨Nat.le_of_ble_eq_true rfl, Nat.le_of_ble_eq_true rfl⟩ dX8_found_22 rfl (kIp ?_)
    refine g_ist4 (pc' := 27) rfl (by decide) dX8_found_25 rfl ?_
    refine g_ald0 (pc' := 28) dX8_found_27 rfl ?_
    refine g_getR (pc' := 31) xg.s0 (by decide) fX8_10 xg.r0_0 dX8_found_28 rfl ?_
    refine g_callV (pc' := 34) (c_allWorths l sg hn hN) sg.s1 (by decide) wX5_allWorths lX8_259 rfl rfl (Nat.le_of_ble_eq_true rfl) ⟨Nat.le_of_ble_eq_true rfl, Nat.le_of_ble_eq_true rfl⟩ ⟨Nat.le_of_ble_eq_true rfl, Nat.le_of_ble_eq_true rfl⟩ dX8_found_31 rfl (kIp ?_)
    refine g_ist5 (pc' := 36) rfl (by decide) dX8_found_34 rfl ?_
    refine g_ild4 (pc' := 38) dX8_found_36 rfl ?_
    refine g_ifeq (pc' := 41) (tgt := 46) dX8_found_38 (by decide) rfl (fun h38 => (by first | exact absurd h38 hco | exact absurd hco h38)) (fun h38 => ?_)
    refine g_ild5 (pc' := 43) dX8_found_41 rfl ?_
    refine g_ifne (pc' := 46) (tgt := 49) dX8_found_43 (by decide) rfl (fun h43 => ?_) (fun h43 => (by first | exact absurd h43 hwo | exact absurd hwo h43))
    refine g_iconst (pc' := 50) (v := nI 0) dX8_found_49 rfl (by decide) ?_
    refine g_ist6 (pc' := 52) rfl (by decide) dX8_found_50 rfl ?_
    refine g_iconst (pc' := 53) (v := nI 0) dX8_found_52 rfl (by decide) ?_
    refine g_ist7 (pc' := 55) rfl (by decide) dX8_found_53 rfl ?_
    refine g_iconst (pc' := 56) (v := nI 0) dX8_found_55 rfl (by decide) ?_
    refine g_ist8 (pc' := 58) rfl (by decide) dX8_found_56 rfl ?_
    have e0 : nI 0 = nI (fdN (fdA I j n) 0).1 := by rw [fdN_0]
    refine g_loop (σ := Unit) (fun _ _ => True) (fun i s => [some (.inr (.inr (some (0, 0)))), some (.inl (nI j)), some (.inl (nI w)), some (.inr (.inr (some (11, j)))), some (.inl (sumN (I (12, j)) n)), some (.inl (sumN (I (2, 0)) n)), some (.inl (nI ((fdN (fdA I j n) i).1))), some (.inl ((fdN (fdA I j n) i).2)), some (.inl (nI i)), none]) (fun i s => I) n 0 () (by omega) trivial ?_ ?_
    · intro i s hi hP ih
      refine g_ild8 (pc' := 60) dX8_found_58 rfl ?_
      refine g_ald0 (pc' := 61) dX8_found_60 rfl ?_
      refine g_getR (pc' := 64) xg.s0 (by decide) fX8_10 xg.r0_0 dX8_found_61 rfl ?_
      refine g_getI (pc' := 67) sg.s1 (by decide) fX8_88 hn dX8_found_64 rfl ?_
      refine g_icmpgeN (pc' := 70) (by omega) (by omega) (tgt := 126) dX8_found_67 (by decide) rfl (fun h67 => ?_) (fun h67 => ?_)
      · exact absurd h67 (by omega)
      · refine g_ald3 (pc' := 71) dX8_found_70 rfl ?_
        refine g_getR (pc' := 74) wg.s11 (by decide) fX8_167 wg.r11_10 dX8_found_71 rfl ?_
        refine g_ild8 (pc' := 76) dX8_found_74 rfl ?_
        refine g_iald (pc' := 77) (j := i) wg.s12 rfl (by omega) (by decide) rfl dX8_found_76 rfl ?_
        refine g_ild4 (pc' := 79) dX8_found_77 rfl ?_
        refine g_i2l (pc' := 80) dX8_found_79 rfl ?_
        refine g_ald0 (pc' := 81) dX8_found_80 rfl ?_
        refine g_getR (pc' := 84) xg.s0 (by decide) fX8_10 xg.r0_0 dX8_found_81 rfl ?_
        refine g_getR (pc' := 87) sg.s1 (by decide) fX8_92 sg.r1_0 dX8_found_84 rfl ?_
        refine g_ild8 (pc' := 89) dX8_found_87 rfl ?_
        refine g_iald (pc' := 90) (j := i) sg.s2 rfl (by omega) (by decide) rfl dX8_found_89 rfl ?_
        refine g_i2l (pc' := 91) dX8_found_90 rfl ?_
        refine g_lmul (pc' := 92) dX8_found_91 rfl ?_
        refine g_ild5 (pc' := 94) dX8_found_92 rfl ?_
        refine g_i2l (pc' := 95) dX8_found_94 rfl ?_
        refine g_ldiv (pc' := 96) dX8_found_95 rfl (ne64 hwo) ?_
        refine g_l2i (pc' := 97) dX8_found_96 rfl ?_
        refine g_isub (pc' := 98) dX8_found_97 rfl ?_
        refine g_topi (v := fdA I j n i) (fdA_eq) ?_
        refine g_ist9 (pc' := 100) rfl (by decide) dX8_found_98 rfl ?_
        refine g_ild8 (pc' := 102) dX8_found_100 rfl ?_
        refine g_ifeqN (pc' := 105) (by omega) (tgt := 112) dX8_found_102 (by decide) rfl (fun h102 => ?_) (fun h102 => ?_)
        · refine g_ild8 (pc' := 114) dX8_found_112 rfl ?_
          refine g_ist6 (pc' := 116) rfl (by decide) dX8_found_114 rfl ?_
          refine g_ild9 (pc' := 118) dX8_found_116 rfl ?_
          refine g_ist7 (pc' := 120) rfl (by decide) dX8_found_118 rfl ?_
          refine g_inc8 (pc' := 123) rfl (by decide) (v := nI (i + 1)) (nI_1 _) dX8_found_120 rfl ?_
          refine g_goto (tgt := 58) dX8_found_123 (by decide) ?_
          have e : fdN (fdA I j n) (i + 1) = (i, fdA I j n i) := fdN_p (by first | exact Or.inl (by omega) | exact Or.inr (by assumption))
          refine G.lsub [some (.inr (.inr (some (0, 0)))), some (.inl (nI j)), some (.inl (nI w)), some (.inr (.inr (some (11, j)))), some (.inl (sumN (I (12, j)) n)), some (.inl (sumN (I (2, 0)) n)), some (.inl (nI i)), some (.inl (fdA I j n i)), some (.inl (nI (i + 1))), none] (by intro j v; rcases j with _ | _ | _ | _ | _ | _ | _ | _ | _ | _ | j <;> simp) ?_
          have hih := ih () trivial
          rw [e] at hih
          exact hih
        · refine g_ild9 (pc' := 107) dX8_found_105 rfl ?_
          refine g_ild7 (pc' := 109) dX8_found_107 rfl ?_
          refine g_icmple (pc' := 112) (tgt := 120) dX8_found_109 (by decide) rfl (fun h109 => ?_) (fun h109 => ?_)
          · refine g_inc8 (pc' := 123) rfl (by decide) (v := nI (i + 1)) (nI_1 _) dX8_found_120 rfl ?_
            refine g_goto (tgt := 58) dX8_found_123 (by decide) ?_
            have e : fdN (fdA I j n) (i + 1) = fdN (fdA I j n) i := fdN_n (by omega) (by assumption)
            refine G.lsub [some (.inr (.inr (some (0, 0)))), some (.inl (nI j)), some (.inl (nI w)), some (.inr (.inr (some (11, j)))), some (.inl (sumN (I (12, j)) n)), some (.inl (sumN (I (2, 0)) n)), some (.inl (nI ((fdN (fdA I j n) i).1))), some (.inl ((fdN (fdA I j n) i).2)), some (.inl (nI (i + 1))), none] (by intro j v; rcases j with _ | _ | _ | _ | _ | _ | _ | _ | _ | _ | j <;> simp) ?_
            have hih := ih () trivial
            rw [e] at hih
            exact hih
          · refine g_ild8 (pc' := 114) dX8_found_112 rfl ?_
            refine g_ist6 (pc' := 116) rfl (by decide) dX8_found_114 rfl ?_
            refine g_ild9 (pc' := 118) dX8_found_116 rfl ?_
            refine g_ist7 (pc' := 120) rfl (by decide) dX8_found_118 rfl ?_
            refine g_inc8 (pc' := 123) rfl (by decide) (v := nI (i + 1)) (nI_1 _) dX8_found_120 rfl ?_
            refine g_goto (tgt := 58) dX8_found_123 (by decide) ?_
            have e : fdN (fdA I j n) (i + 1) = (i, fdA I j n i) := fdN_p (by first | exact Or.inl (by omega) | exact Or.inr (by assumption))
            refine G.lsub [some (.inr (.inr (some (0, 0)))), some (.inl (nI j)), some (.inl (nI w)), some (.inr (.inr (some (11, j)))), some (.inl (sumN (I (12, j)) n)), some (.inl (sumN (I (2, 0)) n)), some (.inl (nI i)), some (.inl (fdA I j n i)), some (.inl (nI (i + 1))), none] (by intro j v; rcases j with _ | _ | _ | _ | _ | _ | _ | _ | _ | _ | j <;> simp) ?_
            have hih := ih () trivial
            rw [e] at hih
            exact hih
    · intro s hP
      refine g_ild8 (pc' := 60) dX8_found_58 rfl ?_
      refine g_ald0 (pc' := 61) dX8_found_60 rfl ?_
      refine g_getR (pc' := 64) xg.s0 (by decide) fX8_10 xg.r0_0 dX8_found_61 rfl ?_
      refine g_getI (pc' := 67) sg.s1 (by decide) fX8_88 hn dX8_found_64 rfl ?_
      refine g_icmpgeN (pc' := 70) (by omega) (by omega) (tgt := 126) dX8_found_67 (by decide) rfl (fun h67 => ?_) (fun h67 => ?_)
      · refine g_ild2 (pc' := 127) dX8_found_126 rfl ?_
        refine g_ifneN (pc' := 130) (by omega) (tgt := 135) dX8_found_127 (by decide) rfl (fun h127 => ?_) (fun h127 => ?_)
        · refine g_ild7 (pc' := 137) dX8_found_135 rfl ?_
          refine g_iret rfl dX8_found_137 ?_
          exact eIp (by unfold fdV; first | rw [if_pos (by omega)] | rw [if_neg (by omega)])
        · refine g_ild6 (pc' := 132) dX8_found_130 rfl ?_
          refine g_goto (tgt := 137) dX8_found_132 (by decide) ?_
          refine g_iret rfl dX8_found_137 ?_
          exact eIp (by unfold fdV; first | rw [if_pos (by omega)] | rw [if_neg (by omega)])
      · exact absurd h67 (by omega)
  · exact absurd h16 (by omega)

theorem c_houseN (l : Launch) {S : Shp} {I : MI} {L : ML} {R : MR} (xg : XG S R) (sg : SG S R) {n : Nat} (hn : I (1, 0) 1 = nI n) (hN : n ≤ 12) {m : Nat} {x : Int32} (hm : I (0, 0) 5 = nI m) (hx : inb x m = false) (y0 y1 y2 : Int32) : Ct l mX8_house 2 0 0 [.inr (.inr (some (0, 0))), .inl x, .inl y0, .inl y1, .inl y2] S I L R (PIp S I L R (-2000000000)) := by
  refine Ct.of [some (.inr (.inr (some (0, 0)))), some (.inl x), some (.inl y0), some (.inl y1), some (.inl y2), none, none, none, none, none] (by decide) rfl (Nat.le_of_ble_eq_true rfl) ?_
  refine g_ald0 (pc' := 1) dX8_house_0 rfl ?_
  refine g_ild1 (pc' := 2) dX8_house_1 rfl ?_
  refine g_callV (pc' := 5) (c_worldOfN l xg hm hx) xg.s0 (by decide) wX8_worldOf lX8_147 rfl rfl (Nat.le_of_ble_eq_true rfl) ⟨Nat.le_of_ble_eq_true rfl, Nat.le_of_ble_eq_true rfl⟩ ⟨Nat.le_of_ble_eq_true rfl, Nat.le_of_ble_eq_true rfl⟩ dX8_house_2 rfl (kRp ?_)
  refine g_ast5 (pc' := 7) rfl (by decide) dX8_house_5 rfl ?_
  refine g_ald0 (pc' := 8) dX8_house_7 rfl ?_
  refine g_getR (pc' := 11) xg.s0 (by decide) fX8_10 xg.r0_0 dX8_house_8 rfl ?_
  refine g_getI (pc' := 14) sg.s1 (by decide) fX8_88 hn dX8_house_11 rfl ?_
  refine g_ist6 (pc' := 16) rfl (by decide) dX8_house_14 rfl ?_
  refine g_ald5 (pc' := 18) dX8_house_16 rfl ?_
  refine g_ifnullT (tgt := 55) dX8_house_18 (by decide) ?_
  refine g_ldcw (pc' := 58) dX8_house_55 rfl kX8_262 ?_
  refine g_iret rfl dX8_house_58 ?_
  exact eIp rfl

theorem c_houseB (l : Launch) {S : Shp} {I : MI} {L : ML} {R : MR} (xg : XG S R) (sg : SG S R) {n : Nat} (hn : I (1, 0) 1 = nI n) (hN : n ≤ 12) {m j : Nat} (hm : I (0, 0) 5 = nI m) (hj : j < m) (hM : m ≤ 9) (hR : R (10, 0) j = some (11, j)) (wg : WG j S R) {y z w : Int32} (hb : y < 0 ∨ nI 1 <<< (nI n &&& 31) ≤ y ∨ z < nI 1 ∨ nI n < z ∨ w < 0 ∨ nI 3 < w) : Ct l mX8_house 2 0 0 [.inr (.inr (some (0, 0))), .inl (nI j), .inl y, .inl z, .inl w] S I L R (PIp S I L R (-2000000000)) := by
  refine Ct.of [some (.inr (.inr (some (0, 0)))), some (.inl (nI j)), some (.inl y), some (.inl z), some (.inl w), none, none, none, none, none] (by decide) rfl (Nat.le_of_ble_eq_true rfl) ?_
  refine g_ald0 (pc' := 1) dX8_house_0 rfl ?_
  refine g_ild1 (pc' := 2) dX8_house_1 rfl ?_
  refine g_callV (pc' := 5) (c_worldOfS l xg hm hj hM hR) xg.s0 (by decide) wX8_worldOf lX8_147 rfl rfl (Nat.le_of_ble_eq_true rfl) ⟨Nat.le_of_ble_eq_true rfl, Nat.le_of_ble_eq_true rfl⟩ ⟨Nat.le_of_ble_eq_true rfl, Nat.le_of_ble_eq_true rfl⟩ dX8_house_2 rfl (kRp ?_)
  refine g_ast5 (pc' := 7) rfl (by decide) dX8_house_5 rfl ?_
  refine g_ald0 (pc' := 8) dX8_house_7 rfl ?_
  refine g_getR (pc' := 11) xg.s0 (by decide) fX8_10 xg.r0_0 dX8_house_8 rfl ?_
  refine g_getI (pc' := 14) sg.s1 (by decide) fX8_88 hn dX8_house_11 rfl ?_
  refine g_ist6 (pc' := 16) rfl (by decide) dX8_house_14 rfl ?_
  refine g_ald5 (pc' := 18) dX8_house_16 rfl ?_
  refine g_ifnullF (pc' := 21) dX8_house_18 rfl ?_
  refine g_ild2 (pc' := 22) dX8_house_21 rfl ?_
  refine g_iflt (pc' := 25) (tgt := 55) dX8_house_22 (by decide) rfl (fun h22 => ?_) (fun h22 => ?_)
  · refine g_ldcw (pc' := 58) dX8_house_55 rfl kX8_262 ?_
    refine g_iret rfl dX8_house_58 ?_
    exact eIp rfl
  · refine g_ild2 (pc' := 26) dX8_house_25 rfl ?_
    refine g_iconst (pc' := 27) (v := nI 1) dX8_house_26 rfl (by decide) ?_
    refine g_ild6 (pc' := 29) dX8_house_27 rfl ?_
    refine g_ishl (pc' := 30) dX8_house_29 rfl ?_
    refine g_icmpge (pc' := 33) (tgt := 55) dX8_house_30 (by decide) rfl (fun h30 => ?_) (fun h30 => ?_)
    · refine g_ldcw (pc' := 58) dX8_house_55 rfl kX8_262 ?_
      refine g_iret rfl dX8_house_58 ?_
      exact eIp rfl
    · refine g_ild3 (pc' := 34) dX8_house_33 rfl ?_
      refine g_iconst (pc' := 35) (v := nI 1) dX8_house_34 rfl (by decide) ?_
      refine g_icmplt (pc' := 38) (tgt := 55) dX8_house_35 (by decide) rfl (fun h35 => ?_) (fun h35 => ?_)
      · refine g_ldcw (pc' := 58) dX8_house_55 rfl kX8_262 ?_
        refine g_iret rfl dX8_house_58 ?_
        exact eIp rfl
      · refine g_ild3 (pc' := 39) dX8_house_38 rfl ?_
        refine g_ild6 (pc' := 41) dX8_house_39 rfl ?_
        refine g_icmpgt (pc' := 44) (tgt := 55) dX8_house_41 (by decide) rfl (fun h41 => ?_) (fun h41 => ?_)
        · refine g_ldcw (pc' := 58) dX8_house_55 rfl kX8_262 ?_
          refine g_iret rfl dX8_house_58 ?_
          exact eIp rfl
        · refine g_ild4 (pc' := 46) dX8_house_44 rfl ?_
          refine g_iflt (pc' := 49) (tgt := 55) dX8_house_46 (by decide) rfl (fun h46 => ?_) (fun h46 => ?_)
          · refine g_ldcw (pc' := 58) dX8_house_55 rfl kX8_262 ?_
            refine g_iret rfl dX8_house_58 ?_
            exact eIp rfl
          · refine g_ild4 (pc' := 51) dX8_house_49 rfl ?_
            refine g_iconst (pc' := 52) (v := nI 3) dX8_house_51 rfl (by decide) ?_
            refine g_icmple (pc' := 55) (tgt := 59) dX8_house_52 (by decide) rfl (fun h52 => ?_) (fun h52 => ?_)
            · exfalso
              rcases hb with h | h | h | h | h | h
              · exact h22 h
              · exact h30 h
              · exact h35 h
              · exact h41 h
              · exact h46 h
              · exact absurd h52 (Int32.not_le.mpr h)
            · refine g_ldcw (pc' := 58) dX8_house_55 rfl kX8_262 ?_
              refine g_iret rfl dX8_house_58 ?_
              exact eIp rfl

def hsV (n : Nat) (y first : Int32) (h w : Nat) : Int32 := if w = 0 then bcI (y &&& first) else if w = 1 then bcI y * nI h * nI 1000 / nI n else if w = 2 then bcI (y &&& first) * nI 1000 - bcI y * nI h * nI 1000 / nI n else y &&& (first ^^^ (-1))
theorem hsV_0 {n h : Nat} {y f : Int32} : hsV n y f h 0 = bcI (y &&& f) := by unfold hsV; rw [if_pos rfl]
theorem hsV_1 {n h : Nat} {y f : Int32} : hsV n y f h 1 = bcI y * nI h * nI 1000 / nI n := by unfold hsV; rw [if_neg (by decide), if_pos rfl]
theorem hsV_2 {n h : Nat} {y f : Int32} : hsV n y f h 2 = bcI (y &&& f) * nI 1000 - bcI y * nI h * nI 1000 / nI n := by unfold hsV; rw [if_neg (by decide), if_neg (by decide), if_pos rfl]
theorem hsV_3 {n h : Nat} {y f : Int32} : hsV n y f h 3 = y &&& (f ^^^ (-1)) := by unfold hsV; rw [if_neg (by decide), if_neg (by decide), if_neg (by decide)]
theorem c_houseS (l : Launch) {S : Shp} {I : MI} {L : ML} {R : MR} (xg : XG S R) (sg : SG S R) {n : Nat} (hn : I (1, 0) 1 = nI n) (hN : n ≤ 12) {m j : Nat} (hm : I (0, 0) 5 = nI m) (hj : j < m) (hM : m ≤ 9) (hR : R (10, 0) j = some (11, j)) (wg : WG j S R) {y : Int32} {h w : Nat} (hy : ¬ y < 0) (hy2 : ¬ nI 1 <<< (nI n &&& 31) ≤ y) (h1 : 1 ≤ h) (hh : h ≤ n) (hw : w ≤ 3) : Ct l mX8_house 4 0 0 [.inr (.inr (some (0, 0))), .inl (nI j), .inl y, .inl (nI h), .inl (nI w)] S I L R (PIm S L R (fun r J => r = hsV n y (bitsN (rkO (I (12, j)) n) h) h w ∧ Fr (fun t _ => t = (13, j) ∨ t = (14, j)) I J)) := by
  refine Ct.of [some (.inr (.inr (some (0, 0)))), some (.inl (nI j)), some (.inl y), some (.inl (nI h)), some (.inl (nI w)), none, none, none, none, none] (by decide) rfl (Nat.le_of_ble_eq_true rfl) ?_
  refine g_ald0 (pc' := 1) dX8_house_0 rfl ?_
  refine g_ild1 (pc' := 2) dX8_house_1 rfl ?_
  refine g_callV (pc' := 5) (c_worldOfS l xg hm hj hM hR) xg.s0 (by decide) wX8_worldOf lX8_147 rfl rfl (Nat.le_of_ble_eq_true rfl) ⟨Nat.le_of_ble_eq_true rfl, Nat.le_of_ble_eq_true rfl⟩ ⟨Nat.le_of_ble_eq_true rfl, Nat.le_of_ble_eq_true rfl⟩ dX8_house_2 rfl (kRp ?_)
  refine g_ast5 (pc' := 7) rfl (by decide) dX8_house_5 rfl ?_
  refine g_ald0 (pc' := 8) dX8_house_7 rfl ?_
  refine g_getR (pc' := 11) xg.s0 (by decide) fX8_10 xg.r0_0 dX8_house_8 rfl ?_
  refine g_getI (pc' := 14) sg.s1 (by decide) fX8_88 hn dX8_house_11 rfl ?_
  refine g_ist6 (pc' := 16) rfl (by decide) dX8_house_14 rfl ?_
  refine g_ald5 (pc' := 18) dX8_house_16 rfl ?_
  refine g_ifnullF (pc' := 21) dX8_house_18 rfl ?_
  refine g_ild2 (pc' := 22) dX8_house_21 rfl ?_
  refine g_iflt (pc' := 25) (tgt := 55) dX8_house_22 (by decide) rfl (fun h22 => (by first | exact absurd h22 hy | exact absurd hy h22)) (fun h22 => ?_)
  refine g_ild2 (pc' := 26) dX8_house_25 rfl ?_
  refine g_iconst (pc' := 27) (v := nI 1) dX8_house_26 rfl (by decide) ?_
  refine g_ild6 (pc' := 29) dX8_house_27 rfl ?_
  refine g_ishl (pc' := 30) dX8_house_29 rfl ?_
  refine g_icmpge (pc' := 33) (tgt := 55) dX8_house_30 (by decide) rfl (fun h30 => (by first | exact absurd h30 hy2 | exact absurd hy2 h30)) (fun h30 => ?_)
  refine g_ild3 (pc' := 34) dX8_house_33 rfl ?_
  refine g_iconst (pc' := 35) (v := nI 1) dX8_house_34 rfl (by decide) ?_
  refine g_icmpltN (pc' := 38) (by omega) (by omega) (tgt := 55) dX8_house_35 (by decide) rfl (fun h35 => ?_) (fun h35 => ?_)
  · exact absurd h35 (by omega)
  · refine g_ild3 (pc' := 39) dX8_house_38 rfl ?_
    refine g_ild6 (pc' := 41) dX8_house_39 rfl ?_
    refine g_icmpgtN (pc' := 44) (by omega) (by omega) (tgt := 55) dX8_house_41 (by decide) rfl (fun h41 => ?_) (fun h41 => ?_)
    · exact absurd h41 (by omega)
    · refine g_ild4 (pc' := 46) dX8_house_44 rfl ?_
      refine g_ifltN (pc' := 49) (by omega) dX8_house_46 rfl ?_
      refine g_ild4 (pc' := 51) dX8_house_49 rfl ?_
      refine g_iconst (pc' := 52) (v := nI 3) dX8_house_51 rfl (by decide) ?_
      refine g_icmpleN (pc' := 55) (by omega) (by omega) (tgt := 59) dX8_house_52 (by decide) rfl (fun h52 => ?_) (fun h52 => ?_)
      · refine g_ald5 (pc' := 61) dX8_house_59 rfl ?_
        refine g_ild3 (pc' := 62) dX8_house_61 rfl ?_
        refine g_callV (pc' := 65) (c_firstOnes l sg wg hn hN (h := h) (by omega)) wg.s11 (by decide) wX7_firstOnes lX8_263 rfl rfl (Nat.le_of_ble_eq_true rfl) ⟨Nat.le_of_ble_eq_true rfl, Nat.le_of_ble_eq_true rfl⟩ ⟨Nat.le_of_ble_eq_true rfl, Nat.le_of_ble_eq_true rfl⟩ dX8_house_62 rfl (kI (fun v J hq => ?_))
        refine g_ist7 (pc' := 67) rfl (by decide) dX8_house_65 rfl ?_
        refine g_ild2 (pc' := 68) dX8_house_67 rfl ?_
        refine g_ild7 (pc' := 70) dX8_house_68 rfl ?_
        refine g_iand (pc' := 71) dX8_house_70 rfl ?_
        refine g_callS (pc' := 74) (c_J6_bitCount l S _ L R _) wJ6_bitCount_0f7a4 lX8_266 rfl rfl (Nat.le_of_ble_eq_true rfl) ⟨Nat.le_of_ble_eq_true rfl, Nat.le_of_ble_eq_true rfl⟩ ⟨Nat.le_of_ble_eq_true rfl, Nat.le_of_ble_eq_true rfl⟩ dX8_house_71 rfl (kIp ?_)
        refine g_ist8 (pc' := 76) rfl (by decide) dX8_house_74 rfl ?_
        refine g_ild2 (pc' := 77) dX8_house_76 rfl ?_
        refine g_callS (pc' := 80) (c_J6_bitCount l S _ L R _) wJ6_bitCount_0f7a4 lX8_266 rfl rfl (Nat.le_of_ble_eq_true rfl) ⟨Nat.le_of_ble_eq_true rfl, Nat.le_of_ble_eq_true rfl⟩ ⟨Nat.le_of_ble_eq_true rfl, Nat.le_of_ble_eq_true rfl⟩ dX8_house_77 rfl (kIp ?_)
        refine g_ild3 (pc' := 81) dX8_house_80 rfl ?_
        refine g_imul (pc' := 82) dX8_house_81 rfl ?_
        refine g_sipush (pc' := 85) (v := nI 1000) dX8_house_82 rfl (by decide) ?_
        refine g_imul (pc' := 86) dX8_house_85 rfl ?_
        refine g_ild6 (pc' := 88) dX8_house_86 rfl ?_
        refine g_idiv (pc' := 89) dX8_house_88 rfl (by rw [nI_z (by omega)]; omega) ?_
        refine g_ist9 (pc' := 91) rfl (by decide) dX8_house_89 rfl ?_
        refine g_ild4 (pc' := 93) dX8_house_91 rfl ?_
        obtain ⟨hv, hfr⟩ := hq
        rcases (show w = 0 ∨ w = 1 ∨ w = 2 ∨ w = 3 by omega) with rfl | rfl | rfl | rfl
        · refine g_tin (off := 27) (tgt := 120) dX8_house_93 (by decide) (by decide) (by decide) (by decide) ?_
          refine g_ild8 (pc' := 122) dX8_house_120 rfl ?_
          refine g_iret rfl dX8_house_122 ?_
          exact eI ⟨by rw [← hv, hsV_0], hfr⟩
        · refine g_tin (off := 30) (tgt := 123) dX8_house_93 (by decide) (by decide) (by decide) (by decide) ?_
          refine g_ild9 (pc' := 125) dX8_house_123 rfl ?_
          refine g_iret rfl dX8_house_125 ?_
          exact eI ⟨by rw [← hv, hsV_1], hfr⟩
        · refine g_tin (off := 33) (tgt := 126) dX8_house_93 (by decide) (by decide) (by decide) (by decide) ?_
          refine g_ild8 (pc' := 128) dX8_house_126 rfl ?_
          refine g_sipush (pc' := 131) (v := nI 1000) dX8_house_128 rfl (by decide) ?_
          refine g_imul (pc' := 132) dX8_house_131 rfl ?_
          refine g_ild9 (pc' := 134) dX8_house_132 rfl ?_
          refine g_isub (pc' := 135) dX8_house_134 rfl ?_
          refine g_iret rfl dX8_house_135 ?_
          exact eI ⟨by rw [← hv, hsV_2], hfr⟩
        · refine g_tout (tgt := 136) dX8_house_93 (by decide) (by decide) ?_
          refine g_ild2 (pc' := 137) dX8_house_136 rfl ?_
          refine g_ild7 (pc' := 139) dX8_house_137 rfl ?_
          refine g_iconst (pc' := 140) (v := (-1)) dX8_house_139 rfl (by decide) ?_
          refine g_ixor (pc' := 141) dX8_house_140 rfl ?_
          refine g_iand (pc' := 142) dX8_house_141 rfl ?_
          refine g_iret rfl dX8_house_142 ?_
          exact eI ⟨by rw [← hv, hsV_3], hfr⟩
      · exact absurd h52 (by omega)
