/-! EightWorlds: finding, houses, feeding, asking -/
def fdA (I : MI) (j n s : Nat) : Int32 := I (12, j) s - ((sumN (I (12, j)) n).toInt64 * (I (2, 0) s).toInt64 / (sumN (I (2, 0)) n).toInt64).toInt32
def fdN (a : Nat → Int32) : Nat → Nat × Int32
  | 0 => (0, nI 0)
  | s + 1 => if s = 0 ∨ ¬ a s ≤ (fdN a s).2 then (s, a s) else fdN a s
def fdV (I : MI) (n j w : Nat) : Int32 := if w = 0 then nI (fdN (fdA I j n) n).1 else (fdN (fdA I j n) n).2
theorem ne64 {v : Int32} (h : ¬ v = 0) : ¬ v.toInt64 = 0 := fun e => h (by
  have h1 := congrArg Int64.toInt e
  rw [Int32.toInt_toInt64] at h1
  exact Int32.toInt_inj.mp h1)
theorem c_foundN (l : Launch) {S : Shp} {I : MI} {L : ML} {R : MR} (xg : XG S R) {m : Nat} {x : Int32} (hm : I (0, 0) 5 = nI m) (hx : inb x m = false) (y0 : Int32) : Ct l mX8_found 2 0 0 [.inr (.inr (some (0, 0))), .inl x, .inl y0] S I L R (PIp S I L R (-1)) := by
  refine Ct.of [some (.inr (.inr (some (0, 0)))), some (.inl x), some (.inl y0), none, none, none, none, none, none, none] (by decide) rfl (Nat.le_of_ble_eq_true rfl) ?_
  refine g_ald0 (pc' := 1) dX8_found_0 rfl ?_
  refine g_ild1 (pc' := 2) dX8_found_1 rfl ?_
  refine g_callV (pc' := 5) (c_worldOfN l xg hm hx) xg.s0 (by decide) wX8_worldOf lX8_147 rfl rfl (Nat.le_of_ble_eq_true rfl) ⟨Nat.le_of_ble_eq_true rfl, Nat.le_of_ble_eq_true rfl⟩ ⟨Nat.le_of_ble_eq_true rfl, Nat.le_of_ble_eq_true rfl⟩ dX8_found_2 rfl (kRp ?_)
  refine g_ast3 (pc' := 6) rfl (by decide) dX8_found_5 rfl ?_
  refine g_ald3 (pc' := 7) dX8_found_6 rfl ?_
  refine g_ifnullT (tgt := 19) dX8_found_7 (by decide) ?_
  refine g_iconst (pc' := 20) (v := (-1)) dX8_found_19 rfl (by decide) ?_
  refine g_iret rfl dX8_found_20 ?_
  exact eIp rfl

theorem c_foundB (l : Launch) {S : Shp} {I : MI} {L : ML} {R : MR} (xg : XG S R) (sg : SG S R) {n : Nat} (hn : I (1, 0) 1 = nI n) (hN : n ≤ 12) {m j : Nat} (hm : I (0, 0) 5 = nI m) (hj : j < m) (hM : m ≤ 9) (hR : R (10, 0) j = some (11, j)) (wg : WG j S R) {z : Int32} (hb : z < 0 ∨ nI 1 < z) : Ct l mX8_found 2 0 0 [.inr (.inr (some (0, 0))), .inl (nI j), .inl z] S I L R (PIp S I L R (-1)) := by
  refine Ct.of [some (.inr (.inr (some (0, 0)))), some (.inl (nI j)), some (.inl z), none, none, none, none, none, none, none] (by decide) rfl (Nat.le_of_ble_eq_true rfl) ?_
  refine g_ald0 (pc' := 1) dX8_found_0 rfl ?_
  refine g_ild1 (pc' := 2) dX8_found_1 rfl ?_
  refine g_callV (pc' := 5) (c_worldOfS l xg hm hj hM hR) xg.s0 (by decide) wX8_worldOf lX8_147 rfl rfl (Nat.le_of_ble_eq_true rfl) ⟨Nat.le_of_ble_eq_true rfl, Nat.le_of_ble_eq_true rfl⟩ ⟨Nat.le_of_ble_eq_true rfl, Nat.le_of_ble_eq_true rfl⟩ dX8_found_2 rfl (kRp ?_)
  refine g_ast3 (pc' := 6) rfl (by decide) dX8_found_5 rfl ?_
  refine g_ald3 (pc' := 7) dX8_found_6 rfl ?_
  refine g_ifnullF (pc' := 10) dX8_found_7 rfl ?_
  refine g_ild2 (pc' := 11) dX8_found_10 rfl ?_
  refine g_iflt (pc' := 14) (tgt := 19) dX8_found_11 (by decide) rfl (fun h11 => ?_) (fun h11 => ?_)
  · refine g_iconst (pc' := 20) (v := (-1)) dX8_found_19 rfl (by decide) ?_
    refine g_iret rfl dX8_found_20 ?_
    exact eIp rfl
  · refine g_ild2 (pc' := 15) dX8_found_14 rfl ?_
    refine g_iconst (pc' := 16) (v := nI 1) dX8_found_15 rfl (by decide) ?_
    refine g_icmple (pc' := 19) (tgt := 21) dX8_found_16 (by decide) rfl (fun h16 => ?_) (fun h16 => ?_)
    · exfalso
      rcases hb with h | h
      · exact h11 h
      · exact absurd h16 (Int32.not_le.mpr h)
    · refine g_iconst (pc' := 20) (v := (-1)) dX8_found_19 rfl (by decide) ?_
      refine g_iret rfl dX8_found_20 ?_
      exact eIp rfl

theorem c_foundZ (l : Launch) {S : Shp} {I : MI} {L : ML} {R : MR} (xg : XG S R) (sg : SG S R) {n : Nat} (hn : I (1, 0) 1 = nI n) (hN : n ≤ 12) {m j : Nat} (hm : I (0, 0) 5 = nI m) (hj : j < m) (hM : m ≤ 9) (hR : R (10, 0) j = some (11, j)) (wg : WG j S R) {w : Nat} (hw : w ≤ 1) (hz : sumN (I (12, j)) n = 0 ∨ sumN (I (2, 0)) n = 0) : Ct l mX8_found 2 0 0 [.inr (.inr (some (0, 0))), .inl (nI j), .inl (nI w)] S I L R (PIp S I L R (-2)) := by
  refine Ct.of [some (.inr (.inr (some (0, 0)))), some (.inl (nI j)), some (.inl (nI w)), none, none, none, none, none, none, none] (by decide) rfl (Nat.le_of_ble_eq_true rfl) ?_
  refine g_ald0 (pc' := 1) dX8_found_0 rfl ?_
  refine g_ild1 (pc' := 2) dX8_found_1 rfl ?_
  refine g_callV (pc' := 5) (c_worldOfS l xg hm hj hM hR) xg.s0 (by decide) wX8_worldOf lX8_147 rfl rfl (Nat.le_of_ble_eq_true rfl) ⟨Nat.le_of_ble_eq_true rfl, Nat.le_of_ble_eq_true rfl⟩ ⟨Nat.le_of_ble_eq_true rfl, Nat.le_of_ble_eq_true rfl⟩ dX8_found_2 rfl (kRp ?_)
  refine g_ast3 (pc' := 6) rfl (by decide) dX8_found_5 rfl ?_
  refine g_ald3 (pc' := 7) dX8_found_6 rfl ?_
  refine g_ifnullF (pc' := 10) dX8_found_7 rfl ?_
  refine g_ild2 (pc' := 11) dX8_found_10 rfl ?_
  refine g_ifltN (pc' := 14) (by omega) dX8_found_11 rfl ?_
  refine g_ild2 (pc' := 15) dX8_found_14 rfl ?_
  refine g_iconst (pc' := 16) (v := nI 1) dX8_found_15 rfl (by decide) ?_
  refine g_icmpleN (pc' := 19) (by omega) (by omega) (tgt := 21) dX8_found_16 (by decide) rfl (fun h16 => ?_) (fun h16 => ?_)
  · refine g_ald3 (pc' := 22) dX8_found_21 rfl ?_
    refine g_callV (pc' := 25) (c_allCounts l sg wg hn hN) wg.s11 (by decide) wX7_allCounts lX8_256 rfl rfl (Nat.le_of_ble_eq_true rfl) ⟨Nat.le_of_ble_eq_true rfl, Nat.le_of_ble_eq_true rfl⟩ ⟨Nat.le_of_ble_eq_true rfl, Nat.le_of_ble_eq_true rfl⟩ dX8_found_22 rfl (kIp ?_)
    refine g_ist4 (pc' := 27) rfl (by decide) dX8_found_25 rfl ?_
    refine g_ald0 (pc' := 28) dX8_found_27 rfl ?_
    refine g_getR (pc' := 31) xg.s0 (by decide) fX8_10 xg.r0_0 dX8_found_28 rfl ?_
    refine g_callV (pc' := 34) (c_allWorths l sg hn hN) sg.s1 (by decide) wX5_allWorths lX8_259 rfl rfl (Nat.le_of_ble_eq_true rfl) ⟨Nat.le_of_ble_eq_true rfl, Nat.le_of_ble_eq_true rfl⟩ ⟨Nat.le_of_ble_eq_true rfl, Nat.le_of_ble_eq_true rfl⟩ dX8_found_31 rfl (kIp ?_)
    refine g_ist5 (pc' := 36) rfl (by decide) dX8_found_34 rfl ?_
    refine g_ild4 (pc' := 38) dX8_found_36 rfl ?_
    refine g_ifeq (pc' := 41) (tgt := 46) dX8_found_38 (by decide) rfl (fun h38 => ?_) (fun h38 => ?_)
    · refine g_bipush (pc' := 48) (v := (-2)) dX8_found_46 rfl (by decide) ?_
      refine g_iret rfl dX8_found_48 ?_
      exact eIp rfl
    · refine g_ild5 (pc' := 43) dX8_found_41 rfl ?_
      refine g_ifne (pc' := 46) (tgt := 49) dX8_found_43 (by decide) rfl (fun h43 => ?_) (fun h43 => ?_)
      · exact (hz.elim (fun h => h38 h) (fun h => h43 h)).elim
      · refine g_bipush (pc' := 48) (v := (-2)) dX8_found_46 rfl (by decide) ?_
        refine g_iret rfl dX8_found_48 ?_
        exact eIp rfl
  · exact absurd h16 (by omega)

theorem fdA_eq {I : MI} {j n s : Nat} : I (12, j) s - ((sumN (I (12, j)) n).toInt64 * (I (2, 0) s).toInt64 / (sumN (I (2, 0)) n).toInt64).toInt32 = fdA I j n s := rfl
theorem fdN_0 {a : Nat → Int32} : fdN a 0 = (0, nI 0) := rfl
theorem fdN_p {a : Nat → Int32} {s : Nat} (h : s = 0 ∨ ¬ a s ≤ (fdN a s).2) : fdN a (s + 1) = (s, a s) := if_pos h
theorem fdN_n {a : Nat → Int32} {s : Nat} (h : ¬ s = 0) (h2 : a s ≤ (fdN a s).2) : fdN a (s + 1) = fdN a s := if_neg (fun q => q.elim h (fun q => q h2))
theorem c_foundS (l : Launch) {S : Shp} {I : MI} {L : ML} {R : MR} (xg : XG S R) (sg : SG S R) {n : Nat} (hn : I (1, 0) 1 = nI n) (hN : n ≤ 12) {m j : Nat} (hm : I (0, 0) 5 = nI m) (hj : j < m) (hM : m ≤ 9) (hR : R (10, 0) j = some (11, j)) (wg : WG j S R) {w : Nat} (hw : w ≤ 1) (hco : ¬ sumN (I (12, j)) n = 0) (hwo : ¬ sumN (I (2, 0)) n = 0) : Ct l mX8_found 3 0 0 [.inr (.inr (some (0, 0))), .inl (nI j), .inl (nI w)] S I L R (PIp S I L R (fdV I n j w)) := by
  refine Ct.of [some (.inr (.inr (some (0, 0)))), some (.inl (nI j)), some (.inl (nI w)), none, none, none, none, none, none, none] (by decide) rfl (Nat.le_of_ble_eq_true rfl) ?_
  refine g_ald0 (pc' := 1) dX8_found_0 rfl ?_
  refine g_ild1 (pc' := 2) dX8_found_1 rfl ?_
  refine g_callV (pc' := 5) (c_worldOfS l xg hm hj hM hR) xg.s0 (by decide) wX8_worldOf lX8_147 rfl rfl (Nat.le_of_ble_eq_true rfl) ⟨Nat.le_of_ble_eq_true rfl, Nat.le_of_ble_eq_true rfl⟩ ⟨Nat.le_of_ble_eq_true rfl, Nat.le_of_ble_eq_true rfl⟩ dX8_found_2 rfl (kRp ?_)
  refine g_ast3 (pc' := 6) rfl (by decide) dX8_found_5 rfl ?_
  refine g_ald3 (pc' := 7) dX8_found_6 rfl ?_
  refine g_ifnullF (pc' := 10) dX8_found_7 rfl ?_
  refine g_ild2 (pc' := 11) dX8_found_10 rfl ?_
  refine g_ifltN (pc' := 14) (by omega) dX8_found_11 rfl ?_
  refine g_ild2 (pc' := 15) dX8_found_14 rfl ?_
  refine g_iconst (pc' := 16) (v := nI 1) dX8_found_15 rfl (by decide) ?_
  refine g_icmpleN (pc' := 19) (by omega) (by omega) (tgt := 21) dX8_found_16 (by decide) rfl (fun h16 => ?_) (fun h16 => ?_)
  · refine g_ald3 (pc' := 22) dX8_found_21 rfl ?_
    refine g_callV (pc' := 25) (c_allCounts l sg wg hn hN) wg.s11 (by decide) wX7_allCounts lX8_256 rfl rfl (Nat.le_of_ble_eq_true rfl) ⟨Nat.le_of_ble_eq_true rfl, Nat.le_of_ble_eq_true rfl⟩ ⟨Nat.le_of_ble_eq_true rfl, Nat.le_of_ble_eq_true rfl⟩ dX8_found_22 rfl (kIp ?_)
    refine g_ist4 (pc' := 27) rfl (by decide) dX8_found_25 rfl ?_
    refine g_ald0 (pc' := 28) dX8_found_27 rfl ?_
    refine g_getR (pc' := 31) xg.s0 (by decide) fX8_10 xg.r0_0 dX8_found_28 rfl ?_
    refine g_callV (pc' := 34) (c_allWorths l sg hn hN) sg.s1 (by decide) wX5_allWorths lX8_259 rfl rfl (Nat.le_of_ble_eq_true rfl) ⟨Nat.le_of_ble_eq_true rfl, Nat.le_of_ble_eq_true rfl⟩ ⟨Nat.le_of_ble_eq_true rfl, Nat.le_of_ble_eq_true rfl⟩ dX8_found_31 rfl (kIp ?_)
    refine g_ist5 (pc' := 36) rfl (by decide) dX8_found_34 rfl ?_
    refine g_ild4 (pc' := 38) dX8_found_36 rfl ?_
    refine g_ifeq (pc' := 41) (tgt := 46) dX8_found_38 (by decide) rfl (fun h38 => (by first | exact absurd h38 hco | exact absurd hco h38)) (fun h38 => ?_)
    refine g_ild5 (pc' := 43) dX8_found_41 rfl ?_
    refine g_ifne (pc' := 46) (tgt := 49) dX8_found_43 (by decide) rfl (fun h43 => ?_) (fun h43 => (by first | exact absurd h43 hwo | exact absurd hwo h43))
    refine g_iconst (pc' := 50) (v := nI 0) dX8_found_49 rfl (by decide) ?_
    refine g_ist6 (pc' := 52) rfl (by decide) dX8_found_50 rfl ?_
    refine g_iconst (pc' := 53) (v := nI 0) dX8_found_52 rfl (by decide) ?_
    refine g_ist7 (pc' := 55) rfl (by decide) dX8_found_53 rfl ?_
    refine g_iconst (pc' := 56) (v := nI 0) dX8_found_55 rfl (by decide) ?_
    refine g_ist8 (pc' := 58) rfl (by decide) dX8_found_56 rfl ?_
    have e0 : nI 0 = nI (fdN (fdA I j n) 0).1 := by rw [fdN_0]
    refine g_loop (σ := Unit) (fun _ _ => True) (fun i s => [some (.inr (.inr (some (0, 0)))), some (.inl (nI j)), some (.inl (nI w)), some (.inr (.inr (some (11, j)))), some (.inl (sumN (I (12, j)) n)), some (.inl (sumN (I (2, 0)) n)), some (.inl (nI ((fdN (fdA I j n) i).1))), some (.inl ((fdN (fdA I j n) i).2)), some (.inl (nI i)), none]) (fun i s => I) n 0 () (by omega) trivial ?_ ?_
    · intro i s hi hP ih
      refine g_ild8 (pc' := 60) dX8_found_58 rfl ?_
      refine g_ald0 (pc' := 61) dX8_found_60 rfl ?_
      refine g_getR (pc' := 64) xg.s0 (by decide) fX8_10 xg.r0_0 dX8_found_61 rfl ?_
      refine g_getI (pc' := 67) sg.s1 (by decide) fX8_88 hn dX8_found_64 rfl ?_
      refine g_icmpgeN (pc' := 70) (by omega) (by omega) (tgt := 126) dX8_found_67 (by decide) rfl (fun h67 => ?_) (fun h67 => ?_)
      · exact absurd h67 (by omega)
      · refine g_ald3 (pc' := 71) dX8_found_70 rfl ?_
        refine g_getR (pc' := 74) wg.s11 (by decide) fX8_167 wg.r11_10 dX8_found_71 rfl ?_
        refine g_ild8 (pc' := 76) dX8_found_74 rfl ?_
        refine g_iald (pc' := 77) (j := i) wg.s12 rfl (by omega) (by decide) rfl dX8_found_76 rfl ?_
        refine g_ild4 (pc' := 79) dX8_found_77 rfl ?_
        refine g_i2l (pc' := 80) dX8_found_79 rfl ?_
        refine g_ald0 (pc' := 81) dX8_found_80 rfl ?_
        refine g_getR (pc' := 84) xg.s0 (by decide) fX8_10 xg.r0_0 dX8_found_81 rfl ?_
        refine g_getR (pc' := 87) sg.s1 (by decide) fX8_92 sg.r1_0 dX8_found_84 rfl ?_
        refine g_ild8 (pc' := 89) dX8_found_87 rfl ?_
        refine g_iald (pc' := 90) (j := i) sg.s2 rfl (by omega) (by decide) rfl dX8_found_89 rfl ?_
        refine g_i2l (pc' := 91) dX8_found_90 rfl ?_
        refine g_lmul (pc' := 92) dX8_found_91 rfl ?_
        refine g_ild5 (pc' := 94) dX8_found_92 rfl ?_
        refine g_i2l (pc' := 95) dX8_found_94 rfl ?_
        refine g_ldiv (pc' := 96) dX8_found_95 rfl (ne64 hwo) ?_
        refine g_l2i (pc' := 97) dX8_found_96 rfl ?_
        refine g_isub (pc' := 98) dX8_found_97 rfl ?_
        refine g_topi (v := fdA I j n i) (fdA_eq) ?_
        refine g_ist9 (pc' := 100) rfl (by decide) dX8_found_98 rfl ?_
        refine g_ild8 (pc' := 102) dX8_found_100 rfl ?_
        refine g_ifeqN (pc' := 105) (by omega) (tgt := 112) dX8_found_102 (by decide) rfl (fun h102 => ?_) (fun h102 => ?_)
        · refine g_ild8 (pc' := 114) dX8_found_112 rfl ?_
          refine g_ist6 (pc' := 116) rfl (by decide) dX8_found_114 rfl ?_
          refine g_ild9 (pc' := 118) dX8_found_116 rfl ?_
          refine g_ist7 (pc' := 120) rfl (by decide) dX8_found_118 rfl ?_
          refine g_inc8 (pc' := 123) rfl (by decide) (v := nI (i + 1)) (nI_1 _) dX8_found_120 rfl ?_
          refine g_goto (tgt := 58) dX8_found_123 (by decide) ?_
          have e : fdN (fdA I j n) (i + 1) = (i, fdA I j n i) := fdN_p (by first | exact Or.inl (by omega) | exact Or.inr (by assumption))
          refine G.lsub [some (.inr (.inr (some (0, 0)))), some (.inl (nI j)), some (.inl (nI w)), some (.inr (.inr (some (11, j)))), some (.inl (sumN (I (12, j)) n)), some (.inl (sumN (I (2, 0)) n)), some (.inl (nI i)), some (.inl (fdA I j n i)), some (.inl (nI (i + 1))), none] (by intro j v; rcases j with _ | _ | _ | _ | _ | _ | _ | _ | _ | _ | j <;> simp) ?_
          have hih := ih () trivial
          rw [e] at hih
          exact hih
        · refine g_ild9 (pc' := 107) dX8_found_105 rfl ?_
          refine g_ild7 (pc' := 109) dX8_found_107 rfl ?_
          refine g_icmple (pc' := 112) (tgt := 120) dX8_found_109 (by decide) rfl (fun h109 => ?_) (fun h109 => ?_)
          · refine g_inc8 (pc' := 123) rfl (by decide) (v := nI (i + 1)) (nI_1 _) dX8_found_120 rfl ?_
            refine g_goto (tgt := 58) dX8_found_123 (by decide) ?_
            have e : fdN (fdA I j n) (i + 1) = fdN (fdA I j n) i := fdN_n (by omega) (by assumption)
            refine G.lsub [some (.inr (.inr (some (0, 0)))), some (.inl (nI j)), some (.inl (nI w)), some (.inr (.inr (some (11, j)))), some (.inl (sumN (I (12, j)) n)), some (.inl (sumN (I (2, 0)) n)), some (.inl (nI ((fdN (fdA I j n) i).1))), some (.inl ((fdN (fdA I j n) i).2)), some (.inl (nI (i + 1))), none] (by intro j v; rcases j with _ | _ | _ | _ | _ | _ | _ | _ | _ | _ | j <;> simp) ?_
            have hih := ih () trivial
            rw [e] at hih
            exact hih
          · refine g_ild8 (pc' := 114) dX8_found_112 rfl ?_
            refine g_ist6 (pc' := 116) rfl (by decide) dX8_found_114 rfl ?_
            refine g_ild9 (pc' := 118) dX8_found_116 rfl ?_
            refine g_ist7 (pc' := 120) rfl (by decide) dX8_found_118 rfl ?_
            refine g_inc8 (pc' := 123) rfl (by decide) (v := nI (i + 1)) (nI_1 _) dX8_found_120 rfl ?_
            refine g_goto (tgt := 58) dX8_found_123 (by decide) ?_
            have e : fdN (fdA I j n) (i + 1) = (i, fdA I j n i) := fdN_p (by first | exact Or.inl (by omega) | exact Or.inr (by assumption))
            refine G.lsub [some (.inr (.inr (some (0, 0)))), some (.inl (nI j)), some (.inl (nI w)), some (.inr (.inr (some (11, j)))), some (.inl (sumN (I (12, j)) n)), some (.inl (sumN (I (2, 0)) n)), some (.inl (nI i)), some (.inl (fdA I j n i)), some (.inl (nI (i + 1))), none] (by intro j v; rcases j with _ | _ | _ | _ | _ | _ | _ | _ | _ | _ | j <;> simp) ?_
            have hih := ih () trivial
            rw [e] at hih
            exact hih
    · intro s hP
      refine g_ild8 (pc' := 60) dX8_found_58 rfl ?_
      refine g_ald0 (pc' := 61) dX8_found_60 rfl ?_
      refine g_getR (pc' := 64) xg.s0 (by decide) fX8_10 xg.r0_0 dX8_found_61 rfl ?_
      refine g_getI (pc' := 67) sg.s1 (by decide) fX8_88 hn dX8_found_64 rfl ?_
      refine g_icmpgeN (pc' := 70) (by omega) (by omega) (tgt := 126) dX8_found_67 (by decide) rfl (fun h67 => ?_) (fun h67 => ?_)
      · refine g_ild2 (pc' := 127) dX8_found_126 rfl ?_
        refine g_ifneN (pc' := 130) (by omega) (tgt := 135) dX8_found_127 (by decide) rfl (fun h127 => ?_) (fun h127 => ?_)
        · refine g_ild7 (pc' := 137) dX8_found_135 rfl ?_
          refine g_iret rfl dX8_found_137 ?_
          exact eIp (by unfold fdV; first | rw [if_pos (by omega)] | rw [if_neg (by omega)])
        · refine g_ild6 (pc' := 132) dX8_found_130 rfl ?_
          refine g_goto (tgt := 137) dX8_found_132 (by decide) ?_
          refine g_iret rfl dX8_found_137 ?_
          exact eIp (by unfold fdV; first | rw [if_pos (by omega)] | rw [if_neg (by omega)])
      · exact absurd h67 (by omega)
  · exact absurd h16 (by omega)
