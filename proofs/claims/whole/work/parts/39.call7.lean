/-! EightWorlds: shifting, counting, feeding, asking of WORLDS -/
def shV (h1 h2 s1 s2 : Nat) (r1 r2 : Bool) : Int32 := if h1 = 0 ∨ h2 = 0 then -11 else if ¬ h1 = 2 ∨ ¬ h2 = 2 ∨ ¬ s1 = s2 then -12 else if r1 = false ∨ r2 = false then -13 else 0
theorem runB_of {x y : Int32} {z : Nat} (hz : z ≤ 60) (h : runB x y z = true) : ∃ a q, x = nI a ∧ y = nI q ∧ a + q ≤ z := by
  unfold runB at h
  simp only [Bool.and_eq_true, decide_eq_true_eq] at h
  obtain ⟨⟨⟨h1, h2⟩, h3⟩, h4⟩ := h
  obtain ⟨a, ha, rfl⟩ := nI_of h1
  obtain ⟨q, hq, rfl⟩ := nI_of h2
  rw [nI_ltI (by omega) ha] at h3
  rw [pk_sub (by omega), nI_ltI (by omega) hq] at h4
  exact ⟨a, q, rfl, rfl, by omega⟩
theorem c_shiftNN (l : Launch) {S : Shp} {I : MI} {L : ML} {R : MR} (xg : XG S R) {x : Int32} (hx : inb x 6 = false) {w : Int32} (hw : inb w 6 = false) (y u v : Int32) : Ct l mX8_shift 2 0 0 [.inr (.inr (some (0, 0))), .inl x, .inl y, .inl w, .inl u, .inl v] S I L R (PIp S I L R (-1)) := by
  refine Ct.of [some (.inr (.inr (some (0, 0)))), some (.inl x), some (.inl y), some (.inl w), some (.inl u), some (.inl v), none, none] (by decide) rfl (Nat.le_of_ble_eq_true rfl) ?_
  refine g_ald0 (pc' := 1) dX8_shift_0 rfl ?_
  refine g_ild1 (pc' := 2) dX8_shift_1 rfl ?_
  refine g_callV (pc' := 5) (c_shelfOfN l xg hx) xg.s0 (by decide) wX8_shelfOf lX8_186 rfl rfl (Nat.le_of_ble_eq_true rfl) ⟨Nat.le_of_ble_eq_true rfl, Nat.le_of_ble_eq_true rfl⟩ ⟨Nat.le_of_ble_eq_true rfl, Nat.le_of_ble_eq_true rfl⟩ dX8_shift_2 rfl (kRp ?_)
  refine g_ast6 (pc' := 7) rfl (by decide) dX8_shift_5 rfl ?_
  refine g_ald0 (pc' := 8) dX8_shift_7 rfl ?_
  refine g_ild3 (pc' := 9) dX8_shift_8 rfl ?_
  refine g_callV (pc' := 12) (c_shelfOfN l xg hw) xg.s0 (by decide) wX8_shelfOf lX8_186 rfl rfl (Nat.le_of_ble_eq_true rfl) ⟨Nat.le_of_ble_eq_true rfl, Nat.le_of_ble_eq_true rfl⟩ ⟨Nat.le_of_ble_eq_true rfl, Nat.le_of_ble_eq_true rfl⟩ dX8_shift_9 rfl (kRp ?_)
  refine g_ast7 (pc' := 14) rfl (by decide) dX8_shift_12 rfl ?_
  refine g_ald6 (pc' := 16) dX8_shift_14 rfl ?_
  refine g_ifnullT (tgt := 24) dX8_shift_16 (by decide) ?_
  refine g_iconst (pc' := 25) (v := (-1)) dX8_shift_24 rfl (by decide) ?_
  refine g_iret rfl dX8_shift_25 ?_
  exact eIp rfl

theorem c_shiftNS (l : Launch) {S : Shp} {I : MI} {L : ML} {R : MR} (xg : XG S R) {x : Int32} (hx : inb x 6 = false) {e : Nat} (he6 : e < 6) (hRe : R (26, 0) e = some (27, e)) (dge : DG e S R) (y u v : Int32) : Ct l mX8_shift 2 0 0 [.inr (.inr (some (0, 0))), .inl x, .inl y, .inl (nI e), .inl u, .inl v] S I L R (PIp S I L R (-1)) := by
  refine Ct.of [some (.inr (.inr (some (0, 0)))), some (.inl x), some (.inl y), some (.inl (nI e)), some (.inl u), some (.inl v), none, none] (by decide) rfl (Nat.le_of_ble_eq_true rfl) ?_
  refine g_ald0 (pc' := 1) dX8_shift_0 rfl ?_
  refine g_ild1 (pc' := 2) dX8_shift_1 rfl ?_
  refine g_callV (pc' := 5) (c_shelfOfN l xg hx) xg.s0 (by decide) wX8_shelfOf lX8_186 rfl rfl (Nat.le_of_ble_eq_true rfl) ⟨Nat.le_of_ble_eq_true rfl, Nat.le_of_ble_eq_true rfl⟩ ⟨Nat.le_of_ble_eq_true rfl, Nat.le_of_ble_eq_true rfl⟩ dX8_shift_2 rfl (kRp ?_)
  refine g_ast6 (pc' := 7) rfl (by decide) dX8_shift_5 rfl ?_
  refine g_ald0 (pc' := 8) dX8_shift_7 rfl ?_
  refine g_ild3 (pc' := 9) dX8_shift_8 rfl ?_
  refine g_callV (pc' := 12) (c_shelfOfS l xg he6 hRe) xg.s0 (by decide) wX8_shelfOf lX8_186 rfl rfl (Nat.le_of_ble_eq_true rfl) ⟨Nat.le_of_ble_eq_true rfl, Nat.le_of_ble_eq_true rfl⟩ ⟨Nat.le_of_ble_eq_true rfl, Nat.le_of_ble_eq_true rfl⟩ dX8_shift_9 rfl (kRp ?_)
  refine g_ast7 (pc' := 14) rfl (by decide) dX8_shift_12 rfl ?_
  refine g_ald6 (pc' := 16) dX8_shift_14 rfl ?_
  refine g_ifnullT (tgt := 24) dX8_shift_16 (by decide) ?_
  refine g_iconst (pc' := 25) (v := (-1)) dX8_shift_24 rfl (by decide) ?_
  refine g_iret rfl dX8_shift_25 ?_
  exact eIp rfl

theorem c_shiftSN (l : Launch) {S : Shp} {I : MI} {L : ML} {R : MR} (xg : XG S R) {d : Nat} (hd6 : d < 6) (hRd : R (26, 0) d = some (27, d)) (dg : DG d S R) {w : Int32} (hw : inb w 6 = false) (y u v : Int32) : Ct l mX8_shift 2 0 0 [.inr (.inr (some (0, 0))), .inl (nI d), .inl y, .inl w, .inl u, .inl v] S I L R (PIp S I L R (-1)) := by
  refine Ct.of [some (.inr (.inr (some (0, 0)))), some (.inl (nI d)), some (.inl y), some (.inl w), some (.inl u), some (.inl v), none, none] (by decide) rfl (Nat.le_of_ble_eq_true rfl) ?_
  refine g_ald0 (pc' := 1) dX8_shift_0 rfl ?_
  refine g_ild1 (pc' := 2) dX8_shift_1 rfl ?_
  refine g_callV (pc' := 5) (c_shelfOfS l xg hd6 hRd) xg.s0 (by decide) wX8_shelfOf lX8_186 rfl rfl (Nat.le_of_ble_eq_true rfl) ⟨Nat.le_of_ble_eq_true rfl, Nat.le_of_ble_eq_true rfl⟩ ⟨Nat.le_of_ble_eq_true rfl, Nat.le_of_ble_eq_true rfl⟩ dX8_shift_2 rfl (kRp ?_)
  refine g_ast6 (pc' := 7) rfl (by decide) dX8_shift_5 rfl ?_
  refine g_ald0 (pc' := 8) dX8_shift_7 rfl ?_
  refine g_ild3 (pc' := 9) dX8_shift_8 rfl ?_
  refine g_callV (pc' := 12) (c_shelfOfN l xg hw) xg.s0 (by decide) wX8_shelfOf lX8_186 rfl rfl (Nat.le_of_ble_eq_true rfl) ⟨Nat.le_of_ble_eq_true rfl, Nat.le_of_ble_eq_true rfl⟩ ⟨Nat.le_of_ble_eq_true rfl, Nat.le_of_ble_eq_true rfl⟩ dX8_shift_9 rfl (kRp ?_)
  refine g_ast7 (pc' := 14) rfl (by decide) dX8_shift_12 rfl ?_
  refine g_ald6 (pc' := 16) dX8_shift_14 rfl ?_
  refine g_ifnullF (pc' := 19) dX8_shift_16 rfl ?_
  refine g_ald7 (pc' := 21) dX8_shift_19 rfl ?_
  refine g_ifnonnullF (pc' := 24) dX8_shift_21 rfl ?_
  refine g_iconst (pc' := 25) (v := (-1)) dX8_shift_24 rfl (by decide) ?_
  refine g_iret rfl dX8_shift_25 ?_
  exact eIp rfl

theorem c_shiftR (l : Launch) {S : Shp} {I : MI} {L : ML} {R : MR} (xg : XG S R) {d : Nat} (hd6 : d < 6) (hRd : R (26, 0) d = some (27, d)) (dg : DG d S R) {e : Nat} (he6 : e < 6) (hRe : R (26, 0) e = some (27, e)) (dge : DG e S R) {h1 h2 s1 s2 z1 z2 : Nat} (hh1 : I (27, d) 0 = nI h1) (hh2 : I (27, e) 0 = nI h2) (h13 : h1 < 3) (h23 : h2 < 3) (hs1 : I (27, d) 2 = nI s1) (hs2 : I (27, e) 2 = nI s2) (hs14 : s1 ≤ 4) (hs24 : s2 ≤ 4) (hz1 : I (27, d) 3 = nI z1) (hz2 : I (27, e) 3 = nI z2) (y u v : Int32) (hno : ¬ shV h1 h2 s1 s2 (runB y v z1) (runB u v z2) = 0) : Ct l mX8_shift 3 0 0 [.inr (.inr (some (0, 0))), .inl (nI d), .inl y, .inl (nI e), .inl u, .inl v] S I L R (PIp S I L R (shV h1 h2 s1 s2 (runB y v z1) (runB u v z2))) := by
  refine Ct.of [some (.inr (.inr (some (0, 0)))), some (.inl (nI d)), some (.inl y), some (.inl (nI e)), some (.inl u), some (.inl v), none, none] (by decide) rfl (Nat.le_of_ble_eq_true rfl) ?_
  refine g_ald0 (pc' := 1) dX8_shift_0 rfl ?_
  refine g_ild1 (pc' := 2) dX8_shift_1 rfl ?_
  refine g_callV (pc' := 5) (c_shelfOfS l xg hd6 hRd) xg.s0 (by decide) wX8_shelfOf lX8_186 rfl rfl (Nat.le_of_ble_eq_true rfl) ⟨Nat.le_of_ble_eq_true rfl, Nat.le_of_ble_eq_true rfl⟩ ⟨Nat.le_of_ble_eq_true rfl, Nat.le_of_ble_eq_true rfl⟩ dX8_shift_2 rfl (kRp ?_)
  refine g_ast6 (pc' := 7) rfl (by decide) dX8_shift_5 rfl ?_
  refine g_ald0 (pc' := 8) dX8_shift_7 rfl ?_
  refine g_ild3 (pc' := 9) dX8_shift_8 rfl ?_
  refine g_callV (pc' := 12) (c_shelfOfS l xg he6 hRe) xg.s0 (by decide) wX8_shelfOf lX8_186 rfl rfl (Nat.le_of_ble_eq_true rfl) ⟨Nat.le_of_ble_eq_true rfl, Nat.le_of_ble_eq_true rfl⟩ ⟨Nat.le_of_ble_eq_true rfl, Nat.le_of_ble_eq_true rfl⟩ dX8_shift_9 rfl (kRp ?_)
  refine g_ast7 (pc' := 14) rfl (by decide) dX8_shift_12 rfl ?_
  refine g_ald6 (pc' := 16) dX8_shift_14 rfl ?_
  refine g_ifnullF (pc' := 19) dX8_shift_16 rfl ?_
  refine g_ald7 (pc' := 21) dX8_shift_19 rfl ?_
  refine g_ifnonnullT (tgt := 26) dX8_shift_21 (by decide) ?_
  refine g_ald6 (pc' := 28) dX8_shift_26 rfl ?_
  refine g_getI (pc' := 31) dg.s27 (by decide) fX8_190 hh1 dX8_shift_28 rfl ?_
  refine g_ifeqN (pc' := 34) (by omega) (tgt := 42) dX8_shift_31 (by decide) rfl (fun h31 => ?_) (fun h31 => ?_)
  · refine g_bipush (pc' := 44) (v := (-11)) dX8_shift_42 rfl (by decide) ?_
    refine g_iret rfl dX8_shift_44 ?_
    exact eIp (by unfold shV; rw [if_pos (by omega)])
  · refine g_ald7 (pc' := 36) dX8_shift_34 rfl ?_
    refine g_getI (pc' := 39) dge.s27 (by decide) fX8_190 hh2 dX8_shift_36 rfl ?_
    refine g_ifneN (pc' := 42) (by omega) (tgt := 45) dX8_shift_39 (by decide) rfl (fun h39 => ?_) (fun h39 => ?_)
    · refine g_ald6 (pc' := 47) dX8_shift_45 rfl ?_
      refine g_getI (pc' := 50) dg.s27 (by decide) fX8_190 hh1 dX8_shift_47 rfl ?_
      refine g_iconst (pc' := 51) (v := nI 2) dX8_shift_50 rfl (by decide) ?_
      refine g_icmpneN (pc' := 54) (by omega) (by omega) (tgt := 76) dX8_shift_51 (by decide) rfl (fun h51 => ?_) (fun h51 => ?_)
      · refine g_bipush (pc' := 78) (v := (-12)) dX8_shift_76 rfl (by decide) ?_
        refine g_iret rfl dX8_shift_78 ?_
        exact eIp (by unfold shV; rw [if_neg (by omega), if_pos (by omega)])
      · refine g_ald7 (pc' := 56) dX8_shift_54 rfl ?_
        refine g_getI (pc' := 59) dge.s27 (by decide) fX8_190 hh2 dX8_shift_56 rfl ?_
        refine g_iconst (pc' := 60) (v := nI 2) dX8_shift_59 rfl (by decide) ?_
        refine g_icmpneN (pc' := 63) (by omega) (by omega) (tgt := 76) dX8_shift_60 (by decide) rfl (fun h60 => ?_) (fun h60 => ?_)
        · refine g_bipush (pc' := 78) (v := (-12)) dX8_shift_76 rfl (by decide) ?_
          refine g_iret rfl dX8_shift_78 ?_
          exact eIp (by unfold shV; rw [if_neg (by omega), if_pos (by omega)])
        · refine g_ald6 (pc' := 65) dX8_shift_63 rfl ?_
          refine g_getI (pc' := 68) dg.s27 (by decide) fX8_193 hs1 dX8_shift_65 rfl ?_
          refine g_ald7 (pc' := 70) dX8_shift_68 rfl ?_
          refine g_getI (pc' := 73) dge.s27 (by decide) fX8_193 hs2 dX8_shift_70 rfl ?_
          refine g_icmpeqN (pc' := 76) (by omega) (by omega) (tgt := 79) dX8_shift_73 (by decide) rfl (fun h73 => ?_) (fun h73 => ?_)
          · refine g_ald6 (pc' := 81) dX8_shift_79 rfl ?_
            refine g_ild2 (pc' := 82) dX8_shift_81 rfl ?_
            refine g_ild5 (pc' := 84) dX8_shift_82 rfl ?_
            refine g_callV (pc' := 87) (c_sHasRun l dg hz1 y v) dg.s27 (by decide) wX4_hasRun lX8_364 rfl rfl (Nat.le_of_ble_eq_true rfl) ⟨Nat.le_of_ble_eq_true rfl, Nat.le_of_ble_eq_true rfl⟩ ⟨Nat.le_of_ble_eq_true rfl, Nat.le_of_ble_eq_true rfl⟩ dX8_shift_84 rfl (kIp ?_)
            refine g_ifeqB (pc' := 90) (tgt := 102) dX8_shift_87 (by decide) rfl (fun h87 => ?_) (fun h87 => ?_)
            · refine g_bipush (pc' := 104) (v := (-13)) dX8_shift_102 rfl (by decide) ?_
              refine g_iret rfl dX8_shift_104 ?_
              exact eIp (by unfold shV; rw [if_neg (by omega), if_neg (by omega), if_pos (by first | exact Or.inl (by assumption) | exact Or.inr (by assumption))])
            · refine g_ald7 (pc' := 92) dX8_shift_90 rfl ?_
              refine g_ild4 (pc' := 94) dX8_shift_92 rfl ?_
              refine g_ild5 (pc' := 96) dX8_shift_94 rfl ?_
              refine g_callV (pc' := 99) (c_sHasRun l dge hz2 u v) dge.s27 (by decide) wX4_hasRun lX8_364 rfl rfl (Nat.le_of_ble_eq_true rfl) ⟨Nat.le_of_ble_eq_true rfl, Nat.le_of_ble_eq_true rfl⟩ ⟨Nat.le_of_ble_eq_true rfl, Nat.le_of_ble_eq_true rfl⟩ dX8_shift_96 rfl (kIp ?_)
              refine g_ifneB (pc' := 102) (tgt := 105) dX8_shift_99 (by decide) rfl (fun h99 => ?_) (fun h99 => ?_)
              · refine absurd ?_ hno
                unfold shV
                rw [if_neg (by omega), if_neg (by omega), if_neg (by rw [h87, h99]; simp)]
              · refine g_bipush (pc' := 104) (v := (-13)) dX8_shift_102 rfl (by decide) ?_
                refine g_iret rfl dX8_shift_104 ?_
                exact eIp (by unfold shV; rw [if_neg (by omega), if_neg (by omega), if_pos (by first | exact Or.inl (by assumption) | exact Or.inr (by assumption))])
          · refine g_bipush (pc' := 78) (v := (-12)) dX8_shift_76 rfl (by decide) ?_
            refine g_iret rfl dX8_shift_78 ?_
            exact eIp (by unfold shV; rw [if_neg (by omega), if_pos (by omega)])
    · refine g_bipush (pc' := 44) (v := (-11)) dX8_shift_42 rfl (by decide) ?_
      refine g_iret rfl dX8_shift_44 ?_
      exact eIp (by unfold shV; rw [if_pos (by omega)])

theorem runB_nI {a q z : Nat} (hz : z ≤ 60) (h : a + q ≤ z) : runB (nI a) (nI q) z = true := by
  unfold runB
  simp only [Bool.and_eq_true, decide_eq_true_eq]
  rw [pk_sub (by omega), nI_ltI (by omega) (by omega), nI_ltI (by omega) (by omega)]
  exact ⟨⟨⟨lt0 (by omega), lt0 (by omega)⟩, by omega⟩, by omega⟩
theorem c_shiftS (l : Launch) {S : Shp} {I : MI} {L : ML} {R : MR} (xg : XG S R) {d : Nat} (hd6 : d < 6) (hRd : R (26, 0) d = some (27, d)) (dg : DG d S R) {e : Nat} (he6 : e < 6) (hRe : R (26, 0) e = some (27, e)) (dge : DG e S R) {s1 z1 z2 a b q : Nat} (hh1 : I (27, d) 0 = nI 2) (hh2 : I (27, e) 0 = nI 2) (hs1 : I (27, d) 2 = nI s1) (hs2 : I (27, e) 2 = nI s1) (hs14 : s1 ≤ 4) (hz1 : I (27, d) 3 = nI z1) (hz2 : I (27, e) 3 = nI z2) (hz16 : z1 ≤ 60) (hz26 : z2 ≤ 60) (hr1 : a + q ≤ z1) (hr2 : b + q ≤ z2) : Ct l mX8_shift 3 0 0 [.inr (.inr (some (0, 0))), .inl (nI d), .inl (nI a), .inl (nI e), .inl (nI b), .inl (nI q)] S I L R (PIl S R (fun r J L2 => r = nI q ∧ J = I ∧ L2 = upT L (28, e) (va_cpy (L (28, d)) (L (28, e)) a b q))) := by
  refine Ct.of [some (.inr (.inr (some (0, 0)))), some (.inl (nI d)), some (.inl (nI a)), some (.inl (nI e)), some (.inl (nI b)), some (.inl (nI q)), none, none] (by decide) rfl (Nat.le_of_ble_eq_true rfl) ?_
  refine g_ald0 (pc' := 1) dX8_shift_0 rfl ?_
  refine g_ild1 (pc' := 2) dX8_shift_1 rfl ?_
  refine g_callV (pc' := 5) (c_shelfOfS l xg hd6 hRd) xg.s0 (by decide) wX8_shelfOf lX8_186 rfl rfl (Nat.le_of_ble_eq_true rfl) ⟨Nat.le_of_ble_eq_true rfl, Nat.le_of_ble_eq_true rfl⟩ ⟨Nat.le_of_ble_eq_true rfl, Nat.le_of_ble_eq_true rfl⟩ dX8_shift_2 rfl (kRp ?_)
  refine g_ast6 (pc' := 7) rfl (by decide) dX8_shift_5 rfl ?_
  refine g_ald0 (pc' := 8) dX8_shift_7 rfl ?_
  refine g_ild3 (pc' := 9) dX8_shift_8 rfl ?_
  refine g_callV (pc' := 12) (c_shelfOfS l xg he6 hRe) xg.s0 (by decide) wX8_shelfOf lX8_186 rfl rfl (Nat.le_of_ble_eq_true rfl) ⟨Nat.le_of_ble_eq_true rfl, Nat.le_of_ble_eq_true rfl⟩ ⟨Nat.le_of_ble_eq_true rfl, Nat.le_of_ble_eq_true rfl⟩ dX8_shift_9 rfl (kRp ?_)
  refine g_ast7 (pc' := 14) rfl (by decide) dX8_shift_12 rfl ?_
  refine g_ald6 (pc' := 16) dX8_shift_14 rfl ?_
  refine g_ifnullF (pc' := 19) dX8_shift_16 rfl ?_
  refine g_ald7 (pc' := 21) dX8_shift_19 rfl ?_
  refine g_ifnonnullT (tgt := 26) dX8_shift_21 (by decide) ?_
  refine g_ald6 (pc' := 28) dX8_shift_26 rfl ?_
  refine g_getI (pc' := 31) dg.s27 (by decide) fX8_190 hh1 dX8_shift_28 rfl ?_
  refine g_ifeqN (pc' := 34) (by omega) (tgt := 42) dX8_shift_31 (by decide) rfl (fun h31 => absurd h31 (by omega)) (fun h31 => ?_)
  refine g_ald7 (pc' := 36) dX8_shift_34 rfl ?_
  refine g_getI (pc' := 39) dge.s27 (by decide) fX8_190 hh2 dX8_shift_36 rfl ?_
  refine g_ifneN (pc' := 42) (by omega) (tgt := 45) dX8_shift_39 (by decide) rfl (fun h39 => ?_) (fun h39 => absurd h39 (by omega))
  refine g_ald6 (pc' := 47) dX8_shift_45 rfl ?_
  refine g_getI (pc' := 50) dg.s27 (by decide) fX8_190 hh1 dX8_shift_47 rfl ?_
  refine g_iconst (pc' := 51) (v := nI 2) dX8_shift_50 rfl (by decide) ?_
  refine g_icmpneN (pc' := 54) (by omega) (by omega) (tgt := 76) dX8_shift_51 (by decide) rfl (fun h51 => absurd h51 (by omega)) (fun h51 => ?_)
  refine g_ald7 (pc' := 56) dX8_shift_54 rfl ?_
  refine g_getI (pc' := 59) dge.s27 (by decide) fX8_190 hh2 dX8_shift_56 rfl ?_
  refine g_iconst (pc' := 60) (v := nI 2) dX8_shift_59 rfl (by decide) ?_
  refine g_icmpneN (pc' := 63) (by omega) (by omega) (tgt := 76) dX8_shift_60 (by decide) rfl (fun h60 => absurd h60 (by omega)) (fun h60 => ?_)
  refine g_ald6 (pc' := 65) dX8_shift_63 rfl ?_
  refine g_getI (pc' := 68) dg.s27 (by decide) fX8_193 hs1 dX8_shift_65 rfl ?_
  refine g_ald7 (pc' := 70) dX8_shift_68 rfl ?_
  refine g_getI (pc' := 73) dge.s27 (by decide) fX8_193 hs2 dX8_shift_70 rfl ?_
  refine g_icmpeqN (pc' := 76) (by omega) (by omega) (tgt := 79) dX8_shift_73 (by decide) rfl (fun h73 => ?_) (fun h73 => absurd h73 (by omega))
  refine g_ald6 (pc' := 81) dX8_shift_79 rfl ?_
  refine g_ild2 (pc' := 82) dX8_shift_81 rfl ?_
  refine g_ild5 (pc' := 84) dX8_shift_82 rfl ?_
  refine g_callV (pc' := 87) (c_sHasRun l dg hz1 (nI a) (nI q)) dg.s27 (by decide) wX4_hasRun lX8_364 rfl rfl (Nat.le_of_ble_eq_true rfl) ⟨Nat.le_of_ble_eq_true rfl, Nat.le_of_ble_eq_true rfl⟩ ⟨Nat.le_of_ble_eq_true rfl, Nat.le_of_ble_eq_true rfl⟩ dX8_shift_84 rfl (kIp ?_)
  refine g_ifeqB (pc' := 90) (tgt := 102) dX8_shift_87 (by decide) rfl (fun h87 => (by first | exact absurd h87 (by rw [runB_nI hz16 hr1]; simp) | exact absurd (by rw [runB_nI hz16 hr1]; simp) h87)) (fun h87 => ?_)
  refine g_ald7 (pc' := 92) dX8_shift_90 rfl ?_
  refine g_ild4 (pc' := 94) dX8_shift_92 rfl ?_
  refine g_ild5 (pc' := 96) dX8_shift_94 rfl ?_
  refine g_callV (pc' := 99) (c_sHasRun l dge hz2 (nI b) (nI q)) dge.s27 (by decide) wX4_hasRun lX8_364 rfl rfl (Nat.le_of_ble_eq_true rfl) ⟨Nat.le_of_ble_eq_true rfl, Nat.le_of_ble_eq_true rfl⟩ ⟨Nat.le_of_ble_eq_true rfl, Nat.le_of_ble_eq_true rfl⟩ dX8_shift_96 rfl (kIp ?_)
  refine g_ifneB (pc' := 102) (tgt := 105) dX8_shift_99 (by decide) rfl (fun h99 => ?_) (fun h99 => (by first | exact absurd h99 (by rw [runB_nI hz26 hr2]; simp) | exact absurd (by rw [runB_nI hz26 hr2]; simp) h99))
  refine g_ald6 (pc' := 107) dX8_shift_105 rfl ?_
  refine g_getR (pc' := 110) dg.s27 (by decide) fX8_197 dg.r27_4 dX8_shift_107 rfl ?_
  refine g_ild2 (pc' := 111) dX8_shift_110 rfl ?_
  refine g_ald7 (pc' := 113) dX8_shift_111 rfl ?_
  refine g_getR (pc' := 116) dge.s27 (by decide) fX8_197 dge.r27_4 dX8_shift_113 rfl ?_
  refine g_ild4 (pc' := 118) dX8_shift_116 rfl ?_
  refine g_ild5 (pc' := 120) dX8_shift_118 rfl ?_
  refine g_copyJ (pc' := 123) (t := (28, d)) (u := (28, e)) (l0 := 60) (l1 := 60) (a := a) (b := b) (d := q) dg.s28 dge.s28 rfl rfl rfl (by omega) (by omega) (by decide) (by decide) ⟨lX8_301, nat_arraycopy, ac_stat, jwSys⟩ ⟨by decide, by decide +kernel⟩ dX8_shift_120 rfl ?_
  refine g_ild5 (pc' := 125) dX8_shift_123 rfl ?_
  refine g_iret rfl dX8_shift_125 ?_
  exact eIl ⟨rfl, rfl, rfl⟩

def cntV (I : MI) (w : Nat) : Int32 := if w = 0 then I (1, 0) 1 else if w = 1 then I (0, 0) 3 else if w = 2 then I (0, 0) 5 else if w = 3 then I (3, 0) 1 else if w = 4 then I (18, 0) 4 else if w = 5 then I (23, 0) 1 else if w = 6 then I (23, 0) 3 else -1
theorem c_countS (l : Launch) {S : Shp} {I : MI} {L : ML} {R : MR} (xg : XG S R) (sg : SG S R) (tg : TG S R) (hg : HG S R) (ag : AG S R) {w : Nat} (hw : w < 7) : Ct l mX8_count 1 0 0 [.inr (.inr (some (0, 0))), .inl (nI w)] S I L R (PIp S I L R (cntV I w)) := by
  refine Ct.of [some (.inr (.inr (some (0, 0)))), some (.inl (nI w))] (by decide) rfl (Nat.le_of_ble_eq_true rfl) ?_
  refine g_ild1 (pc' := 1) dX8_count_0 rfl ?_
  rcases (show w = 0 ∨ w = 1 ∨ w = 2 ∨ w = 3 ∨ w = 4 ∨ w = 5 ∨ w = 6 by omega) with rfl | rfl | rfl | rfl | rfl | rfl | rfl
  · refine g_tin (off := 43) (tgt := 44) dX8_count_1 (by decide) (by decide) (by decide) (by decide) ?_
    refine g_ald0 (pc' := 45) dX8_count_44 rfl ?_
    refine g_getR (pc' := 48) xg.s0 (by decide) fX8_10 xg.r0_0 dX8_count_45 rfl ?_
    refine g_getI (pc' := 51) sg.s1 (by decide) fX8_88 rfl dX8_count_48 rfl ?_
    refine g_iret rfl dX8_count_51 ?_
    exact eIp rfl
  · refine g_tin (off := 51) (tgt := 52) dX8_count_1 (by decide) (by decide) (by decide) (by decide) ?_
    refine g_ald0 (pc' := 53) dX8_count_52 rfl ?_
    refine g_getI (pc' := 56) xg.s0 (by decide) fX8_110 rfl dX8_count_53 rfl ?_
    refine g_iret rfl dX8_count_56 ?_
    exact eIp rfl
  · refine g_tin (off := 56) (tgt := 57) dX8_count_1 (by decide) (by decide) (by decide) (by decide) ?_
    refine g_ald0 (pc' := 58) dX8_count_57 rfl ?_
    refine g_getI (pc' := 61) xg.s0 (by decide) fX8_128 rfl dX8_count_58 rfl ?_
    refine g_iret rfl dX8_count_61 ?_
    exact eIp rfl
  · refine g_tin (off := 61) (tgt := 62) dX8_count_1 (by decide) (by decide) (by decide) (by decide) ?_
    refine g_ald0 (pc' := 63) dX8_count_62 rfl ?_
    refine g_getR (pc' := 66) xg.s0 (by decide) fX8_19 xg.r0_1 dX8_count_63 rfl ?_
    refine g_getI (pc' := 69) tg.s3 (by decide) fX8_103 rfl dX8_count_66 rfl ?_
    refine g_iret rfl dX8_count_69 ?_
    exact eIp rfl
  · refine g_tin (off := 69) (tgt := 70) dX8_count_1 (by decide) (by decide) (by decide) (by decide) ?_
    refine g_ald0 (pc' := 71) dX8_count_70 rfl ?_
    refine g_getR (pc' := 74) xg.s0 (by decide) fX8_38 xg.r0_6 dX8_count_71 rfl ?_
    refine g_getI (pc' := 77) hg.s18 (by decide) fX8_314 rfl dX8_count_74 rfl ?_
    refine g_iret rfl dX8_count_77 ?_
    exact eIp rfl
  · refine g_tin (off := 77) (tgt := 78) dX8_count_1 (by decide) (by decide) (by decide) (by decide) ?_
    refine g_ald0 (pc' := 79) dX8_count_78 rfl ?_
    refine g_getR (pc' := 82) xg.s0 (by decide) fX8_45 xg.r0_7 dX8_count_79 rfl ?_
    refine g_getI (pc' := 85) ag.s23 (by decide) fX8_332 rfl dX8_count_82 rfl ?_
    refine g_iret rfl dX8_count_85 ?_
    exact eIp rfl
  · refine g_tin (off := 85) (tgt := 86) dX8_count_1 (by decide) (by decide) (by decide) (by decide) ?_
    refine g_ald0 (pc' := 87) dX8_count_86 rfl ?_
    refine g_getR (pc' := 90) xg.s0 (by decide) fX8_45 xg.r0_7 dX8_count_87 rfl ?_
    refine g_getI (pc' := 93) ag.s23 (by decide) fX8_340 rfl dX8_count_90 rfl ?_
    refine g_iret rfl dX8_count_93 ?_
    exact eIp rfl

theorem c_countN (l : Launch) {S : Shp} {I : MI} {L : ML} {R : MR} {x : Int32} (hx : x.toInt < 0 ∨ 6 < x.toInt) : Ct l mX8_count 1 0 0 [.inr (.inr (some (0, 0))), .inl x] S I L R (PIp S I L R (-1)) := by
  refine Ct.of [some (.inr (.inr (some (0, 0)))), some (.inl x)] (by decide) rfl (Nat.le_of_ble_eq_true rfl) ?_
  refine g_ild1 (pc' := 1) dX8_count_0 rfl ?_
  refine g_tout (tgt := 94) dX8_count_1 hx (by decide) ?_
  refine g_iconst (pc' := 95) (v := (-1)) dX8_count_94 rfl (by decide) ?_
  refine g_iret rfl dX8_count_95 ?_
  exact eIp rfl

def osV (I : MI) (k n a s : Nat) : Int32 := if a = 1 then I (12, k) s else if a = 2 then nI (plc (I (12, k)) n s) else if a = 3 then psI (I (11, k) 3) (I (11, k) 7) (I (11, k) 4) n (nI (plc (I (12, k)) n s)) else if a = 4 then shareI (I (12, k)) n s else -1
theorem c_ofSong (l : Launch) {S : Shp} {I : MI} {L : ML} {R : MR} (sg : SG S R) {n : Nat} (hn : I (1, 0) 1 = nI n) (hN : n ≤ 12) {k : Nat} (wg : WG k S R) {a s : Nat} (ha31 : a < 2 ^ 31) (hs : s < n) : Ct l mX8_ofSong 3 0 0 [.inr (.inr (some (11, k))), .inl (nI a), .inl (nI s)] S I L R (PIm S L R (fun v J => v = osV I k n a s ∧ Fr (fun t _ => t = (13, k) ∨ t = (14, k)) I J)) := by
  refine Ct.of [some (.inr (.inr (some (11, k)))), some (.inl (nI a)), some (.inl (nI s))] (by decide) rfl (Nat.le_of_ble_eq_true rfl) ?_
  refine g_ald0 (pc' := 1) dX8_ofSong_0 rfl ?_
  refine g_callV (pc' := 4) (c_arrange l sg wg hn hN) wg.s11 (by decide) wX7_arrange lX8_164 rfl rfl (Nat.le_of_ble_eq_true rfl) ⟨Nat.le_of_ble_eq_true rfl, Nat.le_of_ble_eq_true rfl⟩ ⟨Nat.le_of_ble_eq_true rfl, Nat.le_of_ble_eq_true rfl⟩ dX8_ofSong_1 rfl (kV (fun J hq => ?_))
  obtain ⟨hfr, -, hpl⟩ := hq
  have hnJ : J (1, 0) 1 = nI n := (hfr _ _ (by simp)).trans hn
  have h12 : J (12, k) = I (12, k) := funext fun i => hfr _ _ (by simp)
  refine g_ild1 (pc' := 5) dX8_ofSong_4 rfl ?_
  rcases (show a = 1 ∨ a = 2 ∨ a = 3 ∨ a = 4 ∨ (a < 1 ∨ 4 < a) by omega) with rfl | rfl | rfl | rfl | ha
  · refine g_tin (off := 31) (tgt := 36) dX8_ofSong_5 (by decide) (by decide) (by decide) (by decide) ?_
    refine g_ald0 (pc' := 37) dX8_ofSong_36 rfl ?_
    refine g_getR (pc' := 40) wg.s11 (by decide) fX8_167 wg.r11_10 dX8_ofSong_37 rfl ?_
    refine g_ild2 (pc' := 41) dX8_ofSong_40 rfl ?_
    refine g_iald (pc' := 42) (j := s) wg.s12 rfl (by omega) (by decide) rfl dX8_ofSong_41 rfl ?_
    refine g_iret rfl dX8_ofSong_42 ?_
    exact eI ⟨by rw [h12]; rfl, hfr⟩
  · refine g_tin (off := 38) (tgt := 43) dX8_ofSong_5 (by decide) (by decide) (by decide) (by decide) ?_
    refine g_ald0 (pc' := 44) dX8_ofSong_43 rfl ?_
    refine g_getR (pc' := 47) wg.s11 (by decide) fX8_170 wg.r11_12 dX8_ofSong_44 rfl ?_
    refine g_ild2 (pc' := 48) dX8_ofSong_47 rfl ?_
    refine g_iald (pc' := 49) (j := s) wg.s14 rfl (by omega) (by decide) rfl dX8_ofSong_48 rfl ?_
    refine g_iret rfl dX8_ofSong_49 ?_
    exact eI ⟨by rw [hpl s hs]; rfl, hfr⟩
  · refine g_tin (off := 45) (tgt := 50) dX8_ofSong_5 (by decide) (by decide) (by decide) (by decide) ?_
    refine g_ald0 (pc' := 51) dX8_ofSong_50 rfl ?_
    refine g_ild2 (pc' := 52) dX8_ofSong_51 rfl ?_
    refine g_callV (pc' := 55) (c_placeSeen l sg wg hnJ hN hs) wg.s11 (by decide) wX7_placeSeen lX8_173 rfl rfl (Nat.le_of_ble_eq_true rfl) ⟨Nat.le_of_ble_eq_true rfl, Nat.le_of_ble_eq_true rfl⟩ ⟨Nat.le_of_ble_eq_true rfl, Nat.le_of_ble_eq_true rfl⟩ dX8_ofSong_52 rfl (kIp ?_)
    refine g_iret rfl dX8_ofSong_55 ?_
    exact eI ⟨by rw [hfr (11, k) 3 (by simp), hfr (11, k) 7 (by simp), hfr (11, k) 4 (by simp), hpl s hs]; rfl, hfr⟩
  · refine g_tin (off := 51) (tgt := 56) dX8_ofSong_5 (by decide) (by decide) (by decide) (by decide) ?_
    refine g_ald0 (pc' := 57) dX8_ofSong_56 rfl ?_
    refine g_ild2 (pc' := 58) dX8_ofSong_57 rfl ?_
    refine g_callV (pc' := 61) (c_share l sg wg hnJ hN hs) wg.s11 (by decide) wX7_share lX8_177 rfl rfl (Nat.le_of_ble_eq_true rfl) ⟨Nat.le_of_ble_eq_true rfl, Nat.le_of_ble_eq_true rfl⟩ ⟨Nat.le_of_ble_eq_true rfl, Nat.le_of_ble_eq_true rfl⟩ dX8_ofSong_58 rfl (kIp ?_)
    refine g_iret rfl dX8_ofSong_61 ?_
    exact eI ⟨by rw [h12]; rfl, hfr⟩
  · refine g_tout (tgt := 62) dX8_ofSong_5 (by rw [nI_toInt (by omega)]; omega) (by decide) ?_
    refine g_iconst (pc' := 63) (v := (-1)) dX8_ofSong_62 rfl (by decide) ?_
    refine g_iret rfl dX8_ofSong_63 ?_
    exact eI ⟨by unfold osV; rw [if_neg (by omega), if_neg (by omega), if_neg (by omega), if_neg (by omega)], hfr⟩
