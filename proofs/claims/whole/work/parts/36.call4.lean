/-! EightWorlds: luck, right, guesses -/
def lkG (I : MI) (x : Int32) (n s a b : Nat) : Int32 := if I (11, a) 2 = x ∧ I (11, b) 2 = x then absI (shareI (I (12, a)) n s - shareI (I (12, b)) n s) else nI 0
def lkP (I : MI) (x : Int32) (a b : Nat) : Nat := if I (11, a) 2 = x ∧ I (11, b) 2 = x then 1 else 0
theorem lkP_le (I : MI) (x : Int32) (a b : Nat) : lkP I x a b ≤ 1 := by unfold lkP; split <;> omega
def lkV (I : MI) (x : Int32) (n m s : Nat) : Int32 := if prN (lkP I x) m m = 0 then -2 else prI (lkG I x n s) m m / nI (prN (lkP I x) m m)
theorem prN_small {g : Nat → Nat → Nat} {n a : Nat} (h : ∀ a b, g a b ≤ 1) (hn : n ≤ 12) (ha : a ≤ 12) : prN g n a < 1000 := by
  have := prN_le h hn a
  have : 1 * 12 * a ≤ 144 := by omega
  omega
theorem c_luckOf (l : Launch) {S : Shp} {I : MI} {L : ML} {R : MR} (xg : XG S R) (sg : SG S R) {n : Nat} (hn : I (1, 0) 1 = nI n) (hN : n ≤ 12) {m : Nat} (hm : I (0, 0) 5 = nI m) (hM : m ≤ 9) (hR : ∀ k, k < m → R (10, 0) k = some (11, k)) (hW : ∀ k, k < m → WG k S R) (x : Int32) {s : Nat} (hs : s < n) : Ct l mX8_luckOf 3 0 0 [.inr (.inr (some (0, 0))), .inl x, .inl (nI s)] S I L R (PIp S I L R (lkV I x n m s)) := by
  refine Ct.of [some (.inr (.inr (some (0, 0)))), some (.inl x), some (.inl (nI s)), none, none, none, none, none, none] (by decide) rfl (Nat.le_of_ble_eq_true rfl) ?_
  refine g_iconst (pc' := 1) (v := nI 0) dX8_luckOf_0 rfl (by decide) ?_
  refine g_ist3 (pc' := 2) rfl (by decide) dX8_luckOf_1 rfl ?_
  refine g_iconst (pc' := 3) (v := nI 0) dX8_luckOf_2 rfl (by decide) ?_
  refine g_ist4 (pc' := 5) rfl (by decide) dX8_luckOf_3 rfl ?_
  refine g_iconst (pc' := 6) (v := nI 0) dX8_luckOf_5 rfl (by decide) ?_
  refine g_ist5 (pc' := 8) rfl (by decide) dX8_luckOf_6 rfl ?_
  refine g_loop (σ := Unit) (fun _ _ => True) (fun a s_ => [some (.inr (.inr (some (0, 0)))), some (.inl x), some (.inl (nI s)), some (.inl (prI (lkG I x n s) m a)), some (.inl (nI (prN (lkP I x) m a))), some (.inl (nI a)), none, none, none]) (fun a s_ => I) m 0 () (by omega) trivial ?_ ?_
  · intro a s_ ha hP ihA
    refine g_ild5 (pc' := 10) dX8_luckOf_8 rfl ?_
    refine g_ald0 (pc' := 11) dX8_luckOf_10 rfl ?_
    refine g_getI (pc' := 14) xg.s0 (by decide) fX8_128 hm dX8_luckOf_11 rfl ?_
    refine g_icmpgeN (pc' := 17) (by omega) (by omega) (tgt := 110) dX8_luckOf_14 (by decide) rfl (fun h14 => ?_) (fun h14 => ?_)
    · exact absurd h14 (by omega)
    · refine g_ald0 (pc' := 18) dX8_luckOf_17 rfl ?_
      refine g_ild5 (pc' := 20) dX8_luckOf_18 rfl ?_
      refine g_callV (pc' := 23) (c_worldOfS l xg hm (j := a) (by omega) hM (hR _ (by omega))) xg.s0 (by decide) wX8_worldOf lX8_147 rfl rfl (Nat.le_of_ble_eq_true rfl) ⟨Nat.le_of_ble_eq_true rfl, Nat.le_of_ble_eq_true rfl⟩ ⟨Nat.le_of_ble_eq_true rfl, Nat.le_of_ble_eq_true rfl⟩ dX8_luckOf_20 rfl (kRp ?_)
      refine g_ast6 (pc' := 25) rfl (by decide) dX8_luckOf_23 rfl ?_
      refine g_ild5 (pc' := 27) dX8_luckOf_25 rfl ?_
      refine g_iconst (pc' := 28) (v := nI 1) dX8_luckOf_27 rfl (by decide) ?_
      refine g_iaddN (pc' := 29) dX8_luckOf_28 rfl ?_
      refine g_ist7 (pc' := 31) rfl (by decide) dX8_luckOf_29 rfl ?_
      have e0 : prI (lkG I x n s) m a = prI (lkG I x n s) m a + sumN (fun i => lkG I x n s a (a + 1 + i)) 0 := (Int32.add_zero _).symm
      rw [e0]
      refine g_loop (σ := Unit) (fun _ _ => True) (fun i s_ => [some (.inr (.inr (some (0, 0)))), some (.inl x), some (.inl (nI s)), some (.inl (prI (lkG I x n s) m a + sumN (fun i => lkG I x n s a (a + 1 + i)) i)), some (.inl (nI (prN (lkP I x) m a + sN (fun i => lkP I x a (a + 1 + i)) i))), some (.inl (nI a)), some (.inr (.inr (some (11, a)))), some (.inl (nI (a + 1 + i))), none]) (fun i s_ => I) (m - a - 1) 0 () (by omega) trivial ?_ ?_
      · intro i s_ hi hP ih
        refine g_ild7 (pc' := 33) dX8_luckOf_31 rfl ?_
        refine g_ald0 (pc' := 34) dX8_luckOf_33 rfl ?_
        refine g_getI (pc' := 37) xg.s0 (by decide) fX8_128 hm dX8_luckOf_34 rfl ?_
        refine g_icmpgeN (pc' := 40) (by omega) (by omega) (tgt := 104) dX8_luckOf_37 (by decide) rfl (fun h37 => ?_) (fun h37 => ?_)
        · exact absurd h37 (by omega)
        · refine g_ald0 (pc' := 41) dX8_luckOf_40 rfl ?_
          refine g_ild7 (pc' := 43) dX8_luckOf_41 rfl ?_
          refine g_callV (pc' := 46) (c_worldOfS l xg hm (j := a + 1 + i) (by omega) hM (hR _ (by omega))) xg.s0 (by decide) wX8_worldOf lX8_147 rfl rfl (Nat.le_of_ble_eq_true rfl) ⟨Nat.le_of_ble_eq_true rfl, Nat.le_of_ble_eq_true rfl⟩ ⟨Nat.le_of_ble_eq_true rfl, Nat.le_of_ble_eq_true rfl⟩ dX8_luckOf_43 rfl (kRp ?_)
          refine g_ast8 (pc' := 48) rfl (by decide) dX8_luckOf_46 rfl ?_
          refine g_ald6 (pc' := 50) dX8_luckOf_48 rfl ?_
          refine g_ifnullF (pc' := 53) dX8_luckOf_50 rfl ?_
          refine g_ald8 (pc' := 55) dX8_luckOf_53 rfl ?_
          refine g_ifnullF (pc' := 58) dX8_luckOf_55 rfl ?_
          refine g_ald6 (pc' := 60) dX8_luckOf_58 rfl ?_
          refine g_getI (pc' := 63) (hW (a) (by omega)).s11 (by decide) fX8_135 rfl dX8_luckOf_60 rfl ?_
          refine g_ild1 (pc' := 64) dX8_luckOf_63 rfl ?_
          refine g_icmpne (pc' := 67) (tgt := 98) dX8_luckOf_64 (by decide) rfl (fun h64 => ?_) (fun h64 => ?_)
          · refine g_inc7 (pc' := 101) rfl (by decide) (v := nI (a + 1 + i + 1)) (nI_1 _) dX8_luckOf_98 rfl ?_
            refine g_goto (tgt := 31) dX8_luckOf_101 (by decide) ?_
            have eF : ¬ (I (11, a) 2 = x ∧ I (11, a + 1 + i) 2 = x) := fun q => by first | exact h64 q.1 | exact h73 q.2
            have eG : lkG I x n s a (a + 1 + i) = nI 0 := by unfold lkG; rw [if_neg eF]
            have eP : lkP I x a (a + 1 + i) = 0 := by unfold lkP; rw [if_neg eF]
            have e1 : prI (lkG I x n s) m a + sumN (fun i => lkG I x n s a (a + 1 + i)) (i + 1) = prI (lkG I x n s) m a + sumN (fun i => lkG I x n s a (a + 1 + i)) i := by
              show _ + (_ + lkG I x n s a (a + 1 + i)) = _
              rw [eG]
              exact congrArg _ (Int32.add_zero _)
            have e2 : prN (lkP I x) m a + sN (fun i => lkP I x a (a + 1 + i)) (i + 1) = prN (lkP I x) m a + sN (fun i => lkP I x a (a + 1 + i)) i := by
              show _ + (_ + lkP I x a (a + 1 + i)) = _
              rw [eP, Nat.add_zero]
            rw [← e1, ← e2]
            refine G.lsub [some (.inr (.inr (some (0, 0)))), some (.inl x), some (.inl (nI s)), some (.inl (prI (lkG I x n s) m a + sumN (fun i => lkG I x n s a (a + 1 + i)) (i + 1))), some (.inl (nI (prN (lkP I x) m a + sN (fun i => lkP I x a (a + 1 + i)) (i + 1)))), some (.inl (nI a)), some (.inr (.inr (some (11, a)))), some (.inl (nI (a + 1 + i + 1))), none] (by intro j v; rcases j with _ | _ | _ | _ | _ | _ | _ | _ | _ | j <;> simp) ?_
            exact ih () trivial
          · refine g_ald8 (pc' := 69) dX8_luckOf_67 rfl ?_
            refine g_getI (pc' := 72) (hW (a + 1 + i) (by omega)).s11 (by decide) fX8_135 rfl dX8_luckOf_69 rfl ?_
            refine g_ild1 (pc' := 73) dX8_luckOf_72 rfl ?_
            refine g_icmpne (pc' := 76) (tgt := 98) dX8_luckOf_73 (by decide) rfl (fun h73 => ?_) (fun h73 => ?_)
            · refine g_inc7 (pc' := 101) rfl (by decide) (v := nI (a + 1 + i + 1)) (nI_1 _) dX8_luckOf_98 rfl ?_
              refine g_goto (tgt := 31) dX8_luckOf_101 (by decide) ?_
              have eF : ¬ (I (11, a) 2 = x ∧ I (11, a + 1 + i) 2 = x) := fun q => by first | exact h64 q.1 | exact h73 q.2
              have eG : lkG I x n s a (a + 1 + i) = nI 0 := by unfold lkG; rw [if_neg eF]
              have eP : lkP I x a (a + 1 + i) = 0 := by unfold lkP; rw [if_neg eF]
              have e1 : prI (lkG I x n s) m a + sumN (fun i => lkG I x n s a (a + 1 + i)) (i + 1) = prI (lkG I x n s) m a + sumN (fun i => lkG I x n s a (a + 1 + i)) i := by
                show _ + (_ + lkG I x n s a (a + 1 + i)) = _
                rw [eG]
                exact congrArg _ (Int32.add_zero _)
              have e2 : prN (lkP I x) m a + sN (fun i => lkP I x a (a + 1 + i)) (i + 1) = prN (lkP I x) m a + sN (fun i => lkP I x a (a + 1 + i)) i := by
                show _ + (_ + lkP I x a (a + 1 + i)) = _
                rw [eP, Nat.add_zero]
              rw [← e1, ← e2]
              refine G.lsub [some (.inr (.inr (some (0, 0)))), some (.inl x), some (.inl (nI s)), some (.inl (prI (lkG I x n s) m a + sumN (fun i => lkG I x n s a (a + 1 + i)) (i + 1))), some (.inl (nI (prN (lkP I x) m a + sN (fun i => lkP I x a (a + 1 + i)) (i + 1)))), some (.inl (nI a)), some (.inr (.inr (some (11, a)))), some (.inl (nI (a + 1 + i + 1))), none] (by intro j v; rcases j with _ | _ | _ | _ | _ | _ | _ | _ | _ | j <;> simp) ?_
              exact ih () trivial
            · refine g_ild3 (pc' := 77) dX8_luckOf_76 rfl ?_
              refine g_ald6 (pc' := 79) dX8_luckOf_77 rfl ?_
              refine g_ild2 (pc' := 80) dX8_luckOf_79 rfl ?_
              refine g_callV (pc' := 83) (c_share l sg (hW _ (by omega)) hn hN hs) (hW (a) (by omega)).s11 (by decide) wX7_share lX8_177 rfl rfl (Nat.le_of_ble_eq_true rfl) ⟨Nat.le_of_ble_eq_true rfl, Nat.le_of_ble_eq_true rfl⟩ ⟨Nat.le_of_ble_eq_true rfl, Nat.le_of_ble_eq_true rfl⟩ dX8_luckOf_80 rfl (kIp ?_)
              refine g_ald8 (pc' := 85) dX8_luckOf_83 rfl ?_
              refine g_ild2 (pc' := 86) dX8_luckOf_85 rfl ?_
              refine g_callV (pc' := 89) (c_share l sg (hW _ (by omega)) hn hN hs) (hW (a + 1 + i) (by omega)).s11 (by decide) wX7_share lX8_177 rfl rfl (Nat.le_of_ble_eq_true rfl) ⟨Nat.le_of_ble_eq_true rfl, Nat.le_of_ble_eq_true rfl⟩ ⟨Nat.le_of_ble_eq_true rfl, Nat.le_of_ble_eq_true rfl⟩ dX8_luckOf_86 rfl (kIp ?_)
              refine g_isub (pc' := 90) dX8_luckOf_89 rfl ?_
              refine g_callS (pc' := 93) (c_J9_abs l S _ L R _) wJ9_abs_0f7a4 lX8_211 rfl rfl (Nat.le_of_ble_eq_true rfl) ⟨Nat.le_of_ble_eq_true rfl, Nat.le_of_ble_eq_true rfl⟩ ⟨Nat.le_of_ble_eq_true rfl, Nat.le_of_ble_eq_true rfl⟩ dX8_luckOf_90 rfl (kIp ?_)
              refine g_iadd (pc' := 94) dX8_luckOf_93 rfl ?_
              refine g_ist3 (pc' := 95) rfl (by decide) dX8_luckOf_94 rfl ?_
              refine g_inc4 (pc' := 98) rfl (by decide) (v := nI (prN (lkP I x) m a + sN (fun i => lkP I x a (a + 1 + i)) i + 1)) (nI_1 _) dX8_luckOf_95 rfl ?_
              refine g_inc7 (pc' := 101) rfl (by decide) (v := nI (a + 1 + i + 1)) (nI_1 _) dX8_luckOf_98 rfl ?_
              refine g_goto (tgt := 31) dX8_luckOf_101 (by decide) ?_
              have eG : lkG I x n s a (a + 1 + i) = absI (shareI (I (12, a)) n s - shareI (I (12, a + 1 + i)) n s) := by unfold lkG; rw [if_pos ⟨h64, h73⟩]
              have eP : lkP I x a (a + 1 + i) = 1 := by unfold lkP; rw [if_pos ⟨h64, h73⟩]
              have e1 : prI (lkG I x n s) m a + sumN (fun i => lkG I x n s a (a + 1 + i)) (i + 1) = (prI (lkG I x n s) m a + sumN (fun i => lkG I x n s a (a + 1 + i)) i) + (absI (shareI (I (12, a)) n s - shareI (I (12, a + 1 + i)) n s)) := by rw [← eG]; exact (Int32.add_assoc _ _ _).symm
              have e2 : prN (lkP I x) m a + sN (fun i => lkP I x a (a + 1 + i)) (i + 1) = prN (lkP I x) m a + sN (fun i => lkP I x a (a + 1 + i)) i + 1 := by
                show _ + (_ + lkP I x a (a + 1 + i)) = _
                rw [eP]
                rfl
              rw [← e1, ← e2]
              refine G.lsub [some (.inr (.inr (some (0, 0)))), some (.inl x), some (.inl (nI s)), some (.inl (prI (lkG I x n s) m a + sumN (fun i => lkG I x n s a (a + 1 + i)) (i + 1))), some (.inl (nI (prN (lkP I x) m a + sN (fun i => lkP I x a (a + 1 + i)) (i + 1)))), some (.inl (nI a)), some (.inr (.inr (some (11, a)))), some (.inl (nI (a + 1 + i + 1))), none] (by intro j v; rcases j with _ | _ | _ | _ | _ | _ | _ | _ | _ | j <;> simp) ?_
              exact ih () trivial
      · intro s_ hP
        refine g_ild7 (pc' := 33) dX8_luckOf_31 rfl ?_
        refine g_ald0 (pc' := 34) dX8_luckOf_33 rfl ?_
        refine g_getI (pc' := 37) xg.s0 (by decide) fX8_128 hm dX8_luckOf_34 rfl ?_
        refine g_icmpgeN (pc' := 40) (by omega) (by omega) (tgt := 104) dX8_luckOf_37 (by decide) rfl (fun h37 => ?_) (fun h37 => ?_)
        · refine g_inc5 (pc' := 107) rfl (by decide) (v := nI (a + 1)) (nI_1 _) dX8_luckOf_104 rfl ?_
          refine g_goto (tgt := 8) dX8_luckOf_107 (by decide) ?_
          refine G.lsub [some (.inr (.inr (some (0, 0)))), some (.inl x), some (.inl (nI s)), some (.inl (prI (lkG I x n s) m a + sumN (fun i => lkG I x n s a (a + 1 + i)) (m - a - 1))), some (.inl (nI (prN (lkP I x) m a + sN (fun i => lkP I x a (a + 1 + i)) (m - a - 1)))), some (.inl (nI (a + 1))), none, none, none] (by intro j v; rcases j with _ | _ | _ | _ | _ | _ | _ | _ | _ | j <;> simp) ?_
          exact ihA () trivial
        · exact absurd h37 (by omega)
  · intro s_ hP
    have hsm := prN_small (lkP_le I x) (n := m) (a := m) (by omega) (by omega)
    refine g_ild5 (pc' := 10) dX8_luckOf_8 rfl ?_
    refine g_ald0 (pc' := 11) dX8_luckOf_10 rfl ?_
    refine g_getI (pc' := 14) xg.s0 (by decide) fX8_128 hm dX8_luckOf_11 rfl ?_
    refine g_icmpgeN (pc' := 17) (by omega) (by omega) (tgt := 110) dX8_luckOf_14 (by decide) rfl (fun h14 => ?_) (fun h14 => ?_)
    · refine g_ild4 (pc' := 112) dX8_luckOf_110 rfl ?_
      refine g_ifneN (pc' := 115) (by omega) (tgt := 120) dX8_luckOf_112 (by decide) rfl (fun h112 => ?_) (fun h112 => ?_)
      · refine g_ild3 (pc' := 121) dX8_luckOf_120 rfl ?_
        refine g_ild4 (pc' := 123) dX8_luckOf_121 rfl ?_
        refine g_idiv (pc' := 124) dX8_luckOf_123 rfl (by rw [nI_z (by omega)]; omega) ?_
        refine g_iret rfl dX8_luckOf_124 ?_
        exact eIp (by unfold lkV; first | rw [if_pos (by omega)] | rw [if_neg (by omega)])
      · refine g_bipush (pc' := 117) (v := (-2)) dX8_luckOf_115 rfl (by decide) ?_
        refine g_goto (tgt := 124) dX8_luckOf_117 (by decide) ?_
        refine g_iret rfl dX8_luckOf_124 ?_
        exact eIp (by unfold lkV; first | rw [if_pos (by omega)] | rw [if_neg (by omega)])
    · exact absurd h14 (by omega)
