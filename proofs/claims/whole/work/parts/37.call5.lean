/-! EightWorlds: luck, right, guesses, on -/
def stopS (f : Nat → Int32) : Nat → Option Int32
  | 0 => some (nI 0)
  | s + 1 => match stopS f s with
    | none => none
    | some t => if f s = -2 then none else some (t + f s)
theorem stopS_none {f : Nat → Int32} {s : Nat} (h : stopS f s = none) : ∀ d, stopS f (s + d) = none
  | 0 => h
  | d + 1 => by
    show (match stopS f (s + d) with | none => none | some t => if f (s + d) = -2 then none else some (t + f (s + d))) = none
    rw [stopS_none h d]
theorem neg1_lt {n : Nat} (h : n < 2 ^ 31) : (-1 : Int32) < nI n := Int32.lt_of_lt_of_le (show (-1 : Int32) < 0 by decide) (nI_pos' h)
def lkAll (I : MI) (x : Int32) (n m : Nat) : Int32 := match stopS (lkV I x n m) n with
  | none => -2
  | some t => t / nI n
def wyF (I : MI) (x y : Int32) (a b i : Nat) : Nat := if ((x >>> (nI i &&& 31)) &&& nI 1) = nI 1 ∧ wayI I i a b = y then 1 else 0
theorem wyF_le (I : MI) (x y : Int32) (a b i : Nat) : wyF I x y a b i ≤ 1 := by unfold wyF; split <;> omega
def rtS (I : MI) (j a b : Nat) : Nat := if wayI I j a b ≤ 0 then 0 else 1
def rtP (I : MI) (j a b : Nat) : Nat := if wayI I j a b = 0 then 0 else 1
theorem rtS_le (I : MI) (j a b : Nat) : rtS I j a b ≤ 1 := by unfold rtS; split <;> omega
theorem rtP_le (I : MI) (j a b : Nat) : rtP I j a b ≤ 1 := by unfold rtP; split <;> omega
def rtV (I : MI) (n j : Nat) : Int32 := if prN (rtP I j) n n = 0 then -2 else nI (prN (rtS I j) n n * 1000 / prN (rtP I j) n n)

theorem c_luckN (l : Launch) {S : Shp} {I : MI} {L : ML} {R : MR} (xg : XG S R) {c : Nat} {x : Int32} (hc : I (0, 0) 3 = nI c) (hx : inb x c = false) (y : Int32) : Ct l mX8_luck 2 0 0 [.inr (.inr (some (0, 0))), .inl x, .inl y] S I L R (PIp S I L R (-1)) := by
  refine Ct.of [some (.inr (.inr (some (0, 0)))), some (.inl x), some (.inl y), none, none, none] (by decide) rfl (Nat.le_of_ble_eq_true rfl) ?_
  refine g_ald0 (pc' := 1) dX8_luck_0 rfl ?_
  refine g_ild1 (pc' := 2) dX8_luck_1 rfl ?_
  refine g_callV (pc' := 5) (c_lawOfN l xg hc hx) xg.s0 (by decide) wX8_lawOf lX8_124 rfl rfl (Nat.le_of_ble_eq_true rfl) ⟨Nat.le_of_ble_eq_true rfl, Nat.le_of_ble_eq_true rfl⟩ ⟨Nat.le_of_ble_eq_true rfl, Nat.le_of_ble_eq_true rfl⟩ dX8_luck_2 rfl (kRp ?_)
  refine g_ifnullT (tgt := 24) dX8_luck_5 (by decide) ?_
  refine g_iconst (pc' := 25) (v := (-1)) dX8_luck_24 rfl (by decide) ?_
  refine g_iret rfl dX8_luck_25 ?_
  exact eIp rfl

theorem c_luckB (l : Launch) {S : Shp} {I : MI} {L : ML} {R : MR} (xg : XG S R) (sg : SG S R) {n : Nat} (hn : I (1, 0) 1 = nI n) (hN : n ≤ 12) {c j : Nat} (hc : I (0, 0) 3 = nI c) (hj : j < c) (hC : c ≤ 6) (hRl : R (6, 0) j = some (7, j)) {y : Int32} (hy : y < -1 ∨ ¬ y < nI n) : Ct l mX8_luck 2 0 0 [.inr (.inr (some (0, 0))), .inl (nI j), .inl y] S I L R (PIp S I L R (-1)) := by
  refine Ct.of [some (.inr (.inr (some (0, 0)))), some (.inl (nI j)), some (.inl y), none, none, none] (by decide) rfl (Nat.le_of_ble_eq_true rfl) ?_
  refine g_ald0 (pc' := 1) dX8_luck_0 rfl ?_
  refine g_ild1 (pc' := 2) dX8_luck_1 rfl ?_
  refine g_callV (pc' := 5) (c_lawOfS l xg hc hj hC hRl) xg.s0 (by decide) wX8_lawOf lX8_124 rfl rfl (Nat.le_of_ble_eq_true rfl) ⟨Nat.le_of_ble_eq_true rfl, Nat.le_of_ble_eq_true rfl⟩ ⟨Nat.le_of_ble_eq_true rfl, Nat.le_of_ble_eq_true rfl⟩ dX8_luck_2 rfl (kRp ?_)
  refine g_ifnullF (pc' := 8) dX8_luck_5 rfl ?_
  refine g_ild2 (pc' := 9) dX8_luck_8 rfl ?_
  refine g_iconst (pc' := 10) (v := (-1)) dX8_luck_9 rfl (by decide) ?_
  refine g_icmplt (pc' := 13) (tgt := 24) dX8_luck_10 (by decide) rfl (fun h10 => ?_) (fun h10 => ?_)
  · refine g_iconst (pc' := 25) (v := (-1)) dX8_luck_24 rfl (by decide) ?_
    refine g_iret rfl dX8_luck_25 ?_
    exact eIp rfl
  · refine g_ild2 (pc' := 14) dX8_luck_13 rfl ?_
    refine g_ald0 (pc' := 15) dX8_luck_14 rfl ?_
    refine g_getR (pc' := 18) xg.s0 (by decide) fX8_10 xg.r0_0 dX8_luck_15 rfl ?_
    refine g_getI (pc' := 21) sg.s1 (by decide) fX8_88 hn dX8_luck_18 rfl ?_
    refine g_icmplt (pc' := 24) (tgt := 26) dX8_luck_21 (by decide) rfl (fun h21 => ?_) (fun h21 => ?_)
    · exact (hy.elim (fun h => h10 h) (fun h => h h21)).elim
    · refine g_iconst (pc' := 25) (v := (-1)) dX8_luck_24 rfl (by decide) ?_
      refine g_iret rfl dX8_luck_25 ?_
      exact eIp rfl

theorem c_luckZ (l : Launch) {S : Shp} {I : MI} {L : ML} {R : MR} (xg : XG S R) (sg : SG S R) {n : Nat} (hn : I (1, 0) 1 = nI n) (hN : n ≤ 12) {c j : Nat} (hc : I (0, 0) 3 = nI c) (hj : j < c) (hC : c ≤ 6) (hRl : R (6, 0) j = some (7, j)) {y : Int32} (hy : ¬ y < -1) (hy2 : y < nI n) (hz : n = 0) : Ct l mX8_luck 2 0 0 [.inr (.inr (some (0, 0))), .inl (nI j), .inl y] S I L R (PIp S I L R (-2)) := by
  refine Ct.of [some (.inr (.inr (some (0, 0)))), some (.inl (nI j)), some (.inl y), none, none, none] (by decide) rfl (Nat.le_of_ble_eq_true rfl) ?_
  refine g_ald0 (pc' := 1) dX8_luck_0 rfl ?_
  refine g_ild1 (pc' := 2) dX8_luck_1 rfl ?_
  refine g_callV (pc' := 5) (c_lawOfS l xg hc hj hC hRl) xg.s0 (by decide) wX8_lawOf lX8_124 rfl rfl (Nat.le_of_ble_eq_true rfl) ⟨Nat.le_of_ble_eq_true rfl, Nat.le_of_ble_eq_true rfl⟩ ⟨Nat.le_of_ble_eq_true rfl, Nat.le_of_ble_eq_true rfl⟩ dX8_luck_2 rfl (kRp ?_)
  refine g_ifnullF (pc' := 8) dX8_luck_5 rfl ?_
  refine g_ild2 (pc' := 9) dX8_luck_8 rfl ?_
  refine g_iconst (pc' := 10) (v := (-1)) dX8_luck_9 rfl (by decide) ?_
  refine g_icmplt (pc' := 13) (tgt := 24) dX8_luck_10 (by decide) rfl (fun h10 => (by first | exact absurd h10 hy | exact absurd hy h10)) (fun h10 => ?_)
  refine g_ild2 (pc' := 14) dX8_luck_13 rfl ?_
  refine g_ald0 (pc' := 15) dX8_luck_14 rfl ?_
  refine g_getR (pc' := 18) xg.s0 (by decide) fX8_10 xg.r0_0 dX8_luck_15 rfl ?_
  refine g_getI (pc' := 21) sg.s1 (by decide) fX8_88 hn dX8_luck_18 rfl ?_
  refine g_icmplt (pc' := 24) (tgt := 26) dX8_luck_21 (by decide) rfl (fun h21 => ?_) (fun h21 => (by first | exact absurd h21 hy2 | exact absurd hy2 h21))
  refine g_ald0 (pc' := 27) dX8_luck_26 rfl ?_
  refine g_getR (pc' := 30) xg.s0 (by decide) fX8_10 xg.r0_0 dX8_luck_27 rfl ?_
  refine g_getI (pc' := 33) sg.s1 (by decide) fX8_88 hn dX8_luck_30 rfl ?_
  refine g_ifneN (pc' := 36) (by omega) (tgt := 39) dX8_luck_33 (by decide) rfl (fun h33 => ?_) (fun h33 => ?_)
  · exact absurd hz (by omega)
  · refine g_bipush (pc' := 38) (v := (-2)) dX8_luck_36 rfl (by decide) ?_
    refine g_iret rfl dX8_luck_38 ?_
    exact eIp rfl

theorem c_luckS (l : Launch) {S : Shp} {I : MI} {L : ML} {R : MR} (xg : XG S R) (sg : SG S R) {n : Nat} (hn : I (1, 0) 1 = nI n) (hN : n ≤ 12) {m : Nat} (hm : I (0, 0) 5 = nI m) (hM : m ≤ 9) (hR : ∀ k, k < m → R (10, 0) k = some (11, k)) (hW : ∀ k, k < m → WG k S R) {c j : Nat} (hc : I (0, 0) 3 = nI c) (hj : j < c) (hC : c ≤ 6) (hRl : R (6, 0) j = some (7, j)) {s : Nat} (hs : s < n) : Ct l mX8_luck 4 0 0 [.inr (.inr (some (0, 0))), .inl (nI j), .inl (nI s)] S I L R (PIp S I L R (lkV I (nI j) n m s)) := by
  refine Ct.of [some (.inr (.inr (some (0, 0)))), some (.inl (nI j)), some (.inl (nI s)), none, none, none] (by decide) rfl (Nat.le_of_ble_eq_true rfl) ?_
  refine g_ald0 (pc' := 1) dX8_luck_0 rfl ?_
  refine g_ild1 (pc' := 2) dX8_luck_1 rfl ?_
  refine g_callV (pc' := 5) (c_lawOfS l xg hc hj hC hRl) xg.s0 (by decide) wX8_lawOf lX8_124 rfl rfl (Nat.le_of_ble_eq_true rfl) ⟨Nat.le_of_ble_eq_true rfl, Nat.le_of_ble_eq_true rfl⟩ ⟨Nat.le_of_ble_eq_true rfl, Nat.le_of_ble_eq_true rfl⟩ dX8_luck_2 rfl (kRp ?_)
  refine g_ifnullF (pc' := 8) dX8_luck_5 rfl ?_
  refine g_ild2 (pc' := 9) dX8_luck_8 rfl ?_
  refine g_iconst (pc' := 10) (v := (-1)) dX8_luck_9 rfl (by decide) ?_
  refine g_icmplt (pc' := 13) (tgt := 24) dX8_luck_10 (by decide) rfl (fun h10 => (by first | exact absurd h10 (by rw [Int32.not_lt]; exact Int32.le_of_lt (neg1_lt (by omega))) | exact absurd (by rw [Int32.not_lt]; exact Int32.le_of_lt (neg1_lt (by omega))) h10)) (fun h10 => ?_)
  refine g_ild2 (pc' := 14) dX8_luck_13 rfl ?_
  refine g_ald0 (pc' := 15) dX8_luck_14 rfl ?_
  refine g_getR (pc' := 18) xg.s0 (by decide) fX8_10 xg.r0_0 dX8_luck_15 rfl ?_
  refine g_getI (pc' := 21) sg.s1 (by decide) fX8_88 hn dX8_luck_18 rfl ?_
  refine g_icmpltN (pc' := 24) (by omega) (by omega) (tgt := 26) dX8_luck_21 (by decide) rfl (fun h21 => ?_) (fun h21 => ?_)
  · refine g_ald0 (pc' := 27) dX8_luck_26 rfl ?_
    refine g_getR (pc' := 30) xg.s0 (by decide) fX8_10 xg.r0_0 dX8_luck_27 rfl ?_
    refine g_getI (pc' := 33) sg.s1 (by decide) fX8_88 hn dX8_luck_30 rfl ?_
    refine g_ifneN (pc' := 36) (by omega) (tgt := 39) dX8_luck_33 (by decide) rfl (fun h33 => ?_) (fun h33 => ?_)
    · refine g_ild2 (pc' := 40) dX8_luck_39 rfl ?_
      refine g_ifltN (pc' := 43) (by omega) dX8_luck_40 rfl ?_
      refine g_ald0 (pc' := 44) dX8_luck_43 rfl ?_
      refine g_ild1 (pc' := 45) dX8_luck_44 rfl ?_
      refine g_ild2 (pc' := 46) dX8_luck_45 rfl ?_
      refine g_callV (pc' := 49) (c_luckOf l xg sg hn hN hm hM hR hW (nI j) hs) xg.s0 (by decide) wX8_luckOf lX8_220 rfl rfl (Nat.le_of_ble_eq_true rfl) ⟨Nat.le_of_ble_eq_true rfl, Nat.le_of_ble_eq_true rfl⟩ ⟨Nat.le_of_ble_eq_true rfl, Nat.le_of_ble_eq_true rfl⟩ dX8_luck_46 rfl (kIp ?_)
      refine g_iret rfl dX8_luck_49 ?_
      exact eIp rfl
    · exact absurd h33 (by omega)
  · exact absurd h21 (by omega)

theorem c_luckA (l : Launch) {S : Shp} {I : MI} {L : ML} {R : MR} (xg : XG S R) (sg : SG S R) {n : Nat} (hn : I (1, 0) 1 = nI n) (hN : n ≤ 12) {m : Nat} (hm : I (0, 0) 5 = nI m) (hM : m ≤ 9) (hR : ∀ k, k < m → R (10, 0) k = some (11, k)) (hW : ∀ k, k < m → WG k S R) {c j : Nat} (hc : I (0, 0) 3 = nI c) (hj : j < c) (hC : c ≤ 6) (hRl : R (6, 0) j = some (7, j)) (hz : 0 < n) : Ct l mX8_luck 4 0 0 [.inr (.inr (some (0, 0))), .inl (nI j), .inl (-1)] S I L R (PIp S I L R (lkAll I (nI j) n m)) := by
  refine Ct.of [some (.inr (.inr (some (0, 0)))), some (.inl (nI j)), some (.inl (-1)), none, none, none] (by decide) rfl (Nat.le_of_ble_eq_true rfl) ?_
  refine g_ald0 (pc' := 1) dX8_luck_0 rfl ?_
  refine g_ild1 (pc' := 2) dX8_luck_1 rfl ?_
  refine g_callV (pc' := 5) (c_lawOfS l xg hc hj hC hRl) xg.s0 (by decide) wX8_lawOf lX8_124 rfl rfl (Nat.le_of_ble_eq_true rfl) ⟨Nat.le_of_ble_eq_true rfl, Nat.le_of_ble_eq_true rfl⟩ ⟨Nat.le_of_ble_eq_true rfl, Nat.le_of_ble_eq_true rfl⟩ dX8_luck_2 rfl (kRp ?_)
  refine g_ifnullF (pc' := 8) dX8_luck_5 rfl ?_
  refine g_ild2 (pc' := 9) dX8_luck_8 rfl ?_
  refine g_iconst (pc' := 10) (v := (-1)) dX8_luck_9 rfl (by decide) ?_
  refine g_icmplt (pc' := 13) (tgt := 24) dX8_luck_10 (by decide) rfl (fun h10 => (by first | exact absurd h10 (show ¬ (-1 : Int32) < -1 by decide) | exact absurd (show ¬ (-1 : Int32) < -1 by decide) h10)) (fun h10 => ?_)
  refine g_ild2 (pc' := 14) dX8_luck_13 rfl ?_
  refine g_ald0 (pc' := 15) dX8_luck_14 rfl ?_
  refine g_getR (pc' := 18) xg.s0 (by decide) fX8_10 xg.r0_0 dX8_luck_15 rfl ?_
  refine g_getI (pc' := 21) sg.s1 (by decide) fX8_88 hn dX8_luck_18 rfl ?_
  refine g_icmplt (pc' := 24) (tgt := 26) dX8_luck_21 (by decide) rfl (fun h21 => ?_) (fun h21 => (by first | exact absurd h21 (neg1_lt (by omega)) | exact absurd (neg1_lt (by omega)) h21))
  refine g_ald0 (pc' := 27) dX8_luck_26 rfl ?_
  refine g_getR (pc' := 30) xg.s0 (by decide) fX8_10 xg.r0_0 dX8_luck_27 rfl ?_
  refine g_getI (pc' := 33) sg.s1 (by decide) fX8_88 hn dX8_luck_30 rfl ?_
  refine g_ifneN (pc' := 36) (by omega) (tgt := 39) dX8_luck_33 (by decide) rfl (fun h33 => ?_) (fun h33 => ?_)
  · refine g_ild2 (pc' := 40) dX8_luck_39 rfl ?_
    refine g_iflt (pc' := 43) (tgt := 50) dX8_luck_40 (by decide) rfl (fun h40 => ?_) (fun h40 => (by first | exact absurd h40 (show (-1 : Int32) < 0 by decide) | exact absurd (show (-1 : Int32) < 0 by decide) h40))
    refine g_iconst (pc' := 51) (v := nI 0) dX8_luck_50 rfl (by decide) ?_
    refine g_ist3 (pc' := 52) rfl (by decide) dX8_luck_51 rfl ?_
    refine g_iconst (pc' := 53) (v := nI 0) dX8_luck_52 rfl (by decide) ?_
    refine g_ist4 (pc' := 55) rfl (by decide) dX8_luck_53 rfl ?_
    refine g_loop (σ := Int32) (fun i s => stopS (lkV I (nI j) n m) i = some s) (fun i s => [some (.inr (.inr (some (0, 0)))), some (.inl (nI j)), some (.inl (-1)), some (.inl s), some (.inl (nI i)), none]) (fun i s => I) n 0 (nI 0) (by omega) rfl ?_ ?_
    · intro i s hi hP ih
      refine g_ild4 (pc' := 57) dX8_luck_55 rfl ?_
      refine g_ald0 (pc' := 58) dX8_luck_57 rfl ?_
      refine g_getR (pc' := 61) xg.s0 (by decide) fX8_10 xg.r0_0 dX8_luck_58 rfl ?_
      refine g_getI (pc' := 64) sg.s1 (by decide) fX8_88 hn dX8_luck_61 rfl ?_
      refine g_icmpgeN (pc' := 67) (by omega) (by omega) (tgt := 97) dX8_luck_64 (by decide) rfl (fun h64 => ?_) (fun h64 => ?_)
      · exact absurd h64 (by omega)
      · refine g_ald0 (pc' := 68) dX8_luck_67 rfl ?_
        refine g_ild1 (pc' := 69) dX8_luck_68 rfl ?_
        refine g_ild4 (pc' := 71) dX8_luck_69 rfl ?_
        refine g_callV (pc' := 74) (c_luckOf l xg sg hn hN hm hM hR hW (nI j) hi) xg.s0 (by decide) wX8_luckOf lX8_220 rfl rfl (Nat.le_of_ble_eq_true rfl) ⟨Nat.le_of_ble_eq_true rfl, Nat.le_of_ble_eq_true rfl⟩ ⟨Nat.le_of_ble_eq_true rfl, Nat.le_of_ble_eq_true rfl⟩ dX8_luck_71 rfl (kIp ?_)
        refine g_ist5 (pc' := 76) rfl (by decide) dX8_luck_74 rfl ?_
        refine g_ild5 (pc' := 78) dX8_luck_76 rfl ?_
        refine g_bipush (pc' := 80) (v := (-2)) dX8_luck_78 rfl (by decide) ?_
        refine g_icmpne (pc' := 83) (tgt := 86) dX8_luck_80 (by decide) rfl (fun h80 => ?_) (fun h80 => ?_)
        · refine g_ild3 (pc' := 87) dX8_luck_86 rfl ?_
          refine g_ild5 (pc' := 89) dX8_luck_87 rfl ?_
          refine g_iadd (pc' := 90) dX8_luck_89 rfl ?_
          refine g_ist3 (pc' := 91) rfl (by decide) dX8_luck_90 rfl ?_
          refine g_inc4 (pc' := 94) rfl (by decide) (v := nI (i + 1)) (nI_1 _) dX8_luck_91 rfl ?_
          refine g_goto (tgt := 55) dX8_luck_94 (by decide) ?_
          refine G.lsub [some (.inr (.inr (some (0, 0)))), some (.inl (nI j)), some (.inl (-1)), some (.inl (s + lkV I (nI j) n m i)), some (.inl (nI (i + 1))), none] (by intro j v; rcases j with _ | _ | _ | _ | _ | _ | j <;> simp) ?_
          exact ih (s + lkV I (nI j) n m i) (by simp only [stopS, hP]; rw [if_neg h80])
        · refine g_bipush (pc' := 85) (v := (-2)) dX8_luck_83 rfl (by decide) ?_
          refine g_iret rfl dX8_luck_85 ?_
          exact eIp (by
            have e1 : stopS (lkV I (nI j) n m) (i + 1) = none := by simp only [stopS, hP]; rw [if_pos h80]
            have e2 := stopS_none e1 (n - (i + 1))
            rw [show i + 1 + (n - (i + 1)) = n by omega] at e2
            unfold lkAll
            rw [e2])
    · intro s hP
      refine g_ild4 (pc' := 57) dX8_luck_55 rfl ?_
      refine g_ald0 (pc' := 58) dX8_luck_57 rfl ?_
      refine g_getR (pc' := 61) xg.s0 (by decide) fX8_10 xg.r0_0 dX8_luck_58 rfl ?_
      refine g_getI (pc' := 64) sg.s1 (by decide) fX8_88 hn dX8_luck_61 rfl ?_
      refine g_icmpgeN (pc' := 67) (by omega) (by omega) (tgt := 97) dX8_luck_64 (by decide) rfl (fun h64 => ?_) (fun h64 => ?_)
      · refine g_ild3 (pc' := 98) dX8_luck_97 rfl ?_
        refine g_ald0 (pc' := 99) dX8_luck_98 rfl ?_
        refine g_getR (pc' := 102) xg.s0 (by decide) fX8_10 xg.r0_0 dX8_luck_99 rfl ?_
        refine g_getI (pc' := 105) sg.s1 (by decide) fX8_88 hn dX8_luck_102 rfl ?_
        refine g_idiv (pc' := 106) dX8_luck_105 rfl (by rw [nI_z (by omega)]; omega) ?_
        refine g_iret rfl dX8_luck_106 ?_
        exact eIp (by unfold lkAll; rw [hP])
      · exact absurd h64 (by omega)
  · exact absurd h33 (by omega)

theorem c_waysOf (l : Launch) {S : Shp} {I : MI} {L : ML} {R : MR} (xg : XG S R) (sg : SG S R) {n : Nat} (hn : I (1, 0) 1 = nI n) (hN : n ≤ 12) {m : Nat} (hm : I (0, 0) 5 = nI m) (hM : m ≤ 9) (hR : ∀ k, k < m → R (10, 0) k = some (11, k)) (hW : ∀ k, k < m → WG k S R) (x y : Int32) {a b : Nat} (ha : a < n) (hb : b < n) : Ct l mX8_waysOf 3 0 0 [.inr (.inr (some (0, 0))), .inl x, .inl (nI a), .inl (nI b), .inl y] S I L R (PIp S I L R (nI (sN (wyF I x y a b) m))) := by
  refine Ct.of [some (.inr (.inr (some (0, 0)))), some (.inl x), some (.inl (nI a)), some (.inl (nI b)), some (.inl y), none, none, none] (by decide) rfl (Nat.le_of_ble_eq_true rfl) ?_
  refine g_iconst (pc' := 1) (v := nI 0) dX8_waysOf_0 rfl (by decide) ?_
  refine g_ist5 (pc' := 3) rfl (by decide) dX8_waysOf_1 rfl ?_
  refine g_iconst (pc' := 4) (v := nI 0) dX8_waysOf_3 rfl (by decide) ?_
  refine g_ist6 (pc' := 6) rfl (by decide) dX8_waysOf_4 rfl ?_
  refine g_loop (σ := Unit) (fun _ _ => True) (fun i s => [some (.inr (.inr (some (0, 0)))), some (.inl x), some (.inl (nI a)), some (.inl (nI b)), some (.inl y), some (.inl (nI (sN (wyF I x y a b) i))), some (.inl (nI i)), none]) (fun i s => I) (m) (0) (()) (by omega) (trivial) ?_ ?_
  · intro i s hi hP ih
    refine g_ild6 (pc' := 8) dX8_waysOf_6 rfl ?_
    refine g_ald0 (pc' := 9) dX8_waysOf_8 rfl ?_
    refine g_getI (pc' := 12) xg.s0 (by decide) fX8_128 hm dX8_waysOf_9 rfl ?_
    refine g_icmpgeN (pc' := 15) (by omega) (by omega) (tgt := 59) dX8_waysOf_12 (by decide) rfl (fun h12 => ?_) (fun h12 => ?_)
    · exact absurd h12 (by omega)
    · refine g_ald0 (pc' := 16) dX8_waysOf_15 rfl ?_
      refine g_ild6 (pc' := 18) dX8_waysOf_16 rfl ?_
      refine g_callV (pc' := 21) (c_worldOfS l xg hm (j := i) (by omega) hM (hR _ (by omega))) xg.s0 (by decide) wX8_worldOf lX8_147 rfl rfl (Nat.le_of_ble_eq_true rfl) ⟨Nat.le_of_ble_eq_true rfl, Nat.le_of_ble_eq_true rfl⟩ ⟨Nat.le_of_ble_eq_true rfl, Nat.le_of_ble_eq_true rfl⟩ dX8_waysOf_18 rfl (kRp ?_)
      refine g_ast7 (pc' := 23) rfl (by decide) dX8_waysOf_21 rfl ?_
      refine g_ald7 (pc' := 25) dX8_waysOf_23 rfl ?_
      refine g_ifnullF (pc' := 28) dX8_waysOf_25 rfl ?_
      refine g_ild1 (pc' := 29) dX8_waysOf_28 rfl ?_
      refine g_ild6 (pc' := 31) dX8_waysOf_29 rfl ?_
      refine g_ishr (pc' := 32) dX8_waysOf_31 rfl ?_
      refine g_iconst (pc' := 33) (v := nI 1) dX8_waysOf_32 rfl (by decide) ?_
      refine g_iand (pc' := 34) dX8_waysOf_33 rfl ?_
      refine g_iconst (pc' := 35) (v := nI 1) dX8_waysOf_34 rfl (by decide) ?_
      refine g_icmpne (pc' := 38) (tgt := 53) dX8_waysOf_35 (by decide) rfl (fun h35 => ?_) (fun h35 => ?_)
      · refine g_inc6 (pc' := 56) rfl (by decide) (v := nI (i + 1)) (nI_1 _) dX8_waysOf_53 rfl ?_
        refine g_goto (tgt := 6) dX8_waysOf_56 (by decide) ?_
        have e : wyF I x y a b i = 0 := by unfold wyF; rw [if_neg (fun q => by first | exact h35 q.1 | exact h47 q.2)]
        have e2 : sN (wyF I x y a b) (i + 1) = sN (wyF I x y a b) i := by
          show _ + wyF I x y a b i = _
          rw [e, Nat.add_zero]
        rw [← e2]
        refine G.lsub [some (.inr (.inr (some (0, 0)))), some (.inl x), some (.inl (nI a)), some (.inl (nI b)), some (.inl y), some (.inl (nI (sN (wyF I x y a b) (i + 1)))), some (.inl (nI (i + 1))), none] (by intro j v; rcases j with _ | _ | _ | _ | _ | _ | _ | _ | j <;> simp) ?_
        exact ih () trivial
      · refine g_ald7 (pc' := 40) dX8_waysOf_38 rfl ?_
        refine g_ild2 (pc' := 41) dX8_waysOf_40 rfl ?_
        refine g_ild3 (pc' := 42) dX8_waysOf_41 rfl ?_
        refine g_callV (pc' := 45) (c_way l sg (hW _ (by omega)) hn hN ha hb) (hW (i) (by omega)).s11 (by decide) wX7_way lX8_224 rfl rfl (Nat.le_of_ble_eq_true rfl) ⟨Nat.le_of_ble_eq_true rfl, Nat.le_of_ble_eq_true rfl⟩ ⟨Nat.le_of_ble_eq_true rfl, Nat.le_of_ble_eq_true rfl⟩ dX8_waysOf_42 rfl (kIp ?_)
        refine g_ild4 (pc' := 47) dX8_waysOf_45 rfl ?_
        refine g_icmpne (pc' := 50) (tgt := 53) dX8_waysOf_47 (by decide) rfl (fun h47 => ?_) (fun h47 => ?_)
        · refine g_inc6 (pc' := 56) rfl (by decide) (v := nI (i + 1)) (nI_1 _) dX8_waysOf_53 rfl ?_
          refine g_goto (tgt := 6) dX8_waysOf_56 (by decide) ?_
          have e : wyF I x y a b i = 0 := by unfold wyF; rw [if_neg (fun q => by first | exact h35 q.1 | exact h47 q.2)]
          have e2 : sN (wyF I x y a b) (i + 1) = sN (wyF I x y a b) i := by
            show _ + wyF I x y a b i = _
            rw [e, Nat.add_zero]
          rw [← e2]
          refine G.lsub [some (.inr (.inr (some (0, 0)))), some (.inl x), some (.inl (nI a)), some (.inl (nI b)), some (.inl y), some (.inl (nI (sN (wyF I x y a b) (i + 1)))), some (.inl (nI (i + 1))), none] (by intro j v; rcases j with _ | _ | _ | _ | _ | _ | _ | _ | j <;> simp) ?_
          exact ih () trivial
        · refine g_inc5 (pc' := 53) rfl (by decide) (v := nI (sN (wyF I x y a b) i + 1)) (nI_1 _) dX8_waysOf_50 rfl ?_
          refine g_inc6 (pc' := 56) rfl (by decide) (v := nI (i + 1)) (nI_1 _) dX8_waysOf_53 rfl ?_
          refine g_goto (tgt := 6) dX8_waysOf_56 (by decide) ?_
          have e : wyF I x y a b i = 1 := by unfold wyF; rw [if_pos ⟨h35, h47⟩]
          have e2 : sN (wyF I x y a b) (i + 1) = sN (wyF I x y a b) i + 1 := by
            show _ + wyF I x y a b i = _
            rw [e]
          rw [← e2]
          refine G.lsub [some (.inr (.inr (some (0, 0)))), some (.inl x), some (.inl (nI a)), some (.inl (nI b)), some (.inl y), some (.inl (nI (sN (wyF I x y a b) (i + 1)))), some (.inl (nI (i + 1))), none] (by intro j v; rcases j with _ | _ | _ | _ | _ | _ | _ | _ | j <;> simp) ?_
          exact ih () trivial
  · intro s hP
    refine g_ild6 (pc' := 8) dX8_waysOf_6 rfl ?_
    refine g_ald0 (pc' := 9) dX8_waysOf_8 rfl ?_
    refine g_getI (pc' := 12) xg.s0 (by decide) fX8_128 hm dX8_waysOf_9 rfl ?_
    refine g_icmpgeN (pc' := 15) (by omega) (by omega) (tgt := 59) dX8_waysOf_12 (by decide) rfl (fun h12 => ?_) (fun h12 => ?_)
    · refine g_ild5 (pc' := 61) dX8_waysOf_59 rfl ?_
      refine g_iret rfl dX8_waysOf_61 ?_
      exact eIp rfl
    · exact absurd h12 (by omega)

theorem c_rightN (l : Launch) {S : Shp} {I : MI} {L : ML} {R : MR} (xg : XG S R) {m : Nat} {x : Int32} (hm : I (0, 0) 5 = nI m) (hx : inb x m = false) : Ct l mX8_right 2 0 0 [.inr (.inr (some (0, 0))), .inl x] S I L R (PIp S I L R (-1)) := by
  refine Ct.of [some (.inr (.inr (some (0, 0)))), some (.inl x), none, none, none, none, none, none] (by decide) rfl (Nat.le_of_ble_eq_true rfl) ?_
  refine g_ald0 (pc' := 1) dX8_right_0 rfl ?_
  refine g_ild1 (pc' := 2) dX8_right_1 rfl ?_
  refine g_callV (pc' := 5) (c_worldOfN l xg hm hx) xg.s0 (by decide) wX8_worldOf lX8_147 rfl rfl (Nat.le_of_ble_eq_true rfl) ⟨Nat.le_of_ble_eq_true rfl, Nat.le_of_ble_eq_true rfl⟩ ⟨Nat.le_of_ble_eq_true rfl, Nat.le_of_ble_eq_true rfl⟩ dX8_right_2 rfl (kRp ?_)
  refine g_ast2 (pc' := 6) rfl (by decide) dX8_right_5 rfl ?_
  refine g_ald2 (pc' := 7) dX8_right_6 rfl ?_
  refine g_ifnonnullF (pc' := 10) dX8_right_7 rfl ?_
  refine g_iconst (pc' := 11) (v := (-1)) dX8_right_10 rfl (by decide) ?_
  refine g_iret rfl dX8_right_11 ?_
  exact eIp rfl

theorem c_rightS (l : Launch) {S : Shp} {I : MI} {L : ML} {R : MR} (xg : XG S R) (sg : SG S R) {n : Nat} (hn : I (1, 0) 1 = nI n) (hN : n ≤ 12) {m j : Nat} (hm : I (0, 0) 5 = nI m) (hj : j < m) (hM : m ≤ 9) (hR : R (10, 0) j = some (11, j)) (wg : WG j S R) : Ct l mX8_right 3 0 0 [.inr (.inr (some (0, 0))), .inl (nI j)] S I L R (PIp S I L R (rtV I n j)) := by
  refine Ct.of [some (.inr (.inr (some (0, 0)))), some (.inl (nI j)), none, none, none, none, none, none] (by decide) rfl (Nat.le_of_ble_eq_true rfl) ?_
  refine g_ald0 (pc' := 1) dX8_right_0 rfl ?_
  refine g_ild1 (pc' := 2) dX8_right_1 rfl ?_
  refine g_callV (pc' := 5) (c_worldOfS l xg hm hj hM hR) xg.s0 (by decide) wX8_worldOf lX8_147 rfl rfl (Nat.le_of_ble_eq_true rfl) ⟨Nat.le_of_ble_eq_true rfl, Nat.le_of_ble_eq_true rfl⟩ ⟨Nat.le_of_ble_eq_true rfl, Nat.le_of_ble_eq_true rfl⟩ dX8_right_2 rfl (kRp ?_)
  refine g_ast2 (pc' := 6) rfl (by decide) dX8_right_5 rfl ?_
  refine g_ald2 (pc' := 7) dX8_right_6 rfl ?_
  refine g_ifnonnullT (tgt := 12) dX8_right_7 (by decide) ?_
  refine g_iconst (pc' := 13) (v := nI 0) dX8_right_12 rfl (by decide) ?_
  refine g_ist3 (pc' := 14) rfl (by decide) dX8_right_13 rfl ?_
  refine g_iconst (pc' := 15) (v := nI 0) dX8_right_14 rfl (by decide) ?_
  refine g_ist4 (pc' := 17) rfl (by decide) dX8_right_15 rfl ?_
  refine g_iconst (pc' := 18) (v := nI 0) dX8_right_17 rfl (by decide) ?_
  refine g_ist5 (pc' := 20) rfl (by decide) dX8_right_18 rfl ?_
  refine g_loop (σ := Unit) (fun _ _ => True) (fun a s_ => [some (.inr (.inr (some (0, 0)))), some (.inl (nI j)), some (.inr (.inr (some (11, j)))), some (.inl (nI (prN (rtS I j) n a))), some (.inl (nI (prN (rtP I j) n a))), some (.inl (nI a)), none, none]) (fun a s_ => I) n 0 () (by omega) trivial ?_ ?_
  · intro a s_ ha hP ihA
    refine g_ild5 (pc' := 22) dX8_right_20 rfl ?_
    refine g_ald0 (pc' := 23) dX8_right_22 rfl ?_
    refine g_getR (pc' := 26) xg.s0 (by decide) fX8_10 xg.r0_0 dX8_right_23 rfl ?_
    refine g_getI (pc' := 29) sg.s1 (by decide) fX8_88 hn dX8_right_26 rfl ?_
    refine g_icmpgeN (pc' := 32) (by omega) (by omega) (tgt := 100) dX8_right_29 (by decide) rfl (fun h29 => ?_) (fun h29 => ?_)
    · exact absurd h29 (by omega)
    · refine g_ild5 (pc' := 34) dX8_right_32 rfl ?_
      refine g_iconst (pc' := 35) (v := nI 1) dX8_right_34 rfl (by decide) ?_
      refine g_iaddN (pc' := 36) dX8_right_35 rfl ?_
      refine g_ist6 (pc' := 38) rfl (by decide) dX8_right_36 rfl ?_
      refine g_loop (σ := Unit) (fun _ _ => True) (fun i s_ => [some (.inr (.inr (some (0, 0)))), some (.inl (nI j)), some (.inr (.inr (some (11, j)))), some (.inl (nI (prN (rtS I j) n a + sN (fun i => rtS I j a (a + 1 + i)) i))), some (.inl (nI (prN (rtP I j) n a + sN (fun i => rtP I j a (a + 1 + i)) i))), some (.inl (nI a)), some (.inl (nI (a + 1 + i))), none]) (fun i s_ => I) (n - a - 1) 0 () (by omega) trivial ?_ ?_
      · intro i s_ hi hP ih
        refine g_ild6 (pc' := 40) dX8_right_38 rfl ?_
        refine g_ald0 (pc' := 41) dX8_right_40 rfl ?_
        refine g_getR (pc' := 44) xg.s0 (by decide) fX8_10 xg.r0_0 dX8_right_41 rfl ?_
        refine g_getI (pc' := 47) sg.s1 (by decide) fX8_88 hn dX8_right_44 rfl ?_
        refine g_icmpgeN (pc' := 50) (by omega) (by omega) (tgt := 94) dX8_right_47 (by decide) rfl (fun h47 => ?_) (fun h47 => ?_)
        · exact absurd h47 (by omega)
        · refine g_ald2 (pc' := 51) dX8_right_50 rfl ?_
          refine g_ild5 (pc' := 53) dX8_right_51 rfl ?_
          refine g_ild6 (pc' := 55) dX8_right_53 rfl ?_
          refine g_callV (pc' := 58) (c_way l sg wg hn hN (a := a) (b := a + 1 + i) (by omega) (by omega)) wg.s11 (by decide) wX7_way lX8_224 rfl rfl (Nat.le_of_ble_eq_true rfl) ⟨Nat.le_of_ble_eq_true rfl, Nat.le_of_ble_eq_true rfl⟩ ⟨Nat.le_of_ble_eq_true rfl, Nat.le_of_ble_eq_true rfl⟩ dX8_right_55 rfl (kIp ?_)
          refine g_ist7 (pc' := 60) rfl (by decide) dX8_right_58 rfl ?_
          refine g_ild3 (pc' := 61) dX8_right_60 rfl ?_
          refine g_ild7 (pc' := 63) dX8_right_61 rfl ?_
          refine g_ifle (pc' := 66) (tgt := 70) dX8_right_63 (by decide) rfl (fun h63 => ?_) (fun h63 => ?_)
          · refine g_iconst (pc' := 71) (v := nI 0) dX8_right_70 rfl (by decide) ?_
            refine g_iaddN (pc' := 72) dX8_right_71 rfl ?_
            refine g_ist3 (pc' := 73) rfl (by decide) dX8_right_72 rfl ?_
            refine g_ild4 (pc' := 75) dX8_right_73 rfl ?_
            refine g_ild7 (pc' := 77) dX8_right_75 rfl ?_
            refine g_ifeq (pc' := 80) (tgt := 84) dX8_right_77 (by decide) rfl (fun h77 => ?_) (fun h77 => ?_)
            · refine g_iconst (pc' := 85) (v := nI 0) dX8_right_84 rfl (by decide) ?_
              refine g_iaddN (pc' := 86) dX8_right_85 rfl ?_
              refine g_ist4 (pc' := 88) rfl (by decide) dX8_right_86 rfl ?_
              refine g_inc6 (pc' := 91) rfl (by decide) (v := nI (a + 1 + i + 1)) (nI_1 _) dX8_right_88 rfl ?_
              refine g_goto (tgt := 38) dX8_right_91 (by decide) ?_
              have g1 : rtS I j a (a + 1 + i) = 0 := by unfold rtS; rw [if_pos h63]
              have g2 : rtP I j a (a + 1 + i) = 0 := by unfold rtP; rw [if_pos h77]
              have e1 : prN (rtS I j) n a + sN (fun i => rtS I j a (a + 1 + i)) (i + 1) = prN (rtS I j) n a + sN (fun i => rtS I j a (a + 1 + i)) i + 0 := by
                show _ + (_ + rtS I j a (a + 1 + i)) = _
                rw [g1]
                rfl
              have e2 : prN (rtP I j) n a + sN (fun i => rtP I j a (a + 1 + i)) (i + 1) = prN (rtP I j) n a + sN (fun i => rtP I j a (a + 1 + i)) i + 0 := by
                show _ + (_ + rtP I j a (a + 1 + i)) = _
                rw [g2]
                rfl
              rw [← e1, ← e2]
              refine G.lsub [some (.inr (.inr (some (0, 0)))), some (.inl (nI j)), some (.inr (.inr (some (11, j)))), some (.inl (nI (prN (rtS I j) n a + sN (fun i => rtS I j a (a + 1 + i)) (i + 1)))), some (.inl (nI (prN (rtP I j) n a + sN (fun i => rtP I j a (a + 1 + i)) (i + 1)))), some (.inl (nI a)), some (.inl (nI (a + 1 + i + 1))), none] (by intro j v; rcases j with _ | _ | _ | _ | _ | _ | _ | _ | j <;> simp) ?_
              exact ih () trivial
            · refine g_iconst (pc' := 81) (v := nI 1) dX8_right_80 rfl (by decide) ?_
              refine g_goto (tgt := 85) dX8_right_81 (by decide) ?_
              refine g_iaddN (pc' := 86) dX8_right_85 rfl ?_
              refine g_ist4 (pc' := 88) rfl (by decide) dX8_right_86 rfl ?_
              refine g_inc6 (pc' := 91) rfl (by decide) (v := nI (a + 1 + i + 1)) (nI_1 _) dX8_right_88 rfl ?_
              refine g_goto (tgt := 38) dX8_right_91 (by decide) ?_
              have g1 : rtS I j a (a + 1 + i) = 0 := by unfold rtS; rw [if_pos h63]
              have g2 : rtP I j a (a + 1 + i) = 1 := by unfold rtP; rw [if_neg h77]
              have e1 : prN (rtS I j) n a + sN (fun i => rtS I j a (a + 1 + i)) (i + 1) = prN (rtS I j) n a + sN (fun i => rtS I j a (a + 1 + i)) i + 0 := by
                show _ + (_ + rtS I j a (a + 1 + i)) = _
                rw [g1]
                rfl
              have e2 : prN (rtP I j) n a + sN (fun i => rtP I j a (a + 1 + i)) (i + 1) = prN (rtP I j) n a + sN (fun i => rtP I j a (a + 1 + i)) i + 1 := by
                show _ + (_ + rtP I j a (a + 1 + i)) = _
                rw [g2]
                rfl
              rw [← e1, ← e2]
              refine G.lsub [some (.inr (.inr (some (0, 0)))), some (.inl (nI j)), some (.inr (.inr (some (11, j)))), some (.inl (nI (prN (rtS I j) n a + sN (fun i => rtS I j a (a + 1 + i)) (i + 1)))), some (.inl (nI (prN (rtP I j) n a + sN (fun i => rtP I j a (a + 1 + i)) (i + 1)))), some (.inl (nI a)), some (.inl (nI (a + 1 + i + 1))), none] (by intro j v; rcases j with _ | _ | _ | _ | _ | _ | _ | _ | j <;> simp) ?_
              exact ih () trivial
          · refine g_iconst (pc' := 67) (v := nI 1) dX8_right_66 rfl (by decide) ?_
            refine g_goto (tgt := 71) dX8_right_67 (by decide) ?_
            refine g_iaddN (pc' := 72) dX8_right_71 rfl ?_
            refine g_ist3 (pc' := 73) rfl (by decide) dX8_right_72 rfl ?_
            refine g_ild4 (pc' := 75) dX8_right_73 rfl ?_
            refine g_ild7 (pc' := 77) dX8_right_75 rfl ?_
            refine g_ifeq (pc' := 80) (tgt := 84) dX8_right_77 (by decide) rfl (fun h77 => ?_) (fun h77 => ?_)
            · refine g_iconst (pc' := 85) (v := nI 0) dX8_right_84 rfl (by decide) ?_
              refine g_iaddN (pc' := 86) dX8_right_85 rfl ?_
              refine g_ist4 (pc' := 88) rfl (by decide) dX8_right_86 rfl ?_
              refine g_inc6 (pc' := 91) rfl (by decide) (v := nI (a + 1 + i + 1)) (nI_1 _) dX8_right_88 rfl ?_
              refine g_goto (tgt := 38) dX8_right_91 (by decide) ?_
              have g1 : rtS I j a (a + 1 + i) = 1 := by unfold rtS; rw [if_neg h63]
              have g2 : rtP I j a (a + 1 + i) = 0 := by unfold rtP; rw [if_pos h77]
              have e1 : prN (rtS I j) n a + sN (fun i => rtS I j a (a + 1 + i)) (i + 1) = prN (rtS I j) n a + sN (fun i => rtS I j a (a + 1 + i)) i + 1 := by
                show _ + (_ + rtS I j a (a + 1 + i)) = _
                rw [g1]
                rfl
              have e2 : prN (rtP I j) n a + sN (fun i => rtP I j a (a + 1 + i)) (i + 1) = prN (rtP I j) n a + sN (fun i => rtP I j a (a + 1 + i)) i + 0 := by
                show _ + (_ + rtP I j a (a + 1 + i)) = _
                rw [g2]
                rfl
              rw [← e1, ← e2]
              refine G.lsub [some (.inr (.inr (some (0, 0)))), some (.inl (nI j)), some (.inr (.inr (some (11, j)))), some (.inl (nI (prN (rtS I j) n a + sN (fun i => rtS I j a (a + 1 + i)) (i + 1)))), some (.inl (nI (prN (rtP I j) n a + sN (fun i => rtP I j a (a + 1 + i)) (i + 1)))), some (.inl (nI a)), some (.inl (nI (a + 1 + i + 1))), none] (by intro j v; rcases j with _ | _ | _ | _ | _ | _ | _ | _ | j <;> simp) ?_
              exact ih () trivial
            · refine g_iconst (pc' := 81) (v := nI 1) dX8_right_80 rfl (by decide) ?_
              refine g_goto (tgt := 85) dX8_right_81 (by decide) ?_
              refine g_iaddN (pc' := 86) dX8_right_85 rfl ?_
              refine g_ist4 (pc' := 88) rfl (by decide) dX8_right_86 rfl ?_
              refine g_inc6 (pc' := 91) rfl (by decide) (v := nI (a + 1 + i + 1)) (nI_1 _) dX8_right_88 rfl ?_
              refine g_goto (tgt := 38) dX8_right_91 (by decide) ?_
              have g1 : rtS I j a (a + 1 + i) = 1 := by unfold rtS; rw [if_neg h63]
              have g2 : rtP I j a (a + 1 + i) = 1 := by unfold rtP; rw [if_neg h77]
              have e1 : prN (rtS I j) n a + sN (fun i => rtS I j a (a + 1 + i)) (i + 1) = prN (rtS I j) n a + sN (fun i => rtS I j a (a + 1 + i)) i + 1 := by
                show _ + (_ + rtS I j a (a + 1 + i)) = _
                rw [g1]
                rfl
              have e2 : prN (rtP I j) n a + sN (fun i => rtP I j a (a + 1 + i)) (i + 1) = prN (rtP I j) n a + sN (fun i => rtP I j a (a + 1 + i)) i + 1 := by
                show _ + (_ + rtP I j a (a + 1 + i)) = _
                rw [g2]
                rfl
              rw [← e1, ← e2]
              refine G.lsub [some (.inr (.inr (some (0, 0)))), some (.inl (nI j)), some (.inr (.inr (some (11, j)))), some (.inl (nI (prN (rtS I j) n a + sN (fun i => rtS I j a (a + 1 + i)) (i + 1)))), some (.inl (nI (prN (rtP I j) n a + sN (fun i => rtP I j a (a + 1 + i)) (i + 1)))), some (.inl (nI a)), some (.inl (nI (a + 1 + i + 1))), none] (by intro j v; rcases j with _ | _ | _ | _ | _ | _ | _ | _ | j <;> simp) ?_
              exact ih () trivial
      · intro s_ hP
        refine g_ild6 (pc' := 40) dX8_right_38 rfl ?_
        refine g_ald0 (pc' := 41) dX8_right_40 rfl ?_
        refine g_getR (pc' := 44) xg.s0 (by decide) fX8_10 xg.r0_0 dX8_right_41 rfl ?_
        refine g_getI (pc' := 47) sg.s1 (by decide) fX8_88 hn dX8_right_44 rfl ?_
        refine g_icmpgeN (pc' := 50) (by omega) (by omega) (tgt := 94) dX8_right_47 (by decide) rfl (fun h47 => ?_) (fun h47 => ?_)
        · refine g_inc5 (pc' := 97) rfl (by decide) (v := nI (a + 1)) (nI_1 _) dX8_right_94 rfl ?_
          refine g_goto (tgt := 20) dX8_right_97 (by decide) ?_
          refine G.lsub [some (.inr (.inr (some (0, 0)))), some (.inl (nI j)), some (.inr (.inr (some (11, j)))), some (.inl (nI (prN (rtS I j) n a + sN (fun i => rtS I j a (a + 1 + i)) (n - a - 1)))), some (.inl (nI (prN (rtP I j) n a + sN (fun i => rtP I j a (a + 1 + i)) (n - a - 1)))), some (.inl (nI (a + 1))), none, none] (by intro j v; rcases j with _ | _ | _ | _ | _ | _ | _ | _ | j <;> simp) ?_
          exact ihA () trivial
        · exact absurd h47 (by omega)
  · intro s_ hP
    have hsm := prN_small (rtP_le I j) (n := n) (a := n) hN hN
    have hsm2 := prN_small (rtS_le I j) (n := n) (a := n) hN hN
    refine g_ild5 (pc' := 22) dX8_right_20 rfl ?_
    refine g_ald0 (pc' := 23) dX8_right_22 rfl ?_
    refine g_getR (pc' := 26) xg.s0 (by decide) fX8_10 xg.r0_0 dX8_right_23 rfl ?_
    refine g_getI (pc' := 29) sg.s1 (by decide) fX8_88 hn dX8_right_26 rfl ?_
    refine g_icmpgeN (pc' := 32) (by omega) (by omega) (tgt := 100) dX8_right_29 (by decide) rfl (fun h29 => ?_) (fun h29 => ?_)
    · refine g_ild4 (pc' := 102) dX8_right_100 rfl ?_
      refine g_ifneN (pc' := 105) (by omega) (tgt := 110) dX8_right_102 (by decide) rfl (fun h102 => ?_) (fun h102 => ?_)
      · refine g_ild3 (pc' := 111) dX8_right_110 rfl ?_
        refine g_sipush (pc' := 114) (v := nI 1000) dX8_right_111 rfl (by decide) ?_
        refine g_imulN (pc' := 115) dX8_right_114 rfl ?_
        refine g_ild4 (pc' := 117) dX8_right_115 rfl ?_
        refine g_idivN (pc' := 118) (by omega) dX8_right_117 rfl ?_
        refine g_iret rfl dX8_right_118 ?_
        exact eIp (by unfold rtV; first | rw [if_pos (by omega)] | rw [if_neg (by omega)])
      · refine g_bipush (pc' := 107) (v := (-2)) dX8_right_105 rfl (by decide) ?_
        refine g_goto (tgt := 118) dX8_right_107 (by decide) ?_
        refine g_iret rfl dX8_right_118 ?_
        exact eIp (by unfold rtV; first | rw [if_pos (by omega)] | rw [if_neg (by omega)])
    · exact absurd h29 (by omega)

def gsS (I : MI) (x : Int32) (m a b : Nat) : Nat := sN (wyF I x (nI 1) a b) m
def gsO (I : MI) (x : Int32) (m a b : Nat) : Nat := sN (wyF I x (-1) a b) m
def gsH (I : MI) (x : Int32) (m w a b : Nat) : Nat := if w = 0 then gsS I x m a b else max (gsS I x m a b) (gsO I x m a b)
def gsP (I : MI) (x : Int32) (m a b : Nat) : Nat := gsS I x m a b + gsO I x m a b
theorem gsS_le (I : MI) (x : Int32) {m : Nat} (hm : m ≤ 9) (a b : Nat) : gsS I x m a b ≤ 9 := by
  have := sN_le (wyF_le I x (nI 1) a b) m
  unfold gsS
  omega
theorem gsO_le (I : MI) (x : Int32) {m : Nat} (hm : m ≤ 9) (a b : Nat) : gsO I x m a b ≤ 9 := by
  have := sN_le (wyF_le I x (-1) a b) m
  unfold gsO
  omega
theorem gsP_le (I : MI) (x : Int32) {m : Nat} (hm : m ≤ 9) (a b : Nat) : gsP I x m a b ≤ 18 := by
  have := gsS_le I x hm a b
  have := gsO_le I x hm a b
  unfold gsP
  omega
theorem gsH_le (I : MI) (x : Int32) {m : Nat} (w : Nat) (hm : m ≤ 9) (a b : Nat) : gsH I x m w a b ≤ 9 := by
  have := gsS_le I x hm a b
  have := gsO_le I x hm a b
  unfold gsH
  split <;> omega
def gsV (I : MI) (x : Int32) (n m w : Nat) : Int32 := if prN (gsP I x m) n n = 0 then -2 else nI (prN (gsH I x m w) n n * 1000 / prN (gsP I x m) n n)
theorem c_guessB (l : Launch) {S : Shp} {I : MI} {L : ML} {R : MR} (xg : XG S R) {m : Nat} (hm : I (0, 0) 5 = nI m) {x y : Int32} (hb : x < 0 ∨ nI 1 <<< (nI m &&& 31) ≤ x ∨ y < 0 ∨ nI 1 < y) : Ct l mX8_guess 1 0 0 [.inr (.inr (some (0, 0))), .inl x, .inl y] S I L R (PIp S I L R (-1)) := by
  refine Ct.of [some (.inr (.inr (some (0, 0)))), some (.inl x), some (.inl y), none, none, none, none, none, none] (by decide) rfl (Nat.le_of_ble_eq_true rfl) ?_
  refine g_ild1 (pc' := 1) dX8_guess_0 rfl ?_
  refine g_iflt (pc' := 4) (tgt := 23) dX8_guess_1 (by decide) rfl (fun h1 => ?_) (fun h1 => ?_)
  · refine g_iconst (pc' := 24) (v := (-1)) dX8_guess_23 rfl (by decide) ?_
    refine g_iret rfl dX8_guess_24 ?_
    exact eIp rfl
  · refine g_ild1 (pc' := 5) dX8_guess_4 rfl ?_
    refine g_iconst (pc' := 6) (v := nI 1) dX8_guess_5 rfl (by decide) ?_
    refine g_ald0 (pc' := 7) dX8_guess_6 rfl ?_
    refine g_getI (pc' := 10) xg.s0 (by decide) fX8_128 hm dX8_guess_7 rfl ?_
    refine g_ishl (pc' := 11) dX8_guess_10 rfl ?_
    refine g_icmpge (pc' := 14) (tgt := 23) dX8_guess_11 (by decide) rfl (fun h11 => ?_) (fun h11 => ?_)
    · refine g_iconst (pc' := 24) (v := (-1)) dX8_guess_23 rfl (by decide) ?_
      refine g_iret rfl dX8_guess_24 ?_
      exact eIp rfl
    · refine g_ild2 (pc' := 15) dX8_guess_14 rfl ?_
      refine g_iflt (pc' := 18) (tgt := 23) dX8_guess_15 (by decide) rfl (fun h15 => ?_) (fun h15 => ?_)
      · refine g_iconst (pc' := 24) (v := (-1)) dX8_guess_23 rfl (by decide) ?_
        refine g_iret rfl dX8_guess_24 ?_
        exact eIp rfl
      · refine g_ild2 (pc' := 19) dX8_guess_18 rfl ?_
        refine g_iconst (pc' := 20) (v := nI 1) dX8_guess_19 rfl (by decide) ?_
        refine g_icmple (pc' := 23) (tgt := 25) dX8_guess_20 (by decide) rfl (fun h20 => ?_) (fun h20 => ?_)
        · exfalso
          rcases hb with h | h | h | h
          · exact h1 h
          · exact h11 h
          · exact h15 h
          · exact absurd h20 (Int32.not_le.mpr h)
        · refine g_iconst (pc' := 24) (v := (-1)) dX8_guess_23 rfl (by decide) ?_
          refine g_iret rfl dX8_guess_24 ?_
          exact eIp rfl

theorem c_guessS (l : Launch) {S : Shp} {I : MI} {L : ML} {R : MR} (xg : XG S R) (sg : SG S R) {n : Nat} (hn : I (1, 0) 1 = nI n) (hN : n ≤ 12) {m : Nat} (hm : I (0, 0) 5 = nI m) (hM : m ≤ 9) (hR : ∀ k, k < m → R (10, 0) k = some (11, k)) (hW : ∀ k, k < m → WG k S R) {x : Int32} {w : Nat} (h0 : ¬ x < 0) (h2 : ¬ nI 1 <<< (nI m &&& 31) ≤ x) (hw : w ≤ 1) : Ct l mX8_guess 4 0 0 [.inr (.inr (some (0, 0))), .inl x, .inl (nI w)] S I L R (PIp S I L R (gsV I x n m w)) := by
  refine Ct.of [some (.inr (.inr (some (0, 0)))), some (.inl x), some (.inl (nI w)), none, none, none, none, none, none] (by decide) rfl (Nat.le_of_ble_eq_true rfl) ?_
  refine g_ild1 (pc' := 1) dX8_guess_0 rfl ?_
  refine g_iflt (pc' := 4) (tgt := 23) dX8_guess_1 (by decide) rfl (fun h1 => (by first | exact absurd h1 h0 | exact absurd h0 h1)) (fun h1 => ?_)
  refine g_ild1 (pc' := 5) dX8_guess_4 rfl ?_
  refine g_iconst (pc' := 6) (v := nI 1) dX8_guess_5 rfl (by decide) ?_
  refine g_ald0 (pc' := 7) dX8_guess_6 rfl ?_
  refine g_getI (pc' := 10) xg.s0 (by decide) fX8_128 hm dX8_guess_7 rfl ?_
  refine g_ishl (pc' := 11) dX8_guess_10 rfl ?_
  refine g_icmpge (pc' := 14) (tgt := 23) dX8_guess_11 (by decide) rfl (fun h11 => (by first | exact absurd h11 h2 | exact absurd h2 h11)) (fun h11 => ?_)
  refine g_ild2 (pc' := 15) dX8_guess_14 rfl ?_
  refine g_ifltN (pc' := 18) (by omega) dX8_guess_15 rfl ?_
  refine g_ild2 (pc' := 19) dX8_guess_18 rfl ?_
  refine g_iconst (pc' := 20) (v := nI 1) dX8_guess_19 rfl (by decide) ?_
  refine g_icmpleN (pc' := 23) (by omega) (by omega) (tgt := 25) dX8_guess_20 (by decide) rfl (fun h20 => ?_) (fun h20 => ?_)
  · refine g_iconst (pc' := 26) (v := nI 0) dX8_guess_25 rfl (by decide) ?_
    refine g_ist3 (pc' := 27) rfl (by decide) dX8_guess_26 rfl ?_
    refine g_iconst (pc' := 28) (v := nI 0) dX8_guess_27 rfl (by decide) ?_
    refine g_ist4 (pc' := 30) rfl (by decide) dX8_guess_28 rfl ?_
    refine g_iconst (pc' := 31) (v := nI 0) dX8_guess_30 rfl (by decide) ?_
    refine g_ist5 (pc' := 33) rfl (by decide) dX8_guess_31 rfl ?_
    refine g_loop (σ := Unit) (fun _ _ => True) (fun a s_ => [some (.inr (.inr (some (0, 0)))), some (.inl x), some (.inl (nI w)), some (.inl (nI (prN (gsH I x m w) n a))), some (.inl (nI (prN (gsP I x m) n a))), some (.inl (nI a)), none, none, none]) (fun a s_ => I) n 0 () (by omega) trivial ?_ ?_
    · intro a s_ ha hP ihA
      refine g_ild5 (pc' := 35) dX8_guess_33 rfl ?_
      refine g_ald0 (pc' := 36) dX8_guess_35 rfl ?_
      refine g_getR (pc' := 39) xg.s0 (by decide) fX8_10 xg.r0_0 dX8_guess_36 rfl ?_
      refine g_getI (pc' := 42) sg.s1 (by decide) fX8_88 hn dX8_guess_39 rfl ?_
      refine g_icmpgeN (pc' := 45) (by omega) (by omega) (tgt := 128) dX8_guess_42 (by decide) rfl (fun h42 => ?_) (fun h42 => ?_)
      · exact absurd h42 (by omega)
      · refine g_ild5 (pc' := 47) dX8_guess_45 rfl ?_
        refine g_iconst (pc' := 48) (v := nI 1) dX8_guess_47 rfl (by decide) ?_
        refine g_iaddN (pc' := 49) dX8_guess_48 rfl ?_
        refine g_ist6 (pc' := 51) rfl (by decide) dX8_guess_49 rfl ?_
        refine g_loop (σ := Unit) (fun _ _ => True) (fun i s_ => [some (.inr (.inr (some (0, 0)))), some (.inl x), some (.inl (nI w)), some (.inl (nI (prN (gsH I x m w) n a + sN (fun i => gsH I x m w a (a + 1 + i)) i))), some (.inl (nI (prN (gsP I x m) n a + sN (fun i => gsP I x m a (a + 1 + i)) i))), some (.inl (nI a)), some (.inl (nI (a + 1 + i))), none, none]) (fun i s_ => I) (n - a - 1) 0 () (by omega) trivial ?_ ?_
        · intro i s_ hi hP ih
          have hb1 := gsS_le I x hM a (a + 1 + i)
          have hb2 := gsO_le I x hM a (a + 1 + i)
          refine g_ild6 (pc' := 53) dX8_guess_51 rfl ?_
          refine g_ald0 (pc' := 54) dX8_guess_53 rfl ?_
          refine g_getR (pc' := 57) xg.s0 (by decide) fX8_10 xg.r0_0 dX8_guess_54 rfl ?_
          refine g_getI (pc' := 60) sg.s1 (by decide) fX8_88 hn dX8_guess_57 rfl ?_
          refine g_icmpgeN (pc' := 63) (by omega) (by omega) (tgt := 122) dX8_guess_60 (by decide) rfl (fun h60 => ?_) (fun h60 => ?_)
          · exact absurd h60 (by omega)
          · refine g_ald0 (pc' := 64) dX8_guess_63 rfl ?_
            refine g_ild1 (pc' := 65) dX8_guess_64 rfl ?_
            refine g_ild5 (pc' := 67) dX8_guess_65 rfl ?_
            refine g_ild6 (pc' := 69) dX8_guess_67 rfl ?_
            refine g_iconst (pc' := 70) (v := nI 1) dX8_guess_69 rfl (by decide) ?_
            refine g_callV (pc' := 73) (c_waysOf l xg sg hn hN hm hM hR hW x (nI 1) (a := a) (b := a + 1 + i) (by omega) (by omega)) xg.s0 (by decide) wX8_waysOf lX8_227 rfl rfl (Nat.le_of_ble_eq_true rfl) ⟨Nat.le_of_ble_eq_true rfl, Nat.le_of_ble_eq_true rfl⟩ ⟨Nat.le_of_ble_eq_true rfl, Nat.le_of_ble_eq_true rfl⟩ dX8_guess_70 rfl (kIp ?_)
            refine g_topi (v := nI (gsS I x m a (a + 1 + i))) rfl ?_
            refine g_ist7 (pc' := 75) rfl (by decide) dX8_guess_73 rfl ?_
            refine g_ald0 (pc' := 76) dX8_guess_75 rfl ?_
            refine g_ild1 (pc' := 77) dX8_guess_76 rfl ?_
            refine g_ild5 (pc' := 79) dX8_guess_77 rfl ?_
            refine g_ild6 (pc' := 81) dX8_guess_79 rfl ?_
            refine g_iconst (pc' := 82) (v := (-1)) dX8_guess_81 rfl (by decide) ?_
            refine g_callV (pc' := 85) (c_waysOf l xg sg hn hN hm hM hR hW x (-1) (a := a) (b := a + 1 + i) (by omega) (by omega)) xg.s0 (by decide) wX8_waysOf lX8_227 rfl rfl (Nat.le_of_ble_eq_true rfl) ⟨Nat.le_of_ble_eq_true rfl, Nat.le_of_ble_eq_true rfl⟩ ⟨Nat.le_of_ble_eq_true rfl, Nat.le_of_ble_eq_true rfl⟩ dX8_guess_82 rfl (kIp ?_)
            refine g_topi (v := nI (gsO I x m a (a + 1 + i))) rfl ?_
            refine g_ist8 (pc' := 87) rfl (by decide) dX8_guess_85 rfl ?_
            refine g_ild3 (pc' := 88) dX8_guess_87 rfl ?_
            refine g_ild2 (pc' := 89) dX8_guess_88 rfl ?_
            refine g_ifneN (pc' := 92) (by omega) (tgt := 97) dX8_guess_89 (by decide) rfl (fun h89 => ?_) (fun h89 => ?_)
            · refine g_ild7 (pc' := 99) dX8_guess_97 rfl ?_
              refine g_ild8 (pc' := 101) dX8_guess_99 rfl ?_
              refine g_callS (pc' := 104) (c_J9_max l S _ L R _ _) wJ9_max_7cf53 lX8_231 rfl rfl (Nat.le_of_ble_eq_true rfl) ⟨Nat.le_of_ble_eq_true rfl, Nat.le_of_ble_eq_true rfl⟩ ⟨Nat.le_of_ble_eq_true rfl, Nat.le_of_ble_eq_true rfl⟩ dX8_guess_101 rfl (kIp ?_)
              refine g_topi (v := nI (max (gsS I x m a (a + 1 + i)) (gsO I x m a (a + 1 + i)))) (maxN (by omega) (by omega)) ?_
              refine g_iaddN (pc' := 105) dX8_guess_104 rfl ?_
              refine g_ist3 (pc' := 106) rfl (by decide) dX8_guess_105 rfl ?_
              refine g_ild4 (pc' := 108) dX8_guess_106 rfl ?_
              refine g_ild7 (pc' := 110) dX8_guess_108 rfl ?_
              refine g_ild8 (pc' := 112) dX8_guess_110 rfl ?_
              refine g_iaddN (pc' := 113) dX8_guess_112 rfl ?_
              refine g_iaddN (pc' := 114) dX8_guess_113 rfl ?_
              refine g_ist4 (pc' := 116) rfl (by decide) dX8_guess_114 rfl ?_
              refine g_inc6 (pc' := 119) rfl (by decide) (v := nI (a + 1 + i + 1)) (nI_1 _) dX8_guess_116 rfl ?_
              refine g_goto (tgt := 51) dX8_guess_119 (by decide) ?_
              have g1 : gsH I x m w a (a + 1 + i) = max (gsS I x m a (a + 1 + i)) (gsO I x m a (a + 1 + i)) := by unfold gsH; rw [if_neg (by omega)]
              have e1 : prN (gsH I x m w) n a + sN (fun i => gsH I x m w a (a + 1 + i)) (i + 1) = prN (gsH I x m w) n a + sN (fun i => gsH I x m w a (a + 1 + i)) i + (max (gsS I x m a (a + 1 + i)) (gsO I x m a (a + 1 + i))) := by
                show _ + (_ + gsH I x m w a (a + 1 + i)) = _
                rw [g1]
                exact (Nat.add_assoc _ _ _).symm
              have e2 : prN (gsP I x m) n a + sN (fun i => gsP I x m a (a + 1 + i)) (i + 1) = prN (gsP I x m) n a + sN (fun i => gsP I x m a (a + 1 + i)) i + (gsS I x m a (a + 1 + i) + gsO I x m a (a + 1 + i)) := (Nat.add_assoc _ _ _).symm
              rw [← e1, ← e2]
              refine G.lsub [some (.inr (.inr (some (0, 0)))), some (.inl x), some (.inl (nI w)), some (.inl (nI (prN (gsH I x m w) n a + sN (fun i => gsH I x m w a (a + 1 + i)) (i + 1)))), some (.inl (nI (prN (gsP I x m) n a + sN (fun i => gsP I x m a (a + 1 + i)) (i + 1)))), some (.inl (nI a)), some (.inl (nI (a + 1 + i + 1))), none, none] (by intro j v; rcases j with _ | _ | _ | _ | _ | _ | _ | _ | _ | j <;> simp) ?_
              exact ih () trivial
            · refine g_ild7 (pc' := 94) dX8_guess_92 rfl ?_
              refine g_goto (tgt := 104) dX8_guess_94 (by decide) ?_
              refine g_iaddN (pc' := 105) dX8_guess_104 rfl ?_
              refine g_ist3 (pc' := 106) rfl (by decide) dX8_guess_105 rfl ?_
              refine g_ild4 (pc' := 108) dX8_guess_106 rfl ?_
              refine g_ild7 (pc' := 110) dX8_guess_108 rfl ?_
              refine g_ild8 (pc' := 112) dX8_guess_110 rfl ?_
              refine g_iaddN (pc' := 113) dX8_guess_112 rfl ?_
              refine g_iaddN (pc' := 114) dX8_guess_113 rfl ?_
              refine g_ist4 (pc' := 116) rfl (by decide) dX8_guess_114 rfl ?_
              refine g_inc6 (pc' := 119) rfl (by decide) (v := nI (a + 1 + i + 1)) (nI_1 _) dX8_guess_116 rfl ?_
              refine g_goto (tgt := 51) dX8_guess_119 (by decide) ?_
              have g1 : gsH I x m w a (a + 1 + i) = gsS I x m a (a + 1 + i) := by unfold gsH; rw [if_pos (by omega)]
              have e1 : prN (gsH I x m w) n a + sN (fun i => gsH I x m w a (a + 1 + i)) (i + 1) = prN (gsH I x m w) n a + sN (fun i => gsH I x m w a (a + 1 + i)) i + gsS I x m a (a + 1 + i) := by
                show _ + (_ + gsH I x m w a (a + 1 + i)) = _
                rw [g1]
                exact (Nat.add_assoc _ _ _).symm
              have e2 : prN (gsP I x m) n a + sN (fun i => gsP I x m a (a + 1 + i)) (i + 1) = prN (gsP I x m) n a + sN (fun i => gsP I x m a (a + 1 + i)) i + (gsS I x m a (a + 1 + i) + gsO I x m a (a + 1 + i)) := (Nat.add_assoc _ _ _).symm
              rw [← e1, ← e2]
              refine G.lsub [some (.inr (.inr (some (0, 0)))), some (.inl x), some (.inl (nI w)), some (.inl (nI (prN (gsH I x m w) n a + sN (fun i => gsH I x m w a (a + 1 + i)) (i + 1)))), some (.inl (nI (prN (gsP I x m) n a + sN (fun i => gsP I x m a (a + 1 + i)) (i + 1)))), some (.inl (nI a)), some (.inl (nI (a + 1 + i + 1))), none, none] (by intro j v; rcases j with _ | _ | _ | _ | _ | _ | _ | _ | _ | j <;> simp) ?_
              exact ih () trivial
        · intro s_ hP
          refine g_ild6 (pc' := 53) dX8_guess_51 rfl ?_
          refine g_ald0 (pc' := 54) dX8_guess_53 rfl ?_
          refine g_getR (pc' := 57) xg.s0 (by decide) fX8_10 xg.r0_0 dX8_guess_54 rfl ?_
          refine g_getI (pc' := 60) sg.s1 (by decide) fX8_88 hn dX8_guess_57 rfl ?_
          refine g_icmpgeN (pc' := 63) (by omega) (by omega) (tgt := 122) dX8_guess_60 (by decide) rfl (fun h60 => ?_) (fun h60 => ?_)
          · refine g_inc5 (pc' := 125) rfl (by decide) (v := nI (a + 1)) (nI_1 _) dX8_guess_122 rfl ?_
            refine g_goto (tgt := 33) dX8_guess_125 (by decide) ?_
            refine G.lsub [some (.inr (.inr (some (0, 0)))), some (.inl x), some (.inl (nI w)), some (.inl (nI (prN (gsH I x m w) n a + sN (fun i => gsH I x m w a (a + 1 + i)) (n - a - 1)))), some (.inl (nI (prN (gsP I x m) n a + sN (fun i => gsP I x m a (a + 1 + i)) (n - a - 1)))), some (.inl (nI (a + 1))), none, none, none] (by intro j v; rcases j with _ | _ | _ | _ | _ | _ | _ | _ | _ | j <;> simp) ?_
            exact ihA () trivial
          · exact absurd h60 (by omega)
    · intro s_ hP
      have hsm := prN_le (gsP_le I x hM) (n := n) hN n
      have hsm2 := prN_le (gsH_le I x w hM) (n := n) hN n
      refine g_ild5 (pc' := 35) dX8_guess_33 rfl ?_
      refine g_ald0 (pc' := 36) dX8_guess_35 rfl ?_
      refine g_getR (pc' := 39) xg.s0 (by decide) fX8_10 xg.r0_0 dX8_guess_36 rfl ?_
      refine g_getI (pc' := 42) sg.s1 (by decide) fX8_88 hn dX8_guess_39 rfl ?_
      refine g_icmpgeN (pc' := 45) (by omega) (by omega) (tgt := 128) dX8_guess_42 (by decide) rfl (fun h42 => ?_) (fun h42 => ?_)
      · refine g_ild4 (pc' := 130) dX8_guess_128 rfl ?_
        refine g_ifneN (pc' := 133) (by omega) (tgt := 138) dX8_guess_130 (by decide) rfl (fun h130 => ?_) (fun h130 => ?_)
        · refine g_ild3 (pc' := 139) dX8_guess_138 rfl ?_
          refine g_sipush (pc' := 142) (v := nI 1000) dX8_guess_139 rfl (by decide) ?_
          refine g_imulN (pc' := 143) dX8_guess_142 rfl ?_
          refine g_ild4 (pc' := 145) dX8_guess_143 rfl ?_
          refine g_idivN (pc' := 146) (by omega) dX8_guess_145 rfl ?_
          refine g_iret rfl dX8_guess_146 ?_
          exact eIp (by unfold gsV; first | rw [if_pos (by omega)] | rw [if_neg (by omega)])
        · refine g_bipush (pc' := 135) (v := (-2)) dX8_guess_133 rfl (by decide) ?_
          refine g_goto (tgt := 146) dX8_guess_135 (by decide) ?_
          refine g_iret rfl dX8_guess_146 ?_
          exact eIp (by unfold gsV; first | rw [if_pos (by omega)] | rw [if_neg (by omega)])
      · exact absurd h42 (by omega)
  · exact absurd h20 (by omega)
