/-! Law -/
def joinI (m : Nat) (a b : Int32) : Int32 := match m with
  | 6 => if a = 0 then (if b = 0 then nI 0 else nI 1) else nI 1
  | 7 => if a = 0 then nI 0 else (if b = 0 then nI 0 else nI 1)
  | 8 => if b ≤ a then nI 0 else nI 1
  | 9 => if a = b then nI 1 else nI 0
  | 10 => if a ≤ b then nI 0 else nI 1
  | 11 => a + b
  | 12 => a - b
  | 13 => a * b
  | 14 => if b = 0 then nI 0 else a / b
  | _ => if b = 0 then nI 0 else a - a / b * b
def clampI (t : Int32) : Int32 := maxI (nI 0) (minI t (nI 9999))
/-- the run of a program of marks on a stack -/
def wR (seen : Nat → Int32) (cd : Nat → Nat × Nat) (len : Nat) : Nat → Nat → List Int32 → Option Int32
  | 0, _, _ => none
  | f + 1, a, st => if len ≤ a then some (nI 0) else if 62 ≤ st.length then none else
    match (cd a).1, st with
    | 0, st => wR seen cd len f (a + 1) (nI (cd a).2 :: st)
    | 1, st => wR seen cd len f (a + 1) (seen (cd a).2 :: st)
    | 2, t :: r => wR seen cd len f (a + 1) ((if t = 0 then nI 1 else nI 0) :: r)
    | 3, t :: r => wR seen cd len f (a + 1) (-t :: r)
    | 4, t :: r => wR seen cd len f (if t = 0 then max (a + 1) (cd a).2 else a + 1) r
    | 5, t :: _ => some (clampI t)
    | m + 6, b :: a' :: r => wR seen cd len f (a + 1) (joinI (m + 6) a' b :: r)
    | _, _ => none
theorem mkLow {m x : Nat} (hm : m < 16) (hx : x < 10000) : nI (m + 256 * x) &&& nI 255 = nI m := by
  rw [pk_andN (by omega) 8 (by decide)]
  congr 1
  omega
theorem mkHigh {m x : Nat} (hm : m < 16) (hx : x < 10000) : nI (m + 256 * x) >>> (nI 8 &&& 31) = nI x := by
  rw [pk_shrN (by omega) (nI 8 &&& 31) 8 (by decide)]
  congr 1
  omega
theorem maxN {a b : Nat} (ha : a < 2 ^ 31) (hb : b < 2 ^ 31) : maxI (nI a) (nI b) = nI (max a b) := by
  unfold maxI
  by_cases h : a < b
  · rw [if_pos ((nI_ltI ha hb).mpr h), Nat.max_eq_right (by omega)]
  · rw [if_neg (fun q => h ((nI_ltI ha hb).mp q)), Nat.max_eq_left (by omega)]
theorem minN {a b : Nat} (ha : a < 2 ^ 31) (hb : b < 2 ^ 31) : minI (nI a) (nI b) = nI (min a b) := by
  unfold minI
  by_cases h : b < a
  · rw [if_pos ((nI_ltI hb ha).mpr h), Nat.min_eq_right (by omega)]
  · rw [if_neg (fun q => h ((nI_ltI hb ha).mp q)), Nat.min_eq_left (by omega)]
/-- the stack in its row -/
def stR (J : MI) (j : Nat) (st : List Int32) : Prop := ∀ i, i < st.length → J (9, j) (1 + st.length - i) = st.getD i 0
theorem stR.push {J : MI} {j : Nat} {st : List Int32} {v : Int32} (h : stR J j st) : stR (upM J (9, j) (2 + st.length) v) j (v :: st) := by
  intro i hi
  rw [List.length_cons] at hi ⊢
  cases i with
  | zero => rw [show 1 + (st.length + 1) - 0 = 2 + st.length by omega, upM_s]; rfl
  | succ i =>
    rw [upM_k _ _ (by omega), show 1 + (st.length + 1) - (i + 1) = 1 + st.length - i by omega, h i (by omega)]
    rfl
theorem stR.tail {J : MI} {j : Nat} {st : List Int32} {v : Int32} (h : stR J j (v :: st)) : stR J j st := by
  intro i hi
  have := h (i + 1) (by rw [List.length_cons]; omega)
  rw [List.length_cons, show 1 + (st.length + 1) - (i + 1) = 1 + st.length - i by omega] at this
  exact this
theorem stR.top {J : MI} {j : Nat} {st : List Int32} {v : Int32} (h : stR J j (v :: st)) : J (9, j) (2 + st.length) = v := by
  have := h 0 (by rw [List.length_cons]; omega)
  rw [List.length_cons, show 1 + (st.length + 1) - 0 = 2 + st.length by omega] at this
  exact this
theorem c_joined (l : Launch) {S : Shp} {I : MI} {L : ML} {R : MR} {m : Nat} (hm : 6 ≤ m ∧ m < 16) (a b : Int32) : Ct l mX2_joined 1 0 0 [.inl (nI m), .inl a, .inl b] S I L R (PIp S I L R (joinI m a b)) := by
  refine Ct.of [some (.inl (nI m)), some (.inl a), some (.inl b)] (by decide) rfl (Nat.le_of_ble_eq_true rfl) ?_
  refine g_ild0 (pc' := 1) dX2_joined_0 rfl ?_
  rcases (show m = 6 ∨ m = 7 ∨ m = 8 ∨ m = 9 ∨ m = 10 ∨ m = 11 ∨ m = 12 ∨ m = 13 ∨ m = 14 ∨ m = 15 by omega) with rfl | rfl | rfl | rfl | rfl | rfl | rfl | rfl | rfl | rfl
  · refine g_tin (off := 51) (tgt := 52) dX2_joined_1 (by decide) (by decide) (by decide) (by decide) ?_
    refine g_ild1 (pc' := 53) dX2_joined_52 rfl ?_
    refine g_ifne (pc' := 56) (tgt := 60) dX2_joined_53 (by decide) rfl (fun h53 => ?_) (fun h53 => ?_)
    · refine g_iconst (pc' := 61) (v := nI 1) dX2_joined_60 rfl (by decide) ?_
      refine g_goto (tgt := 65) dX2_joined_61 (by decide) ?_
      refine g_iret rfl dX2_joined_65 ?_
      exact eIp (by simp [joinI, *])
    · refine g_ild2 (pc' := 57) dX2_joined_56 rfl ?_
      refine g_ifeq (pc' := 60) (tgt := 64) dX2_joined_57 (by decide) rfl (fun h57 => ?_) (fun h57 => ?_)
      · refine g_iconst (pc' := 65) (v := nI 0) dX2_joined_64 rfl (by decide) ?_
        refine g_iret rfl dX2_joined_65 ?_
        exact eIp (by simp [joinI, *])
      · refine g_iconst (pc' := 61) (v := nI 1) dX2_joined_60 rfl (by decide) ?_
        refine g_goto (tgt := 65) dX2_joined_61 (by decide) ?_
        refine g_iret rfl dX2_joined_65 ?_
        exact eIp (by simp [joinI, *])
  · refine g_tin (off := 65) (tgt := 66) dX2_joined_1 (by decide) (by decide) (by decide) (by decide) ?_
    refine g_ild1 (pc' := 67) dX2_joined_66 rfl ?_
    refine g_ifeq (pc' := 70) (tgt := 78) dX2_joined_67 (by decide) rfl (fun h67 => ?_) (fun h67 => ?_)
    · refine g_iconst (pc' := 79) (v := nI 0) dX2_joined_78 rfl (by decide) ?_
      refine g_iret rfl dX2_joined_79 ?_
      exact eIp (by simp [joinI, *])
    · refine g_ild2 (pc' := 71) dX2_joined_70 rfl ?_
      refine g_ifeq (pc' := 74) (tgt := 78) dX2_joined_71 (by decide) rfl (fun h71 => ?_) (fun h71 => ?_)
      · refine g_iconst (pc' := 79) (v := nI 0) dX2_joined_78 rfl (by decide) ?_
        refine g_iret rfl dX2_joined_79 ?_
        exact eIp (by simp [joinI, *])
      · refine g_iconst (pc' := 75) (v := nI 1) dX2_joined_74 rfl (by decide) ?_
        refine g_goto (tgt := 79) dX2_joined_75 (by decide) ?_
        refine g_iret rfl dX2_joined_79 ?_
        exact eIp (by simp [joinI, *])
  · refine g_tin (off := 79) (tgt := 80) dX2_joined_1 (by decide) (by decide) (by decide) (by decide) ?_
    refine g_ild1 (pc' := 81) dX2_joined_80 rfl ?_
    refine g_ild2 (pc' := 82) dX2_joined_81 rfl ?_
    refine g_icmpge (pc' := 85) (tgt := 89) dX2_joined_82 (by decide) rfl (fun h82 => ?_) (fun h82 => ?_)
    · refine g_iconst (pc' := 90) (v := nI 0) dX2_joined_89 rfl (by decide) ?_
      refine g_iret rfl dX2_joined_90 ?_
      exact eIp (by simp [joinI, *])
    · refine g_iconst (pc' := 86) (v := nI 1) dX2_joined_85 rfl (by decide) ?_
      refine g_goto (tgt := 90) dX2_joined_86 (by decide) ?_
      refine g_iret rfl dX2_joined_90 ?_
      exact eIp (by simp [joinI, *])
  · refine g_tin (off := 90) (tgt := 91) dX2_joined_1 (by decide) (by decide) (by decide) (by decide) ?_
    refine g_ild1 (pc' := 92) dX2_joined_91 rfl ?_
    refine g_ild2 (pc' := 93) dX2_joined_92 rfl ?_
    refine g_icmpne (pc' := 96) (tgt := 100) dX2_joined_93 (by decide) rfl (fun h93 => ?_) (fun h93 => ?_)
    · refine g_iconst (pc' := 101) (v := nI 0) dX2_joined_100 rfl (by decide) ?_
      refine g_iret rfl dX2_joined_101 ?_
      exact eIp (by simp [joinI, *])
    · refine g_iconst (pc' := 97) (v := nI 1) dX2_joined_96 rfl (by decide) ?_
      refine g_goto (tgt := 101) dX2_joined_97 (by decide) ?_
      refine g_iret rfl dX2_joined_101 ?_
      exact eIp (by simp [joinI, *])
  · refine g_tin (off := 101) (tgt := 102) dX2_joined_1 (by decide) (by decide) (by decide) (by decide) ?_
    refine g_ild1 (pc' := 103) dX2_joined_102 rfl ?_
    refine g_ild2 (pc' := 104) dX2_joined_103 rfl ?_
    refine g_icmple (pc' := 107) (tgt := 111) dX2_joined_104 (by decide) rfl (fun h104 => ?_) (fun h104 => ?_)
    · refine g_iconst (pc' := 112) (v := nI 0) dX2_joined_111 rfl (by decide) ?_
      refine g_iret rfl dX2_joined_112 ?_
      exact eIp (by simp [joinI, *])
    · refine g_iconst (pc' := 108) (v := nI 1) dX2_joined_107 rfl (by decide) ?_
      refine g_goto (tgt := 112) dX2_joined_108 (by decide) ?_
      refine g_iret rfl dX2_joined_112 ?_
      exact eIp (by simp [joinI, *])
  · refine g_tin (off := 112) (tgt := 113) dX2_joined_1 (by decide) (by decide) (by decide) (by decide) ?_
    refine g_ild1 (pc' := 114) dX2_joined_113 rfl ?_
    refine g_ild2 (pc' := 115) dX2_joined_114 rfl ?_
    refine g_iadd (pc' := 116) dX2_joined_115 rfl ?_
    refine g_iret rfl dX2_joined_116 ?_
    exact eIp (by simp [joinI, *])
  · refine g_tin (off := 116) (tgt := 117) dX2_joined_1 (by decide) (by decide) (by decide) (by decide) ?_
    refine g_ild1 (pc' := 118) dX2_joined_117 rfl ?_
    refine g_ild2 (pc' := 119) dX2_joined_118 rfl ?_
    refine g_isub (pc' := 120) dX2_joined_119 rfl ?_
    refine g_iret rfl dX2_joined_120 ?_
    exact eIp (by simp [joinI, *])
  · refine g_tin (off := 120) (tgt := 121) dX2_joined_1 (by decide) (by decide) (by decide) (by decide) ?_
    refine g_ild1 (pc' := 122) dX2_joined_121 rfl ?_
    refine g_ild2 (pc' := 123) dX2_joined_122 rfl ?_
    refine g_imul (pc' := 124) dX2_joined_123 rfl ?_
    refine g_iret rfl dX2_joined_124 ?_
    exact eIp (by simp [joinI, *])
  · refine g_tin (off := 124) (tgt := 125) dX2_joined_1 (by decide) (by decide) (by decide) (by decide) ?_
    refine g_ild2 (pc' := 126) dX2_joined_125 rfl ?_
    refine g_ifne (pc' := 129) (tgt := 133) dX2_joined_126 (by decide) rfl (fun h126 => ?_) (fun h126 => ?_)
    · refine g_ild1 (pc' := 134) dX2_joined_133 rfl ?_
      refine g_ild2 (pc' := 135) dX2_joined_134 rfl ?_
      refine g_idiv (pc' := 136) dX2_joined_135 rfl h126 ?_
      refine g_iret rfl dX2_joined_136 ?_
      exact eIp (by simp [joinI, *])
    · refine g_iconst (pc' := 130) (v := nI 0) dX2_joined_129 rfl (by decide) ?_
      refine g_goto (tgt := 136) dX2_joined_130 (by decide) ?_
      refine g_iret rfl dX2_joined_136 ?_
      exact eIp (by simp [joinI, *])
  · refine g_tout (tgt := 137) dX2_joined_1 (by decide) (by decide) ?_
    refine g_ild2 (pc' := 138) dX2_joined_137 rfl ?_
    refine g_ifne (pc' := 141) (tgt := 145) dX2_joined_138 (by decide) rfl (fun h138 => ?_) (fun h138 => ?_)
    · refine g_ild1 (pc' := 146) dX2_joined_145 rfl ?_
      refine g_ild2 (pc' := 147) dX2_joined_146 rfl ?_
      refine g_irem (pc' := 148) dX2_joined_147 rfl h138 ?_
      refine g_iret rfl dX2_joined_148 ?_
      exact eIp (by simp [joinI, *])
    · refine g_iconst (pc' := 142) (v := nI 0) dX2_joined_141 rfl (by decide) ?_
      refine g_goto (tgt := 148) dX2_joined_142 (by decide) ?_
      refine g_iret rfl dX2_joined_148 ?_
      exact eIp (by simp [joinI, *])

theorem c_lawWeigh (l : Launch) {S : Shp} {I : MI} {L : ML} {R : MR} {j len sa sb : Nat} (lg : LG j len S R) (hs : S (sa, sb) = (1, 7)) (hse : ¬ (sa, sb) = (9, j)) (hlen : len ≤ 200) {cd : Nat → Nat × Nat} (hok : ∀ i, i < len → (cd i).1 < 16 ∧ (cd i).2 < 10000 ∧ ((cd i).1 = 1 → (cd i).2 < 7) ∧ ((cd i).1 = 4 → 1 ≤ (cd i).2)) (hcode : ∀ i, i < len → I (8, j) i = nI ((cd i).1 + 256 * (cd i).2)) {v : Int32} (hrun : wR (I (sa, sb)) cd len (len + 1) 0 [] = some v) : Ct l mX2_weigh 2 0 0 [.inr (.inr (some (7, j))), .inr (.inr (some (sa, sb)))] S I L R (PIm S L R (fun r I' => r = v ∧ Fr (fun t _ => t = (9, j)) I I')) := by
  refine Ct.of [some (.inr (.inr (some (7, j)))), some (.inr (.inr (some (sa, sb)))), none, none, none, none] (by decide) rfl (Nat.le_of_ble_eq_true rfl) ?_
  refine g_iconst (pc' := 1) (v := nI 2) dX2_weigh_0 rfl (by decide) ?_
  refine g_ist2 (pc' := 2) rfl (by decide) dX2_weigh_1 rfl ?_
  refine g_iconst (pc' := 3) (v := nI 0) dX2_weigh_2 rfl (by decide) ?_
  refine g_ist3 (pc' := 4) rfl (by decide) dX2_weigh_3 rfl ?_
  refine g_loopD (σ := Nat × List Int32 × MI) (fun f s => Fr (fun t _ => t = (9, j)) I s.2.2 ∧ stR s.2.2 j s.2.1 ∧ wR (I (sa, sb)) cd len f s.1 s.2.1 = some v ∧ s.1 ≤ 10000 ∧ s.2.1.length ≤ 62) (fun f s => [some (.inr (.inr (some (7, j)))), some (.inr (.inr (some (sa, sb)))), some (.inl (nI (2 + s.2.1.length))), some (.inl (nI s.1)), none, none]) (fun f s => s.2.2) (len + 1) (0, [], I) ⟨Fr.rf, fun i h => absurd h (by simp), hrun, by simp, by simp⟩ ?_
  intro f s hQ ihD
  obtain ⟨a, st, J⟩ := s
  simp only at hQ
  cases f with
  | zero => exact absurd hQ.2.2.1 (by simp [wR])
  | succ f =>
    have hw := hQ.2.2.1
    have hbd := hQ.2.2.2
    simp only [wR] at hw
    simp only at hbd ⊢
    refine g_ild3 (pc' := 5) dX2_weigh_4 rfl ?_
    refine g_ald0 (pc' := 6) dX2_weigh_5 rfl ?_
    refine g_getR (pc' := 9) lg.s7 (by decide) fX2_15 lg.r7_0 dX2_weigh_6 rfl ?_
    refine g_alen (pc' := 10) (by decide) lg.s8 dX2_weigh_9 rfl ?_
    refine g_icmpgeN (pc' := 13) (by omega) (by omega) (tgt := 264) dX2_weigh_10 (by decide) rfl (fun h10 => ?_) (fun h10 => ?_)
    · refine g_iconst (pc' := 265) (v := nI 0) dX2_weigh_264 rfl (by decide) ?_
      refine g_iret rfl dX2_weigh_265 ?_
      rw [if_pos (by omega)] at hw
      cases hw
      exact eI ⟨rfl, hQ.1⟩
    · refine g_ild2 (pc' := 14) dX2_weigh_13 rfl ?_
      refine g_iconst (pc' := 15) (v := nI 2) dX2_weigh_14 rfl (by decide) ?_
      refine g_icmpltN (pc' := 18) (by omega) (by omega) (tgt := 24) dX2_weigh_15 (by decide) rfl (fun h15 => ?_) (fun h15 => ?_)
      · refine g_iconst (pc' := 25) (v := nI 0) dX2_weigh_24 rfl (by decide) ?_
        refine g_iret rfl dX2_weigh_25 ?_
        exfalso
        rw [if_neg (by omega)] at hw
        first | omega | (rw [if_pos (by omega)] at hw; cases hw)
      · refine g_ild2 (pc' := 19) dX2_weigh_18 rfl ?_
        refine g_bipush (pc' := 21) (v := nI 64) dX2_weigh_19 rfl (by decide) ?_
        refine g_icmpltN (pc' := 24) (by omega) (by omega) (tgt := 26) dX2_weigh_21 (by decide) rfl (fun h21 => ?_) (fun h21 => ?_)
        · rw [if_neg (by omega), if_neg (by omega)] at hw
          obtain ⟨hm16, hx4, hok1, hok4⟩ := hok a (by omega)
          have hcd2 := hcode a (by omega)
          rw [← hQ.1 _ _ (by simp)] at hcd2
          generalize cd a = mx at *
          obtain ⟨m, x⟩ := mx
          simp only at hm16 hx4 hok1 hok4 hcd2 hw
          refine g_ald0 (pc' := 27) dX2_weigh_26 rfl ?_
          refine g_getR (pc' := 30) lg.s7 (by decide) fX2_15 lg.r7_0 dX2_weigh_27 rfl ?_
          refine g_ild3 (pc' := 31) dX2_weigh_30 rfl ?_
          refine g_iald (pc' := 32) (j := a) lg.s8 rfl (by omega) (by omega) (hcd2) dX2_weigh_31 rfl ?_
          refine g_sipush (pc' := 35) (v := nI 255) dX2_weigh_32 rfl (by decide) ?_
          refine g_iand (pc' := 36) dX2_weigh_35 rfl ?_
          refine g_topi (v := nI m) (mkLow hm16 hx4) ?_
          refine g_ist4 (pc' := 38) rfl (by decide) dX2_weigh_36 rfl ?_
          refine g_ald0 (pc' := 39) dX2_weigh_38 rfl ?_
          refine g_getR (pc' := 42) lg.s7 (by decide) fX2_15 lg.r7_0 dX2_weigh_39 rfl ?_
          refine g_ild3 (pc' := 43) dX2_weigh_42 rfl ?_
          refine g_iald (pc' := 44) (j := a) lg.s8 rfl (by omega) (by omega) (hcd2) dX2_weigh_43 rfl ?_
          refine g_bipush (pc' := 46) (v := nI 8) dX2_weigh_44 rfl (by decide) ?_
          refine g_ishr (pc' := 47) dX2_weigh_46 rfl ?_
          refine g_topi (v := nI x) (mkHigh hm16 hx4) ?_
          refine g_ist5 (pc' := 49) rfl (by decide) dX2_weigh_47 rfl ?_
          refine g_ild4 (pc' := 51) dX2_weigh_49 rfl ?_
          rcases (show m = 0 ∨ m = 1 ∨ m = 2 ∨ m = 3 ∨ m = 4 ∨ m = 5 ∨ 6 ≤ m by omega) with rfl | rfl | rfl | rfl | rfl | rfl | h6
          · refine g_tin (off := 37) (tgt := 88) dX2_weigh_51 (by decide) (by decide) (by decide) (by decide) ?_
            refine g_ald0 (pc' := 89) dX2_weigh_88 rfl ?_
            refine g_getR (pc' := 92) lg.s7 (by decide) fX2_11 lg.r7_1 dX2_weigh_89 rfl ?_
            refine g_ild2 (pc' := 93) dX2_weigh_92 rfl ?_
            refine g_ild5 (pc' := 95) dX2_weigh_93 rfl ?_
            refine g_iast (pc' := 96) (j := 2 + st.length) lg.s9 rfl (by omega) (by decide) dX2_weigh_95 rfl ?_
            refine g_inc2 (pc' := 99) rfl (by decide) (v := nI (2 + st.length + 1)) (nI_1 _) dX2_weigh_96 rfl ?_
            refine g_goto (tgt := 258) dX2_weigh_99 (by decide) ?_
            refine g_inc3 (pc' := 261) rfl (by decide) (v := nI (a + 1)) (nI_1 _) dX2_weigh_258 rfl ?_
            refine g_goto (tgt := 4) dX2_weigh_261 (by decide) ?_
            refine G.lsub [some (.inr (.inr (some (7, j)))), some (.inr (.inr (some (sa, sb)))), some (.inl (nI (2 + st.length + 1))), some (.inl (nI (a + 1))), none, none] (by intro j v; rcases j with _ | _ | _ | _ | _ | _ | j <;> simp) ?_
            exact ihD f (a + 1, nI x :: st, _) (by omega) ⟨hQ.1.up rfl, hQ.2.1.push, hw, by simp only; omega, by simp only [List.length_cons]; omega⟩
          · have hx7 := hok1 rfl
            refine g_tin (off := 51) (tgt := 102) dX2_weigh_51 (by decide) (by decide) (by decide) (by decide) ?_
            refine g_ald0 (pc' := 103) dX2_weigh_102 rfl ?_
            refine g_getR (pc' := 106) lg.s7 (by decide) fX2_11 lg.r7_1 dX2_weigh_103 rfl ?_
            refine g_ild2 (pc' := 107) dX2_weigh_106 rfl ?_
            refine g_ild5 (pc' := 109) dX2_weigh_107 rfl ?_
            refine g_ifltN (pc' := 112) (by omega) dX2_weigh_109 rfl ?_
            refine g_ild5 (pc' := 114) dX2_weigh_112 rfl ?_
            refine g_ald1 (pc' := 115) dX2_weigh_114 rfl ?_
            refine g_alen (pc' := 116) (by decide) hs dX2_weigh_115 rfl ?_
            refine g_icmpgeN (pc' := 119) (by omega) (by omega) (tgt := 126) dX2_weigh_116 (by decide) rfl (fun h116 => ?_) (fun h116 => ?_)
            · exact absurd h116 (by omega)
            · refine g_ald1 (pc' := 120) dX2_weigh_119 rfl ?_
              refine g_ild5 (pc' := 122) dX2_weigh_120 rfl ?_
              refine g_iald (pc' := 123) (j := x) hs rfl (by omega) (by decide) (hQ.1 _ _ hse) dX2_weigh_122 rfl ?_
              refine g_goto (tgt := 127) dX2_weigh_123 (by decide) ?_
              refine g_iast (pc' := 128) (j := 2 + st.length) lg.s9 rfl (by omega) (by decide) dX2_weigh_127 rfl ?_
              refine g_inc2 (pc' := 131) rfl (by decide) (v := nI (2 + st.length + 1)) (nI_1 _) dX2_weigh_128 rfl ?_
              refine g_goto (tgt := 258) dX2_weigh_131 (by decide) ?_
              refine g_inc3 (pc' := 261) rfl (by decide) (v := nI (a + 1)) (nI_1 _) dX2_weigh_258 rfl ?_
              refine g_goto (tgt := 4) dX2_weigh_261 (by decide) ?_
              refine G.lsub [some (.inr (.inr (some (7, j)))), some (.inr (.inr (some (sa, sb)))), some (.inl (nI (2 + st.length + 1))), some (.inl (nI (a + 1))), none, none] (by intro j v; rcases j with _ | _ | _ | _ | _ | _ | j <;> simp) ?_
              exact ihD f (a + 1, I (sa, sb) x :: st, _) (by omega) ⟨hQ.1.up rfl, hQ.2.1.push, hw, by simp only; omega, by simp only [List.length_cons]; omega⟩
          · cases st with
            | nil => simp at hw
            | cons t r =>
              have htop := hQ.2.1.top
              have hlen : (t :: r).length = r.length + 1 := rfl
              simp only [hlen] at *
              refine g_tin (off := 83) (tgt := 134) dX2_weigh_51 (by decide) (by decide) (by decide) (by decide) ?_
              refine g_ald0 (pc' := 135) dX2_weigh_134 rfl ?_
              refine g_getR (pc' := 138) lg.s7 (by decide) fX2_11 lg.r7_1 dX2_weigh_135 rfl ?_
              refine g_ild2 (pc' := 139) dX2_weigh_138 rfl ?_
              refine g_iconst (pc' := 140) (v := nI 1) dX2_weigh_139 rfl (by decide) ?_
              refine g_isubN (pc' := 141) (by omega) dX2_weigh_140 rfl ?_
              refine g_ald0 (pc' := 142) dX2_weigh_141 rfl ?_
              refine g_getR (pc' := 145) lg.s7 (by decide) fX2_11 lg.r7_1 dX2_weigh_142 rfl ?_
              refine g_ild2 (pc' := 146) dX2_weigh_145 rfl ?_
              refine g_iconst (pc' := 147) (v := nI 1) dX2_weigh_146 rfl (by decide) ?_
              refine g_isubN (pc' := 148) (by omega) dX2_weigh_147 rfl ?_
              refine g_iald (pc' := 149) (j := (2 + (r.length + 1)) - 1) lg.s9 rfl (by omega) (by decide) ((congrArg (J (9, j)) (show 2 + (r.length + 1) - 1 = 2 + r.length by omega)).trans htop) dX2_weigh_148 rfl ?_
              refine g_ifne (pc' := 152) (tgt := 156) dX2_weigh_149 (by decide) rfl (fun h149 => ?_) (fun h149 => ?_)
              · refine g_iconst (pc' := 157) (v := nI 0) dX2_weigh_156 rfl (by decide) ?_
                refine g_iast (pc' := 158) (j := (2 + (r.length + 1)) - 1) lg.s9 rfl (by omega) (by decide) dX2_weigh_157 rfl ?_
                refine g_goto (tgt := 258) dX2_weigh_158 (by decide) ?_
                refine g_inc3 (pc' := 261) rfl (by decide) (v := nI (a + 1)) (nI_1 _) dX2_weigh_258 rfl ?_
                refine g_goto (tgt := 4) dX2_weigh_261 (by decide) ?_
                refine G.lsub [some (.inr (.inr (some (7, j)))), some (.inr (.inr (some (sa, sb)))), some (.inl (nI (2 + (r.length + 1)))), some (.inl (nI (a + 1))), none, none] (by intro j v; rcases j with _ | _ | _ | _ | _ | _ | j <;> simp) ?_
                have hpos : 2 + (r.length + 1) - 1 = 2 + r.length := by omega
                first | rw [if_pos h149] at hw | rw [if_neg h149] at hw
                rw [hpos]
                exact ihD f (a + 1, _ :: r, _) (by omega) ⟨hQ.1.up rfl, hQ.2.1.tail.push, hw, by simp only; omega, by simp only [List.length_cons]; omega⟩
              · refine g_iconst (pc' := 153) (v := nI 1) dX2_weigh_152 rfl (by decide) ?_
                refine g_goto (tgt := 157) dX2_weigh_153 (by decide) ?_
                refine g_iast (pc' := 158) (j := (2 + (r.length + 1)) - 1) lg.s9 rfl (by omega) (by decide) dX2_weigh_157 rfl ?_
                refine g_goto (tgt := 258) dX2_weigh_158 (by decide) ?_
                refine g_inc3 (pc' := 261) rfl (by decide) (v := nI (a + 1)) (nI_1 _) dX2_weigh_258 rfl ?_
                refine g_goto (tgt := 4) dX2_weigh_261 (by decide) ?_
                refine G.lsub [some (.inr (.inr (some (7, j)))), some (.inr (.inr (some (sa, sb)))), some (.inl (nI (2 + (r.length + 1)))), some (.inl (nI (a + 1))), none, none] (by intro j v; rcases j with _ | _ | _ | _ | _ | _ | j <;> simp) ?_
                have hpos : 2 + (r.length + 1) - 1 = 2 + r.length := by omega
                first | rw [if_pos h149] at hw | rw [if_neg h149] at hw
                rw [hpos]
                exact ihD f (a + 1, _ :: r, _) (by omega) ⟨hQ.1.up rfl, hQ.2.1.tail.push, hw, by simp only; omega, by simp only [List.length_cons]; omega⟩
          · cases st with
            | nil => simp at hw
            | cons t r =>
              have htop := hQ.2.1.top
              have hlen : (t :: r).length = r.length + 1 := rfl
              simp only [hlen] at *
              refine g_tin (off := 110) (tgt := 161) dX2_weigh_51 (by decide) (by decide) (by decide) (by decide) ?_
              refine g_ald0 (pc' := 162) dX2_weigh_161 rfl ?_
              refine g_getR (pc' := 165) lg.s7 (by decide) fX2_11 lg.r7_1 dX2_weigh_162 rfl ?_
              refine g_ild2 (pc' := 166) dX2_weigh_165 rfl ?_
              refine g_iconst (pc' := 167) (v := nI 1) dX2_weigh_166 rfl (by decide) ?_
              refine g_isubN (pc' := 168) (by omega) dX2_weigh_167 rfl ?_
              refine g_ald0 (pc' := 169) dX2_weigh_168 rfl ?_
              refine g_getR (pc' := 172) lg.s7 (by decide) fX2_11 lg.r7_1 dX2_weigh_169 rfl ?_
              refine g_ild2 (pc' := 173) dX2_weigh_172 rfl ?_
              refine g_iconst (pc' := 174) (v := nI 1) dX2_weigh_173 rfl (by decide) ?_
              refine g_isubN (pc' := 175) (by omega) dX2_weigh_174 rfl ?_
              refine g_iald (pc' := 176) (j := (2 + (r.length + 1)) - 1) lg.s9 rfl (by omega) (by decide) ((congrArg (J (9, j)) (show 2 + (r.length + 1) - 1 = 2 + r.length by omega)).trans htop) dX2_weigh_175 rfl ?_
              refine g_ineg (pc' := 177) dX2_weigh_176 rfl ?_
              refine g_iast (pc' := 178) (j := (2 + (r.length + 1)) - 1) lg.s9 rfl (by omega) (by decide) dX2_weigh_177 rfl ?_
              refine g_goto (tgt := 258) dX2_weigh_178 (by decide) ?_
              refine g_inc3 (pc' := 261) rfl (by decide) (v := nI (a + 1)) (nI_1 _) dX2_weigh_258 rfl ?_
              refine g_goto (tgt := 4) dX2_weigh_261 (by decide) ?_
              refine G.lsub [some (.inr (.inr (some (7, j)))), some (.inr (.inr (some (sa, sb)))), some (.inl (nI (2 + (r.length + 1)))), some (.inl (nI (a + 1))), none, none] (by intro j v; rcases j with _ | _ | _ | _ | _ | _ | j <;> simp) ?_
              have hpos : 2 + (r.length + 1) - 1 = 2 + r.length := by omega
              rw [hpos]
              exact ihD f (a + 1, _ :: r, _) (by omega) ⟨hQ.1.up rfl, hQ.2.1.tail.push, hw, by simp only; omega, by simp only [List.length_cons]; omega⟩
          · cases st with
            | nil => simp at hw
            | cons t r =>
              have htop := hQ.2.1.top
              have hx1 := hok4 rfl
              have hlen : (t :: r).length = r.length + 1 := rfl
              simp only [hlen] at *
              refine g_tin (off := 130) (tgt := 181) dX2_weigh_51 (by decide) (by decide) (by decide) (by decide) ?_
              refine g_inc2 (pc' := 184) rfl (by decide) (v := nI (2 + r.length)) (nI_m1 (by omega)) dX2_weigh_181 rfl ?_
              refine g_ald0 (pc' := 185) dX2_weigh_184 rfl ?_
              refine g_getR (pc' := 188) lg.s7 (by decide) fX2_11 lg.r7_1 dX2_weigh_185 rfl ?_
              refine g_ild2 (pc' := 189) dX2_weigh_188 rfl ?_
              refine g_iald (pc' := 190) (j := 2 + r.length) lg.s9 rfl (by omega) (by decide) htop dX2_weigh_189 rfl ?_
              refine g_ifne (pc' := 193) (tgt := 204) dX2_weigh_190 (by decide) rfl (fun h190 => ?_) (fun h190 => ?_)
              · refine g_ild3 (pc' := 205) dX2_weigh_204 rfl ?_
                refine g_ist3 (pc' := 206) rfl (by decide) dX2_weigh_205 rfl ?_
                refine g_goto (tgt := 258) dX2_weigh_206 (by decide) ?_
                refine g_inc3 (pc' := 261) rfl (by decide) (v := nI (a + 1)) (nI_1 _) dX2_weigh_258 rfl ?_
                refine g_goto (tgt := 4) dX2_weigh_261 (by decide) ?_
                refine G.lsub [some (.inr (.inr (some (7, j)))), some (.inr (.inr (some (sa, sb)))), some (.inl (nI (2 + r.length))), some (.inl (nI (a + 1))), none, none] (by intro j v; rcases j with _ | _ | _ | _ | _ | _ | j <;> simp) ?_
                rw [if_neg h190] at hw
                exact ihD f (a + 1, r, _) (by omega) ⟨hQ.1, hQ.2.1.tail, hw, by simp only; omega, by simp only; omega⟩
              · refine g_ild3 (pc' := 194) dX2_weigh_193 rfl ?_
                refine g_ild5 (pc' := 196) dX2_weigh_194 rfl ?_
                refine g_iconst (pc' := 197) (v := nI 1) dX2_weigh_196 rfl (by decide) ?_
                refine g_isubN (pc' := 198) (by omega) dX2_weigh_197 rfl ?_
                refine g_callS (pc' := 201) (c_J9_max l S _ L R _ _) wJ9_max_7cf53 lX2_18 rfl rfl (Nat.le_of_ble_eq_true rfl) ⟨Nat.le_of_ble_eq_true rfl, Nat.le_of_ble_eq_true rfl⟩ ⟨Nat.le_of_ble_eq_true rfl, Nat.le_of_ble_eq_true rfl⟩ dX2_weigh_198 rfl (kIp ?_)
                refine g_topi (v := nI (max a (x - 1))) (maxN (by omega) (by omega)) ?_
                refine g_goto (tgt := 205) dX2_weigh_201 (by decide) ?_
                refine g_ist3 (pc' := 206) rfl (by decide) dX2_weigh_205 rfl ?_
                refine g_goto (tgt := 258) dX2_weigh_206 (by decide) ?_
                refine g_inc3 (pc' := 261) rfl (by decide) (v := nI (max a (x - 1) + 1)) (nI_1 _) dX2_weigh_258 rfl ?_
                refine g_goto (tgt := 4) dX2_weigh_261 (by decide) ?_
                refine G.lsub [some (.inr (.inr (some (7, j)))), some (.inr (.inr (some (sa, sb)))), some (.inl (nI (2 + r.length))), some (.inl (nI (max a (x - 1) + 1))), none, none] (by intro j v; rcases j with _ | _ | _ | _ | _ | _ | j <;> simp) ?_
                rw [if_pos h190] at hw
                rw [show max a (x - 1) + 1 = max (a + 1) x by omega]
                exact ihD f (max (a + 1) x, r, _) (by omega) ⟨hQ.1, hQ.2.1.tail, hw, by simp only; omega, by simp only; omega⟩
          · cases st with
            | nil => simp at hw
            | cons t r =>
              have htop := hQ.2.1.top
              have hlen : (t :: r).length = r.length + 1 := rfl
              simp only [hlen] at *
              refine g_tin (off := 158) (tgt := 209) dX2_weigh_51 (by decide) (by decide) (by decide) (by decide) ?_
              refine g_iconst (pc' := 210) (v := nI 0) dX2_weigh_209 rfl (by decide) ?_
              refine g_ald0 (pc' := 211) dX2_weigh_210 rfl ?_
              refine g_getR (pc' := 214) lg.s7 (by decide) fX2_11 lg.r7_1 dX2_weigh_211 rfl ?_
              refine g_ild2 (pc' := 215) dX2_weigh_214 rfl ?_
              refine g_iconst (pc' := 216) (v := nI 1) dX2_weigh_215 rfl (by decide) ?_
              refine g_isubN (pc' := 217) (by omega) dX2_weigh_216 rfl ?_
              refine g_iald (pc' := 218) (j := (2 + (r.length + 1)) - 1) lg.s9 rfl (by omega) (by decide) ((congrArg (J (9, j)) (show 2 + (r.length + 1) - 1 = 2 + r.length by omega)).trans htop) dX2_weigh_217 rfl ?_
              refine g_sipush (pc' := 221) (v := nI 9999) dX2_weigh_218 rfl (by decide) ?_
              refine g_callS (pc' := 224) (c_J9_min l S _ L R _ _) wJ9_min_7cf53 lX2_24 rfl rfl (Nat.le_of_ble_eq_true rfl) ⟨Nat.le_of_ble_eq_true rfl, Nat.le_of_ble_eq_true rfl⟩ ⟨Nat.le_of_ble_eq_true rfl, Nat.le_of_ble_eq_true rfl⟩ dX2_weigh_221 rfl (kIp ?_)
              refine g_callS (pc' := 227) (c_J9_max l S _ L R _ _) wJ9_max_7cf53 lX2_18 rfl rfl (Nat.le_of_ble_eq_true rfl) ⟨Nat.le_of_ble_eq_true rfl, Nat.le_of_ble_eq_true rfl⟩ ⟨Nat.le_of_ble_eq_true rfl, Nat.le_of_ble_eq_true rfl⟩ dX2_weigh_224 rfl (kIp ?_)
              refine g_iret rfl dX2_weigh_227 ?_
              cases hw
              exact eI ⟨rfl, hQ.1⟩
          · cases st with
            | nil => obtain ⟨m6, rfl⟩ : ∃ m6, m = m6 + 6 := ⟨m - 6, by omega⟩; simp at hw
            | cons b r2 => cases r2 with
              | nil => obtain ⟨m6, rfl⟩ : ∃ m6, m = m6 + 6 := ⟨m - 6, by omega⟩; simp at hw
              | cons b2 r =>
                have htop := hQ.2.1.top
                have htop2 := hQ.2.1.tail.top
                have hlen : (b :: b2 :: r).length = r.length + 2 := rfl
                have hlen2 : (b2 :: r).length = r.length + 1 := rfl
                have hw2 : wR (I (sa, sb)) cd len f (a + 1) (joinI m b2 b :: r) = some v := by
                  obtain ⟨m6, rfl⟩ : ∃ m6, m = m6 + 6 := ⟨m - 6, by omega⟩
                  exact hw
                simp only [hlen, hlen2] at *
                refine g_tout (tgt := 228) dX2_weigh_51 (Or.inr (by rw [nI_toInt (by omega)]; omega)) (by decide) ?_
                refine g_inc2 (pc' := 231) rfl (by decide) (v := nI (2 + (r.length + 1))) (nI_m1 (by omega)) dX2_weigh_228 rfl ?_
                refine g_ald0 (pc' := 232) dX2_weigh_231 rfl ?_
                refine g_getR (pc' := 235) lg.s7 (by decide) fX2_11 lg.r7_1 dX2_weigh_232 rfl ?_
                refine g_ild2 (pc' := 236) dX2_weigh_235 rfl ?_
                refine g_iconst (pc' := 237) (v := nI 1) dX2_weigh_236 rfl (by decide) ?_
                refine g_isubN (pc' := 238) (by omega) dX2_weigh_237 rfl ?_
                refine g_ild4 (pc' := 240) dX2_weigh_238 rfl ?_
                refine g_ald0 (pc' := 241) dX2_weigh_240 rfl ?_
                refine g_getR (pc' := 244) lg.s7 (by decide) fX2_11 lg.r7_1 dX2_weigh_241 rfl ?_
                refine g_ild2 (pc' := 245) dX2_weigh_244 rfl ?_
                refine g_iconst (pc' := 246) (v := nI 1) dX2_weigh_245 rfl (by decide) ?_
                refine g_isubN (pc' := 247) (by omega) dX2_weigh_246 rfl ?_
                refine g_iald (pc' := 248) (j := (2 + (r.length + 1)) - 1) lg.s9 rfl (by omega) (by decide) ((congrArg (J (9, j)) (show 2 + (r.length + 1) - 1 = 2 + r.length by omega)).trans htop2) dX2_weigh_247 rfl ?_
                refine g_ald0 (pc' := 249) dX2_weigh_248 rfl ?_
                refine g_getR (pc' := 252) lg.s7 (by decide) fX2_11 lg.r7_1 dX2_weigh_249 rfl ?_
                refine g_ild2 (pc' := 253) dX2_weigh_252 rfl ?_
                refine g_iald (pc' := 254) (j := 2 + (r.length + 1)) lg.s9 rfl (by omega) (by decide) htop dX2_weigh_253 rfl ?_
                refine g_callS (pc' := 257) (c_joined l ⟨h6, hm16⟩ b2 b) wX2_joined lX2_27 rfl rfl (Nat.le_of_ble_eq_true rfl) ⟨Nat.le_of_ble_eq_true rfl, Nat.le_of_ble_eq_true rfl⟩ ⟨Nat.le_of_ble_eq_true rfl, Nat.le_of_ble_eq_true rfl⟩ dX2_weigh_254 rfl (kIp ?_)
                refine g_iast (pc' := 258) (j := (2 + (r.length + 1)) - 1) lg.s9 rfl (by omega) (by decide) dX2_weigh_257 rfl ?_
                refine g_inc3 (pc' := 261) rfl (by decide) (v := nI (a + 1)) (nI_1 _) dX2_weigh_258 rfl ?_
                refine g_goto (tgt := 4) dX2_weigh_261 (by decide) ?_
                refine G.lsub [some (.inr (.inr (some (7, j)))), some (.inr (.inr (some (sa, sb)))), some (.inl (nI (2 + (r.length + 1)))), some (.inl (nI (a + 1))), none, none] (by intro j v; rcases j with _ | _ | _ | _ | _ | _ | j <;> simp) ?_
                have hpos : 2 + (r.length + 1) - 1 = 2 + r.length := by omega
                rw [hpos]
                exact ihD f (a + 1, joinI m b2 b :: r, _) (by omega) ⟨hQ.1.up rfl, hQ.2.1.tail.tail.push, hw2, by simp only; omega, by simp only [List.length_cons]; omega⟩
        · refine g_iconst (pc' := 25) (v := nI 0) dX2_weigh_24 rfl (by decide) ?_
          refine g_iret rfl dX2_weigh_25 ?_
          exfalso
          rw [if_neg (by omega)] at hw
          first | omega | (rw [if_pos (by omega)] at hw; cases hw)
