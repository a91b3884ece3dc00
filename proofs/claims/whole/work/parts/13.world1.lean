/-! Songs and World: what asks nothing of a LAW -/
def bI (b : Bool) : Int32 := if b then nI 1 else nI 0
theorem narB (b : Bool) : narrow .boolean (.int (bI b)) = .int (bI b) := by cases b <;> decide
theorem bI_0 {b : Bool} : bI b = 0 ↔ b = false := by cases b <;> decide
section B
variable {l : Launch} {mi : MInf} {Rm : Room} {Qf : QF} {k n pc pc' : Nat} {S : Shp} {I : MI} {L : ML} {R : MR} {lv : List (Option PV)} {st : List PV}
theorem g_ifeqB {b : Bool} {off : Int} {tgt : Nat} (hd : decode mi.2.1 pc = .ok (.ifCond .eq off, 3)) (ht : (pc : Int) + off = (tgt : Int)) (hp : pc + 3 = pc') (kt : b = false → G l mi Rm Qf k n tgt lv st S I L R) (kf : b = true → G l mi Rm Qf k n pc' lv st S I L R) : G l mi Rm Qf k n pc lv (.inl (bI b) :: st) S I L R := g_ifeq hd ht hp (fun h => kt (bI_0.mp h)) (fun h => kf (by cases b; exact absurd (by decide) h; rfl))
theorem g_ifneB {b : Bool} {off : Int} {tgt : Nat} (hd : decode mi.2.1 pc = .ok (.ifCond .ne off, 3)) (ht : (pc : Int) + off = (tgt : Int)) (hp : pc + 3 = pc') (kt : b = true → G l mi Rm Qf k n tgt lv st S I L R) (kf : b = false → G l mi Rm Qf k n pc' lv st S I L R) : G l mi Rm Qf k n pc lv (.inl (bI b) :: st) S I L R := g_ifne hd ht hp (fun h => kt (by cases b; exact absurd (by decide) h; rfl)) (fun h => kf (bI_0.mp h))
end B
def inb (x : Int32) (n : Nat) : Bool := decide (0 ≤ x) && decide (x < nI n)
theorem inb_nI {j n : Nat} (hj : j < 2 ^ 31) (hn : n < 2 ^ 31) : inb (nI j) n = decide (j < n) := by
  have h0 : (0 : Int32) ≤ nI j := nI_pos' hj
  unfold inb
  rw [decide_eq_true h0, Bool.true_and]
  exact decide_eq_decide.mpr (nI_ltI hj hn)
theorem inb_of {x : Int32} {n : Nat} (hn : n < 2 ^ 31) (h : inb x n = true) : ∃ j, j < n ∧ x = nI j := by
  unfold inb at h
  rw [Bool.and_eq_true, decide_eq_true_eq, decide_eq_true_eq] at h
  obtain ⟨j, hj, rfl⟩ := nI_of (Int32.not_lt.mpr h.1)
  exact ⟨j, (nI_ltI hj hn).mp h.2, rfl⟩
def sumN (f : Nat → Int32) : Nat → Int32
  | 0 => nI 0
  | n + 1 => sumN f n + f n
def drawnI (z : Int32) : Int32 := z * 1103515245 + nI 12345
theorem hasL {x : Int32} {n : Nat} (hN : n ≤ 12) {v : Int32} (h : v = if ¬ x < 0 ∧ ¬ nI n ≤ x ∧ ¬ nI 12 ≤ x then nI 1 else nI 0) : v = bI (inb x n) := by
  rw [h]
  simp only [Int32.not_lt, Int32.not_le]
  unfold bI inb
  by_cases h0 : 0 ≤ x
  · obtain ⟨j, hj, rfl⟩ := nI_of (Int32.not_lt.mpr h0)
    have e1 : nI j < nI n ↔ j < n := nI_ltI hj (by omega)
    have e2 : nI j < nI 12 ↔ j < 12 := nI_ltI hj (by omega)
    by_cases h1 : j < n
    · simp [h0, e1, e2, h1, show j < 12 by omega]
    · simp [e1, h1]
  · simp [h0]
theorem c_has (l : Launch) {S : Shp} {I : MI} {L : ML} {R : MR} (sg : SG S R) {n : Nat} (hn : I (1, 0) 1 = nI n) (hN : n ≤ 12) (x : Int32) : Ct l mX5_has 1 0 0 [.inr (.inr (some (1, 0))), .inl x] S I L R (PIp S I L R (bI (inb x n))) := by
  refine Ct.of [some (.inr (.inr (some (1, 0)))), some (.inl x)] (by decide) rfl (Nat.le_of_ble_eq_true rfl) ?_
  refine g_ild1 (pc' := 1) dX5_has_0 rfl ?_
  refine g_iflt (pc' := 4) (tgt := 22) dX5_has_1 (by decide) rfl (fun h1 => ?_) (fun h1 => ?_)
  · refine g_iconst (pc' := 23) (v := nI 0) dX5_has_22 rfl (by decide) ?_
    refine g_zret (ty := .boolean) rfl (by decide) dX5_has_23 ?_
    exact eIp (hasL hN (by simp [*]))
  · refine g_ild1 (pc' := 5) dX5_has_4 rfl ?_
    refine g_ald0 (pc' := 6) dX5_has_5 rfl ?_
    refine g_getI (pc' := 9) sg.s1 (by decide) fX5_15 hn dX5_has_6 rfl ?_
    refine g_icmpge (pc' := 12) (tgt := 22) dX5_has_9 (by decide) rfl (fun h9 => ?_) (fun h9 => ?_)
    · refine g_iconst (pc' := 23) (v := nI 0) dX5_has_22 rfl (by decide) ?_
      refine g_zret (ty := .boolean) rfl (by decide) dX5_has_23 ?_
      exact eIp (hasL hN (by simp [*]))
    · refine g_ild1 (pc' := 13) dX5_has_12 rfl ?_
      refine g_bipush (pc' := 15) (v := nI 12) dX5_has_13 rfl (by decide) ?_
      refine g_icmpge (pc' := 18) (tgt := 22) dX5_has_15 (by decide) rfl (fun h15 => ?_) (fun h15 => ?_)
      · refine g_iconst (pc' := 23) (v := nI 0) dX5_has_22 rfl (by decide) ?_
        refine g_zret (ty := .boolean) rfl (by decide) dX5_has_23 ?_
        exact eIp (hasL hN (by simp [*]))
      · refine g_iconst (pc' := 19) (v := nI 1) dX5_has_18 rfl (by decide) ?_
        refine g_goto (tgt := 23) dX5_has_19 (by decide) ?_
        refine g_zret (ty := .boolean) rfl (by decide) dX5_has_23 ?_
        exact eIp (hasL hN (by simp [*]))

theorem c_allWorths (l : Launch) {S : Shp} {I : MI} {L : ML} {R : MR} (sg : SG S R) {n : Nat} (hn : I (1, 0) 1 = nI n) (hN : n ≤ 12) : Ct l mX5_allWorths 1 0 0 [.inr (.inr (some (1, 0)))] S I L R (PIp S I L R (sumN (I (2, 0)) n)) := by
  refine Ct.of [some (.inr (.inr (some (1, 0)))), none, none] (by decide) rfl (Nat.le_of_ble_eq_true rfl) ?_
  refine g_iconst (pc' := 1) (v := nI 0) dX5_allWorths_0 rfl (by decide) ?_
  refine g_ist1 (pc' := 2) rfl (by decide) dX5_allWorths_1 rfl ?_
  refine g_iconst (pc' := 3) (v := nI 0) dX5_allWorths_2 rfl (by decide) ?_
  refine g_ist2 (pc' := 4) rfl (by decide) dX5_allWorths_3 rfl ?_
  refine g_loop (σ := Unit) (fun _ _ => True) (fun i s => [some (.inr (.inr (some (1, 0)))), some (.inl (sumN (I (2, 0)) i)), some (.inl (nI i))]) (fun i s => I) (n) (0) () (by omega) (trivial) ?_ ?_
  · intro i s hi hP ih
    refine g_ild2 (pc' := 5) dX5_allWorths_4 rfl ?_
    refine g_ald0 (pc' := 6) dX5_allWorths_5 rfl ?_
    refine g_getI (pc' := 9) sg.s1 (by decide) fX5_15 hn dX5_allWorths_6 rfl ?_
    refine g_icmpgeN (pc' := 12) (by omega) (by omega) (tgt := 27) dX5_allWorths_9 (by decide) rfl (fun h9 => ?_) (fun h9 => ?_)
    · exact absurd h9 (by omega)
    · refine g_ild1 (pc' := 13) dX5_allWorths_12 rfl ?_
      refine g_ald0 (pc' := 14) dX5_allWorths_13 rfl ?_
      refine g_getR (pc' := 17) sg.s1 (by decide) fX5_9 sg.r1_0 dX5_allWorths_14 rfl ?_
      refine g_ild2 (pc' := 18) dX5_allWorths_17 rfl ?_
      refine g_iald (pc' := 19) (j := i) sg.s2 rfl (by omega) (by decide) rfl dX5_allWorths_18 rfl ?_
      refine g_iadd (pc' := 20) dX5_allWorths_19 rfl ?_
      refine g_ist1 (pc' := 21) rfl (by decide) dX5_allWorths_20 rfl ?_
      refine g_inc2 (pc' := 24) rfl (by decide) (v := nI (i + 1)) (nI_1 _) dX5_allWorths_21 rfl ?_
      refine g_goto (tgt := 4) dX5_allWorths_24 (by decide) ?_
      exact ih () trivial
  · intro s hP
    refine g_ild2 (pc' := 5) dX5_allWorths_4 rfl ?_
    refine g_ald0 (pc' := 6) dX5_allWorths_5 rfl ?_
    refine g_getI (pc' := 9) sg.s1 (by decide) fX5_15 hn dX5_allWorths_6 rfl ?_
    refine g_icmpgeN (pc' := 12) (by omega) (by omega) (tgt := 27) dX5_allWorths_9 (by decide) rfl (fun h9 => ?_) (fun h9 => ?_)
    · refine g_ild1 (pc' := 28) dX5_allWorths_27 rfl ?_
      refine g_iret rfl dX5_allWorths_28 ?_
      exact eIp rfl
    · exact absurd h9 (by omega)

theorem c_drawn (l : Launch) {S : Shp} {I : MI} {L : ML} {R : MR} (z : Int32) : Ct l mX7_drawn 1 0 0 [.inl z] S I L R (PIp S I L R (drawnI z)) := by
  refine Ct.of [some (.inl z)] (by decide) rfl (Nat.le_of_ble_eq_true rfl) ?_
  refine g_ild0 (pc' := 1) dX7_drawn_0 rfl ?_
  refine g_ldc (pc' := 3) dX7_drawn_1 rfl kX7_37 ?_
  refine g_imul (pc' := 4) dX7_drawn_3 rfl ?_
  refine g_sipush (pc' := 7) (v := nI 12345) dX7_drawn_4 rfl (by decide) ?_
  refine g_iadd (pc' := 8) dX7_drawn_7 rfl ?_
  refine g_iret rfl dX7_drawn_8 ?_
  exact eIp rfl

theorem c_allCounts (l : Launch) {S : Shp} {I : MI} {L : ML} {R : MR} (sg : SG S R) {k n : Nat} (wg : WG k S R) (hn : I (1, 0) 1 = nI n) (hN : n ≤ 12) : Ct l mX7_allCounts 1 0 0 [.inr (.inr (some (11, k)))] S I L R (PIp S I L R (sumN (I (12, k)) n)) := by
  refine Ct.of [some (.inr (.inr (some (11, k)))), none, none] (by decide) rfl (Nat.le_of_ble_eq_true rfl) ?_
  refine g_iconst (pc' := 1) (v := nI 0) dX7_allCounts_0 rfl (by decide) ?_
  refine g_ist1 (pc' := 2) rfl (by decide) dX7_allCounts_1 rfl ?_
  refine g_iconst (pc' := 3) (v := nI 0) dX7_allCounts_2 rfl (by decide) ?_
  refine g_ist2 (pc' := 4) rfl (by decide) dX7_allCounts_3 rfl ?_
  refine g_loop (σ := Unit) (fun _ _ => True) (fun i s => [some (.inr (.inr (some (11, k)))), some (.inl (sumN (I (12, k)) i)), some (.inl (nI i))]) (fun i s => I) (n) (0) () (by omega) (trivial) ?_ ?_
  · intro i s hi hP ih
    refine g_ild2 (pc' := 5) dX7_allCounts_4 rfl ?_
    refine g_ald0 (pc' := 6) dX7_allCounts_5 rfl ?_
    refine g_getR (pc' := 9) wg.s11 (by decide) fX7_33 wg.r11_0 dX7_allCounts_6 rfl ?_
    refine g_getI (pc' := 12) sg.s1 (by decide) fX7_67 hn dX7_allCounts_9 rfl ?_
    refine g_icmpgeN (pc' := 15) (by omega) (by omega) (tgt := 30) dX7_allCounts_12 (by decide) rfl (fun h12 => ?_) (fun h12 => ?_)
    · exact absurd h12 (by omega)
    · refine g_ild1 (pc' := 16) dX7_allCounts_15 rfl ?_
      refine g_ald0 (pc' := 17) dX7_allCounts_16 rfl ?_
      refine g_getR (pc' := 20) wg.s11 (by decide) fX7_9 wg.r11_10 dX7_allCounts_17 rfl ?_
      refine g_ild2 (pc' := 21) dX7_allCounts_20 rfl ?_
      refine g_iald (pc' := 22) (j := i) wg.s12 rfl (by omega) (by decide) rfl dX7_allCounts_21 rfl ?_
      refine g_iadd (pc' := 23) dX7_allCounts_22 rfl ?_
      refine g_ist1 (pc' := 24) rfl (by decide) dX7_allCounts_23 rfl ?_
      refine g_inc2 (pc' := 27) rfl (by decide) (v := nI (i + 1)) (nI_1 _) dX7_allCounts_24 rfl ?_
      refine g_goto (tgt := 4) dX7_allCounts_27 (by decide) ?_
      exact ih () trivial
  · intro s hP
    refine g_ild2 (pc' := 5) dX7_allCounts_4 rfl ?_
    refine g_ald0 (pc' := 6) dX7_allCounts_5 rfl ?_
    refine g_getR (pc' := 9) wg.s11 (by decide) fX7_33 wg.r11_0 dX7_allCounts_6 rfl ?_
    refine g_getI (pc' := 12) sg.s1 (by decide) fX7_67 hn dX7_allCounts_9 rfl ?_
    refine g_icmpgeN (pc' := 15) (by omega) (by omega) (tgt := 30) dX7_allCounts_12 (by decide) rfl (fun h12 => ?_) (fun h12 => ?_)
    · refine g_ild1 (pc' := 31) dX7_allCounts_30 rfl ?_
      refine g_iret rfl dX7_allCounts_31 ?_
      exact eIp rfl
    · exact absurd h12 (by omega)

def shareI (c : Nat → Int32) (n j : Nat) : Int32 := if sumN c n = 0 then nI 0 else c j * nI 1000 / sumN c n
theorem c_share (l : Launch) {S : Shp} {I : MI} {L : ML} {R : MR} (sg : SG S R) {k n : Nat} (wg : WG k S R) (hn : I (1, 0) 1 = nI n) (hN : n ≤ 12) {j : Nat} (hj : j < n) : Ct l mX7_share 2 0 0 [.inr (.inr (some (11, k))), .inl (nI j)] S I L R (PIp S I L R (shareI (I (12, k)) n j)) := by
  refine Ct.of [some (.inr (.inr (some (11, k)))), some (.inl (nI j)), none] (by decide) rfl (Nat.le_of_ble_eq_true rfl) ?_
  refine g_ald0 (pc' := 1) dX7_share_0 rfl ?_
  refine g_callV (pc' := 4) (c_allCounts l sg wg hn hN) wg.s11 (by decide) wX7_allCounts lX7_120 rfl rfl (by decide) ⟨Nat.le_of_ble_eq_true rfl, Nat.le_of_ble_eq_true rfl⟩ ⟨Nat.le_of_ble_eq_true rfl, Nat.le_of_ble_eq_true rfl⟩ dX7_share_1 rfl (kIp ?_)
  refine g_ist2 (pc' := 5) rfl (by decide) dX7_share_4 rfl ?_
  refine g_ild2 (pc' := 6) dX7_share_5 rfl ?_
  refine g_ifne (pc' := 9) (tgt := 13) dX7_share_6 (by decide) rfl (fun h6 => ?_) (fun h6 => ?_)
  · refine g_ald0 (pc' := 14) dX7_share_13 rfl ?_
    refine g_getR (pc' := 17) wg.s11 (by decide) fX7_9 wg.r11_10 dX7_share_14 rfl ?_
    refine g_ild1 (pc' := 18) dX7_share_17 rfl ?_
    refine g_iald (pc' := 19) (j := j) wg.s12 rfl (by omega) (by decide) rfl dX7_share_18 rfl ?_
    refine g_sipush (pc' := 22) (v := nI 1000) dX7_share_19 rfl (by decide) ?_
    refine g_imul (pc' := 23) dX7_share_22 rfl ?_
    refine g_ild2 (pc' := 24) dX7_share_23 rfl ?_
    refine g_idiv (pc' := 25) dX7_share_24 rfl h6 ?_
    refine g_iret rfl dX7_share_25 ?_
    exact eIp (by simp [shareI, *])
  · refine g_iconst (pc' := 10) (v := nI 0) dX7_share_9 rfl (by decide) ?_
    refine g_goto (tgt := 25) dX7_share_10 (by decide) ?_
    refine g_iret rfl dX7_share_25 ?_
    exact eIp (by simp [shareI, *])
