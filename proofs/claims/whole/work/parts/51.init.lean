/-! constructors -/
def PNv (S' : Shp) (I' : MI) (L' : ML) (R' : MR) : PO := fun r S2 I2 L2 R2 => r = none ∧ S2 = S' ∧ I2 = I' ∧ L2 = L' ∧ R2 = R'
theorem kN {l : Launch} {mi : MInf} {Rm : Room} {Qf : QF} {k n mc ms pc' : Nat} {S S2 : Shp} {I2 : MI} {L2 : ML} {R2 : MR} {lv : List (Option PV)} {st : List PV} (kk : G l mi Rm Qf (k + mc) (n + ms) pc' lv st S2 I2 L2 R2) : ∀ (r : Option PV) (S' : Shp) (I' : MI) (L' : ML) (R' : MR), PNv S2 I2 L2 R2 r S' I' L' R' → (∀ t, (S t).1 ≠ 0 → S' t = S t) → G l mi Rm Qf (k + mc) (n + ms) pc' lv (r.toList ++ st) S' I' L' R' := by
  rintro r S' I' L' R' ⟨rfl, rfl, rfl, rfl, rfl⟩ _
  exact kk
theorem c_X5_init (l : Launch) {S : Shp} {I : MI} {L : ML} {R : MR}  (hT : S (1, 0) = (15, 0)) (h0 : (S (2, 0)).1 = 0) : Ct l mX5_init 1 1 12 [.inr (.inr (some (1, 0)))] S I L R (PNv (upT S (2, 0) (1, 12)) (upT I (2, 0) (fun _ => 0)) L (upM (upT R (2, 0) (fun _ => none)) (1, 0) 0 (some (2, 0)))) := by
  refine Ct.of [some (.inr (.inr (some (1, 0))))] (by decide) rfl (Nat.le_of_ble_eq_true rfl) ?_
  refine g_ald0 (pc' := 1) dX5_init_0 rfl ?_
  refine g_oinit (pc' := 4) ⟨lX5_3, oinst, ocode⟩ ⟨Nat.le_of_ble_eq_true rfl, Nat.le_of_ble_eq_true rfl⟩ dX5_init_1 rfl ?_
  refine g_ald0 (pc' := 5) dX5_init_4 rfl ?_
  refine g_bipush (pc' := 7) (v := nI 12) dX5_init_5 rfl (by decide) ?_
  refine g_newI (pc' := 9) (len := 12) (2, 0) h0 rfl (Nat.le_of_ble_eq_true rfl) aw_int (Nat.le_of_ble_eq_true rfl) (Nat.le_of_ble_eq_true rfl) dX5_init_7 rfl ?_
  refine g_putR (pc' := 12) hT (by decide) ⟨fX5_9, Or.inr ⟨rfl, rfl⟩⟩ pAI (Or.inr ⟨_, rfl⟩) dX5_init_9 rfl ?_
  refine g_vret rfl dX5_init_12 ?_
  exact ⟨rfl, rfl, rfl, rfl, rfl⟩

theorem c_X6_init (l : Launch) {S : Shp} {I : MI} {L : ML} {R : MR}  (hT : S (3, 0) = (16, 0)) (h0 : (S (4, 0)).1 = 0) (h1 : (S (5, 0)).1 = 0) : Ct l mX6_init 1 2 241 [.inr (.inr (some (3, 0)))] S I L R (PNv (upT (upT S (4, 0) (1, 120)) (5, 0) (1, 121)) (upT (upT I (4, 0) (fun _ => 0)) (5, 0) (fun _ => 0)) L (upM (upT (upM (upT R (4, 0) (fun _ => none)) (3, 0) 0 (some (4, 0))) (5, 0) (fun _ => none)) (3, 0) 2 (some (5, 0)))) := by
  refine Ct.of [some (.inr (.inr (some (3, 0))))] (by decide) rfl (Nat.le_of_ble_eq_true rfl) ?_
  refine g_ald0 (pc' := 1) dX6_init_0 rfl ?_
  refine g_oinit (pc' := 4) ⟨lX6_3, oinst, ocode⟩ ⟨Nat.le_of_ble_eq_true rfl, Nat.le_of_ble_eq_true rfl⟩ dX6_init_1 rfl ?_
  refine g_ald0 (pc' := 5) dX6_init_4 rfl ?_
  refine g_bipush (pc' := 7) (v := nI 120) dX6_init_5 rfl (by decide) ?_
  refine g_newI (pc' := 9) (len := 120) (4, 0) h0 rfl (Nat.le_of_ble_eq_true rfl) aw_int (Nat.le_of_ble_eq_true rfl) (Nat.le_of_ble_eq_true rfl) dX6_init_7 rfl ?_
  refine g_putR (pc' := 12) hT (by decide) ⟨fX6_9, Or.inr ⟨rfl, rfl⟩⟩ pAI (Or.inr ⟨_, rfl⟩) dX6_init_9 rfl ?_
  refine g_ald0 (pc' := 13) dX6_init_12 rfl ?_
  refine g_bipush (pc' := 15) (v := nI 121) dX6_init_13 rfl (by decide) ?_
  refine g_newI (pc' := 17) (len := 121) (5, 0) h1 rfl (Nat.le_of_ble_eq_true rfl) aw_int (Nat.le_of_ble_eq_true rfl) (Nat.le_of_ble_eq_true rfl) dX6_init_15 rfl ?_
  refine g_putR (pc' := 20) hT (by decide) ⟨fX6_13, Or.inr ⟨rfl, rfl⟩⟩ pAI (Or.inr ⟨_, rfl⟩) dX6_init_17 rfl ?_
  refine g_vret rfl dX6_init_20 ?_
  exact ⟨rfl, rfl, rfl, rfl, rfl⟩

theorem c_X1_init (l : Launch) {S : Shp} {I : MI} {L : ML} {R : MR}  (hT : S (18, 0) = (11, 0)) (h0 : (S (19, 0)).1 = 0) (h1 : (S (20, 0)).1 = 0) (h2 : (S (21, 0)).1 = 0) (h3 : (S (22, 0)).1 = 0) : Ct l mX1_init 1 4 160 [.inr (.inr (some (18, 0)))] S I L R (PNv (upT (upT (upT (upT S (19, 0) (1, 40)) (20, 0) (1, 40)) (21, 0) (1, 40)) (22, 0) (1, 40)) (upT (upT (upT (upT I (19, 0) (fun _ => 0)) (20, 0) (fun _ => 0)) (21, 0) (fun _ => 0)) (22, 0) (fun _ => 0)) L (upM (upT (upM (upT (upM (upT (upM (upT R (19, 0) (fun _ => none)) (18, 0) 0 (some (19, 0))) (20, 0) (fun _ => none)) (18, 0) 1 (some (20, 0))) (21, 0) (fun _ => none)) (18, 0) 2 (some (21, 0))) (22, 0) (fun _ => none)) (18, 0) 3 (some (22, 0)))) := by
  refine Ct.of [some (.inr (.inr (some (18, 0))))] (by decide) rfl (Nat.le_of_ble_eq_true rfl) ?_
  refine g_ald0 (pc' := 1) dX1_init_0 rfl ?_
  refine g_oinit (pc' := 4) ⟨lX1_1, oinst, ocode⟩ ⟨Nat.le_of_ble_eq_true rfl, Nat.le_of_ble_eq_true rfl⟩ dX1_init_1 rfl ?_
  refine g_ald0 (pc' := 5) dX1_init_4 rfl ?_
  refine g_bipush (pc' := 7) (v := nI 40) dX1_init_5 rfl (by decide) ?_
  refine g_newI (pc' := 9) (len := 40) (19, 0) h0 rfl (Nat.le_of_ble_eq_true rfl) aw_int (Nat.le_of_ble_eq_true rfl) (Nat.le_of_ble_eq_true rfl) dX1_init_7 rfl ?_
  refine g_putR (pc' := 12) hT (by decide) ⟨fX1_9, Or.inr ⟨rfl, rfl⟩⟩ pAI (Or.inr ⟨_, rfl⟩) dX1_init_9 rfl ?_
  refine g_ald0 (pc' := 13) dX1_init_12 rfl ?_
  refine g_bipush (pc' := 15) (v := nI 40) dX1_init_13 rfl (by decide) ?_
  refine g_newI (pc' := 17) (len := 40) (20, 0) h1 rfl (Nat.le_of_ble_eq_true rfl) aw_int (Nat.le_of_ble_eq_true rfl) (Nat.le_of_ble_eq_true rfl) dX1_init_15 rfl ?_
  refine g_putR (pc' := 20) hT (by decide) ⟨fX1_13, Or.inr ⟨rfl, rfl⟩⟩ pAI (Or.inr ⟨_, rfl⟩) dX1_init_17 rfl ?_
  refine g_ald0 (pc' := 21) dX1_init_20 rfl ?_
  refine g_bipush (pc' := 23) (v := nI 40) dX1_init_21 rfl (by decide) ?_
  refine g_newI (pc' := 25) (len := 40) (21, 0) h2 rfl (Nat.le_of_ble_eq_true rfl) aw_int (Nat.le_of_ble_eq_true rfl) (Nat.le_of_ble_eq_true rfl) dX1_init_23 rfl ?_
  refine g_putR (pc' := 28) hT (by decide) ⟨fX1_16, Or.inr ⟨rfl, rfl⟩⟩ pAI (Or.inr ⟨_, rfl⟩) dX1_init_25 rfl ?_
  refine g_ald0 (pc' := 29) dX1_init_28 rfl ?_
  refine g_bipush (pc' := 31) (v := nI 40) dX1_init_29 rfl (by decide) ?_
  refine g_newI (pc' := 33) (len := 40) (22, 0) h3 rfl (Nat.le_of_ble_eq_true rfl) aw_int (Nat.le_of_ble_eq_true rfl) (Nat.le_of_ble_eq_true rfl) dX1_init_31 rfl ?_
  refine g_putR (pc' := 36) hT (by decide) ⟨fX1_19, Or.inr ⟨rfl, rfl⟩⟩ pAI (Or.inr ⟨_, rfl⟩) dX1_init_33 rfl ?_
  refine g_vret rfl dX1_init_36 ?_
  exact ⟨rfl, rfl, rfl, rfl, rfl⟩

theorem c_X0_init (l : Launch) {S : Shp} {I : MI} {L : ML} {R : MR}  (hT : S (23, 0) = (10, 0)) (h0 : (S (24, 0)).1 = 0) (h1 : (S (25, 0)).1 = 0) : Ct l mX0_init 1 2 74 [.inr (.inr (some (23, 0)))] S I L R (PNv (upT (upT S (24, 0) (1, 50)) (25, 0) (1, 24)) (upT (upT I (24, 0) (fun _ => 0)) (25, 0) (fun _ => 0)) L (upM (upT (upM (upT R (24, 0) (fun _ => none)) (23, 0) 0 (some (24, 0))) (25, 0) (fun _ => none)) (23, 0) 2 (some (25, 0)))) := by
  refine Ct.of [some (.inr (.inr (some (23, 0))))] (by decide) rfl (Nat.le_of_ble_eq_true rfl) ?_
  refine g_ald0 (pc' := 1) dX0_init_0 rfl ?_
  refine g_oinit (pc' := 4) ⟨lX0_1, oinst, ocode⟩ ⟨Nat.le_of_ble_eq_true rfl, Nat.le_of_ble_eq_true rfl⟩ dX0_init_1 rfl ?_
  refine g_ald0 (pc' := 5) dX0_init_4 rfl ?_
  refine g_bipush (pc' := 7) (v := nI 50) dX0_init_5 rfl (by decide) ?_
  refine g_newI (pc' := 9) (len := 50) (24, 0) h0 rfl (Nat.le_of_ble_eq_true rfl) aw_int (Nat.le_of_ble_eq_true rfl) (Nat.le_of_ble_eq_true rfl) dX0_init_7 rfl ?_
  refine g_putR (pc' := 12) hT (by decide) ⟨fX0_9, Or.inr ⟨rfl, rfl⟩⟩ pAI (Or.inr ⟨_, rfl⟩) dX0_init_9 rfl ?_
  refine g_ald0 (pc' := 13) dX0_init_12 rfl ?_
  refine g_bipush (pc' := 15) (v := nI 24) dX0_init_13 rfl (by decide) ?_
  refine g_newI (pc' := 17) (len := 24) (25, 0) h1 rfl (Nat.le_of_ble_eq_true rfl) aw_int (Nat.le_of_ble_eq_true rfl) (Nat.le_of_ble_eq_true rfl) dX0_init_15 rfl ?_
  refine g_putR (pc' := 20) hT (by decide) ⟨fX0_13, Or.inr ⟨rfl, rfl⟩⟩ pAI (Or.inr ⟨_, rfl⟩) dX0_init_17 rfl ?_
  refine g_vret rfl dX0_init_20 ?_
  exact ⟨rfl, rfl, rfl, rfl, rfl⟩

theorem c_X3_init (l : Launch) {S : Shp} {I : MI} {L : ML} {R : MR}  (hT : S (29, 0) = (13, 0)) (h0 : (S (30, 0)).1 = 0) (h1 : (S (31, 0)).1 = 0) : Ct l mX3_init 1 2 2405 [.inr (.inr (some (29, 0))), .inr (.inr (some (1, 0))), .inr (.inr (some (11, 9)))] S I L R (PNv (upT (upT S (30, 0) (3, 2401)) (31, 0) (1, 4)) (upT I (31, 0) (fun _ => 0)) (upT L (30, 0) (fun _ => 0)) (upM (upM (upM (upT (upM (upT R (30, 0) (fun _ => none)) (29, 0) 2 (some (30, 0))) (31, 0) (fun _ => none)) (29, 0) 3 (some (31, 0))) (29, 0) 0 (some (1, 0))) (29, 0) 1 (some (11, 9)))) := by
  refine Ct.of [some (.inr (.inr (some (29, 0)))), some (.inr (.inr (some (1, 0)))), some (.inr (.inr (some (11, 9))))] (by decide) rfl (Nat.le_of_ble_eq_true rfl) ?_
  refine g_ald0 (pc' := 1) dX3_init_0 rfl ?_
  refine g_oinit (pc' := 4) ⟨lX3_3, oinst, ocode⟩ ⟨Nat.le_of_ble_eq_true rfl, Nat.le_of_ble_eq_true rfl⟩ dX3_init_1 rfl ?_
  refine g_ald0 (pc' := 5) dX3_init_4 rfl ?_
  refine g_sipush (pc' := 8) (v := nI 2401) dX3_init_5 rfl (by decide) ?_
  refine g_newJ (pc' := 10) (len := 2401) (30, 0) h0 rfl (Nat.le_of_ble_eq_true rfl) aw_long (Nat.le_of_ble_eq_true rfl) (Nat.le_of_ble_eq_true rfl) dX3_init_8 rfl ?_
  refine g_putR (pc' := 13) hT (by decide) ⟨fX3_11, Or.inr ⟨rfl, rfl⟩⟩ pAJ (Or.inr ⟨_, rfl⟩) dX3_init_10 rfl ?_
  refine g_ald0 (pc' := 14) dX3_init_13 rfl ?_
  refine g_iconst (pc' := 15) (v := nI 4) dX3_init_14 rfl (by decide) ?_
  refine g_newI (pc' := 17) (len := 4) (31, 0) h1 rfl (Nat.le_of_ble_eq_true rfl) aw_int (Nat.le_of_ble_eq_true rfl) (Nat.le_of_ble_eq_true rfl) dX3_init_15 rfl ?_
  refine g_putR (pc' := 20) hT (by decide) ⟨fX3_15, Or.inr ⟨rfl, rfl⟩⟩ pAI (Or.inr ⟨_, rfl⟩) dX3_init_17 rfl ?_
  refine g_ald0 (pc' := 21) dX3_init_20 rfl ?_
  refine g_ald1 (pc' := 22) dX3_init_21 rfl ?_
  refine g_putR (pc' := 25) hT (by decide) ⟨fX3_19, Or.inr ⟨rfl, rfl⟩⟩ pSongs (Or.inl ⟨_, rfl⟩) dX3_init_22 rfl ?_
  refine g_ald0 (pc' := 26) dX3_init_25 rfl ?_
  refine g_ald2 (pc' := 27) dX3_init_26 rfl ?_
  refine g_putR (pc' := 30) hT (by decide) ⟨fX3_23, Or.inr ⟨rfl, rfl⟩⟩ pWorld (Or.inl ⟨_, rfl⟩) dX3_init_27 rfl ?_
  refine g_vret rfl dX3_init_30 ?_
  exact ⟨rfl, rfl, rfl, rfl, rfl⟩

theorem c_X7_init (l : Launch) {S : Shp} {I : MI} {L : ML} {R : MR} {j : Nat} (hT : S (11, j) = (17, 0)) (h0 : (S (12, j)).1 = 0) (h1 : (S (13, j)).1 = 0) (h2 : (S (14, j)).1 = 0) (h3 : (S (15, j)).1 = 0) (h4 : (S (16, j)).1 = 0) (h5 : (S (17, j)).1 = 0) : Ct l mX7_init 1 6 255 [.inr (.inr (some (11, j))), .inr (.inr (some (1, 0)))] S I L R (PNv (upT (upT (upT (upT (upT (upT S (12, j) (1, 12)) (13, j) (1, 12)) (14, j) (1, 12)) (15, j) (1, 12)) (16, j) (2, 200)) (17, j) (1, 7)) (upT (upT (upT (upT (upT (upT I (12, j) (fun _ => 0)) (13, j) (fun _ => 0)) (14, j) (fun _ => 0)) (15, j) (fun _ => 0)) (16, j) (fun _ => 0)) (17, j) (fun _ => 0)) L (upM (upM (upT (upM (upT (upM (upT (upM (upT (upM (upT (upM (upT R (12, j) (fun _ => none)) (11, j) 10 (some (12, j))) (13, j) (fun _ => none)) (11, j) 11 (some (13, j))) (14, j) (fun _ => none)) (11, j) 12 (some (14, j))) (15, j) (fun _ => none)) (11, j) 13 (some (15, j))) (16, j) (fun _ => none)) (11, j) 14 (some (16, j))) (17, j) (fun _ => none)) (11, j) 15 (some (17, j))) (11, j) 0 (some (1, 0)))) := by
  refine Ct.of [some (.inr (.inr (some (11, j)))), some (.inr (.inr (some (1, 0))))] (by decide) rfl (Nat.le_of_ble_eq_true rfl) ?_
  refine g_ald0 (pc' := 1) dX7_init_0 rfl ?_
  refine g_oinit (pc' := 4) ⟨lX7_3, oinst, ocode⟩ ⟨Nat.le_of_ble_eq_true rfl, Nat.le_of_ble_eq_true rfl⟩ dX7_init_1 rfl ?_
  refine g_ald0 (pc' := 5) dX7_init_4 rfl ?_
  refine g_bipush (pc' := 7) (v := nI 12) dX7_init_5 rfl (by decide) ?_
  refine g_newI (pc' := 9) (len := 12) (12, j) h0 rfl (Nat.le_of_ble_eq_true rfl) aw_int (Nat.le_of_ble_eq_true rfl) (Nat.le_of_ble_eq_true rfl) dX7_init_7 rfl ?_
  refine g_putR (pc' := 12) hT (by decide) ⟨fX7_9, Or.inr ⟨rfl, rfl⟩⟩ pAI (Or.inr ⟨_, rfl⟩) dX7_init_9 rfl ?_
  refine g_ald0 (pc' := 13) dX7_init_12 rfl ?_
  refine g_bipush (pc' := 15) (v := nI 12) dX7_init_13 rfl (by decide) ?_
  refine g_newI (pc' := 17) (len := 12) (13, j) h1 rfl (Nat.le_of_ble_eq_true rfl) aw_int (Nat.le_of_ble_eq_true rfl) (Nat.le_of_ble_eq_true rfl) dX7_init_15 rfl ?_
  refine g_putR (pc' := 20) hT (by decide) ⟨fX7_15, Or.inr ⟨rfl, rfl⟩⟩ pAI (Or.inr ⟨_, rfl⟩) dX7_init_17 rfl ?_
  refine g_ald0 (pc' := 21) dX7_init_20 rfl ?_
  refine g_bipush (pc' := 23) (v := nI 12) dX7_init_21 rfl (by decide) ?_
  refine g_newI (pc' := 25) (len := 12) (14, j) h2 rfl (Nat.le_of_ble_eq_true rfl) aw_int (Nat.le_of_ble_eq_true rfl) (Nat.le_of_ble_eq_true rfl) dX7_init_23 rfl ?_
  refine g_putR (pc' := 28) hT (by decide) ⟨fX7_18, Or.inr ⟨rfl, rfl⟩⟩ pAI (Or.inr ⟨_, rfl⟩) dX7_init_25 rfl ?_
  refine g_ald0 (pc' := 29) dX7_init_28 rfl ?_
  refine g_bipush (pc' := 31) (v := nI 12) dX7_init_29 rfl (by decide) ?_
  refine g_newI (pc' := 33) (len := 12) (15, j) h3 rfl (Nat.le_of_ble_eq_true rfl) aw_int (Nat.le_of_ble_eq_true rfl) (Nat.le_of_ble_eq_true rfl) dX7_init_31 rfl ?_
  refine g_putR (pc' := 36) hT (by decide) ⟨fX7_21, Or.inr ⟨rfl, rfl⟩⟩ pAI (Or.inr ⟨_, rfl⟩) dX7_init_33 rfl ?_
  refine g_ald0 (pc' := 37) dX7_init_36 rfl ?_
  refine g_sipush (pc' := 40) (v := nI 200) dX7_init_37 rfl (by decide) ?_
  refine g_newB (pc' := 42) (len := 200) (16, j) h4 rfl (Nat.le_of_ble_eq_true rfl) aw_byte (Nat.le_of_ble_eq_true rfl) (Nat.le_of_ble_eq_true rfl) dX7_init_40 rfl ?_
  refine g_putR (pc' := 45) hT (by decide) ⟨fX7_24, Or.inr ⟨rfl, rfl⟩⟩ pAB (Or.inr ⟨_, rfl⟩) dX7_init_42 rfl ?_
  refine g_ald0 (pc' := 46) dX7_init_45 rfl ?_
  refine g_bipush (pc' := 48) (v := nI 7) dX7_init_46 rfl (by decide) ?_
  refine g_newI (pc' := 50) (len := 7) (17, j) h5 rfl (Nat.le_of_ble_eq_true rfl) aw_int (Nat.le_of_ble_eq_true rfl) (Nat.le_of_ble_eq_true rfl) dX7_init_48 rfl ?_
  refine g_putR (pc' := 53) hT (by decide) ⟨fX7_30, Or.inr ⟨rfl, rfl⟩⟩ pAI (Or.inr ⟨_, rfl⟩) dX7_init_50 rfl ?_
  refine g_ald0 (pc' := 54) dX7_init_53 rfl ?_
  refine g_ald1 (pc' := 55) dX7_init_54 rfl ?_
  refine g_putR (pc' := 58) hT (by decide) ⟨fX7_33, Or.inr ⟨rfl, rfl⟩⟩ pSongs (Or.inl ⟨_, rfl⟩) dX7_init_55 rfl ?_
  refine g_vret rfl dX7_init_58 ?_
  exact ⟨rfl, rfl, rfl, rfl, rfl⟩

theorem c_X4_init (l : Launch) {S : Shp} {I : MI} {L : ML} {R : MR} {j : Nat} (hT : S (27, j) = (14, 0)) (h0 : (S (28, j)).1 = 0) : Ct l mX4_init 1 1 60 [.inr (.inr (some (27, j)))] S I L R (PNv (upT S (28, j) (3, 60)) I (upT L (28, j) (fun _ => 0)) (upM (upT R (28, j) (fun _ => none)) (27, j) 4 (some (28, j)))) := by
  refine Ct.of [some (.inr (.inr (some (27, j))))] (by decide) rfl (Nat.le_of_ble_eq_true rfl) ?_
  refine g_ald0 (pc' := 1) dX4_init_0 rfl ?_
  refine g_oinit (pc' := 4) ⟨lX4_3, oinst, ocode⟩ ⟨Nat.le_of_ble_eq_true rfl, Nat.le_of_ble_eq_true rfl⟩ dX4_init_1 rfl ?_
  refine g_ald0 (pc' := 5) dX4_init_4 rfl ?_
  refine g_bipush (pc' := 7) (v := nI 60) dX4_init_5 rfl (by decide) ?_
  refine g_newJ (pc' := 9) (len := 60) (28, j) h0 rfl (Nat.le_of_ble_eq_true rfl) aw_long (Nat.le_of_ble_eq_true rfl) (Nat.le_of_ble_eq_true rfl) dX4_init_7 rfl ?_
  refine g_putR (pc' := 12) hT (by decide) ⟨fX4_9, Or.inr ⟨rfl, rfl⟩⟩ pAJ (Or.inr ⟨_, rfl⟩) dX4_init_9 rfl ?_
  refine g_vret rfl dX4_init_12 ?_
  exact ⟨rfl, rfl, rfl, rfl, rfl⟩

theorem c_X2_init (l : Launch) {S : Shp} {I : MI} {L : ML} {R : MR} {j : Nat} (hT : S (7, j) = (12, 0)) (h0 : (S (9, j)).1 = 0) : Ct l mX2_init 1 1 64 [.inr (.inr (some (7, j))), .inr (.inr (some (8, j)))] S I L R (PNv (upT S (9, j) (1, 64)) (upT I (9, j) (fun _ => 0)) L (upM (upM (upT R (9, j) (fun _ => none)) (7, j) 1 (some (9, j))) (7, j) 0 (some (8, j)))) := by
  refine Ct.of [some (.inr (.inr (some (7, j)))), some (.inr (.inr (some (8, j))))] (by decide) rfl (Nat.le_of_ble_eq_true rfl) ?_
  refine g_ald0 (pc' := 1) dX2_init_0 rfl ?_
  refine g_oinit (pc' := 4) ⟨lX2_3, oinst, ocode⟩ ⟨Nat.le_of_ble_eq_true rfl, Nat.le_of_ble_eq_true rfl⟩ dX2_init_1 rfl ?_
  refine g_ald0 (pc' := 5) dX2_init_4 rfl ?_
  refine g_bipush (pc' := 7) (v := nI 64) dX2_init_5 rfl (by decide) ?_
  refine g_newI (pc' := 9) (len := 64) (9, j) h0 rfl (Nat.le_of_ble_eq_true rfl) aw_int (Nat.le_of_ble_eq_true rfl) (Nat.le_of_ble_eq_true rfl) dX2_init_7 rfl ?_
  refine g_putR (pc' := 12) hT (by decide) ⟨fX2_11, Or.inr ⟨rfl, rfl⟩⟩ pAI (Or.inr ⟨_, rfl⟩) dX2_init_9 rfl ?_
  refine g_ald0 (pc' := 13) dX2_init_12 rfl ?_
  refine g_ald1 (pc' := 14) dX2_init_13 rfl ?_
  refine g_putR (pc' := 17) hT (by decide) ⟨fX2_15, Or.inr ⟨rfl, rfl⟩⟩ pAI (Or.inr ⟨_, rfl⟩) dX2_init_14 rfl ?_
  refine g_vret rfl dX2_init_17 ?_
  exact ⟨rfl, rfl, rfl, rfl, rfl⟩
