/-! the constructor -/
def S0n (S : Shp) : Shp := (upT (upT (upT (upT (upT (upT (upT (upT (upT (upT (upT (upT (upT (upT (upT (upT (upT (upT (upT (upT (upT (upT (upT (upT (upT (upT (upT (upT (upT (upT (upT (upT (upT (upT (upT (upT (upT (upT (upT (upT (upT (upT (upT (upT (upT (upT (upT (upT (upT S (1, 0) (15, 0)) (2, 0) (1, 12)) (3, 0) (16, 0)) (4, 0) (1, 120)) (5, 0) (1, 121)) (6, 0) (4, 6)) (10, 0) (6, 9)) (18, 0) (11, 0)) (19, 0) (1, 40)) (20, 0) (1, 40)) (21, 0) (1, 40)) (22, 0) (1, 40)) (23, 0) (10, 0)) (24, 0) (1, 50)) (25, 0) (1, 24)) (26, 0) (5, 6)) (11, 9) (17, 0)) (12, 9) (1, 12)) (13, 9) (1, 12)) (14, 9) (1, 12)) (15, 9) (1, 12)) (16, 9) (2, 200)) (17, 9) (1, 7)) (11, 10) (17, 0)) (12, 10) (1, 12)) (13, 10) (1, 12)) (14, 10) (1, 12)) (15, 10) (1, 12)) (16, 10) (2, 200)) (17, 10) (1, 7)) (29, 0) (13, 0)) (30, 0) (3, 2401)) (31, 0) (1, 4)) (32, 0) (1, 7)) (33, 0) (1, 12)) (34, 0) (1, 12)) (35, 0) (1, 36)) (27, 0) (14, 0)) (28, 0) (3, 60)) (27, 1) (14, 0)) (28, 1) (3, 60)) (27, 2) (14, 0)) (28, 2) (3, 60)) (27, 3) (14, 0)) (28, 3) (3, 60)) (27, 4) (14, 0)) (28, 4) (3, 60)) (27, 5) (14, 0)) (28, 5) (3, 60))
def I0n (I : MI) : MI := (upT (upT (upT (upT (upT (upT (upT (upT (upT (upT (upT (upT (upT (upT (upT (upT (upT (upT (upT (upT (upT (upT (upT (upT (upT (upT (upT (upT (upT (upT (upT (upT (upT (upT (upT (upT (upT (upT (upT I (1, 0) (fun _ => 0)) (2, 0) (fun _ => 0)) (3, 0) (fun _ => 0)) (4, 0) (fun _ => 0)) (5, 0) (fun _ => 0)) (18, 0) (fun _ => 0)) (19, 0) (fun _ => 0)) (20, 0) (fun _ => 0)) (21, 0) (fun _ => 0)) (22, 0) (fun _ => 0)) (23, 0) (fun _ => 0)) (24, 0) (fun _ => 0)) (25, 0) (fun _ => 0)) (11, 9) (fun _ => 0)) (12, 9) (fun _ => 0)) (13, 9) (fun _ => 0)) (14, 9) (fun _ => 0)) (15, 9) (fun _ => 0)) (16, 9) (fun _ => 0)) (17, 9) (fun _ => 0)) (11, 10) (fun _ => 0)) (12, 10) (fun _ => 0)) (13, 10) (fun _ => 0)) (14, 10) (fun _ => 0)) (15, 10) (fun _ => 0)) (16, 10) (fun _ => 0)) (17, 10) (fun _ => 0)) (29, 0) (fun _ => 0)) (31, 0) (fun _ => 0)) (32, 0) (fun _ => 0)) (33, 0) (fun _ => 0)) (34, 0) (fun _ => 0)) (35, 0) (fun _ => 0)) (27, 0) (fun _ => 0)) (27, 1) (fun _ => 0)) (27, 2) (fun _ => 0)) (27, 3) (fun _ => 0)) (27, 4) (fun _ => 0)) (27, 5) (fun _ => 0))
def L0n (L : ML) : ML := (upT (upT (upT (upT (upT (upT (upT L (30, 0) (fun _ => 0)) (28, 0) (fun _ => 0)) (28, 1) (fun _ => 0)) (28, 2) (fun _ => 0)) (28, 3) (fun _ => 0)) (28, 4) (fun _ => 0)) (28, 5) (fun _ => 0))
def R0n (R : MR) : MR := (upM (upM (upT (upT (upM (upM (upT (upT (upM (upM (upT (upT (upM (upM (upT (upT (upM (upM (upT (upT (upM (upM (upT (upT (upM (upT (upM (upT (upM (upT (upM (upT (upM (upM (upM (upM (upT (upM (upT (upT (upM (upM (upM (upT (upM (upT (upM (upT (upM (upT (upM (upT (upM (upT (upT (upM (upM (upM (upT (upM (upT (upM (upT (upM (upT (upM (upT (upM (upT (upT (upM (upT (upM (upM (upT (upM (upT (upT (upM (upM (upT (upM (upT (upM (upT (upM (upT (upT (upM (upT (upM (upT (upM (upM (upT (upM (upT (upT (upM (upM (upT (upT R (1, 0) (fun _ => none)) (2, 0) (fun _ => none)) (1, 0) 0 (some (2, 0))) (0, 0) 0 (some (1, 0))) (3, 0) (fun _ => none)) (4, 0) (fun _ => none)) (3, 0) 0 (some (4, 0))) (5, 0) (fun _ => none)) (3, 0) 2 (some (5, 0))) (0, 0) 1 (some (3, 0))) (6, 0) (fun _ => none)) (0, 0) 2 (some (6, 0))) (10, 0) (fun _ => none)) (0, 0) 4 (some (10, 0))) (18, 0) (fun _ => none)) (19, 0) (fun _ => none)) (18, 0) 0 (some (19, 0))) (20, 0) (fun _ => none)) (18, 0) 1 (some (20, 0))) (21, 0) (fun _ => none)) (18, 0) 2 (some (21, 0))) (22, 0) (fun _ => none)) (18, 0) 3 (some (22, 0))) (0, 0) 6 (some (18, 0))) (23, 0) (fun _ => none)) (24, 0) (fun _ => none)) (23, 0) 0 (some (24, 0))) (25, 0) (fun _ => none)) (23, 0) 2 (some (25, 0))) (0, 0) 7 (some (23, 0))) (26, 0) (fun _ => none)) (0, 0) 8 (some (26, 0))) (11, 9) (fun _ => none)) (12, 9) (fun _ => none)) (11, 9) 10 (some (12, 9))) (13, 9) (fun _ => none)) (11, 9) 11 (some (13, 9))) (14, 9) (fun _ => none)) (11, 9) 12 (some (14, 9))) (15, 9) (fun _ => none)) (11, 9) 13 (some (15, 9))) (16, 9) (fun _ => none)) (11, 9) 14 (some (16, 9))) (17, 9) (fun _ => none)) (11, 9) 15 (some (17, 9))) (11, 9) 0 (some (1, 0))) (0, 0) 9 (some (11, 9))) (11, 10) (fun _ => none)) (12, 10) (fun _ => none)) (11, 10) 10 (some (12, 10))) (13, 10) (fun _ => none)) (11, 10) 11 (some (13, 10))) (14, 10) (fun _ => none)) (11, 10) 12 (some (14, 10))) (15, 10) (fun _ => none)) (11, 10) 13 (some (15, 10))) (16, 10) (fun _ => none)) (11, 10) 14 (some (16, 10))) (17, 10) (fun _ => none)) (11, 10) 15 (some (17, 10))) (11, 10) 0 (some (1, 0))) (0, 0) 10 (some (11, 10))) (29, 0) (fun _ => none)) (30, 0) (fun _ => none)) (29, 0) 2 (some (30, 0))) (31, 0) (fun _ => none)) (29, 0) 3 (some (31, 0))) (29, 0) 0 (some (1, 0))) (29, 0) 1 (some (11, 9))) (0, 0) 11 (some (29, 0))) (32, 0) (fun _ => none)) (0, 0) 12 (some (32, 0))) (33, 0) (fun _ => none)) (0, 0) 13 (some (33, 0))) (34, 0) (fun _ => none)) (0, 0) 14 (some (34, 0))) (35, 0) (fun _ => none)) (0, 0) 15 (some (35, 0))) (27, 0) (fun _ => none)) (28, 0) (fun _ => none)) (27, 0) 4 (some (28, 0))) (26, 0) 0 (some (27, 0))) (27, 1) (fun _ => none)) (28, 1) (fun _ => none)) (27, 1) 4 (some (28, 1))) (26, 0) 1 (some (27, 1))) (27, 2) (fun _ => none)) (28, 2) (fun _ => none)) (27, 2) 4 (some (28, 2))) (26, 0) 2 (some (27, 2))) (27, 3) (fun _ => none)) (28, 3) (fun _ => none)) (27, 3) 4 (some (28, 3))) (26, 0) 3 (some (27, 3))) (27, 4) (fun _ => none)) (28, 4) (fun _ => none)) (27, 4) 4 (some (28, 4))) (26, 0) 4 (some (27, 4))) (27, 5) (fun _ => none)) (28, 5) (fun _ => none)) (27, 5) 4 (some (28, 5))) (26, 0) 5 (some (27, 5)))
theorem c_X8_init (l : Launch) {S : Shp} {I : MI} {L : ML} {R : MR} (hT : S (0, 0) = (18, 0)) (hF : ∀ k j, 0 < k ∧ k < 36 → (S (k, j)).1 = 0) : Ct l mX8_init 2 49 3937 [.inr (.inr (some (0, 0)))] S I L R (PNv (S0n S) (I0n I) (L0n L) (R0n R)) := by
  refine Ct.of [some (.inr (.inr (some (0, 0)))), none] (by decide) rfl (Nat.le_of_ble_eq_true rfl) ?_
  refine g_ald0 (pc' := 1) dX8_init_0 rfl ?_
  refine g_oinit (pc' := 4) ⟨lX8_1, oinst, ocode⟩ ⟨Nat.le_of_ble_eq_true rfl, Nat.le_of_ble_eq_true rfl⟩ dX8_init_1 rfl ?_
  refine g_ald0 (pc' := 5) dX8_init_4 rfl ?_
  refine g_new (pc' := 8) (1, 0) (hF 1 0 (by decide)) (by decide) ⟨nX8_7, iw5, jw5⟩ (Nat.le_of_ble_eq_true rfl) (Nat.le_of_ble_eq_true rfl) dX8_init_5 rfl ?_
  refine g_dupR (pc' := 9) dX8_init_8 rfl ?_
  refine g_callI (pc' := 12) (c_X5_init l rfl (hF 2 0 (by decide))) wX5_init (Or.inr (fun h => h.1.1)) rfl rfl (Nat.le_of_ble_eq_true rfl) ⟨Nat.le_of_ble_eq_true rfl, Nat.le_of_ble_eq_true rfl⟩ ⟨Nat.le_of_ble_eq_true rfl, Nat.le_of_ble_eq_true rfl⟩ dX8_init_9 rfl (kN ?_)
  refine g_putR (pc' := 15) hT (by decide) ⟨fX8_10, Or.inr ⟨rfl, rfl⟩⟩ pSongs (Or.inl ⟨_, rfl⟩) dX8_init_12 rfl ?_
  refine g_ald0 (pc' := 16) dX8_init_15 rfl ?_
  refine g_new (pc' := 19) (3, 0) (hF 3 0 (by decide)) (by decide) ⟨nX8_16, iw6, jw6⟩ (Nat.le_of_ble_eq_true rfl) (Nat.le_of_ble_eq_true rfl) dX8_init_16 rfl ?_
  refine g_dupR (pc' := 20) dX8_init_19 rfl ?_
  refine g_callI (pc' := 23) (c_X6_init l rfl (hF 4 0 (by decide)) (hF 5 0 (by decide))) wX6_init (Or.inr (fun h => h.1.2.1)) rfl rfl (Nat.le_of_ble_eq_true rfl) ⟨Nat.le_of_ble_eq_true rfl, Nat.le_of_ble_eq_true rfl⟩ ⟨Nat.le_of_ble_eq_true rfl, Nat.le_of_ble_eq_true rfl⟩ dX8_init_20 rfl (kN ?_)
  refine g_putR (pc' := 26) hT (by decide) ⟨fX8_19, Or.inr ⟨rfl, rfl⟩⟩ pTape (Or.inl ⟨_, rfl⟩) dX8_init_23 rfl ?_
  refine g_ald0 (pc' := 27) dX8_init_26 rfl ?_
  refine g_bipush (pc' := 29) (v := nI 6) dX8_init_27 rfl (by decide) ?_
  refine g_newA (pc' := 32) (len := 6) (Or.inl ⟨rfl, rfl⟩) (6, 0) (hF 6 0 (by decide)) rfl (Nat.le_of_ble_eq_true rfl) nX8_23 (Nat.le_of_ble_eq_true rfl) (Nat.le_of_ble_eq_true rfl) dX8_init_29 rfl ?_
  refine g_putR (pc' := 35) hT (by decide) ⟨fX8_25, Or.inr ⟨rfl, rfl⟩⟩ pALaw (Or.inr ⟨_, rfl⟩) dX8_init_32 rfl ?_
  refine g_ald0 (pc' := 36) dX8_init_35 rfl ?_
  refine g_bipush (pc' := 38) (v := nI 9) dX8_init_36 rfl (by decide) ?_
  refine g_newA (pc' := 41) (len := 9) (Or.inr (Or.inr ⟨rfl, rfl⟩)) (10, 0) (hF 10 0 (by decide)) rfl (Nat.le_of_ble_eq_true rfl) nX8_29 (Nat.le_of_ble_eq_true rfl) (Nat.le_of_ble_eq_true rfl) dX8_init_38 rfl ?_
  refine g_putR (pc' := 44) hT (by decide) ⟨fX8_31, Or.inr ⟨rfl, rfl⟩⟩ pAWorld (Or.inr ⟨_, rfl⟩) dX8_init_41 rfl ?_
  refine g_ald0 (pc' := 45) dX8_init_44 rfl ?_
  refine g_new (pc' := 48) (18, 0) (hF 18 0 (by decide)) (by decide) ⟨nX8_35, iw1, jw1⟩ (Nat.le_of_ble_eq_true rfl) (Nat.le_of_ble_eq_true rfl) dX8_init_45 rfl ?_
  refine g_dupR (pc' := 49) dX8_init_48 rfl ?_
  refine g_callI (pc' := 52) (c_X1_init l rfl (hF 19 0 (by decide)) (hF 20 0 (by decide)) (hF 21 0 (by decide)) (hF 22 0 (by decide))) wX1_init (Or.inr (fun h => h.1.2.2.1)) rfl rfl (Nat.le_of_ble_eq_true rfl) ⟨Nat.le_of_ble_eq_true rfl, Nat.le_of_ble_eq_true rfl⟩ ⟨Nat.le_of_ble_eq_true rfl, Nat.le_of_ble_eq_true rfl⟩ dX8_init_49 rfl (kN ?_)
  refine g_putR (pc' := 55) hT (by decide) ⟨fX8_38, Or.inr ⟨rfl, rfl⟩⟩ pChanges (Or.inl ⟨_, rfl⟩) dX8_init_52 rfl ?_
  refine g_ald0 (pc' := 56) dX8_init_55 rfl ?_
  refine g_new (pc' := 59) (23, 0) (hF 23 0 (by decide)) (by decide) ⟨nX8_42, iw0, jw0⟩ (Nat.le_of_ble_eq_true rfl) (Nat.le_of_ble_eq_true rfl) dX8_init_56 rfl ?_
  refine g_dupR (pc' := 60) dX8_init_59 rfl ?_
  refine g_callI (pc' := 63) (c_X0_init l rfl (hF 24 0 (by decide)) (hF 25 0 (by decide))) wX0_init (Or.inr (fun h => h.1.2.2.2.1)) rfl rfl (Nat.le_of_ble_eq_true rfl) ⟨Nat.le_of_ble_eq_true rfl, Nat.le_of_ble_eq_true rfl⟩ ⟨Nat.le_of_ble_eq_true rfl, Nat.le_of_ble_eq_true rfl⟩ dX8_init_60 rfl (kN ?_)
  refine g_putR (pc' := 66) hT (by decide) ⟨fX8_45, Or.inr ⟨rfl, rfl⟩⟩ pActs (Or.inl ⟨_, rfl⟩) dX8_init_63 rfl ?_
  refine g_ald0 (pc' := 67) dX8_init_66 rfl ?_
  refine g_bipush (pc' := 69) (v := nI 6) dX8_init_67 rfl (by decide) ?_
  refine g_newA (pc' := 72) (len := 6) (Or.inr (Or.inl ⟨rfl, rfl⟩)) (26, 0) (hF 26 0 (by decide)) rfl (Nat.le_of_ble_eq_true rfl) nX8_49 (Nat.le_of_ble_eq_true rfl) (Nat.le_of_ble_eq_true rfl) dX8_init_69 rfl ?_
  refine g_putR (pc' := 75) hT (by decide) ⟨fX8_51, Or.inr ⟨rfl, rfl⟩⟩ pAShelf (Or.inr ⟨_, rfl⟩) dX8_init_72 rfl ?_
  refine g_ald0 (pc' := 76) dX8_init_75 rfl ?_
  refine g_new (pc' := 79) (11, 9) (hF 11 9 (by decide)) (by decide) ⟨nX8_29, iw7, jw7⟩ (Nat.le_of_ble_eq_true rfl) (Nat.le_of_ble_eq_true rfl) dX8_init_76 rfl ?_
  refine g_dupR (pc' := 80) dX8_init_79 rfl ?_
  refine g_ald0 (pc' := 81) dX8_init_80 rfl ?_
  refine g_getR (pc' := 84) hT (by decide) fX8_10 (v := some (1, 0)) rfl dX8_init_81 rfl ?_
  refine g_callI (pc' := 87) (c_X7_init l (j := 9) rfl (hF 12 9 (by decide)) (hF 13 9 (by decide)) (hF 14 9 (by decide)) (hF 15 9 (by decide)) (hF 16 9 (by decide)) (hF 17 9 (by decide))) wX7_init (Or.inl lX8_55) rfl rfl (Nat.le_of_ble_eq_true rfl) ⟨Nat.le_of_ble_eq_true rfl, Nat.le_of_ble_eq_true rfl⟩ ⟨Nat.le_of_ble_eq_true rfl, Nat.le_of_ble_eq_true rfl⟩ dX8_init_84 rfl (kN ?_)
  refine g_putR (pc' := 90) hT (by decide) ⟨fX8_58, Or.inr ⟨rfl, rfl⟩⟩ pWorld (Or.inl ⟨_, rfl⟩) dX8_init_87 rfl ?_
  refine g_ald0 (pc' := 91) dX8_init_90 rfl ?_
  refine g_new (pc' := 94) (11, 10) (hF 11 10 (by decide)) (by decide) ⟨nX8_29, iw7, jw7⟩ (Nat.le_of_ble_eq_true rfl) (Nat.le_of_ble_eq_true rfl) dX8_init_91 rfl ?_
  refine g_dupR (pc' := 95) dX8_init_94 rfl ?_
  refine g_ald0 (pc' := 96) dX8_init_95 rfl ?_
  refine g_getR (pc' := 99) hT (by decide) fX8_10 (v := some (1, 0)) rfl dX8_init_96 rfl ?_
  refine g_callI (pc' := 102) (c_X7_init l (j := 10) rfl (hF 12 10 (by decide)) (hF 13 10 (by decide)) (hF 14 10 (by decide)) (hF 15 10 (by decide)) (hF 16 10 (by decide)) (hF 17 10 (by decide))) wX7_init (Or.inl lX8_55) rfl rfl (Nat.le_of_ble_eq_true rfl) ⟨Nat.le_of_ble_eq_true rfl, Nat.le_of_ble_eq_true rfl⟩ ⟨Nat.le_of_ble_eq_true rfl, Nat.le_of_ble_eq_true rfl⟩ dX8_init_99 rfl (kN ?_)
  refine g_putR (pc' := 105) hT (by decide) ⟨fX8_62, Or.inr ⟨rfl, rfl⟩⟩ pWorld (Or.inl ⟨_, rfl⟩) dX8_init_102 rfl ?_
  refine g_ald0 (pc' := 106) dX8_init_105 rfl ?_
  refine g_new (pc' := 109) (29, 0) (hF 29 0 (by decide)) (by decide) ⟨nX8_65, iw3, jw3⟩ (Nat.le_of_ble_eq_true rfl) (Nat.le_of_ble_eq_true rfl) dX8_init_106 rfl ?_
  refine g_dupR (pc' := 110) dX8_init_109 rfl ?_
  refine g_ald0 (pc' := 111) dX8_init_110 rfl ?_
  refine g_getR (pc' := 114) hT (by decide) fX8_10 (v := some (1, 0)) rfl dX8_init_111 rfl ?_
  refine g_ald0 (pc' := 115) dX8_init_114 rfl ?_
  refine g_getR (pc' := 118) hT (by decide) fX8_58 (v := some (11, 9)) rfl dX8_init_115 rfl ?_
  refine g_callI (pc' := 121) (c_X3_init l rfl (hF 30 0 (by decide)) (hF 31 0 (by decide))) wX3_init (Or.inl lX8_67) rfl rfl (Nat.le_of_ble_eq_true rfl) ⟨Nat.le_of_ble_eq_true rfl, Nat.le_of_ble_eq_true rfl⟩ ⟨Nat.le_of_ble_eq_true rfl, Nat.le_of_ble_eq_true rfl⟩ dX8_init_118 rfl (kN ?_)
  refine g_putR (pc' := 124) hT (by decide) ⟨fX8_70, Or.inr ⟨rfl, rfl⟩⟩ pOdds (Or.inl ⟨_, rfl⟩) dX8_init_121 rfl ?_
  refine g_ald0 (pc' := 125) dX8_init_124 rfl ?_
  refine g_bipush (pc' := 127) (v := nI 7) dX8_init_125 rfl (by decide) ?_
  refine g_newI (pc' := 129) (len := 7) (32, 0) (hF 32 0 (by decide)) rfl (Nat.le_of_ble_eq_true rfl) aw_int (Nat.le_of_ble_eq_true rfl) (Nat.le_of_ble_eq_true rfl) dX8_init_127 rfl ?_
  refine g_putR (pc' := 132) hT (by decide) ⟨fX8_74, Or.inr ⟨rfl, rfl⟩⟩ pAI (Or.inr ⟨_, rfl⟩) dX8_init_129 rfl ?_
  refine g_ald0 (pc' := 133) dX8_init_132 rfl ?_
  refine g_bipush (pc' := 135) (v := nI 12) dX8_init_133 rfl (by decide) ?_
  refine g_newI (pc' := 137) (len := 12) (33, 0) (hF 33 0 (by decide)) rfl (Nat.le_of_ble_eq_true rfl) aw_int (Nat.le_of_ble_eq_true rfl) (Nat.le_of_ble_eq_true rfl) dX8_init_135 rfl ?_
  refine g_putR (pc' := 140) hT (by decide) ⟨fX8_78, Or.inr ⟨rfl, rfl⟩⟩ pAI (Or.inr ⟨_, rfl⟩) dX8_init_137 rfl ?_
  refine g_ald0 (pc' := 141) dX8_init_140 rfl ?_
  refine g_bipush (pc' := 143) (v := nI 12) dX8_init_141 rfl (by decide) ?_
  refine g_newI (pc' := 145) (len := 12) (34, 0) (hF 34 0 (by decide)) rfl (Nat.le_of_ble_eq_true rfl) aw_int (Nat.le_of_ble_eq_true rfl) (Nat.le_of_ble_eq_true rfl) dX8_init_143 rfl ?_
  refine g_putR (pc' := 148) hT (by decide) ⟨fX8_81, Or.inr ⟨rfl, rfl⟩⟩ pAI (Or.inr ⟨_, rfl⟩) dX8_init_145 rfl ?_
  refine g_ald0 (pc' := 149) dX8_init_148 rfl ?_
  refine g_bipush (pc' := 151) (v := nI 36) dX8_init_149 rfl (by decide) ?_
  refine g_newI (pc' := 153) (len := 36) (35, 0) (hF 35 0 (by decide)) rfl (Nat.le_of_ble_eq_true rfl) aw_int (Nat.le_of_ble_eq_true rfl) (Nat.le_of_ble_eq_true rfl) dX8_init_151 rfl ?_
  refine g_putR (pc' := 156) hT (by decide) ⟨fX8_84, Or.inr ⟨rfl, rfl⟩⟩ pAI (Or.inr ⟨_, rfl⟩) dX8_init_153 rfl ?_
  refine g_iconst (pc' := 157) (v := nI 0) dX8_init_156 rfl (by decide) ?_
  refine g_ist1 (pc' := 158) rfl (by decide) dX8_init_157 rfl ?_
  refine g_ild1 (pc' := 159) dX8_init_158 rfl ?_
  refine g_bipush (pc' := 161) (v := nI 6) dX8_init_159 rfl (by decide) ?_
  refine g_icmpgeN (pc' := 164) (by omega) (by omega) (tgt := 183) dX8_init_161 (by decide) rfl (fun h161 => ?_) (fun h161 => ?_)
  · exact absurd h161 (by omega)
  · refine g_ald0 (pc' := 165) dX8_init_164 rfl ?_
    refine g_getR (pc' := 168) hT (by decide) fX8_51 (v := some (26, 0)) rfl dX8_init_165 rfl ?_
    refine g_ild1 (pc' := 169) dX8_init_168 rfl ?_
    refine g_new (pc' := 172) (27, 0) (hF 27 0 (by decide)) (by decide) ⟨nX8_49, iw4, jw4⟩ (Nat.le_of_ble_eq_true rfl) (Nat.le_of_ble_eq_true rfl) dX8_init_169 rfl ?_
    refine g_dupR (pc' := 173) dX8_init_172 rfl ?_
    refine g_callI (pc' := 176) (c_X4_init l (j := 0) rfl (hF 28 0 (by decide))) wX4_init (Or.inr (fun h => h.1.2.2.2.2)) rfl rfl (Nat.le_of_ble_eq_true rfl) ⟨Nat.le_of_ble_eq_true rfl, Nat.le_of_ble_eq_true rfl⟩ ⟨Nat.le_of_ble_eq_true rfl, Nat.le_of_ble_eq_true rfl⟩ dX8_init_173 rfl (kN ?_)
    refine g_aast (pc' := 177) (j := 0) (Or.inr (Or.inl ⟨rfl, rfl⟩)) (rfl) (rfl) rfl (by omega) (by decide) dX8_init_176 rfl ?_
    refine g_inc1 (pc' := 180) rfl (by decide) (v := nI (0 + 1)) (nI_1 _) dX8_init_177 rfl ?_
    refine g_goto (tgt := 158) dX8_init_180 (by decide) ?_
    refine g_ild1 (pc' := 159) dX8_init_158 rfl ?_
    refine g_bipush (pc' := 161) (v := nI 6) dX8_init_159 rfl (by decide) ?_
    refine g_icmpgeN (pc' := 164) (by omega) (by omega) (tgt := 183) dX8_init_161 (by decide) rfl (fun h161 => ?_) (fun h161 => ?_)
    · exact absurd h161 (by omega)
    · refine g_ald0 (pc' := 165) dX8_init_164 rfl ?_
      refine g_getR (pc' := 168) hT (by decide) fX8_51 (v := some (26, 0)) rfl dX8_init_165 rfl ?_
      refine g_ild1 (pc' := 169) dX8_init_168 rfl ?_
      refine g_new (pc' := 172) (27, 1) (hF 27 1 (by decide)) (by decide) ⟨nX8_49, iw4, jw4⟩ (Nat.le_of_ble_eq_true rfl) (Nat.le_of_ble_eq_true rfl) dX8_init_169 rfl ?_
      refine g_dupR (pc' := 173) dX8_init_172 rfl ?_
      refine g_callI (pc' := 176) (c_X4_init l (j := 1) rfl (hF 28 1 (by decide))) wX4_init (Or.inr (fun h => h.1.2.2.2.2)) rfl rfl (Nat.le_of_ble_eq_true rfl) ⟨Nat.le_of_ble_eq_true rfl, Nat.le_of_ble_eq_true rfl⟩ ⟨Nat.le_of_ble_eq_true rfl, Nat.le_of_ble_eq_true rfl⟩ dX8_init_173 rfl (kN ?_)
      refine g_aast (pc' := 177) (j := 1) (Or.inr (Or.inl ⟨rfl, rfl⟩)) (rfl) (rfl) rfl (by omega) (by decide) dX8_init_176 rfl ?_
      refine g_inc1 (pc' := 180) rfl (by decide) (v := nI (1 + 1)) (nI_1 _) dX8_init_177 rfl ?_
      refine g_goto (tgt := 158) dX8_init_180 (by decide) ?_
      refine g_ild1 (pc' := 159) dX8_init_158 rfl ?_
      refine g_bipush (pc' := 161) (v := nI 6) dX8_init_159 rfl (by decide) ?_
      refine g_icmpgeN (pc' := 164) (by omega) (by omega) (tgt := 183) dX8_init_161 (by decide) rfl (fun h161 => ?_) (fun h161 => ?_)
      · exact absurd h161 (by omega)
      · refine g_ald0 (pc' := 165) dX8_init_164 rfl ?_
        refine g_getR (pc' := 168) hT (by decide) fX8_51 (v := some (26, 0)) rfl dX8_init_165 rfl ?_
        refine g_ild1 (pc' := 169) dX8_init_168 rfl ?_
        refine g_new (pc' := 172) (27, 2) (hF 27 2 (by decide)) (by decide) ⟨nX8_49, iw4, jw4⟩ (Nat.le_of_ble_eq_true rfl) (Nat.le_of_ble_eq_true rfl) dX8_init_169 rfl ?_
        refine g_dupR (pc' := 173) dX8_init_172 rfl ?_
        refine g_callI (pc' := 176) (c_X4_init l (j := 2) rfl (hF 28 2 (by decide))) wX4_init (Or.inr (fun h => h.1.2.2.2.2)) rfl rfl (Nat.le_of_ble_eq_true rfl) ⟨Nat.le_of_ble_eq_true rfl, Nat.le_of_ble_eq_true rfl⟩ ⟨Nat.le_of_ble_eq_true rfl, Nat.le_of_ble_eq_true rfl⟩ dX8_init_173 rfl (kN ?_)
        refine g_aast (pc' := 177) (j := 2) (Or.inr (Or.inl ⟨rfl, rfl⟩)) (rfl) (rfl) rfl (by omega) (by decide) dX8_init_176 rfl ?_
        refine g_inc1 (pc' := 180) rfl (by decide) (v := nI (2 + 1)) (nI_1 _) dX8_init_177 rfl ?_
        refine g_goto (tgt := 158) dX8_init_180 (by decide) ?_
        refine g_ild1 (pc' := 159) dX8_init_158 rfl ?_
        refine g_bipush (pc' := 161) (v := nI 6) dX8_init_159 rfl (by decide) ?_
        refine g_icmpgeN (pc' := 164) (by omega) (by omega) (tgt := 183) dX8_init_161 (by decide) rfl (fun h161 => ?_) (fun h161 => ?_)
        · exact absurd h161 (by omega)
        · refine g_ald0 (pc' := 165) dX8_init_164 rfl ?_
          refine g_getR (pc' := 168) hT (by decide) fX8_51 (v := some (26, 0)) rfl dX8_init_165 rfl ?_
          refine g_ild1 (pc' := 169) dX8_init_168 rfl ?_
          refine g_new (pc' := 172) (27, 3) (hF 27 3 (by decide)) (by decide) ⟨nX8_49, iw4, jw4⟩ (Nat.le_of_ble_eq_true rfl) (Nat.le_of_ble_eq_true rfl) dX8_init_169 rfl ?_
          refine g_dupR (pc' := 173) dX8_init_172 rfl ?_
          refine g_callI (pc' := 176) (c_X4_init l (j := 3) rfl (hF 28 3 (by decide))) wX4_init (Or.inr (fun h => h.1.2.2.2.2)) rfl rfl (Nat.le_of_ble_eq_true rfl) ⟨Nat.le_of_ble_eq_true rfl, Nat.le_of_ble_eq_true rfl⟩ ⟨Nat.le_of_ble_eq_true rfl, Nat.le_of_ble_eq_true rfl⟩ dX8_init_173 rfl (kN ?_)
          refine g_aast (pc' := 177) (j := 3) (Or.inr (Or.inl ⟨rfl, rfl⟩)) (rfl) (rfl) rfl (by omega) (by decide) dX8_init_176 rfl ?_
          refine g_inc1 (pc' := 180) rfl (by decide) (v := nI (3 + 1)) (nI_1 _) dX8_init_177 rfl ?_
          refine g_goto (tgt := 158) dX8_init_180 (by decide) ?_
          refine g_ild1 (pc' := 159) dX8_init_158 rfl ?_
          refine g_bipush (pc' := 161) (v := nI 6) dX8_init_159 rfl (by decide) ?_
          refine g_icmpgeN (pc' := 164) (by omega) (by omega) (tgt := 183) dX8_init_161 (by decide) rfl (fun h161 => ?_) (fun h161 => ?_)
          · exact absurd h161 (by omega)
          · refine g_ald0 (pc' := 165) dX8_init_164 rfl ?_
            refine g_getR (pc' := 168) hT (by decide) fX8_51 (v := some (26, 0)) rfl dX8_init_165 rfl ?_
            refine g_ild1 (pc' := 169) dX8_init_168 rfl ?_
            refine g_new (pc' := 172) (27, 4) (hF 27 4 (by decide)) (by decide) ⟨nX8_49, iw4, jw4⟩ (Nat.le_of_ble_eq_true rfl) (Nat.le_of_ble_eq_true rfl) dX8_init_169 rfl ?_
            refine g_dupR (pc' := 173) dX8_init_172 rfl ?_
            refine g_callI (pc' := 176) (c_X4_init l (j := 4) rfl (hF 28 4 (by decide))) wX4_init (Or.inr (fun h => h.1.2.2.2.2)) rfl rfl (Nat.le_of_ble_eq_true rfl) ⟨Nat.le_of_ble_eq_true rfl, Nat.le_of_ble_eq_true rfl⟩ ⟨Nat.le_of_ble_eq_true rfl, Nat.le_of_ble_eq_true rfl⟩ dX8_init_173 rfl (kN ?_)
            refine g_aast (pc' := 177) (j := 4) (Or.inr (Or.inl ⟨rfl, rfl⟩)) (rfl) (rfl) rfl (by omega) (by decide) dX8_init_176 rfl ?_
            refine g_inc1 (pc' := 180) rfl (by decide) (v := nI (4 + 1)) (nI_1 _) dX8_init_177 rfl ?_
            refine g_goto (tgt := 158) dX8_init_180 (by decide) ?_
            refine g_ild1 (pc' := 159) dX8_init_158 rfl ?_
            refine g_bipush (pc' := 161) (v := nI 6) dX8_init_159 rfl (by decide) ?_
            refine g_icmpgeN (pc' := 164) (by omega) (by omega) (tgt := 183) dX8_init_161 (by decide) rfl (fun h161 => ?_) (fun h161 => ?_)
            · exact absurd h161 (by omega)
            · refine g_ald0 (pc' := 165) dX8_init_164 rfl ?_
              refine g_getR (pc' := 168) hT (by decide) fX8_51 (v := some (26, 0)) rfl dX8_init_165 rfl ?_
              refine g_ild1 (pc' := 169) dX8_init_168 rfl ?_
              refine g_new (pc' := 172) (27, 5) (hF 27 5 (by decide)) (by decide) ⟨nX8_49, iw4, jw4⟩ (Nat.le_of_ble_eq_true rfl) (Nat.le_of_ble_eq_true rfl) dX8_init_169 rfl ?_
              refine g_dupR (pc' := 173) dX8_init_172 rfl ?_
              refine g_callI (pc' := 176) (c_X4_init l (j := 5) rfl (hF 28 5 (by decide))) wX4_init (Or.inr (fun h => h.1.2.2.2.2)) rfl rfl (Nat.le_of_ble_eq_true rfl) ⟨Nat.le_of_ble_eq_true rfl, Nat.le_of_ble_eq_true rfl⟩ ⟨Nat.le_of_ble_eq_true rfl, Nat.le_of_ble_eq_true rfl⟩ dX8_init_173 rfl (kN ?_)
              refine g_aast (pc' := 177) (j := 5) (Or.inr (Or.inl ⟨rfl, rfl⟩)) (rfl) (rfl) rfl (by omega) (by decide) dX8_init_176 rfl ?_
              refine g_inc1 (pc' := 180) rfl (by decide) (v := nI (5 + 1)) (nI_1 _) dX8_init_177 rfl ?_
              refine g_goto (tgt := 158) dX8_init_180 (by decide) ?_
              refine g_ild1 (pc' := 159) dX8_init_158 rfl ?_
              refine g_bipush (pc' := 161) (v := nI 6) dX8_init_159 rfl (by decide) ?_
              refine g_icmpgeN (pc' := 164) (by omega) (by omega) (tgt := 183) dX8_init_161 (by decide) rfl (fun h161 => ?_) (fun h161 => ?_)
              · refine g_vret rfl dX8_init_183 ?_
                exact ⟨rfl, rfl, rfl, rfl, rfl⟩
              · exact absurd h161 (by omega)
