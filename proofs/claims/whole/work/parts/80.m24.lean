/-! the model: the constructor -/
def S1n (S : Shp) : Shp := (upT (upT (upT (upT (upT (upT (upT (upT (upT (upT (upT (upT (upT (upT (upT (upT (upT (upT (upT (upT (upT (upT (upT (upT (upT (upT (upT S (50, 0) (1, 155)) (51, 0) (1, 40)) (52, 0) (1, 40)) (53, 0) (1, 40)) (57, 0) (1, 120)) (60, 0) (1, 720)) (61, 0) (1, 6)) (67, 0) (1, 7)) (69, 0) (1, 11)) (70, 0) (1, 11)) (71, 0) (1, 11)) (72, 0) (1, 11)) (73, 0) (1, 11)) (74, 0) (1, 11)) (75, 0) (1, 2200)) (76, 0) (1, 12)) (80, 0) (1, 28)) (81, 0) (1, 12)) (82, 0) (1, 9)) (83, 0) (1, 36)) (84, 0) (1, 12)) (86, 0) (1, 50)) (87, 0) (1, 24)) (91, 0) (1, 6)) (92, 0) (1, 6)) (93, 0) (3, 360)) (94, 0) (3, 60))
def I1n (I : MI) : MI := (upM (upM (upM (upM (upM (upM (upT (upT (upT (upT (upT (upT (upT (upT (upT (upT (upT (upT (upT (upT (upT (upT (upT (upT (upT (upT (upT (upT (upT (upT (upT I (50, 0) (fun _ => 0)) (51, 0) (fun _ => 0)) (52, 0) (fun _ => 0)) (53, 0) (fun _ => 0)) (57, 0) (fun _ => 0)) (60, 0) (fun _ => 0)) (61, 0) (fun _ => 0)) (67, 0) (fun _ => 0)) (69, 0) (fun _ => 0)) (70, 0) (fun _ => 0)) (71, 0) (fun _ => 0)) (72, 0) (fun _ => 0)) (73, 0) (fun _ => 0)) (74, 0) (fun _ => 0)) (75, 0) (fun _ => 0)) (76, 0) (fun _ => 0)) (80, 0) (fun _ => 0)) (81, 0) (fun _ => 0)) (82, 0) (fun _ => 0)) (83, 0) (fun _ => 0)) (84, 0) (fun _ => 0)) (86, 0) (fun _ => 0)) (87, 0) (fun _ => 0)) (91, 0) (fun _ => 0)) (92, 0) (fun _ => 0)) (91, 0) 0 (-1)) (91, 0) 1 (-1)) (91, 0) 2 (-1)) (91, 0) 3 (-1)) (91, 0) 4 (-1)) (91, 0) 5 (-1))
def L1n (L : ML) : ML := (upT (upT L (93, 0) (fun _ => 0)) (94, 0) (fun _ => 0))
def R1n (R : MR) : MR := (upM (upT (upM (upT (upM (upT (upM (upT (upM (upT (upM (upT (upM (upT (upM (upT (upM (upT (upM (upT (upM (upT (upM (upT (upM (upT (upM (upT (upM (upT (upM (upT (upM (upT (upM (upT (upM (upT (upM (upT (upM (upT (upM (upT (upM (upT (upM (upT (upM (upT (upM (upT (upM (upT R (50, 0) (fun _ => none)) (40, 0) 0 (some (50, 0))) (51, 0) (fun _ => none)) (40, 0) 1 (some (51, 0))) (52, 0) (fun _ => none)) (40, 0) 2 (some (52, 0))) (53, 0) (fun _ => none)) (40, 0) 3 (some (53, 0))) (57, 0) (fun _ => none)) (40, 0) 7 (some (57, 0))) (60, 0) (fun _ => none)) (40, 0) 10 (some (60, 0))) (61, 0) (fun _ => none)) (40, 0) 11 (some (61, 0))) (67, 0) (fun _ => none)) (40, 0) 17 (some (67, 0))) (69, 0) (fun _ => none)) (40, 0) 19 (some (69, 0))) (70, 0) (fun _ => none)) (40, 0) 20 (some (70, 0))) (71, 0) (fun _ => none)) (40, 0) 21 (some (71, 0))) (72, 0) (fun _ => none)) (40, 0) 22 (some (72, 0))) (73, 0) (fun _ => none)) (40, 0) 23 (some (73, 0))) (74, 0) (fun _ => none)) (40, 0) 24 (some (74, 0))) (75, 0) (fun _ => none)) (40, 0) 25 (some (75, 0))) (76, 0) (fun _ => none)) (40, 0) 26 (some (76, 0))) (80, 0) (fun _ => none)) (40, 0) 30 (some (80, 0))) (81, 0) (fun _ => none)) (40, 0) 31 (some (81, 0))) (82, 0) (fun _ => none)) (40, 0) 32 (some (82, 0))) (83, 0) (fun _ => none)) (40, 0) 33 (some (83, 0))) (84, 0) (fun _ => none)) (40, 0) 34 (some (84, 0))) (86, 0) (fun _ => none)) (40, 0) 36 (some (86, 0))) (87, 0) (fun _ => none)) (40, 0) 37 (some (87, 0))) (91, 0) (fun _ => none)) (40, 0) 41 (some (91, 0))) (92, 0) (fun _ => none)) (40, 0) 42 (some (92, 0))) (93, 0) (fun _ => none)) (40, 0) 43 (some (93, 0))) (94, 0) (fun _ => none)) (40, 0) 44 (some (94, 0)))
theorem c_X9_init (l : Launch) {S : Shp} {I : MI} {L : ML} {R : MR} (hT : S (40, 0) = (19, 0)) (hF : ∀ k, 49 < k ∧ k < 96 → (S (k, 0)).1 = 0) : Ct l mX9_init 1 27 4009 [.inr (.inr (some (40, 0)))] S I L R (PNv (S1n S) (I1n I) (L1n L) (R1n R)) := by
  refine Ct.of [some (.inr (.inr (some (40, 0)))), none] (by decide) rfl (Nat.le_of_ble_eq_true rfl) ?_
  refine g_ald0 (pc' := 1) dX9_init_0 rfl ?_
  refine g_oinit (pc' := 4) ⟨lX9_3, oinst, ocode⟩ ⟨Nat.le_of_ble_eq_true rfl, Nat.le_of_ble_eq_true rfl⟩ dX9_init_1 rfl ?_
  refine g_ald0 (pc' := 5) dX9_init_4 rfl ?_
  refine g_sipush (pc' := 8) (v := nI 155) dX9_init_5 rfl (by decide) ?_
  refine g_newI (pc' := 10) (len := 155) (50, 0) (hF 50 (by decide)) rfl (Nat.le_of_ble_eq_true rfl) aw_int (Nat.le_of_ble_eq_true rfl) (Nat.le_of_ble_eq_true rfl) dX9_init_8 rfl ?_
  refine g_putR (pc' := 13) hT (by decide) ⟨fX9_9, Or.inr ⟨rfl, rfl⟩⟩ pAI (Or.inr ⟨_, rfl⟩) dX9_init_10 rfl ?_
  refine g_ald0 (pc' := 14) dX9_init_13 rfl ?_
  refine g_bipush (pc' := 16) (v := nI 40) dX9_init_14 rfl (by decide) ?_
  refine g_newI (pc' := 18) (len := 40) (51, 0) (hF 51 (by decide)) rfl (Nat.le_of_ble_eq_true rfl) aw_int (Nat.le_of_ble_eq_true rfl) (Nat.le_of_ble_eq_true rfl) dX9_init_16 rfl ?_
  refine g_putR (pc' := 21) hT (by decide) ⟨fX9_13, Or.inr ⟨rfl, rfl⟩⟩ pAI (Or.inr ⟨_, rfl⟩) dX9_init_18 rfl ?_
  refine g_ald0 (pc' := 22) dX9_init_21 rfl ?_
  refine g_bipush (pc' := 24) (v := nI 40) dX9_init_22 rfl (by decide) ?_
  refine g_newI (pc' := 26) (len := 40) (52, 0) (hF 52 (by decide)) rfl (Nat.le_of_ble_eq_true rfl) aw_int (Nat.le_of_ble_eq_true rfl) (Nat.le_of_ble_eq_true rfl) dX9_init_24 rfl ?_
  refine g_putR (pc' := 29) hT (by decide) ⟨fX9_16, Or.inr ⟨rfl, rfl⟩⟩ pAI (Or.inr ⟨_, rfl⟩) dX9_init_26 rfl ?_
  refine g_ald0 (pc' := 30) dX9_init_29 rfl ?_
  refine g_bipush (pc' := 32) (v := nI 40) dX9_init_30 rfl (by decide) ?_
  refine g_newI (pc' := 34) (len := 40) (53, 0) (hF 53 (by decide)) rfl (Nat.le_of_ble_eq_true rfl) aw_int (Nat.le_of_ble_eq_true rfl) (Nat.le_of_ble_eq_true rfl) dX9_init_32 rfl ?_
  refine g_putR (pc' := 37) hT (by decide) ⟨fX9_19, Or.inr ⟨rfl, rfl⟩⟩ pAI (Or.inr ⟨_, rfl⟩) dX9_init_34 rfl ?_
  refine g_ald0 (pc' := 38) dX9_init_37 rfl ?_
  refine g_bipush (pc' := 40) (v := nI 120) dX9_init_38 rfl (by decide) ?_
  refine g_newI (pc' := 42) (len := 120) (57, 0) (hF 57 (by decide)) rfl (Nat.le_of_ble_eq_true rfl) aw_int (Nat.le_of_ble_eq_true rfl) (Nat.le_of_ble_eq_true rfl) dX9_init_40 rfl ?_
  refine g_putR (pc' := 45) hT (by decide) ⟨fX9_22, Or.inr ⟨rfl, rfl⟩⟩ pAI (Or.inr ⟨_, rfl⟩) dX9_init_42 rfl ?_
  refine g_ald0 (pc' := 46) dX9_init_45 rfl ?_
  refine g_sipush (pc' := 49) (v := nI 720) dX9_init_46 rfl (by decide) ?_
  refine g_newI (pc' := 51) (len := 720) (60, 0) (hF 60 (by decide)) rfl (Nat.le_of_ble_eq_true rfl) aw_int (Nat.le_of_ble_eq_true rfl) (Nat.le_of_ble_eq_true rfl) dX9_init_49 rfl ?_
  refine g_putR (pc' := 54) hT (by decide) ⟨fX9_25, Or.inr ⟨rfl, rfl⟩⟩ pAI (Or.inr ⟨_, rfl⟩) dX9_init_51 rfl ?_
  refine g_ald0 (pc' := 55) dX9_init_54 rfl ?_
  refine g_bipush (pc' := 57) (v := nI 6) dX9_init_55 rfl (by decide) ?_
  refine g_newI (pc' := 59) (len := 6) (61, 0) (hF 61 (by decide)) rfl (Nat.le_of_ble_eq_true rfl) aw_int (Nat.le_of_ble_eq_true rfl) (Nat.le_of_ble_eq_true rfl) dX9_init_57 rfl ?_
  refine g_putR (pc' := 62) hT (by decide) ⟨fX9_28, Or.inr ⟨rfl, rfl⟩⟩ pAI (Or.inr ⟨_, rfl⟩) dX9_init_59 rfl ?_
  refine g_ald0 (pc' := 63) dX9_init_62 rfl ?_
  refine g_bipush (pc' := 65) (v := nI 7) dX9_init_63 rfl (by decide) ?_
  refine g_newI (pc' := 67) (len := 7) (67, 0) (hF 67 (by decide)) rfl (Nat.le_of_ble_eq_true rfl) aw_int (Nat.le_of_ble_eq_true rfl) (Nat.le_of_ble_eq_true rfl) dX9_init_65 rfl ?_
  refine g_putR (pc' := 70) hT (by decide) ⟨fX9_31, Or.inr ⟨rfl, rfl⟩⟩ pAI (Or.inr ⟨_, rfl⟩) dX9_init_67 rfl ?_
  refine g_ald0 (pc' := 71) dX9_init_70 rfl ?_
  refine g_bipush (pc' := 73) (v := nI 11) dX9_init_71 rfl (by decide) ?_
  refine g_newI (pc' := 75) (len := 11) (69, 0) (hF 69 (by decide)) rfl (Nat.le_of_ble_eq_true rfl) aw_int (Nat.le_of_ble_eq_true rfl) (Nat.le_of_ble_eq_true rfl) dX9_init_73 rfl ?_
  refine g_putR (pc' := 78) hT (by decide) ⟨fX9_34, Or.inr ⟨rfl, rfl⟩⟩ pAI (Or.inr ⟨_, rfl⟩) dX9_init_75 rfl ?_
  refine g_ald0 (pc' := 79) dX9_init_78 rfl ?_
  refine g_bipush (pc' := 81) (v := nI 11) dX9_init_79 rfl (by decide) ?_
  refine g_newI (pc' := 83) (len := 11) (70, 0) (hF 70 (by decide)) rfl (Nat.le_of_ble_eq_true rfl) aw_int (Nat.le_of_ble_eq_true rfl) (Nat.le_of_ble_eq_true rfl) dX9_init_81 rfl ?_
  refine g_putR (pc' := 86) hT (by decide) ⟨fX9_37, Or.inr ⟨rfl, rfl⟩⟩ pAI (Or.inr ⟨_, rfl⟩) dX9_init_83 rfl ?_
  refine g_ald0 (pc' := 87) dX9_init_86 rfl ?_
  refine g_bipush (pc' := 89) (v := nI 11) dX9_init_87 rfl (by decide) ?_
  refine g_newI (pc' := 91) (len := 11) (71, 0) (hF 71 (by decide)) rfl (Nat.le_of_ble_eq_true rfl) aw_int (Nat.le_of_ble_eq_true rfl) (Nat.le_of_ble_eq_true rfl) dX9_init_89 rfl ?_
  refine g_putR (pc' := 94) hT (by decide) ⟨fX9_40, Or.inr ⟨rfl, rfl⟩⟩ pAI (Or.inr ⟨_, rfl⟩) dX9_init_91 rfl ?_
  refine g_ald0 (pc' := 95) dX9_init_94 rfl ?_
  refine g_bipush (pc' := 97) (v := nI 11) dX9_init_95 rfl (by decide) ?_
  refine g_newI (pc' := 99) (len := 11) (72, 0) (hF 72 (by decide)) rfl (Nat.le_of_ble_eq_true rfl) aw_int (Nat.le_of_ble_eq_true rfl) (Nat.le_of_ble_eq_true rfl) dX9_init_97 rfl ?_
  refine g_putR (pc' := 102) hT (by decide) ⟨fX9_43, Or.inr ⟨rfl, rfl⟩⟩ pAI (Or.inr ⟨_, rfl⟩) dX9_init_99 rfl ?_
  refine g_ald0 (pc' := 103) dX9_init_102 rfl ?_
  refine g_bipush (pc' := 105) (v := nI 11) dX9_init_103 rfl (by decide) ?_
  refine g_newI (pc' := 107) (len := 11) (73, 0) (hF 73 (by decide)) rfl (Nat.le_of_ble_eq_true rfl) aw_int (Nat.le_of_ble_eq_true rfl) (Nat.le_of_ble_eq_true rfl) dX9_init_105 rfl ?_
  refine g_putR (pc' := 110) hT (by decide) ⟨fX9_46, Or.inr ⟨rfl, rfl⟩⟩ pAI (Or.inr ⟨_, rfl⟩) dX9_init_107 rfl ?_
  refine g_ald0 (pc' := 111) dX9_init_110 rfl ?_
  refine g_bipush (pc' := 113) (v := nI 11) dX9_init_111 rfl (by decide) ?_
  refine g_newI (pc' := 115) (len := 11) (74, 0) (hF 74 (by decide)) rfl (Nat.le_of_ble_eq_true rfl) aw_int (Nat.le_of_ble_eq_true rfl) (Nat.le_of_ble_eq_true rfl) dX9_init_113 rfl ?_
  refine g_putR (pc' := 118) hT (by decide) ⟨fX9_49, Or.inr ⟨rfl, rfl⟩⟩ pAI (Or.inr ⟨_, rfl⟩) dX9_init_115 rfl ?_
  refine g_ald0 (pc' := 119) dX9_init_118 rfl ?_
  refine g_sipush (pc' := 122) (v := nI 2200) dX9_init_119 rfl (by decide) ?_
  refine g_newI (pc' := 124) (len := 2200) (75, 0) (hF 75 (by decide)) rfl (Nat.le_of_ble_eq_true rfl) aw_int (Nat.le_of_ble_eq_true rfl) (Nat.le_of_ble_eq_true rfl) dX9_init_122 rfl ?_
  refine g_putR (pc' := 127) hT (by decide) ⟨fX9_52, Or.inr ⟨rfl, rfl⟩⟩ pAI (Or.inr ⟨_, rfl⟩) dX9_init_124 rfl ?_
  refine g_ald0 (pc' := 128) dX9_init_127 rfl ?_
  refine g_bipush (pc' := 130) (v := nI 12) dX9_init_128 rfl (by decide) ?_
  refine g_newI (pc' := 132) (len := 12) (76, 0) (hF 76 (by decide)) rfl (Nat.le_of_ble_eq_true rfl) aw_int (Nat.le_of_ble_eq_true rfl) (Nat.le_of_ble_eq_true rfl) dX9_init_130 rfl ?_
  refine g_putR (pc' := 135) hT (by decide) ⟨fX9_55, Or.inr ⟨rfl, rfl⟩⟩ pAI (Or.inr ⟨_, rfl⟩) dX9_init_132 rfl ?_
  refine g_ald0 (pc' := 136) dX9_init_135 rfl ?_
  refine g_bipush (pc' := 138) (v := nI 28) dX9_init_136 rfl (by decide) ?_
  refine g_newI (pc' := 140) (len := 28) (80, 0) (hF 80 (by decide)) rfl (Nat.le_of_ble_eq_true rfl) aw_int (Nat.le_of_ble_eq_true rfl) (Nat.le_of_ble_eq_true rfl) dX9_init_138 rfl ?_
  refine g_putR (pc' := 143) hT (by decide) ⟨fX9_58, Or.inr ⟨rfl, rfl⟩⟩ pAI (Or.inr ⟨_, rfl⟩) dX9_init_140 rfl ?_
  refine g_ald0 (pc' := 144) dX9_init_143 rfl ?_
  refine g_bipush (pc' := 146) (v := nI 12) dX9_init_144 rfl (by decide) ?_
  refine g_newI (pc' := 148) (len := 12) (81, 0) (hF 81 (by decide)) rfl (Nat.le_of_ble_eq_true rfl) aw_int (Nat.le_of_ble_eq_true rfl) (Nat.le_of_ble_eq_true rfl) dX9_init_146 rfl ?_
  refine g_putR (pc' := 151) hT (by decide) ⟨fX9_61, Or.inr ⟨rfl, rfl⟩⟩ pAI (Or.inr ⟨_, rfl⟩) dX9_init_148 rfl ?_
  refine g_ald0 (pc' := 152) dX9_init_151 rfl ?_
  refine g_bipush (pc' := 154) (v := nI 9) dX9_init_152 rfl (by decide) ?_
  refine g_newI (pc' := 156) (len := 9) (82, 0) (hF 82 (by decide)) rfl (Nat.le_of_ble_eq_true rfl) aw_int (Nat.le_of_ble_eq_true rfl) (Nat.le_of_ble_eq_true rfl) dX9_init_154 rfl ?_
  refine g_putR (pc' := 159) hT (by decide) ⟨fX9_64, Or.inr ⟨rfl, rfl⟩⟩ pAI (Or.inr ⟨_, rfl⟩) dX9_init_156 rfl ?_
  refine g_ald0 (pc' := 160) dX9_init_159 rfl ?_
  refine g_bipush (pc' := 162) (v := nI 36) dX9_init_160 rfl (by decide) ?_
  refine g_newI (pc' := 164) (len := 36) (83, 0) (hF 83 (by decide)) rfl (Nat.le_of_ble_eq_true rfl) aw_int (Nat.le_of_ble_eq_true rfl) (Nat.le_of_ble_eq_true rfl) dX9_init_162 rfl ?_
  refine g_putR (pc' := 167) hT (by decide) ⟨fX9_67, Or.inr ⟨rfl, rfl⟩⟩ pAI (Or.inr ⟨_, rfl⟩) dX9_init_164 rfl ?_
  refine g_ald0 (pc' := 168) dX9_init_167 rfl ?_
  refine g_bipush (pc' := 170) (v := nI 12) dX9_init_168 rfl (by decide) ?_
  refine g_newI (pc' := 172) (len := 12) (84, 0) (hF 84 (by decide)) rfl (Nat.le_of_ble_eq_true rfl) aw_int (Nat.le_of_ble_eq_true rfl) (Nat.le_of_ble_eq_true rfl) dX9_init_170 rfl ?_
  refine g_putR (pc' := 175) hT (by decide) ⟨fX9_70, Or.inr ⟨rfl, rfl⟩⟩ pAI (Or.inr ⟨_, rfl⟩) dX9_init_172 rfl ?_
  refine g_ald0 (pc' := 176) dX9_init_175 rfl ?_
  refine g_bipush (pc' := 178) (v := nI 50) dX9_init_176 rfl (by decide) ?_
  refine g_newI (pc' := 180) (len := 50) (86, 0) (hF 86 (by decide)) rfl (Nat.le_of_ble_eq_true rfl) aw_int (Nat.le_of_ble_eq_true rfl) (Nat.le_of_ble_eq_true rfl) dX9_init_178 rfl ?_
  refine g_putR (pc' := 183) hT (by decide) ⟨fX9_73, Or.inr ⟨rfl, rfl⟩⟩ pAI (Or.inr ⟨_, rfl⟩) dX9_init_180 rfl ?_
  refine g_ald0 (pc' := 184) dX9_init_183 rfl ?_
  refine g_bipush (pc' := 186) (v := nI 24) dX9_init_184 rfl (by decide) ?_
  refine g_newI (pc' := 188) (len := 24) (87, 0) (hF 87 (by decide)) rfl (Nat.le_of_ble_eq_true rfl) aw_int (Nat.le_of_ble_eq_true rfl) (Nat.le_of_ble_eq_true rfl) dX9_init_186 rfl ?_
  refine g_putR (pc' := 191) hT (by decide) ⟨fX9_76, Or.inr ⟨rfl, rfl⟩⟩ pAI (Or.inr ⟨_, rfl⟩) dX9_init_188 rfl ?_
  refine g_ald0 (pc' := 192) dX9_init_191 rfl ?_
  refine g_bipush (pc' := 194) (v := nI 6) dX9_init_192 rfl (by decide) ?_
  refine g_newI (pc' := 196) (len := 6) (91, 0) (hF 91 (by decide)) rfl (Nat.le_of_ble_eq_true rfl) aw_int (Nat.le_of_ble_eq_true rfl) (Nat.le_of_ble_eq_true rfl) dX9_init_194 rfl ?_
  refine g_putR (pc' := 199) hT (by decide) ⟨fX9_79, Or.inr ⟨rfl, rfl⟩⟩ pAI (Or.inr ⟨_, rfl⟩) dX9_init_196 rfl ?_
  refine g_ald0 (pc' := 200) dX9_init_199 rfl ?_
  refine g_bipush (pc' := 202) (v := nI 6) dX9_init_200 rfl (by decide) ?_
  refine g_newI (pc' := 204) (len := 6) (92, 0) (hF 92 (by decide)) rfl (Nat.le_of_ble_eq_true rfl) aw_int (Nat.le_of_ble_eq_true rfl) (Nat.le_of_ble_eq_true rfl) dX9_init_202 rfl ?_
  refine g_putR (pc' := 207) hT (by decide) ⟨fX9_82, Or.inr ⟨rfl, rfl⟩⟩ pAI (Or.inr ⟨_, rfl⟩) dX9_init_204 rfl ?_
  refine g_ald0 (pc' := 208) dX9_init_207 rfl ?_
  refine g_sipush (pc' := 211) (v := nI 360) dX9_init_208 rfl (by decide) ?_
  refine g_newJ (pc' := 213) (len := 360) (93, 0) (hF 93 (by decide)) rfl (Nat.le_of_ble_eq_true rfl) aw_long (Nat.le_of_ble_eq_true rfl) (Nat.le_of_ble_eq_true rfl) dX9_init_211 rfl ?_
  refine g_putR (pc' := 216) hT (by decide) ⟨fX9_85, Or.inr ⟨rfl, rfl⟩⟩ pAJ (Or.inr ⟨_, rfl⟩) dX9_init_213 rfl ?_
  refine g_ald0 (pc' := 217) dX9_init_216 rfl ?_
  refine g_bipush (pc' := 219) (v := nI 60) dX9_init_217 rfl (by decide) ?_
  refine g_newJ (pc' := 221) (len := 60) (94, 0) (hF 94 (by decide)) rfl (Nat.le_of_ble_eq_true rfl) aw_long (Nat.le_of_ble_eq_true rfl) (Nat.le_of_ble_eq_true rfl) dX9_init_219 rfl ?_
  refine g_putR (pc' := 224) hT (by decide) ⟨fX9_89, Or.inr ⟨rfl, rfl⟩⟩ pAJ (Or.inr ⟨_, rfl⟩) dX9_init_221 rfl ?_
  refine g_iconst (pc' := 225) (v := nI 0) dX9_init_224 rfl (by decide) ?_
  refine g_ist1 (pc' := 226) rfl (by decide) dX9_init_225 rfl ?_
  refine g_ild1 (pc' := 227) dX9_init_226 rfl ?_
  refine g_bipush (pc' := 229) (v := nI 6) dX9_init_227 rfl (by decide) ?_
  refine g_icmpgeN (pc' := 232) (by omega) (by omega) (tgt := 245) dX9_init_229 (by decide) rfl (fun h229 => ?_) (fun h229 => ?_)
  · exact absurd h229 (by omega)
  · refine g_ald0 (pc' := 233) dX9_init_232 rfl ?_
    refine g_getR (pc' := 236) hT (by decide) fX9_79 (v := some (91, 0)) rfl dX9_init_233 rfl ?_
    refine g_ild1 (pc' := 237) dX9_init_236 rfl ?_
    refine g_iconst (pc' := 238) (v := (-1)) dX9_init_237 rfl (by decide) ?_
    refine g_iast (pc' := 239) (j := 0) (rfl) rfl (by omega) (by decide) dX9_init_238 rfl ?_
    refine g_inc1 (pc' := 242) rfl (by decide) (v := nI (0 + 1)) (nI_1 _) dX9_init_239 rfl ?_
    refine g_goto (tgt := 226) dX9_init_242 (by decide) ?_
    refine g_ild1 (pc' := 227) dX9_init_226 rfl ?_
    refine g_bipush (pc' := 229) (v := nI 6) dX9_init_227 rfl (by decide) ?_
    refine g_icmpgeN (pc' := 232) (by omega) (by omega) (tgt := 245) dX9_init_229 (by decide) rfl (fun h229 => ?_) (fun h229 => ?_)
    · exact absurd h229 (by omega)
    · refine g_ald0 (pc' := 233) dX9_init_232 rfl ?_
      refine g_getR (pc' := 236) hT (by decide) fX9_79 (v := some (91, 0)) rfl dX9_init_233 rfl ?_
      refine g_ild1 (pc' := 237) dX9_init_236 rfl ?_
      refine g_iconst (pc' := 238) (v := (-1)) dX9_init_237 rfl (by decide) ?_
      refine g_iast (pc' := 239) (j := 1) (rfl) rfl (by omega) (by decide) dX9_init_238 rfl ?_
      refine g_inc1 (pc' := 242) rfl (by decide) (v := nI (1 + 1)) (nI_1 _) dX9_init_239 rfl ?_
      refine g_goto (tgt := 226) dX9_init_242 (by decide) ?_
      refine g_ild1 (pc' := 227) dX9_init_226 rfl ?_
      refine g_bipush (pc' := 229) (v := nI 6) dX9_init_227 rfl (by decide) ?_
      refine g_icmpgeN (pc' := 232) (by omega) (by omega) (tgt := 245) dX9_init_229 (by decide) rfl (fun h229 => ?_) (fun h229 => ?_)
      · exact absurd h229 (by omega)
      · refine g_ald0 (pc' := 233) dX9_init_232 rfl ?_
        refine g_getR (pc' := 236) hT (by decide) fX9_79 (v := some (91, 0)) rfl dX9_init_233 rfl ?_
        refine g_ild1 (pc' := 237) dX9_init_236 rfl ?_
        refine g_iconst (pc' := 238) (v := (-1)) dX9_init_237 rfl (by decide) ?_
        refine g_iast (pc' := 239) (j := 2) (rfl) rfl (by omega) (by decide) dX9_init_238 rfl ?_
        refine g_inc1 (pc' := 242) rfl (by decide) (v := nI (2 + 1)) (nI_1 _) dX9_init_239 rfl ?_
        refine g_goto (tgt := 226) dX9_init_242 (by decide) ?_
        refine g_ild1 (pc' := 227) dX9_init_226 rfl ?_
        refine g_bipush (pc' := 229) (v := nI 6) dX9_init_227 rfl (by decide) ?_
        refine g_icmpgeN (pc' := 232) (by omega) (by omega) (tgt := 245) dX9_init_229 (by decide) rfl (fun h229 => ?_) (fun h229 => ?_)
        · exact absurd h229 (by omega)
        · refine g_ald0 (pc' := 233) dX9_init_232 rfl ?_
          refine g_getR (pc' := 236) hT (by decide) fX9_79 (v := some (91, 0)) rfl dX9_init_233 rfl ?_
          refine g_ild1 (pc' := 237) dX9_init_236 rfl ?_
          refine g_iconst (pc' := 238) (v := (-1)) dX9_init_237 rfl (by decide) ?_
          refine g_iast (pc' := 239) (j := 3) (rfl) rfl (by omega) (by decide) dX9_init_238 rfl ?_
          refine g_inc1 (pc' := 242) rfl (by decide) (v := nI (3 + 1)) (nI_1 _) dX9_init_239 rfl ?_
          refine g_goto (tgt := 226) dX9_init_242 (by decide) ?_
          refine g_ild1 (pc' := 227) dX9_init_226 rfl ?_
          refine g_bipush (pc' := 229) (v := nI 6) dX9_init_227 rfl (by decide) ?_
          refine g_icmpgeN (pc' := 232) (by omega) (by omega) (tgt := 245) dX9_init_229 (by decide) rfl (fun h229 => ?_) (fun h229 => ?_)
          · exact absurd h229 (by omega)
          · refine g_ald0 (pc' := 233) dX9_init_232 rfl ?_
            refine g_getR (pc' := 236) hT (by decide) fX9_79 (v := some (91, 0)) rfl dX9_init_233 rfl ?_
            refine g_ild1 (pc' := 237) dX9_init_236 rfl ?_
            refine g_iconst (pc' := 238) (v := (-1)) dX9_init_237 rfl (by decide) ?_
            refine g_iast (pc' := 239) (j := 4) (rfl) rfl (by omega) (by decide) dX9_init_238 rfl ?_
            refine g_inc1 (pc' := 242) rfl (by decide) (v := nI (4 + 1)) (nI_1 _) dX9_init_239 rfl ?_
            refine g_goto (tgt := 226) dX9_init_242 (by decide) ?_
            refine g_ild1 (pc' := 227) dX9_init_226 rfl ?_
            refine g_bipush (pc' := 229) (v := nI 6) dX9_init_227 rfl (by decide) ?_
            refine g_icmpgeN (pc' := 232) (by omega) (by omega) (tgt := 245) dX9_init_229 (by decide) rfl (fun h229 => ?_) (fun h229 => ?_)
            · exact absurd h229 (by omega)
            · refine g_ald0 (pc' := 233) dX9_init_232 rfl ?_
              refine g_getR (pc' := 236) hT (by decide) fX9_79 (v := some (91, 0)) rfl dX9_init_233 rfl ?_
              refine g_ild1 (pc' := 237) dX9_init_236 rfl ?_
              refine g_iconst (pc' := 238) (v := (-1)) dX9_init_237 rfl (by decide) ?_
              refine g_iast (pc' := 239) (j := 5) (rfl) rfl (by omega) (by decide) dX9_init_238 rfl ?_
              refine g_inc1 (pc' := 242) rfl (by decide) (v := nI (5 + 1)) (nI_1 _) dX9_init_239 rfl ?_
              refine g_goto (tgt := 226) dX9_init_242 (by decide) ?_
              refine g_ild1 (pc' := 227) dX9_init_226 rfl ?_
              refine g_bipush (pc' := 229) (v := nI 6) dX9_init_227 rfl (by decide) ?_
              refine g_icmpgeN (pc' := 232) (by omega) (by omega) (tgt := 245) dX9_init_229 (by decide) rfl (fun h229 => ?_) (fun h229 => ?_)
              · refine g_vret rfl dX9_init_245 ?_
                exact ⟨rfl, rfl, rfl, rfl, rfl⟩
              · exact absurd h229 (by omega)
