/-! the law's calls, the last -/
theorem lc_against (l : Launch) {Ls : Nat} {xs : Nat → Int32} {q : Nat} {S : Shp} {I : MI} {L : ML} {R : MR} {k n : Nat} (hLs : Ls ≤ 3072) (h6 : 6 * q + 6 ≤ Ls) (iv : Inv Ls xs q S I L R) (hk : k ≤ 80 + 7 * q) (hn : n ≤ 8100 + 308 * q) (ih : LNext l Ls xs q) : G l mL_law room_1 QL k n 1072 [some (.inr (.inr (some (99, 0)))), some (.inr (.inr (some (0, 0)))), some (.inr (.inr (some (40, 0)))), some (.inl (nI (6 * q)))] [] S I L R := by
  obtain ⟨n', m', c', b', g, kk⟩ := iv
  have hq : q < 600 := by omega
  obtain ⟨d, mc, ms, post, hc, hd, hmc, hms, hall⟩ := s_against l g kk hq (xs (6 * q + 1)) (xs (6 * q + 2)) (xs (6 * q + 3))
  have s99 := g.s99
  have e99 : ∀ j, I (99, 0) j = xs j := kk.sc
  refine g_ald1 (pc' := 1073) dL_law_1072 rfl ?_
  refine l_arg (pc' := 1078) (j := 1) s99 (by omega) hLs rfl (e99 _) dL_law_1073 dL_law_1074 dL_law_1075 dL_law_1076 dL_law_1077 rfl ?_
  refine l_arg (pc' := 1083) (j := 2) s99 (by omega) hLs rfl (e99 _) dL_law_1078 dL_law_1079 dL_law_1080 dL_law_1081 dL_law_1082 rfl ?_
  refine l_arg (pc' := 1088) (j := 3) s99 (by omega) hLs rfl (e99 _) dL_law_1083 dL_law_1084 dL_law_1085 dL_law_1086 dL_law_1087 rfl ?_
  refine g_callVX hc g.xg.s0 (by decide) wX8_against lL_122 rfl rfl (Nat.le_of_ble_eq_true rfl) ⟨by show d + 1 ≤ 2048; omega, by show 8 + (10 + 11) + (64 * d + 40) ≤ 84000; omega⟩ ⟨by show k + mc ≤ 600000; omega, by show n + ms ≤ 7302250; omega⟩ dL_law_1088 rfl ?_
  rintro r S1 I1 L1 R1 hpost hext hro
  obtain ⟨w, d2, post2, rfl, hd2, hc2, hfin⟩ := hall _ _ _ _ _ hpost
  show G l mL_law room_1 QL (k + mc) (n + ms) 1091 [some (.inr (.inr (some (99, 0)))), some (.inr (.inr (some (0, 0)))), some (.inr (.inr (some (40, 0)))), some (.inl (nI (6 * q)))] [.inl w] S1 I1 L1 R1
  have s991 : S1 (99, 0) = (7, Ls) := (hext _ (by rw [s99]; simp)).trans s99
  have e991 : ∀ j, j < Ls → I1 (99, 0) j = xs j := fun j hj => (hro (99, 0) j (by rw [s99]) (by rw [s99]; exact hj)).trans (e99 j)
  have s401 : S1 (40, 0) = (19, 0) := (hext _ (by rw [g.mg.s40]; simp)).trans g.mg.s40
  refine g_ald2 (pc' := 1092) dL_law_1091 rfl ?_
  refine l_arg (pc' := 1097) (j := 1) s991 (by omega) hLs rfl (e991 _ (by omega)) dL_law_1092 dL_law_1093 dL_law_1094 dL_law_1095 dL_law_1096 rfl ?_
  refine l_arg (pc' := 1102) (j := 2) s991 (by omega) hLs rfl (e991 _ (by omega)) dL_law_1097 dL_law_1098 dL_law_1099 dL_law_1100 dL_law_1101 rfl ?_
  refine l_arg (pc' := 1107) (j := 3) s991 (by omega) hLs rfl (e991 _ (by omega)) dL_law_1102 dL_law_1103 dL_law_1104 dL_law_1105 dL_law_1106 rfl ?_
  refine g_callVX hc2 s401 (by decide) wX9_against lL_125 rfl rfl (Nat.le_of_ble_eq_true rfl) ⟨by show d2 + 1 ≤ 2048; omega, by show 8 + (11 + 11) + (64 * d2 + 40) ≤ 84000; omega⟩ ⟨by show k + mc + 0 ≤ 600000; omega, by show n + ms + 0 ≤ 7302250; omega⟩ dL_law_1107 rfl ?_
  rintro r2 S2 I2 L2 R2 hpost2 - -
  obtain ⟨rfl, hInv⟩ := hfin _ _ _ _ _ hpost2
  show G l mL_law room_1 QL (k + mc + 0) (n + ms + 0) 1110 [some (.inr (.inr (some (99, 0)))), some (.inr (.inr (some (0, 0)))), some (.inr (.inr (some (40, 0)))), some (.inl (nI (6 * q)))] [.inl w, .inl w] S2 I2 L2 R2
  refine g_icmpeq (pc' := 1113) (tgt := 1532) dL_law_1110 (by decide) rfl (fun _ => ?_) (fun z => absurd rfl z)
  exact ih _ _ _ _ _ _ hInv (by omega) (by omega)

theorem lc_undo (l : Launch) {Ls : Nat} {xs : Nat → Int32} {q : Nat} {S : Shp} {I : MI} {L : ML} {R : MR} {k n : Nat} (hLs : Ls ≤ 3072) (h6 : 6 * q + 6 ≤ Ls) (iv : Inv Ls xs q S I L R) (hk : k ≤ 80 + 7 * q) (hn : n ≤ 8100 + 308 * q) (ih : LNext l Ls xs q) : G l mL_law room_1 QL k n 1115 [some (.inr (.inr (some (99, 0)))), some (.inr (.inr (some (0, 0)))), some (.inr (.inr (some (40, 0)))), some (.inl (nI (6 * q)))] [] S I L R := by
  obtain ⟨n', m', c', b', g, kk⟩ := iv
  have hq : q < 600 := by omega
  obtain ⟨d, mc, ms, post, hc, hd, hmc, hms, hall⟩ := s_undo l g kk hq 
  have s99 := g.s99
  have e99 : ∀ j, I (99, 0) j = xs j := kk.sc
  refine g_ald1 (pc' := 1116) dL_law_1115 rfl ?_
  refine g_callVX hc g.xg.s0 (by decide) wX8_undo lL_126 rfl rfl (Nat.le_of_ble_eq_true rfl) ⟨by show d + 1 ≤ 2048; omega, by show 8 + (1 + 11) + (64 * d + 40) ≤ 84000; omega⟩ ⟨by show k + mc ≤ 600000; omega, by show n + ms ≤ 7302250; omega⟩ dL_law_1116 rfl ?_
  rintro r S1 I1 L1 R1 hpost hext hro
  obtain ⟨w, d2, post2, rfl, hd2, hc2, hfin⟩ := hall _ _ _ _ _ hpost
  show G l mL_law room_1 QL (k + mc) (n + ms) 1119 [some (.inr (.inr (some (99, 0)))), some (.inr (.inr (some (0, 0)))), some (.inr (.inr (some (40, 0)))), some (.inl (nI (6 * q)))] [.inl w] S1 I1 L1 R1
  have s991 : S1 (99, 0) = (7, Ls) := (hext _ (by rw [s99]; simp)).trans s99
  have e991 : ∀ j, j < Ls → I1 (99, 0) j = xs j := fun j hj => (hro (99, 0) j (by rw [s99]) (by rw [s99]; exact hj)).trans (e99 j)
  have s401 : S1 (40, 0) = (19, 0) := (hext _ (by rw [g.mg.s40]; simp)).trans g.mg.s40
  refine g_ald2 (pc' := 1120) dL_law_1119 rfl ?_
  refine g_callVX hc2 s401 (by decide) wX9_undo lL_129 rfl rfl (Nat.le_of_ble_eq_true rfl) ⟨by show d2 + 1 ≤ 2048; omega, by show 8 + (1 + 11) + (64 * d2 + 40) ≤ 84000; omega⟩ ⟨by show k + mc + 0 ≤ 600000; omega, by show n + ms + 0 ≤ 7302250; omega⟩ dL_law_1120 rfl ?_
  rintro r2 S2 I2 L2 R2 hpost2 - -
  obtain ⟨rfl, hInv⟩ := hfin _ _ _ _ _ hpost2
  show G l mL_law room_1 QL (k + mc + 0) (n + ms + 0) 1123 [some (.inr (.inr (some (99, 0)))), some (.inr (.inr (some (0, 0)))), some (.inr (.inr (some (40, 0)))), some (.inl (nI (6 * q)))] [.inl w, .inl w] S2 I2 L2 R2
  refine g_icmpeq (pc' := 1126) (tgt := 1532) dL_law_1123 (by decide) rfl (fun _ => ?_) (fun z => absurd rfl z)
  exact ih _ _ _ _ _ _ hInv (by omega) (by omega)

theorem lc_redo (l : Launch) {Ls : Nat} {xs : Nat → Int32} {q : Nat} {S : Shp} {I : MI} {L : ML} {R : MR} {k n : Nat} (hLs : Ls ≤ 3072) (h6 : 6 * q + 6 ≤ Ls) (iv : Inv Ls xs q S I L R) (hk : k ≤ 80 + 7 * q) (hn : n ≤ 8100 + 308 * q) (ih : LNext l Ls xs q) : G l mL_law room_1 QL k n 1128 [some (.inr (.inr (some (99, 0)))), some (.inr (.inr (some (0, 0)))), some (.inr (.inr (some (40, 0)))), some (.inl (nI (6 * q)))] [] S I L R := by
  obtain ⟨n', m', c', b', g, kk⟩ := iv
  have hq : q < 600 := by omega
  obtain ⟨d, mc, ms, post, hc, hd, hmc, hms, hall⟩ := s_redo l g kk hq 
  have s99 := g.s99
  have e99 : ∀ j, I (99, 0) j = xs j := kk.sc
  refine g_ald1 (pc' := 1129) dL_law_1128 rfl ?_
  refine g_callVX hc g.xg.s0 (by decide) wX8_redo lL_130 rfl rfl (Nat.le_of_ble_eq_true rfl) ⟨by show d + 1 ≤ 2048; omega, by show 8 + (1 + 11) + (64 * d + 40) ≤ 84000; omega⟩ ⟨by show k + mc ≤ 600000; omega, by show n + ms ≤ 7302250; omega⟩ dL_law_1129 rfl ?_
  rintro r S1 I1 L1 R1 hpost hext hro
  obtain ⟨w, d2, post2, rfl, hd2, hc2, hfin⟩ := hall _ _ _ _ _ hpost
  show G l mL_law room_1 QL (k + mc) (n + ms) 1132 [some (.inr (.inr (some (99, 0)))), some (.inr (.inr (some (0, 0)))), some (.inr (.inr (some (40, 0)))), some (.inl (nI (6 * q)))] [.inl w] S1 I1 L1 R1
  have s991 : S1 (99, 0) = (7, Ls) := (hext _ (by rw [s99]; simp)).trans s99
  have e991 : ∀ j, j < Ls → I1 (99, 0) j = xs j := fun j hj => (hro (99, 0) j (by rw [s99]) (by rw [s99]; exact hj)).trans (e99 j)
  have s401 : S1 (40, 0) = (19, 0) := (hext _ (by rw [g.mg.s40]; simp)).trans g.mg.s40
  refine g_ald2 (pc' := 1133) dL_law_1132 rfl ?_
  refine g_callVX hc2 s401 (by decide) wX9_redo lL_133 rfl rfl (Nat.le_of_ble_eq_true rfl) ⟨by show d2 + 1 ≤ 2048; omega, by show 8 + (1 + 11) + (64 * d2 + 40) ≤ 84000; omega⟩ ⟨by show k + mc + 0 ≤ 600000; omega, by show n + ms + 0 ≤ 7302250; omega⟩ dL_law_1133 rfl ?_
  rintro r2 S2 I2 L2 R2 hpost2 - -
  obtain ⟨rfl, hInv⟩ := hfin _ _ _ _ _ hpost2
  show G l mL_law room_1 QL (k + mc + 0) (n + ms + 0) 1136 [some (.inr (.inr (some (99, 0)))), some (.inr (.inr (some (0, 0)))), some (.inr (.inr (some (40, 0)))), some (.inl (nI (6 * q)))] [.inl w, .inl w] S2 I2 L2 R2
  refine g_icmpeq (pc' := 1139) (tgt := 1532) dL_law_1136 (by decide) rfl (fun _ => ?_) (fun z => absurd rfl z)
  exact ih _ _ _ _ _ _ hInv (by omega) (by omega)

theorem lc_body (l : Launch) {Ls : Nat} {xs : Nat → Int32} {q : Nat} {S : Shp} {I : MI} {L : ML} {R : MR} {k n : Nat} (hLs : Ls ≤ 3072) (h6 : 6 * q + 6 ≤ Ls) (iv : Inv Ls xs q S I L R) (hk : k ≤ 80 + 7 * q) (hn : n ≤ 8100 + 308 * q) (ih : LNext l Ls xs q) : G l mL_law room_1 QL k n 1141 [some (.inr (.inr (some (99, 0)))), some (.inr (.inr (some (0, 0)))), some (.inr (.inr (some (40, 0)))), some (.inl (nI (6 * q)))] [] S I L R := by
  obtain ⟨n', m', c', b', g, kk⟩ := iv
  have hq : q < 600 := by omega
  obtain ⟨d, mc, ms, post, hc, hd, hmc, hms, hall⟩ := s_body l g kk hq (xs (6 * q + 1))
  have s99 := g.s99
  have e99 : ∀ j, I (99, 0) j = xs j := kk.sc
  refine g_ald1 (pc' := 1142) dL_law_1141 rfl ?_
  refine l_arg (pc' := 1147) (j := 1) s99 (by omega) hLs rfl (e99 _) dL_law_1142 dL_law_1143 dL_law_1144 dL_law_1145 dL_law_1146 rfl ?_
  refine g_callVX hc g.xg.s0 (by decide) wX8_body lL_134 rfl rfl (Nat.le_of_ble_eq_true rfl) ⟨by show d + 1 ≤ 2048; omega, by show 8 + (2 + 11) + (64 * d + 40) ≤ 84000; omega⟩ ⟨by show k + mc ≤ 600000; omega, by show n + ms ≤ 7302250; omega⟩ dL_law_1147 rfl ?_
  rintro r S1 I1 L1 R1 hpost hext hro
  obtain ⟨w, d2, post2, rfl, hd2, hc2, hfin⟩ := hall _ _ _ _ _ hpost
  show G l mL_law room_1 QL (k + mc) (n + ms) 1150 [some (.inr (.inr (some (99, 0)))), some (.inr (.inr (some (0, 0)))), some (.inr (.inr (some (40, 0)))), some (.inl (nI (6 * q)))] [.inl w] S1 I1 L1 R1
  have s991 : S1 (99, 0) = (7, Ls) := (hext _ (by rw [s99]; simp)).trans s99
  have e991 : ∀ j, j < Ls → I1 (99, 0) j = xs j := fun j hj => (hro (99, 0) j (by rw [s99]) (by rw [s99]; exact hj)).trans (e99 j)
  have s401 : S1 (40, 0) = (19, 0) := (hext _ (by rw [g.mg.s40]; simp)).trans g.mg.s40
  refine g_ald2 (pc' := 1151) dL_law_1150 rfl ?_
  refine l_arg (pc' := 1156) (j := 1) s991 (by omega) hLs rfl (e991 _ (by omega)) dL_law_1151 dL_law_1152 dL_law_1153 dL_law_1154 dL_law_1155 rfl ?_
  refine g_callVX hc2 s401 (by decide) wX9_body lL_137 rfl rfl (Nat.le_of_ble_eq_true rfl) ⟨by show d2 + 1 ≤ 2048; omega, by show 8 + (2 + 11) + (64 * d2 + 40) ≤ 84000; omega⟩ ⟨by show k + mc + 0 ≤ 600000; omega, by show n + ms + 0 ≤ 7302250; omega⟩ dL_law_1156 rfl ?_
  rintro r2 S2 I2 L2 R2 hpost2 - -
  obtain ⟨rfl, hInv⟩ := hfin _ _ _ _ _ hpost2
  show G l mL_law room_1 QL (k + mc + 0) (n + ms + 0) 1159 [some (.inr (.inr (some (99, 0)))), some (.inr (.inr (some (0, 0)))), some (.inr (.inr (some (40, 0)))), some (.inl (nI (6 * q)))] [.inl w, .inl w] S2 I2 L2 R2
  refine g_icmpeq (pc' := 1162) (tgt := 1532) dL_law_1159 (by decide) rfl (fun _ => ?_) (fun z => absurd rfl z)
  exact ih _ _ _ _ _ _ hInv (by omega) (by omega)

theorem lc_act (l : Launch) {Ls : Nat} {xs : Nat → Int32} {q : Nat} {S : Shp} {I : MI} {L : ML} {R : MR} {k n : Nat} (hLs : Ls ≤ 3072) (h6 : 6 * q + 6 ≤ Ls) (iv : Inv Ls xs q S I L R) (hk : k ≤ 80 + 7 * q) (hn : n ≤ 8100 + 308 * q) (ih : LNext l Ls xs q) : G l mL_law room_1 QL k n 1164 [some (.inr (.inr (some (99, 0)))), some (.inr (.inr (some (0, 0)))), some (.inr (.inr (some (40, 0)))), some (.inl (nI (6 * q)))] [] S I L R := by
  obtain ⟨n', m', c', b', g, kk⟩ := iv
  have hq : q < 600 := by omega
  obtain ⟨d, mc, ms, post, hc, hd, hmc, hms, hall⟩ := s_act l g kk hq (xs (6 * q + 1)) (xs (6 * q + 2)) (xs (6 * q + 3))
  have s99 := g.s99
  have e99 : ∀ j, I (99, 0) j = xs j := kk.sc
  refine g_ald1 (pc' := 1165) dL_law_1164 rfl ?_
  refine l_arg (pc' := 1170) (j := 1) s99 (by omega) hLs rfl (e99 _) dL_law_1165 dL_law_1166 dL_law_1167 dL_law_1168 dL_law_1169 rfl ?_
  refine l_arg (pc' := 1175) (j := 2) s99 (by omega) hLs rfl (e99 _) dL_law_1170 dL_law_1171 dL_law_1172 dL_law_1173 dL_law_1174 rfl ?_
  refine l_arg (pc' := 1180) (j := 3) s99 (by omega) hLs rfl (e99 _) dL_law_1175 dL_law_1176 dL_law_1177 dL_law_1178 dL_law_1179 rfl ?_
  refine g_callVX hc g.xg.s0 (by decide) wX8_act lL_138 rfl rfl (Nat.le_of_ble_eq_true rfl) ⟨by show d + 1 ≤ 2048; omega, by show 8 + (4 + 11) + (64 * d + 40) ≤ 84000; omega⟩ ⟨by show k + mc ≤ 600000; omega, by show n + ms ≤ 7302250; omega⟩ dL_law_1180 rfl ?_
  rintro r S1 I1 L1 R1 hpost hext hro
  obtain ⟨w, d2, post2, rfl, hd2, hc2, hfin⟩ := hall _ _ _ _ _ hpost
  show G l mL_law room_1 QL (k + mc) (n + ms) 1183 [some (.inr (.inr (some (99, 0)))), some (.inr (.inr (some (0, 0)))), some (.inr (.inr (some (40, 0)))), some (.inl (nI (6 * q)))] [.inl w] S1 I1 L1 R1
  have s991 : S1 (99, 0) = (7, Ls) := (hext _ (by rw [s99]; simp)).trans s99
  have e991 : ∀ j, j < Ls → I1 (99, 0) j = xs j := fun j hj => (hro (99, 0) j (by rw [s99]) (by rw [s99]; exact hj)).trans (e99 j)
  have s401 : S1 (40, 0) = (19, 0) := (hext _ (by rw [g.mg.s40]; simp)).trans g.mg.s40
  refine g_ald2 (pc' := 1184) dL_law_1183 rfl ?_
  refine l_arg (pc' := 1189) (j := 1) s991 (by omega) hLs rfl (e991 _ (by omega)) dL_law_1184 dL_law_1185 dL_law_1186 dL_law_1187 dL_law_1188 rfl ?_
  refine l_arg (pc' := 1194) (j := 2) s991 (by omega) hLs rfl (e991 _ (by omega)) dL_law_1189 dL_law_1190 dL_law_1191 dL_law_1192 dL_law_1193 rfl ?_
  refine l_arg (pc' := 1199) (j := 3) s991 (by omega) hLs rfl (e991 _ (by omega)) dL_law_1194 dL_law_1195 dL_law_1196 dL_law_1197 dL_law_1198 rfl ?_
  refine g_callVX hc2 s401 (by decide) wX9_act lL_141 rfl rfl (Nat.le_of_ble_eq_true rfl) ⟨by show d2 + 1 ≤ 2048; omega, by show 8 + (4 + 11) + (64 * d2 + 40) ≤ 84000; omega⟩ ⟨by show k + mc + 0 ≤ 600000; omega, by show n + ms + 0 ≤ 7302250; omega⟩ dL_law_1199 rfl ?_
  rintro r2 S2 I2 L2 R2 hpost2 - -
  obtain ⟨rfl, hInv⟩ := hfin _ _ _ _ _ hpost2
  show G l mL_law room_1 QL (k + mc + 0) (n + ms + 0) 1202 [some (.inr (.inr (some (99, 0)))), some (.inr (.inr (some (0, 0)))), some (.inr (.inr (some (40, 0)))), some (.inl (nI (6 * q)))] [.inl w, .inl w] S2 I2 L2 R2
  refine g_icmpeq (pc' := 1205) (tgt := 1532) dL_law_1202 (by decide) rfl (fun _ => ?_) (fun z => absurd rfl z)
  exact ih _ _ _ _ _ _ hInv (by omega) (by omega)

theorem lc_trace (l : Launch) {Ls : Nat} {xs : Nat → Int32} {q : Nat} {S : Shp} {I : MI} {L : ML} {R : MR} {k n : Nat} (hLs : Ls ≤ 3072) (h6 : 6 * q + 6 ≤ Ls) (iv : Inv Ls xs q S I L R) (hk : k ≤ 80 + 7 * q) (hn : n ≤ 8100 + 308 * q) (ih : LNext l Ls xs q) : G l mL_law room_1 QL k n 1207 [some (.inr (.inr (some (99, 0)))), some (.inr (.inr (some (0, 0)))), some (.inr (.inr (some (40, 0)))), some (.inl (nI (6 * q)))] [] S I L R := by
  obtain ⟨n', m', c', b', g, kk⟩ := iv
  have hq : q < 600 := by omega
  obtain ⟨d, mc, ms, post, hc, hd, hmc, hms, hall⟩ := s_trace l g kk hq (xs (6 * q + 1))
  have s99 := g.s99
  have e99 : ∀ j, I (99, 0) j = xs j := kk.sc
  refine g_ald1 (pc' := 1208) dL_law_1207 rfl ?_
  refine l_arg (pc' := 1213) (j := 1) s99 (by omega) hLs rfl (e99 _) dL_law_1208 dL_law_1209 dL_law_1210 dL_law_1211 dL_law_1212 rfl ?_
  refine g_callVX hc g.xg.s0 (by decide) wX8_trace lL_142 rfl rfl (Nat.le_of_ble_eq_true rfl) ⟨by show d + 1 ≤ 2048; omega, by show 8 + (2 + 11) + (64 * d + 40) ≤ 84000; omega⟩ ⟨by show k + mc ≤ 600000; omega, by show n + ms ≤ 7302250; omega⟩ dL_law_1213 rfl ?_
  rintro r S1 I1 L1 R1 hpost hext hro
  obtain ⟨w, d2, post2, rfl, hd2, hc2, hfin⟩ := hall _ _ _ _ _ hpost
  show G l mL_law room_1 QL (k + mc) (n + ms) 1216 [some (.inr (.inr (some (99, 0)))), some (.inr (.inr (some (0, 0)))), some (.inr (.inr (some (40, 0)))), some (.inl (nI (6 * q)))] [.inl w] S1 I1 L1 R1
  have s991 : S1 (99, 0) = (7, Ls) := (hext _ (by rw [s99]; simp)).trans s99
  have e991 : ∀ j, j < Ls → I1 (99, 0) j = xs j := fun j hj => (hro (99, 0) j (by rw [s99]) (by rw [s99]; exact hj)).trans (e99 j)
  have s401 : S1 (40, 0) = (19, 0) := (hext _ (by rw [g.mg.s40]; simp)).trans g.mg.s40
  refine g_ald2 (pc' := 1217) dL_law_1216 rfl ?_
  refine l_arg (pc' := 1222) (j := 1) s991 (by omega) hLs rfl (e991 _ (by omega)) dL_law_1217 dL_law_1218 dL_law_1219 dL_law_1220 dL_law_1221 rfl ?_
  refine g_callVX hc2 s401 (by decide) wX9_trace lL_145 rfl rfl (Nat.le_of_ble_eq_true rfl) ⟨by show d2 + 1 ≤ 2048; omega, by show 8 + (2 + 11) + (64 * d2 + 40) ≤ 84000; omega⟩ ⟨by show k + mc + 0 ≤ 600000; omega, by show n + ms + 0 ≤ 7302250; omega⟩ dL_law_1222 rfl ?_
  rintro r2 S2 I2 L2 R2 hpost2 - -
  obtain ⟨rfl, hInv⟩ := hfin _ _ _ _ _ hpost2
  show G l mL_law room_1 QL (k + mc + 0) (n + ms + 0) 1225 [some (.inr (.inr (some (99, 0)))), some (.inr (.inr (some (0, 0)))), some (.inr (.inr (some (40, 0)))), some (.inl (nI (6 * q)))] [.inl w, .inl w] S2 I2 L2 R2
  refine g_icmpeq (pc' := 1228) (tgt := 1532) dL_law_1225 (by decide) rfl (fun _ => ?_) (fun z => absurd rfl z)
  exact ih _ _ _ _ _ _ hInv (by omega) (by omega)

theorem lc_keep (l : Launch) {Ls : Nat} {xs : Nat → Int32} {q : Nat} {S : Shp} {I : MI} {L : ML} {R : MR} {k n : Nat} (hLs : Ls ≤ 3072) (h6 : 6 * q + 6 ≤ Ls) (iv : Inv Ls xs q S I L R) (hk : k ≤ 80 + 7 * q) (hn : n ≤ 8100 + 308 * q) (ih : LNext l Ls xs q) : G l mL_law room_1 QL k n 1230 [some (.inr (.inr (some (99, 0)))), some (.inr (.inr (some (0, 0)))), some (.inr (.inr (some (40, 0)))), some (.inl (nI (6 * q)))] [] S I L R := by
  obtain ⟨n', m', c', b', g, kk⟩ := iv
  have hq : q < 600 := by omega
  obtain ⟨d, mc, ms, post, hc, hd, hmc, hms, hall⟩ := s_keep l g kk hq (xs (6 * q + 1)) (xs (6 * q + 2))
  have s99 := g.s99
  have e99 : ∀ j, I (99, 0) j = xs j := kk.sc
  refine g_ald1 (pc' := 1231) dL_law_1230 rfl ?_
  refine l_arg (pc' := 1236) (j := 1) s99 (by omega) hLs rfl (e99 _) dL_law_1231 dL_law_1232 dL_law_1233 dL_law_1234 dL_law_1235 rfl ?_
  refine l_arg (pc' := 1241) (j := 2) s99 (by omega) hLs rfl (e99 _) dL_law_1236 dL_law_1237 dL_law_1238 dL_law_1239 dL_law_1240 rfl ?_
  refine g_callVX hc g.xg.s0 (by decide) wX8_keep lL_146 rfl rfl (Nat.le_of_ble_eq_true rfl) ⟨by show d + 1 ≤ 2048; omega, by show 8 + (4 + 11) + (64 * d + 40) ≤ 84000; omega⟩ ⟨by show k + mc ≤ 600000; omega, by show n + ms ≤ 7302250; omega⟩ dL_law_1241 rfl ?_
  rintro r S1 I1 L1 R1 hpost hext hro
  obtain ⟨w, d2, post2, rfl, hd2, hc2, hfin⟩ := hall _ _ _ _ _ hpost
  show G l mL_law room_1 QL (k + mc) (n + ms) 1244 [some (.inr (.inr (some (99, 0)))), some (.inr (.inr (some (0, 0)))), some (.inr (.inr (some (40, 0)))), some (.inl (nI (6 * q)))] [.inl w] S1 I1 L1 R1
  have s991 : S1 (99, 0) = (7, Ls) := (hext _ (by rw [s99]; simp)).trans s99
  have e991 : ∀ j, j < Ls → I1 (99, 0) j = xs j := fun j hj => (hro (99, 0) j (by rw [s99]) (by rw [s99]; exact hj)).trans (e99 j)
  have s401 : S1 (40, 0) = (19, 0) := (hext _ (by rw [g.mg.s40]; simp)).trans g.mg.s40
  refine g_ald2 (pc' := 1245) dL_law_1244 rfl ?_
  refine l_arg (pc' := 1250) (j := 1) s991 (by omega) hLs rfl (e991 _ (by omega)) dL_law_1245 dL_law_1246 dL_law_1247 dL_law_1248 dL_law_1249 rfl ?_
  refine l_arg (pc' := 1255) (j := 2) s991 (by omega) hLs rfl (e991 _ (by omega)) dL_law_1250 dL_law_1251 dL_law_1252 dL_law_1253 dL_law_1254 rfl ?_
  refine g_callVX hc2 s401 (by decide) wX9_keep lL_149 rfl rfl (Nat.le_of_ble_eq_true rfl) ⟨by show d2 + 1 ≤ 2048; omega, by show 8 + (3 + 11) + (64 * d2 + 40) ≤ 84000; omega⟩ ⟨by show k + mc + 0 ≤ 600000; omega, by show n + ms + 0 ≤ 7302250; omega⟩ dL_law_1255 rfl ?_
  rintro r2 S2 I2 L2 R2 hpost2 - -
  obtain ⟨rfl, hInv⟩ := hfin _ _ _ _ _ hpost2
  show G l mL_law room_1 QL (k + mc + 0) (n + ms + 0) 1258 [some (.inr (.inr (some (99, 0)))), some (.inr (.inr (some (0, 0)))), some (.inr (.inr (some (40, 0)))), some (.inl (nI (6 * q)))] [.inl w, .inl w] S2 I2 L2 R2
  refine g_icmpeq (pc' := 1261) (tgt := 1532) dL_law_1258 (by decide) rfl (fun _ => ?_) (fun z => absurd rfl z)
  exact ih _ _ _ _ _ _ hInv (by omega) (by omega)

theorem lc_row (l : Launch) {Ls : Nat} {xs : Nat → Int32} {q : Nat} {S : Shp} {I : MI} {L : ML} {R : MR} {k n : Nat} (hLs : Ls ≤ 3072) (h6 : 6 * q + 6 ≤ Ls) (iv : Inv Ls xs q S I L R) (hk : k ≤ 80 + 7 * q) (hn : n ≤ 8100 + 308 * q) (ih : LNext l Ls xs q) : G l mL_law room_1 QL k n 1263 [some (.inr (.inr (some (99, 0)))), some (.inr (.inr (some (0, 0)))), some (.inr (.inr (some (40, 0)))), some (.inl (nI (6 * q)))] [] S I L R := by
  obtain ⟨n', m', c', b', g, kk⟩ := iv
  have hq : q < 600 := by omega
  obtain ⟨d, mc, ms, post, hc, hd, hmc, hms, hall⟩ := s_row l g kk hq (xs (6 * q + 1)) (xs (6 * q + 2)) (xs (6 * q + 3))
  have s99 := g.s99
  have e99 : ∀ j, I (99, 0) j = xs j := kk.sc
  refine g_ald1 (pc' := 1264) dL_law_1263 rfl ?_
  refine l_arg (pc' := 1269) (j := 1) s99 (by omega) hLs rfl (e99 _) dL_law_1264 dL_law_1265 dL_law_1266 dL_law_1267 dL_law_1268 rfl ?_
  refine l_arg (pc' := 1274) (j := 2) s99 (by omega) hLs rfl (e99 _) dL_law_1269 dL_law_1270 dL_law_1271 dL_law_1272 dL_law_1273 rfl ?_
  refine l_arg (pc' := 1279) (j := 3) s99 (by omega) hLs rfl (e99 _) dL_law_1274 dL_law_1275 dL_law_1276 dL_law_1277 dL_law_1278 rfl ?_
  refine g_callVX hc g.xg.s0 (by decide) wX8_row lL_150 rfl rfl (Nat.le_of_ble_eq_true rfl) ⟨by show d + 1 ≤ 2048; omega, by show 8 + (5 + 11) + (64 * d + 40) ≤ 84000; omega⟩ ⟨by show k + mc ≤ 600000; omega, by show n + ms ≤ 7302250; omega⟩ dL_law_1279 rfl ?_
  rintro r S1 I1 L1 R1 hpost hext hro
  obtain ⟨w, d2, post2, rfl, hd2, hc2, hfin⟩ := hall _ _ _ _ _ hpost
  show G l mL_law room_1 QL (k + mc) (n + ms) 1282 [some (.inr (.inr (some (99, 0)))), some (.inr (.inr (some (0, 0)))), some (.inr (.inr (some (40, 0)))), some (.inl (nI (6 * q)))] [.inl w] S1 I1 L1 R1
  have s991 : S1 (99, 0) = (7, Ls) := (hext _ (by rw [s99]; simp)).trans s99
  have e991 : ∀ j, j < Ls → I1 (99, 0) j = xs j := fun j hj => (hro (99, 0) j (by rw [s99]) (by rw [s99]; exact hj)).trans (e99 j)
  have s401 : S1 (40, 0) = (19, 0) := (hext _ (by rw [g.mg.s40]; simp)).trans g.mg.s40
  refine g_ald2 (pc' := 1283) dL_law_1282 rfl ?_
  refine l_arg (pc' := 1288) (j := 1) s991 (by omega) hLs rfl (e991 _ (by omega)) dL_law_1283 dL_law_1284 dL_law_1285 dL_law_1286 dL_law_1287 rfl ?_
  refine l_arg (pc' := 1293) (j := 2) s991 (by omega) hLs rfl (e991 _ (by omega)) dL_law_1288 dL_law_1289 dL_law_1290 dL_law_1291 dL_law_1292 rfl ?_
  refine l_arg (pc' := 1298) (j := 3) s991 (by omega) hLs rfl (e991 _ (by omega)) dL_law_1293 dL_law_1294 dL_law_1295 dL_law_1296 dL_law_1297 rfl ?_
  refine g_callVX hc2 s401 (by decide) wX9_row lL_153 rfl rfl (Nat.le_of_ble_eq_true rfl) ⟨by show d2 + 1 ≤ 2048; omega, by show 8 + (5 + 11) + (64 * d2 + 40) ≤ 84000; omega⟩ ⟨by show k + mc + 0 ≤ 600000; omega, by show n + ms + 0 ≤ 7302250; omega⟩ dL_law_1298 rfl ?_
  rintro r2 S2 I2 L2 R2 hpost2 - -
  obtain ⟨rfl, hInv⟩ := hfin _ _ _ _ _ hpost2
  show G l mL_law room_1 QL (k + mc + 0) (n + ms + 0) 1301 [some (.inr (.inr (some (99, 0)))), some (.inr (.inr (some (0, 0)))), some (.inr (.inr (some (40, 0)))), some (.inl (nI (6 * q)))] [.inl w, .inl w] S2 I2 L2 R2
  refine g_icmpeq (pc' := 1304) (tgt := 1532) dL_law_1301 (by decide) rfl (fun _ => ?_) (fun z => absurd rfl z)
  exact ih _ _ _ _ _ _ hInv (by omega) (by omega)

theorem lc_put (l : Launch) {Ls : Nat} {xs : Nat → Int32} {q : Nat} {S : Shp} {I : MI} {L : ML} {R : MR} {k n : Nat} (hLs : Ls ≤ 3072) (h6 : 6 * q + 6 ≤ Ls) (iv : Inv Ls xs q S I L R) (hk : k ≤ 80 + 7 * q) (hn : n ≤ 8100 + 308 * q) (ih : LNext l Ls xs q) : G l mL_law room_1 QL k n 1306 [some (.inr (.inr (some (99, 0)))), some (.inr (.inr (some (0, 0)))), some (.inr (.inr (some (40, 0)))), some (.inl (nI (6 * q)))] [] S I L R := by
  obtain ⟨n', m', c', b', g, kk⟩ := iv
  have hq : q < 600 := by omega
  obtain ⟨d, mc, ms, post, hc, hd, hmc, hms, hall⟩ := s_put l g kk hq (xs (6 * q + 1)) (xs (6 * q + 2)) ((xs (6 * q + 3)).toInt64 <<< ((nI 32).toInt64 &&& 63) ||| (xs (6 * q + 4)).toInt64 &&& 4294967295)
  have s99 := g.s99
  have e99 : ∀ j, I (99, 0) j = xs j := kk.sc
  refine g_ald1 (pc' := 1307) dL_law_1306 rfl ?_
  refine l_arg (pc' := 1312) (j := 1) s99 (by omega) hLs rfl (e99 _) dL_law_1307 dL_law_1308 dL_law_1309 dL_law_1310 dL_law_1311 rfl ?_
  refine l_arg (pc' := 1317) (j := 2) s99 (by omega) hLs rfl (e99 _) dL_law_1312 dL_law_1313 dL_law_1314 dL_law_1315 dL_law_1316 rfl ?_
  refine l_arg (pc' := 1322) (j := 3) s99 (by omega) hLs rfl (e99 _) dL_law_1317 dL_law_1318 dL_law_1319 dL_law_1320 dL_law_1321 rfl ?_
  refine g_i2l (pc' := 1323) dL_law_1322 rfl ?_
  refine g_bipush (pc' := 1325) (v := nI 32) dL_law_1323 rfl (by decide) ?_
  refine g_lshl (pc' := 1326) dL_law_1325 rfl ?_
  refine l_arg (pc' := 1331) (j := 4) s99 (by omega) hLs rfl (e99 _) dL_law_1326 dL_law_1327 dL_law_1328 dL_law_1329 dL_law_1330 rfl ?_
  refine g_i2l (pc' := 1332) dL_law_1331 rfl ?_
  refine g_ldc2 (pc' := 1335) dL_law_1332 rfl kL_154 ?_
  refine g_land (pc' := 1336) dL_law_1335 rfl ?_
  refine g_lor (pc' := 1337) dL_law_1336 rfl ?_
  refine g_callVX hc g.xg.s0 (by decide) wX8_put lL_156 rfl rfl (Nat.le_of_ble_eq_true rfl) ⟨by show d + 1 ≤ 2048; omega, by show 8 + (7 + 11) + (64 * d + 40) ≤ 84000; omega⟩ ⟨by show k + mc ≤ 600000; omega, by show n + ms ≤ 7302250; omega⟩ dL_law_1337 rfl ?_
  rintro r S1 I1 L1 R1 hpost hext hro
  obtain ⟨w, d2, post2, rfl, hd2, hc2, hfin⟩ := hall _ _ _ _ _ hpost
  show G l mL_law room_1 QL (k + mc) (n + ms) 1340 [some (.inr (.inr (some (99, 0)))), some (.inr (.inr (some (0, 0)))), some (.inr (.inr (some (40, 0)))), some (.inl (nI (6 * q)))] [.inl w] S1 I1 L1 R1
  have s991 : S1 (99, 0) = (7, Ls) := (hext _ (by rw [s99]; simp)).trans s99
  have e991 : ∀ j, j < Ls → I1 (99, 0) j = xs j := fun j hj => (hro (99, 0) j (by rw [s99]) (by rw [s99]; exact hj)).trans (e99 j)
  have s401 : S1 (40, 0) = (19, 0) := (hext _ (by rw [g.mg.s40]; simp)).trans g.mg.s40
  refine g_ald2 (pc' := 1341) dL_law_1340 rfl ?_
  refine l_arg (pc' := 1346) (j := 1) s991 (by omega) hLs rfl (e991 _ (by omega)) dL_law_1341 dL_law_1342 dL_law_1343 dL_law_1344 dL_law_1345 rfl ?_
  refine l_arg (pc' := 1351) (j := 2) s991 (by omega) hLs rfl (e991 _ (by omega)) dL_law_1346 dL_law_1347 dL_law_1348 dL_law_1349 dL_law_1350 rfl ?_
  refine l_arg (pc' := 1356) (j := 3) s991 (by omega) hLs rfl (e991 _ (by omega)) dL_law_1351 dL_law_1352 dL_law_1353 dL_law_1354 dL_law_1355 rfl ?_
  refine g_i2l (pc' := 1357) dL_law_1356 rfl ?_
  refine g_bipush (pc' := 1359) (v := nI 32) dL_law_1357 rfl (by decide) ?_
  refine g_lshl (pc' := 1360) dL_law_1359 rfl ?_
  refine l_arg (pc' := 1365) (j := 4) s991 (by omega) hLs rfl (e991 _ (by omega)) dL_law_1360 dL_law_1361 dL_law_1362 dL_law_1363 dL_law_1364 rfl ?_
  refine g_i2l (pc' := 1366) dL_law_1365 rfl ?_
  refine g_ldc2 (pc' := 1369) dL_law_1366 rfl kL_154 ?_
  refine g_land (pc' := 1370) dL_law_1369 rfl ?_
  refine g_lor (pc' := 1371) dL_law_1370 rfl ?_
  refine g_callVX hc2 s401 (by decide) wX9_put lL_160 rfl rfl (Nat.le_of_ble_eq_true rfl) ⟨by show d2 + 1 ≤ 2048; omega, by show 8 + (6 + 11) + (64 * d2 + 40) ≤ 84000; omega⟩ ⟨by show k + mc + 0 ≤ 600000; omega, by show n + ms + 0 ≤ 7302250; omega⟩ dL_law_1371 rfl ?_
  rintro r2 S2 I2 L2 R2 hpost2 - -
  obtain ⟨rfl, hInv⟩ := hfin _ _ _ _ _ hpost2
  show G l mL_law room_1 QL (k + mc + 0) (n + ms + 0) 1374 [some (.inr (.inr (some (99, 0)))), some (.inr (.inr (some (0, 0)))), some (.inr (.inr (some (40, 0)))), some (.inl (nI (6 * q)))] [.inl w, .inl w] S2 I2 L2 R2
  refine g_icmpeq (pc' := 1377) (tgt := 1532) dL_law_1374 (by decide) rfl (fun _ => ?_) (fun z => absurd rfl z)
  exact ih _ _ _ _ _ _ hInv (by omega) (by omega)

theorem lc_element (l : Launch) {Ls : Nat} {xs : Nat → Int32} {q : Nat} {S : Shp} {I : MI} {L : ML} {R : MR} {k n : Nat} (hLs : Ls ≤ 3072) (h6 : 6 * q + 6 ≤ Ls) (iv : Inv Ls xs q S I L R) (hk : k ≤ 80 + 7 * q) (hn : n ≤ 8100 + 308 * q) (ih : LNext l Ls xs q) : G l mL_law room_1 QL k n 1379 [some (.inr (.inr (some (99, 0)))), some (.inr (.inr (some (0, 0)))), some (.inr (.inr (some (40, 0)))), some (.inl (nI (6 * q)))] [] S I L R := by
  obtain ⟨n', m', c', b', g, kk⟩ := iv
  have hq : q < 600 := by omega
  obtain ⟨d, mc, ms, post, hc, hd, hmc, hms, hall⟩ := s_element l g kk hq (xs (6 * q + 1)) (xs (6 * q + 2))
  have s99 := g.s99
  have e99 : ∀ j, I (99, 0) j = xs j := kk.sc
  refine g_ald1 (pc' := 1380) dL_law_1379 rfl ?_
  refine l_arg (pc' := 1385) (j := 1) s99 (by omega) hLs rfl (e99 _) dL_law_1380 dL_law_1381 dL_law_1382 dL_law_1383 dL_law_1384 rfl ?_
  refine l_arg (pc' := 1390) (j := 2) s99 (by omega) hLs rfl (e99 _) dL_law_1385 dL_law_1386 dL_law_1387 dL_law_1388 dL_law_1389 rfl ?_
  refine g_callVX hc g.xg.s0 (by decide) wX8_element lL_161 rfl rfl (Nat.le_of_ble_eq_true rfl) ⟨by show d + 1 ≤ 2048; omega, by show 8 + (4 + 11) + (64 * d + 40) ≤ 84000; omega⟩ ⟨by show k + mc ≤ 600000; omega, by show n + ms ≤ 7302250; omega⟩ dL_law_1390 rfl ?_
  rintro r S1 I1 L1 R1 hpost hext hro
  obtain ⟨w, d2, post2, rfl, hd2, hc2, hfin⟩ := hall _ _ _ _ _ hpost
  show G l mL_law room_1 QL (k + mc) (n + ms) 1393 [some (.inr (.inr (some (99, 0)))), some (.inr (.inr (some (0, 0)))), some (.inr (.inr (some (40, 0)))), some (.inl (nI (6 * q)))] [.inr (.inl w)] S1 I1 L1 R1
  have s991 : S1 (99, 0) = (7, Ls) := (hext _ (by rw [s99]; simp)).trans s99
  have e991 : ∀ j, j < Ls → I1 (99, 0) j = xs j := fun j hj => (hro (99, 0) j (by rw [s99]) (by rw [s99]; exact hj)).trans (e99 j)
  have s401 : S1 (40, 0) = (19, 0) := (hext _ (by rw [g.mg.s40]; simp)).trans g.mg.s40
  refine g_ald2 (pc' := 1394) dL_law_1393 rfl ?_
  refine l_arg (pc' := 1399) (j := 1) s991 (by omega) hLs rfl (e991 _ (by omega)) dL_law_1394 dL_law_1395 dL_law_1396 dL_law_1397 dL_law_1398 rfl ?_
  refine l_arg (pc' := 1404) (j := 2) s991 (by omega) hLs rfl (e991 _ (by omega)) dL_law_1399 dL_law_1400 dL_law_1401 dL_law_1402 dL_law_1403 rfl ?_
  refine g_callVX hc2 s401 (by decide) wX9_element lL_165 rfl rfl (Nat.le_of_ble_eq_true rfl) ⟨by show d2 + 1 ≤ 2048; omega, by show 8 + (3 + 11) + (64 * d2 + 40) ≤ 84000; omega⟩ ⟨by show k + mc + 0 ≤ 600000; omega, by show n + ms + 0 ≤ 7302250; omega⟩ dL_law_1404 rfl ?_
  rintro r2 S2 I2 L2 R2 hpost2 - -
  obtain ⟨rfl, hInv⟩ := hfin _ _ _ _ _ hpost2
  show G l mL_law room_1 QL (k + mc + 0) (n + ms + 0) 1407 [some (.inr (.inr (some (99, 0)))), some (.inr (.inr (some (0, 0)))), some (.inr (.inr (some (40, 0)))), some (.inl (nI (6 * q)))] [.inr (.inl w), .inr (.inl w)] S2 I2 L2 R2
  refine g_lcmp (pc' := 1408) dL_law_1407 rfl ?_
  refine g_ifeq (pc' := 1411) (tgt := 1532) dL_law_1408 (by decide) rfl (fun _ => ?_) (fun z => absurd (lg_cmp_rf w) z)
  exact ih _ _ _ _ _ _ hInv (by omega) (by omega)

theorem lc_shift (l : Launch) {Ls : Nat} {xs : Nat → Int32} {q : Nat} {S : Shp} {I : MI} {L : ML} {R : MR} {k n : Nat} (hLs : Ls ≤ 3072) (h6 : 6 * q + 6 ≤ Ls) (iv : Inv Ls xs q S I L R) (hk : k ≤ 80 + 7 * q) (hn : n ≤ 8100 + 308 * q) (ih : LNext l Ls xs q) : G l mL_law room_1 QL k n 1413 [some (.inr (.inr (some (99, 0)))), some (.inr (.inr (some (0, 0)))), some (.inr (.inr (some (40, 0)))), some (.inl (nI (6 * q)))] [] S I L R := by
  obtain ⟨n', m', c', b', g, kk⟩ := iv
  have hq : q < 600 := by omega
  obtain ⟨d, mc, ms, post, hc, hd, hmc, hms, hall⟩ := s_shift l g kk hq (xs (6 * q + 1)) (xs (6 * q + 2)) (xs (6 * q + 3)) (xs (6 * q + 4)) (xs (6 * q + 5))
  have s99 := g.s99
  have e99 : ∀ j, I (99, 0) j = xs j := kk.sc
  refine g_ald1 (pc' := 1414) dL_law_1413 rfl ?_
  refine l_arg (pc' := 1419) (j := 1) s99 (by omega) hLs rfl (e99 _) dL_law_1414 dL_law_1415 dL_law_1416 dL_law_1417 dL_law_1418 rfl ?_
  refine l_arg (pc' := 1424) (j := 2) s99 (by omega) hLs rfl (e99 _) dL_law_1419 dL_law_1420 dL_law_1421 dL_law_1422 dL_law_1423 rfl ?_
  refine l_arg (pc' := 1429) (j := 3) s99 (by omega) hLs rfl (e99 _) dL_law_1424 dL_law_1425 dL_law_1426 dL_law_1427 dL_law_1428 rfl ?_
  refine l_arg (pc' := 1434) (j := 4) s99 (by omega) hLs rfl (e99 _) dL_law_1429 dL_law_1430 dL_law_1431 dL_law_1432 dL_law_1433 rfl ?_
  refine l_arg (pc' := 1439) (j := 5) s99 (by omega) hLs rfl (e99 _) dL_law_1434 dL_law_1435 dL_law_1436 dL_law_1437 dL_law_1438 rfl ?_
  refine g_callVX hc g.xg.s0 (by decide) wX8_shift lL_166 rfl rfl (Nat.le_of_ble_eq_true rfl) ⟨by show d + 1 ≤ 2048; omega, by show 8 + (8 + 11) + (64 * d + 40) ≤ 84000; omega⟩ ⟨by show k + mc ≤ 600000; omega, by show n + ms ≤ 7302250; omega⟩ dL_law_1439 rfl ?_
  rintro r S1 I1 L1 R1 hpost hext hro
  obtain ⟨w, d2, post2, rfl, hd2, hc2, hfin⟩ := hall _ _ _ _ _ hpost
  show G l mL_law room_1 QL (k + mc) (n + ms) 1442 [some (.inr (.inr (some (99, 0)))), some (.inr (.inr (some (0, 0)))), some (.inr (.inr (some (40, 0)))), some (.inl (nI (6 * q)))] [.inl w] S1 I1 L1 R1
  have s991 : S1 (99, 0) = (7, Ls) := (hext _ (by rw [s99]; simp)).trans s99
  have e991 : ∀ j, j < Ls → I1 (99, 0) j = xs j := fun j hj => (hro (99, 0) j (by rw [s99]) (by rw [s99]; exact hj)).trans (e99 j)
  have s401 : S1 (40, 0) = (19, 0) := (hext _ (by rw [g.mg.s40]; simp)).trans g.mg.s40
  refine g_ald2 (pc' := 1443) dL_law_1442 rfl ?_
  refine l_arg (pc' := 1448) (j := 1) s991 (by omega) hLs rfl (e991 _ (by omega)) dL_law_1443 dL_law_1444 dL_law_1445 dL_law_1446 dL_law_1447 rfl ?_
  refine l_arg (pc' := 1453) (j := 2) s991 (by omega) hLs rfl (e991 _ (by omega)) dL_law_1448 dL_law_1449 dL_law_1450 dL_law_1451 dL_law_1452 rfl ?_
  refine l_arg (pc' := 1458) (j := 3) s991 (by omega) hLs rfl (e991 _ (by omega)) dL_law_1453 dL_law_1454 dL_law_1455 dL_law_1456 dL_law_1457 rfl ?_
  refine l_arg (pc' := 1463) (j := 4) s991 (by omega) hLs rfl (e991 _ (by omega)) dL_law_1458 dL_law_1459 dL_law_1460 dL_law_1461 dL_law_1462 rfl ?_
  refine l_arg (pc' := 1468) (j := 5) s991 (by omega) hLs rfl (e991 _ (by omega)) dL_law_1463 dL_law_1464 dL_law_1465 dL_law_1466 dL_law_1467 rfl ?_
  refine g_callVX hc2 s401 (by decide) wX9_shift lL_170 rfl rfl (Nat.le_of_ble_eq_true rfl) ⟨by show d2 + 1 ≤ 2048; omega, by show 8 + (7 + 11) + (64 * d2 + 40) ≤ 84000; omega⟩ ⟨by show k + mc + 0 ≤ 600000; omega, by show n + ms + 0 ≤ 7302250; omega⟩ dL_law_1468 rfl ?_
  rintro r2 S2 I2 L2 R2 hpost2 - -
  obtain ⟨rfl, hInv⟩ := hfin _ _ _ _ _ hpost2
  show G l mL_law room_1 QL (k + mc + 0) (n + ms + 0) 1471 [some (.inr (.inr (some (99, 0)))), some (.inr (.inr (some (0, 0)))), some (.inr (.inr (some (40, 0)))), some (.inl (nI (6 * q)))] [.inl w, .inl w] S2 I2 L2 R2
  refine g_icmpeq (pc' := 1474) (tgt := 1532) dL_law_1471 (by decide) rfl (fun _ => ?_) (fun z => absurd rfl z)
  exact ih _ _ _ _ _ _ hInv (by omega) (by omega)

theorem lc_taken (l : Launch) {Ls : Nat} {xs : Nat → Int32} {q : Nat} {S : Shp} {I : MI} {L : ML} {R : MR} {k n : Nat} (hLs : Ls ≤ 3072) (h6 : 6 * q + 6 ≤ Ls) (iv : Inv Ls xs q S I L R) (hk : k ≤ 80 + 7 * q) (hn : n ≤ 8100 + 308 * q) (ih : LNext l Ls xs q) : G l mL_law room_1 QL k n 1476 [some (.inr (.inr (some (99, 0)))), some (.inr (.inr (some (0, 0)))), some (.inr (.inr (some (40, 0)))), some (.inl (nI (6 * q)))] [] S I L R := by
  obtain ⟨n', m', c', b', g, kk⟩ := iv
  have hq : q < 600 := by omega
  obtain ⟨d, mc, ms, post, hc, hd, hmc, hms, hall⟩ := s_taken l g kk hq (xs (6 * q + 1)) (xs (6 * q + 2))
  have s99 := g.s99
  have e99 : ∀ j, I (99, 0) j = xs j := kk.sc
  refine g_ald1 (pc' := 1477) dL_law_1476 rfl ?_
  refine l_arg (pc' := 1482) (j := 1) s99 (by omega) hLs rfl (e99 _) dL_law_1477 dL_law_1478 dL_law_1479 dL_law_1480 dL_law_1481 rfl ?_
  refine l_arg (pc' := 1487) (j := 2) s99 (by omega) hLs rfl (e99 _) dL_law_1482 dL_law_1483 dL_law_1484 dL_law_1485 dL_law_1486 rfl ?_
  refine g_callVX hc g.xg.s0 (by decide) wX8_taken lL_171 rfl rfl (Nat.le_of_ble_eq_true rfl) ⟨by show d + 1 ≤ 2048; omega, by show 8 + (4 + 11) + (64 * d + 40) ≤ 84000; omega⟩ ⟨by show k + mc ≤ 600000; omega, by show n + ms ≤ 7302250; omega⟩ dL_law_1487 rfl ?_
  rintro r S1 I1 L1 R1 hpost hext hro
  obtain ⟨w, d2, post2, rfl, hd2, hc2, hfin⟩ := hall _ _ _ _ _ hpost
  show G l mL_law room_1 QL (k + mc) (n + ms) 1490 [some (.inr (.inr (some (99, 0)))), some (.inr (.inr (some (0, 0)))), some (.inr (.inr (some (40, 0)))), some (.inl (nI (6 * q)))] [.inl w] S1 I1 L1 R1
  have s991 : S1 (99, 0) = (7, Ls) := (hext _ (by rw [s99]; simp)).trans s99
  have e991 : ∀ j, j < Ls → I1 (99, 0) j = xs j := fun j hj => (hro (99, 0) j (by rw [s99]) (by rw [s99]; exact hj)).trans (e99 j)
  have s401 : S1 (40, 0) = (19, 0) := (hext _ (by rw [g.mg.s40]; simp)).trans g.mg.s40
  refine g_ald2 (pc' := 1491) dL_law_1490 rfl ?_
  refine l_arg (pc' := 1496) (j := 1) s991 (by omega) hLs rfl (e991 _ (by omega)) dL_law_1491 dL_law_1492 dL_law_1493 dL_law_1494 dL_law_1495 rfl ?_
  refine l_arg (pc' := 1501) (j := 2) s991 (by omega) hLs rfl (e991 _ (by omega)) dL_law_1496 dL_law_1497 dL_law_1498 dL_law_1499 dL_law_1500 rfl ?_
  refine g_callVX hc2 s401 (by decide) wX9_taken lL_174 rfl rfl (Nat.le_of_ble_eq_true rfl) ⟨by show d2 + 1 ≤ 2048; omega, by show 8 + (4 + 11) + (64 * d2 + 40) ≤ 84000; omega⟩ ⟨by show k + mc + 0 ≤ 600000; omega, by show n + ms + 0 ≤ 7302250; omega⟩ dL_law_1501 rfl ?_
  rintro r2 S2 I2 L2 R2 hpost2 - -
  obtain ⟨rfl, hInv⟩ := hfin _ _ _ _ _ hpost2
  show G l mL_law room_1 QL (k + mc + 0) (n + ms + 0) 1504 [some (.inr (.inr (some (99, 0)))), some (.inr (.inr (some (0, 0)))), some (.inr (.inr (some (40, 0)))), some (.inl (nI (6 * q)))] [.inl w, .inl w] S2 I2 L2 R2
  refine g_icmpeq (pc' := 1507) (tgt := 1532) dL_law_1504 (by decide) rfl (fun _ => ?_) (fun z => absurd rfl z)
  exact ih _ _ _ _ _ _ hInv (by omega) (by omega)

theorem lc_count (l : Launch) {Ls : Nat} {xs : Nat → Int32} {q : Nat} {S : Shp} {I : MI} {L : ML} {R : MR} {k n : Nat} (hLs : Ls ≤ 3072) (h6 : 6 * q + 6 ≤ Ls) (iv : Inv Ls xs q S I L R) (hk : k ≤ 80 + 7 * q) (hn : n ≤ 8100 + 308 * q) (ih : LNext l Ls xs q) : G l mL_law room_1 QL k n 1509 [some (.inr (.inr (some (99, 0)))), some (.inr (.inr (some (0, 0)))), some (.inr (.inr (some (40, 0)))), some (.inl (nI (6 * q)))] [] S I L R := by
  obtain ⟨n', m', c', b', g, kk⟩ := iv
  have hq : q < 600 := by omega
  obtain ⟨d, mc, ms, post, hc, hd, hmc, hms, hall⟩ := s_count l g kk hq (xs (6 * q + 1))
  have s99 := g.s99
  have e99 : ∀ j, I (99, 0) j = xs j := kk.sc
  refine g_ald1 (pc' := 1510) dL_law_1509 rfl ?_
  refine l_arg (pc' := 1515) (j := 1) s99 (by omega) hLs rfl (e99 _) dL_law_1510 dL_law_1511 dL_law_1512 dL_law_1513 dL_law_1514 rfl ?_
  refine g_callVX hc g.xg.s0 (by decide) wX8_count lL_175 rfl rfl (Nat.le_of_ble_eq_true rfl) ⟨by show d + 1 ≤ 2048; omega, by show 8 + (2 + 11) + (64 * d + 40) ≤ 84000; omega⟩ ⟨by show k + mc ≤ 600000; omega, by show n + ms ≤ 7302250; omega⟩ dL_law_1515 rfl ?_
  rintro r S1 I1 L1 R1 hpost hext hro
  obtain ⟨w, d2, post2, rfl, hd2, hc2, hfin⟩ := hall _ _ _ _ _ hpost
  show G l mL_law room_1 QL (k + mc) (n + ms) 1518 [some (.inr (.inr (some (99, 0)))), some (.inr (.inr (some (0, 0)))), some (.inr (.inr (some (40, 0)))), some (.inl (nI (6 * q)))] [.inl w] S1 I1 L1 R1
  have s991 : S1 (99, 0) = (7, Ls) := (hext _ (by rw [s99]; simp)).trans s99
  have e991 : ∀ j, j < Ls → I1 (99, 0) j = xs j := fun j hj => (hro (99, 0) j (by rw [s99]) (by rw [s99]; exact hj)).trans (e99 j)
  have s401 : S1 (40, 0) = (19, 0) := (hext _ (by rw [g.mg.s40]; simp)).trans g.mg.s40
  refine g_ald2 (pc' := 1519) dL_law_1518 rfl ?_
  refine l_arg (pc' := 1524) (j := 1) s991 (by omega) hLs rfl (e991 _ (by omega)) dL_law_1519 dL_law_1520 dL_law_1521 dL_law_1522 dL_law_1523 rfl ?_
  refine g_callVX hc2 s401 (by decide) wX9_count lL_178 rfl rfl (Nat.le_of_ble_eq_true rfl) ⟨by show d2 + 1 ≤ 2048; omega, by show 8 + (2 + 11) + (64 * d2 + 40) ≤ 84000; omega⟩ ⟨by show k + mc + 0 ≤ 600000; omega, by show n + ms + 0 ≤ 7302250; omega⟩ dL_law_1524 rfl ?_
  rintro r2 S2 I2 L2 R2 hpost2 - -
  obtain ⟨rfl, hInv⟩ := hfin _ _ _ _ _ hpost2
  show G l mL_law room_1 QL (k + mc + 0) (n + ms + 0) 1527 [some (.inr (.inr (some (99, 0)))), some (.inr (.inr (some (0, 0)))), some (.inr (.inr (some (40, 0)))), some (.inl (nI (6 * q)))] [.inl w, .inl w] S2 I2 L2 R2
  refine g_icmpeq (pc' := 1530) (tgt := 1532) dL_law_1527 (by decide) rfl (fun _ => ?_) (fun z => absurd rfl z)
  exact ih _ _ _ _ _ _ hInv (by omega) (by omega)
