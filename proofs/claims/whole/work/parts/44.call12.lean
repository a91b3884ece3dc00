/-! EightWorlds: worlds in thought -/
theorem WG.upRg {S : Shp} {R : MR} {j b : Nat} {x : Option Tok} (h : WG j S R) : WG j S (upM R (11, b) 1 x) := by unfold WG at *; simpa [upM] using h
theorem XG.upRg {S : Shp} {R : MR} {b : Nat} {x : Option Tok} (h : XG S R) : XG S (upM R (11, b) 1 x) := by unfold XG at *; simpa [upM] using h
theorem SG.upRg {S : Shp} {R : MR} {b : Nat} {x : Option Tok} (h : SG S R) : SG S (upM R (11, b) 1 x) := by unfold SG at *; simpa [upM] using h
theorem LG.upRg {S : Shp} {R : MR} {j n b : Nat} {x : Option Tok} (h : LG j n S R) : LG j n S (upM R (11, b) 1 x) := by unfold LG at *; simpa [upM] using h
def mcP (k lj : Nat) (t : Tok) (i : Nat) : Prop := wldP k t i ∨ scW k lj t i
theorem many_fr {cd : Nat → Nat × Nat} {len k n lj m ke : Nat} {I J : MI} (h : Fr (scW k lj) (manyI cd len k n m I ke).1 J) : Fr (mcP k lj) I J := ((manyI_w m).le (fun t i q => Or.inl q)).tr (h.le (fun t i q => Or.inr q))
def begP (k : Nat) (t : Tok) (i : Nat) : Prop := (t = (11, k) ∧ (i = 3 ∨ i = 5 ∨ i = 6 ∨ i = 7 ∨ i = 8)) ∨ t = (12, k)
theorem beg_fr {I : MI} {k : Nat} {z : Int32} : Fr (begP k) I (begI I k z) := by
  unfold begI
  refine Fr.upT (Fr.up (Fr.up (Fr.up (Fr.up (Fr.up Fr.rf ?_) ?_) ?_) ?_) ?_) ?_ <;> simp [begP]
theorem beg_8 {I : MI} {k : Nat} {z : Int32} : begI I k z (11, k) 8 = nI 0 := by
  unfold begI
  rw [upT_n _ (by simp), upM_s]
def R2 (R : MR) (lj : Nat) : MR := upM (upM R (11, 9) 1 (some (7, lj))) (11, 10) 1 (some (7, lj))
def aiT (I : MI) (cd : Nat → Nat × Nat) (len n a lj : Nat) (z v : Int32) (J : MI) : Prop := ∃ J3, Fr (scW 9 lj) (manyI cd len 9 n a (begI (begI I 9 z) 10 (z + nI 1)) 0).1 J3 ∧ Fr (scW 10 lj) (manyI cd len 10 n a J3 0).1 J ∧ v = apI J n 9 10
theorem c_ait (l : Launch) {S : Shp} {I : MI} {L : ML} {R : MR} (xg : XG S R) (sg : SG S R) {n : Nat} (hn : I (1, 0) 1 = nI n) (hN : n ≤ 12) (wg9 : WG 9 S R) (wg10 : WG 10 S R) {lj len : Nat} {cd : Nat → Nat × Nat} (lg : LG lj len S R) (hv : LV I lj len cd) {a : Nat} (ha : a ≤ 400) (z : Int32) : Ct l mX8_apartInThought 7 0 0 [.inr (.inr (some (0, 0))), .inr (.inr (some (7, lj))), .inl (nI a), .inl z] S I L R (fun r S' J L' R' => ∃ v, r = some (.inl v) ∧ S' = S ∧ L' = L ∧ R' = R2 R lj ∧ aiT I cd len n a lj z v J) := by
  refine Ct.of [some (.inr (.inr (some (0, 0)))), some (.inr (.inr (some (7, lj)))), some (.inl (nI a)), some (.inl z)] (by decide) rfl (Nat.le_of_ble_eq_true rfl) ?_
  refine g_ald0 (pc' := 1) dX8_apartInThought_0 rfl ?_
  refine g_getR (pc' := 4) xg.s0 (by decide) fX8_58 xg.r0_9 dX8_apartInThought_1 rfl ?_
  refine g_ald1 (pc' := 5) dX8_apartInThought_4 rfl ?_
  refine g_ild3 (pc' := 6) dX8_apartInThought_5 rfl ?_
  refine g_callV (pc' := 9) (c_begin l wg9 z) wg9.s11 (by decide) wX7_begin lX8_131 rfl rfl (Nat.le_of_ble_eq_true rfl) ⟨Nat.le_of_ble_eq_true rfl, Nat.le_of_ble_eq_true rfl⟩ ⟨Nat.le_of_ble_eq_true rfl, Nat.le_of_ble_eq_true rfl⟩ dX8_apartInThought_6 rfl (kV (fun J1 hJ1 => ?_))
  obtain ⟨Ra, hRa⟩ : ∃ Q, Q = upM R (11, 9) 1 (some (7, lj)) := ⟨_, rfl⟩
  rw [← hRa]
  have xg : XG S Ra := by rw [hRa]; exact xg.upRg
  have sg : SG S Ra := by rw [hRa]; exact sg.upRg
  have wg9 : WG 9 S Ra := by rw [hRa]; exact wg9.upRg
  have wg10 : WG 10 S Ra := by rw [hRa]; exact wg10.upRg
  have lg : LG lj len S Ra := by rw [hRa]; exact lg.upRg
  have hb1 : Fr (begP 9) I J1 := by rw [hJ1]; exact beg_fr
  refine g_ald0 (pc' := 10) dX8_apartInThought_9 rfl ?_
  refine g_getR (pc' := 13) xg.s0 (by decide) fX8_62 xg.r0_10 dX8_apartInThought_10 rfl ?_
  refine g_ald1 (pc' := 14) dX8_apartInThought_13 rfl ?_
  refine g_ild3 (pc' := 15) dX8_apartInThought_14 rfl ?_
  refine g_iconst (pc' := 16) (v := nI 1) dX8_apartInThought_15 rfl (by decide) ?_
  refine g_iadd (pc' := 17) dX8_apartInThought_16 rfl ?_
  refine g_callV (pc' := 20) (c_begin l wg10 (z + nI 1)) wg10.s11 (by decide) wX7_begin lX8_131 rfl rfl (Nat.le_of_ble_eq_true rfl) ⟨Nat.le_of_ble_eq_true rfl, Nat.le_of_ble_eq_true rfl⟩ ⟨Nat.le_of_ble_eq_true rfl, Nat.le_of_ble_eq_true rfl⟩ dX8_apartInThought_17 rfl (kV (fun J2 hJ2 => ?_))
  obtain ⟨Rb, hRb⟩ : ∃ Q, Q = upM Ra (11, 10) 1 (some (7, lj)) := ⟨_, rfl⟩
  rw [← hRb]
  have xg : XG S Rb := by rw [hRb]; exact xg.upRg
  have sg : SG S Rb := by rw [hRb]; exact sg.upRg
  have wg9 : WG 9 S Rb := by rw [hRb]; exact wg9.upRg
  have wg10 : WG 10 S Rb := by rw [hRb]; exact wg10.upRg
  have lg : LG lj len S Rb := by rw [hRb]; exact lg.upRg
  have hb2 : Fr (begP 10) J1 J2 := by rw [hJ2]; exact beg_fr
  have hn2 : J2 (1, 0) 1 = nI n := (hb2 _ _ (by simp [begP])).trans ((hb1 _ _ (by simp [begP])).trans hn)
  have k9 : J2 (11, 9) 8 = nI 0 := (hb2 _ _ (by simp [begP])).trans (by rw [hJ1]; exact beg_8)
  have k10 : J2 (11, 10) 8 = nI 0 := by rw [hJ2]; exact beg_8
  have hv2 : LV J2 lj len cd := hv.to (fun i => (hb2 _ _ (by simp [begP])).trans (hb1 _ _ (by simp [begP])))
  have hL9 : Rb (11, 9) 1 = some (7, lj) := by rw [hRb, upM_n _ (by simp), hRa, upM_s]
  have hL10 : Rb (11, 10) 1 = some (7, lj) := by rw [hRb, upM_s]
  have hJ12 : J2 = begI (begI I 9 z) 10 (z + nI 1) := by rw [hJ2, hJ1]
  refine g_ald0 (pc' := 21) dX8_apartInThought_20 rfl ?_
  refine g_getR (pc' := 24) xg.s0 (by decide) fX8_58 xg.r0_9 dX8_apartInThought_21 rfl ?_
  refine g_ild2 (pc' := 25) dX8_apartInThought_24 rfl ?_
  refine g_callV (pc' := 28) (c_manyCome l sg wg9 hn2 hN lg hL9 hv2 k9 (m := a) (by omega)) wg9.s11 (by decide) wX7_manyCome lX8_183 rfl rfl (Nat.le_of_ble_eq_true rfl) ⟨Nat.le_of_ble_eq_true rfl, Nat.le_of_ble_eq_true rfl⟩ ⟨Nat.le_of_ble_eq_true rfl, Nat.le_of_ble_eq_true rfl⟩ dX8_apartInThought_25 rfl (kI (fun v3 J3 hq3 => ?_))
  have hm3 := many_fr hq3.2
  have hn3 : J3 (1, 0) 1 = nI n := (hm3 _ _ (by simp [mcP, wldP, scW])).trans hn2
  have k103 : J3 (11, 10) 8 = nI 0 := (hm3 _ _ (by simp [mcP, wldP, scW])).trans k10
  have hv3 : LV J3 lj len cd := hv2.to (fun i => hm3 _ _ (by simp [mcP, wldP, scW]))
  refine g_popI (pc' := 29) dX8_apartInThought_28 rfl ?_
  refine g_ald0 (pc' := 30) dX8_apartInThought_29 rfl ?_
  refine g_getR (pc' := 33) xg.s0 (by decide) fX8_62 xg.r0_10 dX8_apartInThought_30 rfl ?_
  refine g_ild2 (pc' := 34) dX8_apartInThought_33 rfl ?_
  refine g_callV (pc' := 37) (c_manyCome l sg wg10 hn3 hN lg hL10 hv3 k103 (m := a) (by omega)) wg10.s11 (by decide) wX7_manyCome lX8_183 rfl rfl (Nat.le_of_ble_eq_true rfl) ⟨Nat.le_of_ble_eq_true rfl, Nat.le_of_ble_eq_true rfl⟩ ⟨Nat.le_of_ble_eq_true rfl, Nat.le_of_ble_eq_true rfl⟩ dX8_apartInThought_34 rfl (kI (fun v4 J4 hq4 => ?_))
  have hm4 := many_fr hq4.2
  have hn4 : J4 (1, 0) 1 = nI n := (hm4 _ _ (by simp [mcP, wldP, scW])).trans hn3
  refine g_popI (pc' := 38) dX8_apartInThought_37 rfl ?_
  refine g_ald0 (pc' := 39) dX8_apartInThought_38 rfl ?_
  refine g_ald0 (pc' := 40) dX8_apartInThought_39 rfl ?_
  refine g_getR (pc' := 43) xg.s0 (by decide) fX8_58 xg.r0_9 dX8_apartInThought_40 rfl ?_
  refine g_ald0 (pc' := 44) dX8_apartInThought_43 rfl ?_
  refine g_getR (pc' := 47) xg.s0 (by decide) fX8_62 xg.r0_10 dX8_apartInThought_44 rfl ?_
  refine g_callV (pc' := 50) (c_apart l xg sg hn4 hN wg9 wg10) xg.s0 (by decide) wX8_apart lX8_216 rfl rfl (Nat.le_of_ble_eq_true rfl) ⟨Nat.le_of_ble_eq_true rfl, Nat.le_of_ble_eq_true rfl⟩ ⟨Nat.le_of_ble_eq_true rfl, Nat.le_of_ble_eq_true rfl⟩ dX8_apartInThought_47 rfl (kIp ?_)
  refine g_iret rfl dX8_apartInThought_50 ?_
  exact ⟨_, rfl, rfl, rfl, by rw [hRb, hRa]; rfl, J3, by rw [← hJ12]; exact hq3.2, hq4.2, rfl⟩
