/-! EightWorlds: what is asked for by number; songs, feeding -/
theorem and255 (x : Int32) : ∃ b, b < 256 ∧ x &&& nI 255 = nI b := by
  refine ⟨(x &&& nI 255).toBitVec.toNat, ?_, ?_⟩
  · rw [Int32.toBitVec_and, BitVec.toNat_and]
    exact Nat.lt_of_le_of_lt Nat.and_le_right (by decide)
  · apply Int32.toBitVec_inj.mp
    show _ = BitVec.ofNat 32 _
    apply BitVec.eq_of_toNat_eq
    rw [BitVec.toNat_ofNat, Nat.mod_eq_of_lt (BitVec.isLt _)]
def byI (v : Int32) (i : Nat) : Int32 := (v.toUInt32 >>> ((nI (8 * i)).toUInt32 &&& Int32.toUInt32 31)).toInt32 &&& nI 255
def byN (v : Int32) (i : Nat) : Nat := (byI v i).toBitVec.toNat
theorem byN_eq (v : Int32) (i : Nat) : byN v i < 256 ∧ byI v i = nI (byN v i) := by
  obtain ⟨b, hb, e⟩ := and255 ((v.toUInt32 >>> ((nI (8 * i)).toUInt32 &&& Int32.toUInt32 31)).toInt32)
  have e2 : byI v i = nI b := e
  have e3 : byN v i = b := by
    unfold byN
    rw [e2]
    show (BitVec.ofNat 32 b).toNat = b
    rw [BitVec.toNat_ofNat]
    exact Nat.mod_eq_of_lt (by omega)
  rw [e3]
  exact ⟨hb, e2⟩
theorem inb_F {x : Int32} {n : Nat} (h : inb x n = false) (h1 : ¬ x < 0) (h2 : ¬ nI n ≤ x) : False := by
  unfold inb at h
  rw [Int32.not_lt] at h1
  rw [Int32.not_le] at h2
  simp [h1, h2] at h

theorem c_lawOfS (l : Launch) {S : Shp} {I : MI} {L : ML} {R : MR} (xg : XG S R) {c j : Nat} (hc : I (0, 0) 3 = nI c) (hj : j < c) (hM : c ≤ 6) (hR : R (6, 0) j = some (7, j)) : Ct l mX8_lawOf 1 0 0 [.inr (.inr (some (0, 0))), .inl (nI j)] S I L R (PRp S I L R (some (7, j))) := by
  refine Ct.of [some (.inr (.inr (some (0, 0)))), some (.inl (nI j))] (by decide) rfl (Nat.le_of_ble_eq_true rfl) ?_
  refine g_ild1 (pc' := 1) dX8_lawOf_0 rfl ?_
  refine g_ifltN (pc' := 4) (by omega) dX8_lawOf_1 rfl ?_
  refine g_ild1 (pc' := 5) dX8_lawOf_4 rfl ?_
  refine g_ald0 (pc' := 6) dX8_lawOf_5 rfl ?_
  refine g_getI (pc' := 9) xg.s0 (by decide) fX8_110 hc dX8_lawOf_6 rfl ?_
  refine g_icmpgeN (pc' := 12) (by omega) (by omega) (tgt := 27) dX8_lawOf_9 (by decide) rfl (fun h9 => ?_) (fun h9 => ?_)
  · exact absurd h9 (by omega)
  · refine g_ild1 (pc' := 13) dX8_lawOf_12 rfl ?_
    refine g_bipush (pc' := 15) (v := nI 6) dX8_lawOf_13 rfl (by decide) ?_
    refine g_icmpgeN (pc' := 18) (by omega) (by omega) (tgt := 27) dX8_lawOf_15 (by decide) rfl (fun h15 => ?_) (fun h15 => ?_)
    · exact absurd h15 (by omega)
    · refine g_ald0 (pc' := 19) dX8_lawOf_18 rfl ?_
      refine g_getR (pc' := 22) xg.s0 (by decide) fX8_25 xg.r0_2 dX8_lawOf_19 rfl ?_
      refine g_ild1 (pc' := 23) dX8_lawOf_22 rfl ?_
      refine g_aald (pc' := 24) (j := j) (by decide) xg.s6 rfl (by omega) (by decide) hR dX8_lawOf_23 rfl ?_
      refine g_goto (tgt := 28) dX8_lawOf_24 (by decide) ?_
      refine g_aret rfl (Or.inl ⟨_, rfl⟩) dX8_lawOf_28 ?_
      exact eRp rfl

theorem c_lawOfN (l : Launch) {S : Shp} {I : MI} {L : ML} {R : MR} (xg : XG S R) {c : Nat} {x : Int32} (hc : I (0, 0) 3 = nI c) (hx : inb x c = false) : Ct l mX8_lawOf 1 0 0 [.inr (.inr (some (0, 0))), .inl x] S I L R (PRp S I L R none) := by
  refine Ct.of [some (.inr (.inr (some (0, 0)))), some (.inl x)] (by decide) rfl (Nat.le_of_ble_eq_true rfl) ?_
  refine g_ild1 (pc' := 1) dX8_lawOf_0 rfl ?_
  refine g_iflt (pc' := 4) (tgt := 27) dX8_lawOf_1 (by decide) rfl (fun h1 => ?_) (fun h1 => ?_)
  · refine g_null (pc' := 28) dX8_lawOf_27 rfl ?_
    refine g_aret rfl (Or.inl ⟨_, rfl⟩) dX8_lawOf_28 ?_
    exact eRp rfl
  · refine g_ild1 (pc' := 5) dX8_lawOf_4 rfl ?_
    refine g_ald0 (pc' := 6) dX8_lawOf_5 rfl ?_
    refine g_getI (pc' := 9) xg.s0 (by decide) fX8_110 hc dX8_lawOf_6 rfl ?_
    refine g_icmpge (pc' := 12) (tgt := 27) dX8_lawOf_9 (by decide) rfl (fun h9 => ?_) (fun h9 => ?_)
    · refine g_null (pc' := 28) dX8_lawOf_27 rfl ?_
      refine g_aret rfl (Or.inl ⟨_, rfl⟩) dX8_lawOf_28 ?_
      exact eRp rfl
    · refine g_ild1 (pc' := 13) dX8_lawOf_12 rfl ?_
      refine g_bipush (pc' := 15) (v := nI 6) dX8_lawOf_13 rfl (by decide) ?_
      refine g_icmpge (pc' := 18) (tgt := 27) dX8_lawOf_15 (by decide) rfl (fun h15 => ?_) (fun h15 => ?_)
      · refine g_null (pc' := 28) dX8_lawOf_27 rfl ?_
        refine g_aret rfl (Or.inl ⟨_, rfl⟩) dX8_lawOf_28 ?_
        exact eRp rfl
      · exact (inb_F hx h1 h9).elim

theorem c_worldOfS (l : Launch) {S : Shp} {I : MI} {L : ML} {R : MR} (xg : XG S R) {m j : Nat} (hm : I (0, 0) 5 = nI m) (hj : j < m) (hM : m ≤ 9) (hR : R (10, 0) j = some (11, j)) : Ct l mX8_worldOf 1 0 0 [.inr (.inr (some (0, 0))), .inl (nI j)] S I L R (PRp S I L R (some (11, j))) := by
  refine Ct.of [some (.inr (.inr (some (0, 0)))), some (.inl (nI j))] (by decide) rfl (Nat.le_of_ble_eq_true rfl) ?_
  refine g_ild1 (pc' := 1) dX8_worldOf_0 rfl ?_
  refine g_ifltN (pc' := 4) (by omega) dX8_worldOf_1 rfl ?_
  refine g_ild1 (pc' := 5) dX8_worldOf_4 rfl ?_
  refine g_ald0 (pc' := 6) dX8_worldOf_5 rfl ?_
  refine g_getI (pc' := 9) xg.s0 (by decide) fX8_128 hm dX8_worldOf_6 rfl ?_
  refine g_icmpgeN (pc' := 12) (by omega) (by omega) (tgt := 27) dX8_worldOf_9 (by decide) rfl (fun h9 => ?_) (fun h9 => ?_)
  · exact absurd h9 (by omega)
  · refine g_ild1 (pc' := 13) dX8_worldOf_12 rfl ?_
    refine g_bipush (pc' := 15) (v := nI 9) dX8_worldOf_13 rfl (by decide) ?_
    refine g_icmpgeN (pc' := 18) (by omega) (by omega) (tgt := 27) dX8_worldOf_15 (by decide) rfl (fun h15 => ?_) (fun h15 => ?_)
    · exact absurd h15 (by omega)
    · refine g_ald0 (pc' := 19) dX8_worldOf_18 rfl ?_
      refine g_getR (pc' := 22) xg.s0 (by decide) fX8_31 xg.r0_4 dX8_worldOf_19 rfl ?_
      refine g_ild1 (pc' := 23) dX8_worldOf_22 rfl ?_
      refine g_aald (pc' := 24) (j := j) (by decide) xg.s10 rfl (by omega) (by decide) hR dX8_worldOf_23 rfl ?_
      refine g_goto (tgt := 28) dX8_worldOf_24 (by decide) ?_
      refine g_aret rfl (Or.inl ⟨_, rfl⟩) dX8_worldOf_28 ?_
      exact eRp rfl

theorem c_worldOfN (l : Launch) {S : Shp} {I : MI} {L : ML} {R : MR} (xg : XG S R) {m : Nat} {x : Int32} (hm : I (0, 0) 5 = nI m) (hx : inb x m = false) : Ct l mX8_worldOf 1 0 0 [.inr (.inr (some (0, 0))), .inl x] S I L R (PRp S I L R none) := by
  refine Ct.of [some (.inr (.inr (some (0, 0)))), some (.inl x)] (by decide) rfl (Nat.le_of_ble_eq_true rfl) ?_
  refine g_ild1 (pc' := 1) dX8_worldOf_0 rfl ?_
  refine g_iflt (pc' := 4) (tgt := 27) dX8_worldOf_1 (by decide) rfl (fun h1 => ?_) (fun h1 => ?_)
  · refine g_null (pc' := 28) dX8_worldOf_27 rfl ?_
    refine g_aret rfl (Or.inl ⟨_, rfl⟩) dX8_worldOf_28 ?_
    exact eRp rfl
  · refine g_ild1 (pc' := 5) dX8_worldOf_4 rfl ?_
    refine g_ald0 (pc' := 6) dX8_worldOf_5 rfl ?_
    refine g_getI (pc' := 9) xg.s0 (by decide) fX8_128 hm dX8_worldOf_6 rfl ?_
    refine g_icmpge (pc' := 12) (tgt := 27) dX8_worldOf_9 (by decide) rfl (fun h9 => ?_) (fun h9 => ?_)
    · refine g_null (pc' := 28) dX8_worldOf_27 rfl ?_
      refine g_aret rfl (Or.inl ⟨_, rfl⟩) dX8_worldOf_28 ?_
      exact eRp rfl
    · refine g_ild1 (pc' := 13) dX8_worldOf_12 rfl ?_
      refine g_bipush (pc' := 15) (v := nI 9) dX8_worldOf_13 rfl (by decide) ?_
      refine g_icmpge (pc' := 18) (tgt := 27) dX8_worldOf_15 (by decide) rfl (fun h15 => ?_) (fun h15 => ?_)
      · refine g_null (pc' := 28) dX8_worldOf_27 rfl ?_
        refine g_aret rfl (Or.inl ⟨_, rfl⟩) dX8_worldOf_28 ?_
        exact eRp rfl
      · exact (inb_F hx h1 h9).elim

theorem c_shelfOfS (l : Launch) {S : Shp} {I : MI} {L : ML} {R : MR} (xg : XG S R) {j : Nat} (hj : j < 6) (hR : R (26, 0) j = some (27, j)) : Ct l mX8_shelfOf 1 0 0 [.inr (.inr (some (0, 0))), .inl (nI j)] S I L R (PRp S I L R (some (27, j))) := by
  refine Ct.of [some (.inr (.inr (some (0, 0)))), some (.inl (nI j))] (by decide) rfl (Nat.le_of_ble_eq_true rfl) ?_
  refine g_ild1 (pc' := 1) dX8_shelfOf_0 rfl ?_
  refine g_ifltN (pc' := 4) (by omega) dX8_shelfOf_1 rfl ?_
  refine g_ild1 (pc' := 5) dX8_shelfOf_4 rfl ?_
  refine g_bipush (pc' := 7) (v := nI 6) dX8_shelfOf_5 rfl (by decide) ?_
  refine g_icmpgeN (pc' := 10) (by omega) (by omega) (tgt := 19) dX8_shelfOf_7 (by decide) rfl (fun h7 => ?_) (fun h7 => ?_)
  · exact absurd h7 (by omega)
  · refine g_ald0 (pc' := 11) dX8_shelfOf_10 rfl ?_
    refine g_getR (pc' := 14) xg.s0 (by decide) fX8_51 xg.r0_8 dX8_shelfOf_11 rfl ?_
    refine g_ild1 (pc' := 15) dX8_shelfOf_14 rfl ?_
    refine g_aald (pc' := 16) (j := j) (by decide) xg.s26 rfl (by omega) (by decide) hR dX8_shelfOf_15 rfl ?_
    refine g_goto (tgt := 20) dX8_shelfOf_16 (by decide) ?_
    refine g_aret rfl (Or.inl ⟨_, rfl⟩) dX8_shelfOf_20 ?_
    exact eRp rfl

theorem c_shelfOfN (l : Launch) {S : Shp} {I : MI} {L : ML} {R : MR} (xg : XG S R) {x : Int32} (hx : inb x 6 = false) : Ct l mX8_shelfOf 1 0 0 [.inr (.inr (some (0, 0))), .inl x] S I L R (PRp S I L R none) := by
  refine Ct.of [some (.inr (.inr (some (0, 0)))), some (.inl x)] (by decide) rfl (Nat.le_of_ble_eq_true rfl) ?_
  refine g_ild1 (pc' := 1) dX8_shelfOf_0 rfl ?_
  refine g_iflt (pc' := 4) (tgt := 19) dX8_shelfOf_1 (by decide) rfl (fun h1 => ?_) (fun h1 => ?_)
  · refine g_null (pc' := 20) dX8_shelfOf_19 rfl ?_
    refine g_aret rfl (Or.inl ⟨_, rfl⟩) dX8_shelfOf_20 ?_
    exact eRp rfl
  · refine g_ild1 (pc' := 5) dX8_shelfOf_4 rfl ?_
    refine g_bipush (pc' := 7) (v := nI 6) dX8_shelfOf_5 rfl (by decide) ?_
    refine g_icmpge (pc' := 10) (tgt := 19) dX8_shelfOf_7 (by decide) rfl (fun h7 => ?_) (fun h7 => ?_)
    · refine g_null (pc' := 20) dX8_shelfOf_19 rfl ?_
      refine g_aret rfl (Or.inl ⟨_, rfl⟩) dX8_shelfOf_20 ?_
      exact eRp rfl
    · exact (inb_F hx h1 h7).elim

theorem c_song (l : Launch) {S : Shp} {I : MI} {L : ML} {R : MR} (xg : XG S R) (sg : SG S R) {n : Nat} (hn : I (1, 0) 1 = nI n) (hN : n ≤ 12) (x : Int32) : Ct l mX8_song 1 0 0 [.inr (.inr (some (0, 0))), .inl x] S I L R (PIm S L R (fun v J => v = (if x < 0 ∨ nI 999 < x then -1 else if 12 ≤ n then -3 else nI n) ∧ J = (if x < 0 ∨ nI 999 < x then I else if 12 ≤ n then I else upM (upM I (2, 0) n x) (1, 0) 1 (nI (n + 1))))) := by
  refine Ct.of [some (.inr (.inr (some (0, 0)))), some (.inl x)] (by decide) rfl (Nat.le_of_ble_eq_true rfl) ?_
  refine g_ild1 (pc' := 1) dX8_song_0 rfl ?_
  refine g_iflt (pc' := 4) (tgt := 11) dX8_song_1 (by decide) rfl (fun h1 => ?_) (fun h1 => ?_)
  · refine g_iconst (pc' := 12) (v := (-1)) dX8_song_11 rfl (by decide) ?_
    refine g_iret rfl dX8_song_12 ?_
    exact eI ⟨(by (repeat' split) <;> first | rfl | (exfalso; simp_all; done) | (exfalso; simp_all; omega) | (exfalso; simp_all [-Int32.not_le, ← Int32.not_le]; done) | (exfalso; simp_all [-Int32.not_le, ← Int32.not_le]; omega)), (by (repeat' split) <;> first | rfl | (exfalso; simp_all; done) | (exfalso; simp_all; omega) | (exfalso; simp_all [-Int32.not_le, ← Int32.not_le]; done) | (exfalso; simp_all [-Int32.not_le, ← Int32.not_le]; omega))⟩
  · refine g_ild1 (pc' := 5) dX8_song_4 rfl ?_
    refine g_sipush (pc' := 8) (v := nI 999) dX8_song_5 rfl (by decide) ?_
    refine g_icmple (pc' := 11) (tgt := 13) dX8_song_8 (by decide) rfl (fun h8 => ?_) (fun h8 => ?_)
    · refine g_ald0 (pc' := 14) dX8_song_13 rfl ?_
      refine g_getR (pc' := 17) xg.s0 (by decide) fX8_10 xg.r0_0 dX8_song_14 rfl ?_
      refine g_getI (pc' := 20) sg.s1 (by decide) fX8_88 hn dX8_song_17 rfl ?_
      refine g_bipush (pc' := 22) (v := nI 12) dX8_song_20 rfl (by decide) ?_
      refine g_icmpltN (pc' := 25) (by omega) (by omega) (tgt := 28) dX8_song_22 (by decide) rfl (fun h22 => ?_) (fun h22 => ?_)
      · refine g_ald0 (pc' := 29) dX8_song_28 rfl ?_
        refine g_getR (pc' := 32) xg.s0 (by decide) fX8_10 xg.r0_0 dX8_song_29 rfl ?_
        refine g_getR (pc' := 35) sg.s1 (by decide) fX8_92 sg.r1_0 dX8_song_32 rfl ?_
        refine g_ald0 (pc' := 36) dX8_song_35 rfl ?_
        refine g_getR (pc' := 39) xg.s0 (by decide) fX8_10 xg.r0_0 dX8_song_36 rfl ?_
        refine g_getI (pc' := 42) sg.s1 (by decide) fX8_88 hn dX8_song_39 rfl ?_
        refine g_ild1 (pc' := 43) dX8_song_42 rfl ?_
        refine g_iast (pc' := 44) (j := n) sg.s2 rfl (by omega) (by decide) dX8_song_43 rfl ?_
        refine g_ald0 (pc' := 45) dX8_song_44 rfl ?_
        refine g_getR (pc' := 48) xg.s0 (by decide) fX8_10 xg.r0_0 dX8_song_45 rfl ?_
        refine g_dupR (pc' := 49) dX8_song_48 rfl ?_
        refine g_getI (pc' := 52) sg.s1 (by decide) fX8_88 (v := nI n) (by simp [upM, hn]) dX8_song_49 rfl ?_
        refine g_iconst (pc' := 53) (v := nI 1) dX8_song_52 rfl (by decide) ?_
        refine g_iaddN (pc' := 54) dX8_song_53 rfl ?_
        refine g_putI (pc' := 57) sg.s1 (by decide) ⟨fX8_88, rfl, pI⟩ dX8_song_54 rfl ?_
        refine g_ald0 (pc' := 58) dX8_song_57 rfl ?_
        refine g_getR (pc' := 61) xg.s0 (by decide) fX8_10 xg.r0_0 dX8_song_58 rfl ?_
        refine g_getI (pc' := 64) sg.s1 (by decide) fX8_88 (v := nI (n + 1)) (by simp [upM]) dX8_song_61 rfl ?_
        refine g_iconst (pc' := 65) (v := nI 1) dX8_song_64 rfl (by decide) ?_
        refine g_isub (pc' := 66) dX8_song_65 rfl ?_
        refine g_topi (v := nI n) (pk_sub (by omega)) ?_
        refine g_iret rfl dX8_song_66 ?_
        exact eI ⟨(by (repeat' split) <;> first | rfl | (exfalso; simp_all; done) | (exfalso; simp_all; omega) | (exfalso; simp_all [-Int32.not_le, ← Int32.not_le]; done) | (exfalso; simp_all [-Int32.not_le, ← Int32.not_le]; omega)), (by (repeat' split) <;> first | rfl | (exfalso; simp_all; done) | (exfalso; simp_all; omega) | (exfalso; simp_all [-Int32.not_le, ← Int32.not_le]; done) | (exfalso; simp_all [-Int32.not_le, ← Int32.not_le]; omega))⟩
      · refine g_bipush (pc' := 27) (v := (-3)) dX8_song_25 rfl (by decide) ?_
        refine g_iret rfl dX8_song_27 ?_
        exact eI ⟨(by (repeat' split) <;> first | rfl | (exfalso; simp_all; done) | (exfalso; simp_all; omega) | (exfalso; simp_all [-Int32.not_le, ← Int32.not_le]; done) | (exfalso; simp_all [-Int32.not_le, ← Int32.not_le]; omega)), (by (repeat' split) <;> first | rfl | (exfalso; simp_all; done) | (exfalso; simp_all; omega) | (exfalso; simp_all [-Int32.not_le, ← Int32.not_le]; done) | (exfalso; simp_all [-Int32.not_le, ← Int32.not_le]; omega))⟩
    · refine g_iconst (pc' := 12) (v := (-1)) dX8_song_11 rfl (by decide) ?_
      refine g_iret rfl dX8_song_12 ?_
      exact eI ⟨(by (repeat' split) <;> first | rfl | (exfalso; simp_all; done) | (exfalso; simp_all; omega) | (exfalso; simp_all [-Int32.not_le, ← Int32.not_le]; done) | (exfalso; simp_all [-Int32.not_le, ← Int32.not_le]; omega)), (by (repeat' split) <;> first | rfl | (exfalso; simp_all; done) | (exfalso; simp_all; omega) | (exfalso; simp_all [-Int32.not_le, ← Int32.not_le]; done) | (exfalso; simp_all [-Int32.not_le, ← Int32.not_le]; omega))⟩
