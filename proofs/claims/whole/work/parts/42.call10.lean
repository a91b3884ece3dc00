/-! EightWorlds: lines -/
def farI (f g : Nat → Int32) (n : Nat) : Int32 := sumN (fun s => absI (f s - g s)) n
theorem farI_congr {f g f' g' : Nat → Int32} {n : Nat} (h : ∀ s, s < n → f s = f' s) (h2 : ∀ s, s < n → g s = g' s) : farI f g n = farI f' g' n := sumN_congr (fun q hq => by rw [h q hq, h2 q hq])
def lnI (I : MI) (n j k : Nat) : Int32 := farI (fun s => nI (plc (I (12, j)) n s)) (fun s => nI (plc (I (12, k)) n s)) n
theorem shr8 (z : Int32) : (z.toUInt32 >>> ((nI 8).toUInt32 &&& Int32.toUInt32 31)).toInt32 = nI (z.toUInt32.toNat / 256) := by
  have e : (nI 8).toUInt32 &&& Int32.toUInt32 31 = 8 := by decide
  rw [e]
  apply Int32.toBitVec_inj.mp
  show (z.toUInt32 >>> 8).toBitVec = BitVec.ofNat 32 _
  apply BitVec.eq_of_toNat_eq
  have h : (z.toUInt32 >>> 8).toBitVec.toNat = (z.toUInt32 >>> 8).toNat := rfl
  have hb : z.toUInt32.toNat < 2 ^ 32 := UInt32.toNat_lt _
  rw [h, UInt32.toNat_shiftRight, BitVec.toNat_ofNat, Nat.shiftRight_eq_div_pow, show UInt32.toNat 8 % 32 = 8 from rfl]
  exact (Nat.mod_eq_of_lt (Nat.lt_of_le_of_lt (Nat.div_le_self _ _) hb)).symm
theorem c_farApart (l : Launch) {S : Shp} {I : MI} {L : ML} {R : MR} (xg : XG S R) (sg : SG S R) {n : Nat} (hn : I (1, 0) 1 = nI n) (hN : n ≤ 12) {ta tb ua ub : Nat} (hT : S (ta, tb) = (1, 12)) (hU : S (ua, ub) = (1, 12)) : Ct l mX8_farApart 2 0 0 [.inr (.inr (some (0, 0))), .inr (.inr (some (ta, tb))), .inr (.inr (some (ua, ub)))] S I L R (PIp S I L R (farI (I (ta, tb)) (I (ua, ub)) n)) := by
  refine Ct.of [some (.inr (.inr (some (0, 0)))), some (.inr (.inr (some (ta, tb)))), some (.inr (.inr (some (ua, ub)))), none, none] (by decide) rfl (Nat.le_of_ble_eq_true rfl) ?_
  refine g_iconst (pc' := 1) (v := nI 0) dX8_farApart_0 rfl (by decide) ?_
  refine g_ist3 (pc' := 2) rfl (by decide) dX8_farApart_1 rfl ?_
  refine g_iconst (pc' := 3) (v := nI 0) dX8_farApart_2 rfl (by decide) ?_
  refine g_ist4 (pc' := 5) rfl (by decide) dX8_farApart_3 rfl ?_
  refine g_loop (σ := Unit) (fun _ _ => True) (fun i s => [some (.inr (.inr (some (0, 0)))), some (.inr (.inr (some (ta, tb)))), some (.inr (.inr (some (ua, ub)))), some (.inl (sumN (fun s => absI (I (ta, tb) s - I (ua, ub) s)) i)), some (.inl (nI i))]) (fun i s => I) (n) (0) (()) (by omega) (trivial) ?_ ?_
  · intro i s hi hP ih
    refine g_ild4 (pc' := 7) dX8_farApart_5 rfl ?_
    refine g_ald0 (pc' := 8) dX8_farApart_7 rfl ?_
    refine g_getR (pc' := 11) xg.s0 (by decide) fX8_10 xg.r0_0 dX8_farApart_8 rfl ?_
    refine g_getI (pc' := 14) sg.s1 (by decide) fX8_88 hn dX8_farApart_11 rfl ?_
    refine g_icmpgeN (pc' := 17) (by omega) (by omega) (tgt := 38) dX8_farApart_14 (by decide) rfl (fun h14 => ?_) (fun h14 => ?_)
    · exact absurd h14 (by omega)
    · refine g_ild3 (pc' := 18) dX8_farApart_17 rfl ?_
      refine g_ald1 (pc' := 19) dX8_farApart_18 rfl ?_
      refine g_ild4 (pc' := 21) dX8_farApart_19 rfl ?_
      refine g_iald (pc' := 22) (j := i) hT rfl (by omega) (by decide) rfl dX8_farApart_21 rfl ?_
      refine g_ald2 (pc' := 23) dX8_farApart_22 rfl ?_
      refine g_ild4 (pc' := 25) dX8_farApart_23 rfl ?_
      refine g_iald (pc' := 26) (j := i) hU rfl (by omega) (by decide) rfl dX8_farApart_25 rfl ?_
      refine g_isub (pc' := 27) dX8_farApart_26 rfl ?_
      refine g_callS (pc' := 30) (c_J9_abs l S _ L R _) wJ9_abs_0f7a4 lX8_211 rfl rfl (Nat.le_of_ble_eq_true rfl) ⟨Nat.le_of_ble_eq_true rfl, Nat.le_of_ble_eq_true rfl⟩ ⟨Nat.le_of_ble_eq_true rfl, Nat.le_of_ble_eq_true rfl⟩ dX8_farApart_27 rfl (kIp ?_)
      refine g_iadd (pc' := 31) dX8_farApart_30 rfl ?_
      refine g_ist3 (pc' := 32) rfl (by decide) dX8_farApart_31 rfl ?_
      refine g_inc4 (pc' := 35) rfl (by decide) (v := nI (i + 1)) (nI_1 _) dX8_farApart_32 rfl ?_
      refine g_goto (tgt := 5) dX8_farApart_35 (by decide) ?_
      exact ih () trivial
  · intro s hP
    refine g_ild4 (pc' := 7) dX8_farApart_5 rfl ?_
    refine g_ald0 (pc' := 8) dX8_farApart_7 rfl ?_
    refine g_getR (pc' := 11) xg.s0 (by decide) fX8_10 xg.r0_0 dX8_farApart_8 rfl ?_
    refine g_getI (pc' := 14) sg.s1 (by decide) fX8_88 hn dX8_farApart_11 rfl ?_
    refine g_icmpgeN (pc' := 17) (by omega) (by omega) (tgt := 38) dX8_farApart_14 (by decide) rfl (fun h14 => ?_) (fun h14 => ?_)
    · refine g_ild3 (pc' := 39) dX8_farApart_38 rfl ?_
      refine g_iret rfl dX8_farApart_39 ?_
      exact eIp rfl
    · exact absurd h14 (by omega)

theorem c_lineNN (l : Launch) {S : Shp} {I : MI} {L : ML} {R : MR} (xg : XG S R) {m : Nat} (hm : I (0, 0) 5 = nI m) (hM : m ≤ 9) (hR : ∀ k, k < m → R (10, 0) k = some (11, k)) (hW : ∀ k, k < m → WG k S R) {x : Int32} (h1 : inb (x / nI 10) m = false) (h2 : inb (x - x / nI 10 * nI 10) m = false) : Ct l mX8_line 2 0 0 [.inr (.inr (some (0, 0))), .inl x] S I L R (PIp S I L R (-1)) := by
  refine Ct.of [some (.inr (.inr (some (0, 0)))), some (.inl x), none, none] (by decide) rfl (Nat.le_of_ble_eq_true rfl) ?_
  refine g_ald0 (pc' := 1) dX8_line_0 rfl ?_
  refine g_ild1 (pc' := 2) dX8_line_1 rfl ?_
  refine g_bipush (pc' := 4) (v := nI 10) dX8_line_2 rfl (by decide) ?_
  refine g_idiv (pc' := 5) dX8_line_4 rfl (by decide) ?_
  refine g_callV (pc' := 8) (c_worldOfN l xg hm h1) xg.s0 (by decide) wX8_worldOf lX8_147 rfl rfl (Nat.le_of_ble_eq_true rfl) ⟨Nat.le_of_ble_eq_true rfl, Nat.le_of_ble_eq_true rfl⟩ ⟨Nat.le_of_ble_eq_true rfl, Nat.le_of_ble_eq_true rfl⟩ dX8_line_5 rfl (kRp ?_)
  refine g_ast2 (pc' := 9) rfl (by decide) dX8_line_8 rfl ?_
  refine g_ald0 (pc' := 10) dX8_line_9 rfl ?_
  refine g_ild1 (pc' := 11) dX8_line_10 rfl ?_
  refine g_bipush (pc' := 13) (v := nI 10) dX8_line_11 rfl (by decide) ?_
  refine g_irem (pc' := 14) dX8_line_13 rfl (by decide) ?_
  refine g_callV (pc' := 17) (c_worldOfN l xg hm h2) xg.s0 (by decide) wX8_worldOf lX8_147 rfl rfl (Nat.le_of_ble_eq_true rfl) ⟨Nat.le_of_ble_eq_true rfl, Nat.le_of_ble_eq_true rfl⟩ ⟨Nat.le_of_ble_eq_true rfl, Nat.le_of_ble_eq_true rfl⟩ dX8_line_14 rfl (kRp ?_)
  refine g_ast3 (pc' := 18) rfl (by decide) dX8_line_17 rfl ?_
  refine g_ald2 (pc' := 19) dX8_line_18 rfl ?_
  refine g_ifnullT (tgt := 31) dX8_line_19 (by decide) ?_
  refine g_iconst (pc' := 32) (v := (-1)) dX8_line_31 rfl (by decide) ?_
  refine g_iret rfl dX8_line_32 ?_
  exact eIp rfl

theorem c_lineNS (l : Launch) {S : Shp} {I : MI} {L : ML} {R : MR} (xg : XG S R) {m : Nat} (hm : I (0, 0) 5 = nI m) (hM : m ≤ 9) (hR : ∀ k, k < m → R (10, 0) k = some (11, k)) (hW : ∀ k, k < m → WG k S R) {x : Int32} (h1 : inb (x / nI 10) m = false) {j2 : Nat} (e2 : x - x / nI 10 * nI 10 = nI j2) (h2 : j2 < m) : Ct l mX8_line 2 0 0 [.inr (.inr (some (0, 0))), .inl x] S I L R (PIp S I L R (-1)) := by
  refine Ct.of [some (.inr (.inr (some (0, 0)))), some (.inl x), none, none] (by decide) rfl (Nat.le_of_ble_eq_true rfl) ?_
  refine g_ald0 (pc' := 1) dX8_line_0 rfl ?_
  refine g_ild1 (pc' := 2) dX8_line_1 rfl ?_
  refine g_bipush (pc' := 4) (v := nI 10) dX8_line_2 rfl (by decide) ?_
  refine g_idiv (pc' := 5) dX8_line_4 rfl (by decide) ?_
  refine g_callV (pc' := 8) (c_worldOfN l xg hm h1) xg.s0 (by decide) wX8_worldOf lX8_147 rfl rfl (Nat.le_of_ble_eq_true rfl) ⟨Nat.le_of_ble_eq_true rfl, Nat.le_of_ble_eq_true rfl⟩ ⟨Nat.le_of_ble_eq_true rfl, Nat.le_of_ble_eq_true rfl⟩ dX8_line_5 rfl (kRp ?_)
  refine g_ast2 (pc' := 9) rfl (by decide) dX8_line_8 rfl ?_
  refine g_ald0 (pc' := 10) dX8_line_9 rfl ?_
  refine g_ild1 (pc' := 11) dX8_line_10 rfl ?_
  refine g_bipush (pc' := 13) (v := nI 10) dX8_line_11 rfl (by decide) ?_
  refine g_irem (pc' := 14) dX8_line_13 rfl (by decide) ?_
  refine g_topi (v := nI j2) (e2) ?_
  refine g_callV (pc' := 17) (c_worldOfS l xg hm h2 hM (hR _ h2)) xg.s0 (by decide) wX8_worldOf lX8_147 rfl rfl (Nat.le_of_ble_eq_true rfl) ⟨Nat.le_of_ble_eq_true rfl, Nat.le_of_ble_eq_true rfl⟩ ⟨Nat.le_of_ble_eq_true rfl, Nat.le_of_ble_eq_true rfl⟩ dX8_line_14 rfl (kRp ?_)
  refine g_ast3 (pc' := 18) rfl (by decide) dX8_line_17 rfl ?_
  refine g_ald2 (pc' := 19) dX8_line_18 rfl ?_
  refine g_ifnullT (tgt := 31) dX8_line_19 (by decide) ?_
  refine g_iconst (pc' := 32) (v := (-1)) dX8_line_31 rfl (by decide) ?_
  refine g_iret rfl dX8_line_32 ?_
  exact eIp rfl

theorem c_lineSN (l : Launch) {S : Shp} {I : MI} {L : ML} {R : MR} (xg : XG S R) {m : Nat} (hm : I (0, 0) 5 = nI m) (hM : m ≤ 9) (hR : ∀ k, k < m → R (10, 0) k = some (11, k)) (hW : ∀ k, k < m → WG k S R) {x : Int32} {j1 : Nat} (e1 : x / nI 10 = nI j1) (h1 : j1 < m) (h2 : inb (x - x / nI 10 * nI 10) m = false) : Ct l mX8_line 2 0 0 [.inr (.inr (some (0, 0))), .inl x] S I L R (PIp S I L R (-1)) := by
  refine Ct.of [some (.inr (.inr (some (0, 0)))), some (.inl x), none, none] (by decide) rfl (Nat.le_of_ble_eq_true rfl) ?_
  refine g_ald0 (pc' := 1) dX8_line_0 rfl ?_
  refine g_ild1 (pc' := 2) dX8_line_1 rfl ?_
  refine g_bipush (pc' := 4) (v := nI 10) dX8_line_2 rfl (by decide) ?_
  refine g_idiv (pc' := 5) dX8_line_4 rfl (by decide) ?_
  refine g_topi (v := nI j1) (e1) ?_
  refine g_callV (pc' := 8) (c_worldOfS l xg hm h1 hM (hR _ h1)) xg.s0 (by decide) wX8_worldOf lX8_147 rfl rfl (Nat.le_of_ble_eq_true rfl) ⟨Nat.le_of_ble_eq_true rfl, Nat.le_of_ble_eq_true rfl⟩ ⟨Nat.le_of_ble_eq_true rfl, Nat.le_of_ble_eq_true rfl⟩ dX8_line_5 rfl (kRp ?_)
  refine g_ast2 (pc' := 9) rfl (by decide) dX8_line_8 rfl ?_
  refine g_ald0 (pc' := 10) dX8_line_9 rfl ?_
  refine g_ild1 (pc' := 11) dX8_line_10 rfl ?_
  refine g_bipush (pc' := 13) (v := nI 10) dX8_line_11 rfl (by decide) ?_
  refine g_irem (pc' := 14) dX8_line_13 rfl (by decide) ?_
  refine g_callV (pc' := 17) (c_worldOfN l xg hm h2) xg.s0 (by decide) wX8_worldOf lX8_147 rfl rfl (Nat.le_of_ble_eq_true rfl) ⟨Nat.le_of_ble_eq_true rfl, Nat.le_of_ble_eq_true rfl⟩ ⟨Nat.le_of_ble_eq_true rfl, Nat.le_of_ble_eq_true rfl⟩ dX8_line_14 rfl (kRp ?_)
  refine g_ast3 (pc' := 18) rfl (by decide) dX8_line_17 rfl ?_
  refine g_ald2 (pc' := 19) dX8_line_18 rfl ?_
  refine g_ifnullF (pc' := 22) dX8_line_19 rfl ?_
  refine g_ald3 (pc' := 23) dX8_line_22 rfl ?_
  refine g_ifnullT (tgt := 31) dX8_line_23 (by decide) ?_
  refine g_iconst (pc' := 32) (v := (-1)) dX8_line_31 rfl (by decide) ?_
  refine g_iret rfl dX8_line_32 ?_
  exact eIp rfl

theorem c_lineE (l : Launch) {S : Shp} {I : MI} {L : ML} {R : MR} (xg : XG S R) {m : Nat} (hm : I (0, 0) 5 = nI m) (hM : m ≤ 9) (hR : ∀ k, k < m → R (10, 0) k = some (11, k)) (hW : ∀ k, k < m → WG k S R) {x : Int32} {j1 : Nat} (e1 : x / nI 10 = nI j1) (h1 : j1 < m) {j2 : Nat} (e2 : x - x / nI 10 * nI 10 = nI j2) (h2 : j2 < m) (he : j1 = j2) : Ct l mX8_line 2 0 0 [.inr (.inr (some (0, 0))), .inl x] S I L R (PIp S I L R (-1)) := by
  refine Ct.of [some (.inr (.inr (some (0, 0)))), some (.inl x), none, none] (by decide) rfl (Nat.le_of_ble_eq_true rfl) ?_
  refine g_ald0 (pc' := 1) dX8_line_0 rfl ?_
  refine g_ild1 (pc' := 2) dX8_line_1 rfl ?_
  refine g_bipush (pc' := 4) (v := nI 10) dX8_line_2 rfl (by decide) ?_
  refine g_idiv (pc' := 5) dX8_line_4 rfl (by decide) ?_
  refine g_topi (v := nI j1) (e1) ?_
  refine g_callV (pc' := 8) (c_worldOfS l xg hm h1 hM (hR _ h1)) xg.s0 (by decide) wX8_worldOf lX8_147 rfl rfl (Nat.le_of_ble_eq_true rfl) ⟨Nat.le_of_ble_eq_true rfl, Nat.le_of_ble_eq_true rfl⟩ ⟨Nat.le_of_ble_eq_true rfl, Nat.le_of_ble_eq_true rfl⟩ dX8_line_5 rfl (kRp ?_)
  refine g_ast2 (pc' := 9) rfl (by decide) dX8_line_8 rfl ?_
  refine g_ald0 (pc' := 10) dX8_line_9 rfl ?_
  refine g_ild1 (pc' := 11) dX8_line_10 rfl ?_
  refine g_bipush (pc' := 13) (v := nI 10) dX8_line_11 rfl (by decide) ?_
  refine g_irem (pc' := 14) dX8_line_13 rfl (by decide) ?_
  refine g_topi (v := nI j2) (e2) ?_
  refine g_callV (pc' := 17) (c_worldOfS l xg hm h2 hM (hR _ h2)) xg.s0 (by decide) wX8_worldOf lX8_147 rfl rfl (Nat.le_of_ble_eq_true rfl) ⟨Nat.le_of_ble_eq_true rfl, Nat.le_of_ble_eq_true rfl⟩ ⟨Nat.le_of_ble_eq_true rfl, Nat.le_of_ble_eq_true rfl⟩ dX8_line_14 rfl (kRp ?_)
  refine g_ast3 (pc' := 18) rfl (by decide) dX8_line_17 rfl ?_
  refine g_ald2 (pc' := 19) dX8_line_18 rfl ?_
  refine g_ifnullF (pc' := 22) dX8_line_19 rfl ?_
  refine g_ald3 (pc' := 23) dX8_line_22 rfl ?_
  refine g_ifnullF (pc' := 26) dX8_line_23 rfl ?_
  refine g_ald2 (pc' := 27) dX8_line_26 rfl ?_
  refine g_ald3 (pc' := 28) dX8_line_27 rfl ?_
  refine g_acmpne (pc' := 31) (wr17 (hW _ h1).s11) (wr17 (hW _ h2).s11) (tgt := 33) dX8_line_28 (by decide) rfl (fun h28 => ?_) (fun h28 => ?_)
  · exact absurd (by rw [he]) h28
  · refine g_iconst (pc' := 32) (v := (-1)) dX8_line_31 rfl (by decide) ?_
    refine g_iret rfl dX8_line_32 ?_
    exact eIp rfl

theorem c_lineS (l : Launch) {S : Shp} {I : MI} {L : ML} {R : MR} (xg : XG S R) (sg : SG S R) {n : Nat} (hn : I (1, 0) 1 = nI n) (hN : n ≤ 12) {m : Nat} (hm : I (0, 0) 5 = nI m) (hM : m ≤ 9) (hR : ∀ k, k < m → R (10, 0) k = some (11, k)) (hW : ∀ k, k < m → WG k S R) {x : Int32} {j1 : Nat} (e1 : x / nI 10 = nI j1) (h1 : j1 < m) {j2 : Nat} (e2 : x - x / nI 10 * nI 10 = nI j2) (h2 : j2 < m) (hne : ¬ j1 = j2) : Ct l mX8_line 4 0 0 [.inr (.inr (some (0, 0))), .inl x] S I L R (PIm S L R (fun v J => v = lnI I n j1 j2 ∧ Fr (fun t _ => t = (13, j1) ∨ t = (14, j1) ∨ t = (13, j2) ∨ t = (14, j2)) I J)) := by
  refine Ct.of [some (.inr (.inr (some (0, 0)))), some (.inl x), none, none] (by decide) rfl (Nat.le_of_ble_eq_true rfl) ?_
  refine g_ald0 (pc' := 1) dX8_line_0 rfl ?_
  refine g_ild1 (pc' := 2) dX8_line_1 rfl ?_
  refine g_bipush (pc' := 4) (v := nI 10) dX8_line_2 rfl (by decide) ?_
  refine g_idiv (pc' := 5) dX8_line_4 rfl (by decide) ?_
  refine g_topi (v := nI j1) (e1) ?_
  refine g_callV (pc' := 8) (c_worldOfS l xg hm h1 hM (hR _ h1)) xg.s0 (by decide) wX8_worldOf lX8_147 rfl rfl (Nat.le_of_ble_eq_true rfl) ⟨Nat.le_of_ble_eq_true rfl, Nat.le_of_ble_eq_true rfl⟩ ⟨Nat.le_of_ble_eq_true rfl, Nat.le_of_ble_eq_true rfl⟩ dX8_line_5 rfl (kRp ?_)
  refine g_ast2 (pc' := 9) rfl (by decide) dX8_line_8 rfl ?_
  refine g_ald0 (pc' := 10) dX8_line_9 rfl ?_
  refine g_ild1 (pc' := 11) dX8_line_10 rfl ?_
  refine g_bipush (pc' := 13) (v := nI 10) dX8_line_11 rfl (by decide) ?_
  refine g_irem (pc' := 14) dX8_line_13 rfl (by decide) ?_
  refine g_topi (v := nI j2) (e2) ?_
  refine g_callV (pc' := 17) (c_worldOfS l xg hm h2 hM (hR _ h2)) xg.s0 (by decide) wX8_worldOf lX8_147 rfl rfl (Nat.le_of_ble_eq_true rfl) ⟨Nat.le_of_ble_eq_true rfl, Nat.le_of_ble_eq_true rfl⟩ ⟨Nat.le_of_ble_eq_true rfl, Nat.le_of_ble_eq_true rfl⟩ dX8_line_14 rfl (kRp ?_)
  refine g_ast3 (pc' := 18) rfl (by decide) dX8_line_17 rfl ?_
  refine g_ald2 (pc' := 19) dX8_line_18 rfl ?_
  refine g_ifnullF (pc' := 22) dX8_line_19 rfl ?_
  refine g_ald3 (pc' := 23) dX8_line_22 rfl ?_
  refine g_ifnullF (pc' := 26) dX8_line_23 rfl ?_
  refine g_ald2 (pc' := 27) dX8_line_26 rfl ?_
  refine g_ald3 (pc' := 28) dX8_line_27 rfl ?_
  refine g_acmpne (pc' := 31) (wr17 (hW _ h1).s11) (wr17 (hW _ h2).s11) (tgt := 33) dX8_line_28 (by decide) rfl (fun h28 => ?_) (fun h28 => ?_)
  · refine g_ald2 (pc' := 34) dX8_line_33 rfl ?_
    refine g_callV (pc' := 37) (c_arrange l sg (hW _ h1) hn hN) (hW (j1) (by omega)).s11 (by decide) wX7_arrange lX8_164 rfl rfl (Nat.le_of_ble_eq_true rfl) ⟨Nat.le_of_ble_eq_true rfl, Nat.le_of_ble_eq_true rfl⟩ ⟨Nat.le_of_ble_eq_true rfl, Nat.le_of_ble_eq_true rfl⟩ dX8_line_34 rfl (kV (fun J hq => ?_))
    obtain ⟨hfr1, -, hp1⟩ := hq
    have hnJ : J (1, 0) 1 = nI n := (hfr1 _ _ (by simp)).trans hn
    refine g_ald3 (pc' := 38) dX8_line_37 rfl ?_
    refine g_callV (pc' := 41) (c_arrange l sg (hW _ h2) hnJ hN) (hW (j2) (by omega)).s11 (by decide) wX7_arrange lX8_164 rfl rfl (Nat.le_of_ble_eq_true rfl) ⟨Nat.le_of_ble_eq_true rfl, Nat.le_of_ble_eq_true rfl⟩ ⟨Nat.le_of_ble_eq_true rfl, Nat.le_of_ble_eq_true rfl⟩ dX8_line_38 rfl (kV (fun J2 hq2 => ?_))
    obtain ⟨hfr2, -, hp2⟩ := hq2
    have hnJ2 : J2 (1, 0) 1 = nI n := (hfr2 _ _ (by simp)).trans hnJ
    have q1 : ∀ s, s < n → J2 (14, j1) s = nI (plc (I (12, j1)) n s) := fun s hs => (hfr2 (14, j1) s (by simp; omega)).trans (hp1 s hs)
    have q2 : ∀ s, s < n → J2 (14, j2) s = nI (plc (I (12, j2)) n s) := fun s hs => (hp2 s hs).trans (by rw [show J (12, j2) = I (12, j2) from funext fun i => hfr1 _ _ (by simp)])
    refine g_ald0 (pc' := 42) dX8_line_41 rfl ?_
    refine g_ald2 (pc' := 43) dX8_line_42 rfl ?_
    refine g_getR (pc' := 46) (hW (j1) (by omega)).s11 (by decide) fX8_170 (hW (j1) (by omega)).r11_12 dX8_line_43 rfl ?_
    refine g_ald3 (pc' := 47) dX8_line_46 rfl ?_
    refine g_getR (pc' := 50) (hW (j2) (by omega)).s11 (by decide) fX8_170 (hW (j2) (by omega)).r11_12 dX8_line_47 rfl ?_
    refine g_callV (pc' := 53) (c_farApart l xg sg hnJ2 hN (hW _ h1).s14 (hW _ h2).s14) xg.s0 (by decide) wX8_farApart lX8_297 rfl rfl (Nat.le_of_ble_eq_true rfl) ⟨Nat.le_of_ble_eq_true rfl, Nat.le_of_ble_eq_true rfl⟩ ⟨Nat.le_of_ble_eq_true rfl, Nat.le_of_ble_eq_true rfl⟩ dX8_line_50 rfl (kIp ?_)
    refine g_iret rfl dX8_line_53 ?_
    exact eI ⟨farI_congr q1 q2, (hfr1.le (fun t i q => by rcases q with q | q <;> simp [q])).tr (hfr2.le (fun t i q => by rcases q with q | q <;> simp [q]))⟩
  · exact absurd (by injection h28 with e; injection e) hne
