/-! EightWorlds: feeding, asking of WORLDS -/
def feP (t : Tok) (i : Nat) : Prop := (t = (3, 0) ∧ i = 1) ∨ t = (4, 0)
def feB (B : Nat → Nat) (len : Nat) (v : Int32) (q : Nat) : Nat := if q < len then B q else byN v (q - len)
theorem c_feedB (l : Launch) {S : Shp} {I : MI} {L : ML} {R : MR} (xg : XG S R) {x v : Int32} (hb : x < nI 1 ∨ nI 4 < x) : Ct l mX8_feed 1 0 0 [.inr (.inr (some (0, 0))), .inl x, .inl v] S I L R (PIp S I L R (-1)) := by
  refine Ct.of [some (.inr (.inr (some (0, 0)))), some (.inl x), some (.inl v), none] (by decide) rfl (Nat.le_of_ble_eq_true rfl) ?_
  refine g_ild1 (pc' := 1) dX8_feed_0 rfl ?_
  refine g_iconst (pc' := 2) (v := nI 1) dX8_feed_1 rfl (by decide) ?_
  refine g_icmplt (pc' := 5) (tgt := 10) dX8_feed_2 (by decide) rfl (fun h2 => ?_) (fun h2 => ?_)
  · refine g_iconst (pc' := 11) (v := (-1)) dX8_feed_10 rfl (by decide) ?_
    refine g_iret rfl dX8_feed_11 ?_
    exact eIp rfl
  · refine g_ild1 (pc' := 6) dX8_feed_5 rfl ?_
    refine g_iconst (pc' := 7) (v := nI 4) dX8_feed_6 rfl (by decide) ?_
    refine g_icmple (pc' := 10) (tgt := 12) dX8_feed_7 (by decide) rfl (fun h7 => ?_) (fun h7 => ?_)
    · exfalso
      rcases hb with h | h
      · exact h2 h
      · exact absurd h7 (Int32.not_le.mpr h)
    · refine g_iconst (pc' := 11) (v := (-1)) dX8_feed_10 rfl (by decide) ?_
      refine g_iret rfl dX8_feed_11 ?_
      exact eIp rfl

theorem c_feedF (l : Launch) {S : Shp} {I : MI} {L : ML} {R : MR} (xg : XG S R) (tg : TG S R) {len : Nat} (hl : I (3, 0) 1 = nI len) (hlen : len ≤ 120) {a : Nat} (v : Int32) (ha : 1 ≤ a ∧ a ≤ 4) (hf : 120 < len + a) : Ct l mX8_feed 1 0 0 [.inr (.inr (some (0, 0))), .inl (nI a), .inl v] S I L R (PIp S I L R (-3)) := by
  refine Ct.of [some (.inr (.inr (some (0, 0)))), some (.inl (nI a)), some (.inl v), none] (by decide) rfl (Nat.le_of_ble_eq_true rfl) ?_
  refine g_ild1 (pc' := 1) dX8_feed_0 rfl ?_
  refine g_iconst (pc' := 2) (v := nI 1) dX8_feed_1 rfl (by decide) ?_
  refine g_icmpltN (pc' := 5) (by omega) (by omega) (tgt := 10) dX8_feed_2 (by decide) rfl (fun h2 => ?_) (fun h2 => ?_)
  · exact absurd h2 (by omega)
  · refine g_ild1 (pc' := 6) dX8_feed_5 rfl ?_
    refine g_iconst (pc' := 7) (v := nI 4) dX8_feed_6 rfl (by decide) ?_
    refine g_icmpleN (pc' := 10) (by omega) (by omega) (tgt := 12) dX8_feed_7 (by decide) rfl (fun h7 => ?_) (fun h7 => ?_)
    · refine g_ald0 (pc' := 13) dX8_feed_12 rfl ?_
      refine g_getR (pc' := 16) xg.s0 (by decide) fX8_19 xg.r0_1 dX8_feed_13 rfl ?_
      refine g_getI (pc' := 19) tg.s3 (by decide) fX8_103 hl dX8_feed_16 rfl ?_
      refine g_ild1 (pc' := 20) dX8_feed_19 rfl ?_
      refine g_iaddN (pc' := 21) dX8_feed_20 rfl ?_
      refine g_bipush (pc' := 23) (v := nI 120) dX8_feed_21 rfl (by decide) ?_
      refine g_icmpleN (pc' := 26) (by omega) (by omega) (tgt := 29) dX8_feed_23 (by decide) rfl (fun h23 => ?_) (fun h23 => ?_)
      · exact absurd h23 (by omega)
      · refine g_bipush (pc' := 28) (v := (-3)) dX8_feed_26 rfl (by decide) ?_
        refine g_iret rfl dX8_feed_28 ?_
        exact eIp rfl
    · exact absurd h7 (by omega)

theorem c_feedS (l : Launch) {S : Shp} {I : MI} {L : ML} {R : MR} (xg : XG S R) (tg : TG S R) {len : Nat} (hl : I (3, 0) 1 = nI len) (hlen : len ≤ 120) {B : Nat → Nat} (hb : ∀ q, q < len → I (4, 0) q = nI (B q)) {a : Nat} (v : Int32) (ha : 1 ≤ a ∧ a ≤ 4) (hf : len + a ≤ 120) : Ct l mX8_feed 2 0 0 [.inr (.inr (some (0, 0))), .inl (nI a), .inl v] S I L R (PIm S L R (fun r J => r = nI (len + a) ∧ J (3, 0) 1 = nI (len + a) ∧ (∀ q, q < len + a → J (4, 0) q = nI (feB B len v q)) ∧ Fr feP I J)) := by
  refine Ct.of [some (.inr (.inr (some (0, 0)))), some (.inl (nI a)), some (.inl v), none] (by decide) rfl (Nat.le_of_ble_eq_true rfl) ?_
  refine g_ild1 (pc' := 1) dX8_feed_0 rfl ?_
  refine g_iconst (pc' := 2) (v := nI 1) dX8_feed_1 rfl (by decide) ?_
  refine g_icmpltN (pc' := 5) (by omega) (by omega) (tgt := 10) dX8_feed_2 (by decide) rfl (fun h2 => ?_) (fun h2 => ?_)
  · exact absurd h2 (by omega)
  · refine g_ild1 (pc' := 6) dX8_feed_5 rfl ?_
    refine g_iconst (pc' := 7) (v := nI 4) dX8_feed_6 rfl (by decide) ?_
    refine g_icmpleN (pc' := 10) (by omega) (by omega) (tgt := 12) dX8_feed_7 (by decide) rfl (fun h7 => ?_) (fun h7 => ?_)
    · refine g_ald0 (pc' := 13) dX8_feed_12 rfl ?_
      refine g_getR (pc' := 16) xg.s0 (by decide) fX8_19 xg.r0_1 dX8_feed_13 rfl ?_
      refine g_getI (pc' := 19) tg.s3 (by decide) fX8_103 hl dX8_feed_16 rfl ?_
      refine g_ild1 (pc' := 20) dX8_feed_19 rfl ?_
      refine g_iaddN (pc' := 21) dX8_feed_20 rfl ?_
      refine g_bipush (pc' := 23) (v := nI 120) dX8_feed_21 rfl (by decide) ?_
      refine g_icmpleN (pc' := 26) (by omega) (by omega) (tgt := 29) dX8_feed_23 (by decide) rfl (fun h23 => ?_) (fun h23 => ?_)
      · refine g_iconst (pc' := 30) (v := nI 0) dX8_feed_29 rfl (by decide) ?_
        refine g_ist3 (pc' := 31) rfl (by decide) dX8_feed_30 rfl ?_
        refine g_loop (σ := MI) (fun i (J : MI) => J (3, 0) 1 = nI (len + i) ∧ (∀ q, q < len + i → J (4, 0) q = nI (feB B len v q)) ∧ Fr feP I J) (fun i J => [some (.inr (.inr (some (0, 0)))), some (.inl (nI a)), some (.inl v), some (.inl (nI i))]) (fun i J => J) a 0 I (by omega) ⟨hl, fun q hq => (hb q hq).trans (by unfold feB; rw [if_pos (show q < len from hq)]), Fr.rf⟩ ?_ ?_
        · intro i J hi hP ih
          refine g_ild3 (pc' := 32) dX8_feed_31 rfl ?_
          refine g_ild1 (pc' := 33) dX8_feed_32 rfl ?_
          refine g_icmpgeN (pc' := 36) (by omega) (by omega) (tgt := 59) dX8_feed_33 (by decide) rfl (fun h33 => ?_) (fun h33 => ?_)
          · exact absurd h33 (by omega)
          · refine g_ald0 (pc' := 37) dX8_feed_36 rfl ?_
            refine g_getR (pc' := 40) xg.s0 (by decide) fX8_19 xg.r0_1 dX8_feed_37 rfl ?_
            refine g_ild2 (pc' := 41) dX8_feed_40 rfl ?_
            refine g_bipush (pc' := 43) (v := nI 8) dX8_feed_41 rfl (by decide) ?_
            refine g_ild3 (pc' := 44) dX8_feed_43 rfl ?_
            refine g_imulN (pc' := 45) dX8_feed_44 rfl ?_
            refine g_iushr (pc' := 46) dX8_feed_45 rfl ?_
            refine g_sipush (pc' := 49) (v := nI 255) dX8_feed_46 rfl (by decide) ?_
            refine g_iand (pc' := 50) dX8_feed_49 rfl ?_
            refine g_topi (v := nI (byN v i)) ((byN_eq v i).2) ?_
            refine g_callV (pc' := 53) (c_tWrite l tg (len := len + i) (b := byN v i) (by omega) hP.1 hP.2.1) tg.s3 (by decide) wX6_write lX8_106 rfl rfl (Nat.le_of_ble_eq_true rfl) ⟨Nat.le_of_ble_eq_true rfl, Nat.le_of_ble_eq_true rfl⟩ ⟨Nat.le_of_ble_eq_true rfl, Nat.le_of_ble_eq_true rfl⟩ dX8_feed_50 rfl (kV (fun J2 hq2 => ?_))
            rw [if_pos (show len + i < 120 by omega)] at hq2
            refine g_inc3 (pc' := 56) rfl (by decide) (v := nI (i + 1)) (nI_1 _) dX8_feed_53 rfl ?_
            refine g_goto (tgt := 31) dX8_feed_56 (by decide) ?_
            refine ih J2 ⟨hq2.1, fun q hq => (hq2.2.1 q hq).trans (congrArg nI ?_), hP.2.2.tr hq2.2.2⟩
            by_cases e : q = len + i
            · rw [if_pos e, e]
              unfold feB
              rw [if_neg (by omega), Nat.add_sub_cancel_left]
            · rw [if_neg e]
        · intro J hP
          refine g_ild3 (pc' := 32) dX8_feed_31 rfl ?_
          refine g_ild1 (pc' := 33) dX8_feed_32 rfl ?_
          refine g_icmpgeN (pc' := 36) (by omega) (by omega) (tgt := 59) dX8_feed_33 (by decide) rfl (fun h33 => ?_) (fun h33 => ?_)
          · refine g_ald0 (pc' := 60) dX8_feed_59 rfl ?_
            refine g_getR (pc' := 63) xg.s0 (by decide) fX8_19 xg.r0_1 dX8_feed_60 rfl ?_
            refine g_getI (pc' := 66) tg.s3 (by decide) fX8_103 hP.1 dX8_feed_63 rfl ?_
            refine g_iret rfl dX8_feed_66 ?_
            exact eI ⟨rfl, hP⟩
          · exact absurd h33 (by omega)
      · exact absurd h23 (by omega)
    · exact absurd h7 (by omega)

theorem c_ofN (l : Launch) {S : Shp} {I : MI} {L : ML} {R : MR} (xg : XG S R) {m : Nat} {x : Int32} (hm : I (0, 0) 5 = nI m) (hx : inb x m = false) (y0 : Int32) : Ct l mX8_of 2 0 0 [.inr (.inr (some (0, 0))), .inl x, .inl y0] S I L R (PIp S I L R (-1)) := by
  refine Ct.of [some (.inr (.inr (some (0, 0)))), some (.inl x), some (.inl y0), none] (by decide) rfl (Nat.le_of_ble_eq_true rfl) ?_
  refine g_ald0 (pc' := 1) dX8_of_0 rfl ?_
  refine g_ild1 (pc' := 2) dX8_of_1 rfl ?_
  refine g_callV (pc' := 5) (c_worldOfN l xg hm hx) xg.s0 (by decide) wX8_worldOf lX8_147 rfl rfl (Nat.le_of_ble_eq_true rfl) ⟨Nat.le_of_ble_eq_true rfl, Nat.le_of_ble_eq_true rfl⟩ ⟨Nat.le_of_ble_eq_true rfl, Nat.le_of_ble_eq_true rfl⟩ dX8_of_2 rfl (kRp ?_)
  refine g_ast3 (pc' := 6) rfl (by decide) dX8_of_5 rfl ?_
  refine g_ald3 (pc' := 7) dX8_of_6 rfl ?_
  refine g_ifnullT (tgt := 14) dX8_of_7 (by decide) ?_
  refine g_iconst (pc' := 15) (v := (-1)) dX8_of_14 rfl (by decide) ?_
  refine g_iret rfl dX8_of_15 ?_
  exact eIp rfl

theorem c_ofB (l : Launch) {S : Shp} {I : MI} {L : ML} {R : MR} (xg : XG S R) {m j : Nat} (hm : I (0, 0) 5 = nI m) (hj : j < m) (hM : m ≤ 9) (hR : R (10, 0) j = some (11, j)) (wg : WG j S R) {y : Int32} (hy : y < 0) : Ct l mX8_of 2 0 0 [.inr (.inr (some (0, 0))), .inl (nI j), .inl y] S I L R (PIp S I L R (-1)) := by
  refine Ct.of [some (.inr (.inr (some (0, 0)))), some (.inl (nI j)), some (.inl y), none] (by decide) rfl (Nat.le_of_ble_eq_true rfl) ?_
  refine g_ald0 (pc' := 1) dX8_of_0 rfl ?_
  refine g_ild1 (pc' := 2) dX8_of_1 rfl ?_
  refine g_callV (pc' := 5) (c_worldOfS l xg hm hj hM hR) xg.s0 (by decide) wX8_worldOf lX8_147 rfl rfl (Nat.le_of_ble_eq_true rfl) ⟨Nat.le_of_ble_eq_true rfl, Nat.le_of_ble_eq_true rfl⟩ ⟨Nat.le_of_ble_eq_true rfl, Nat.le_of_ble_eq_true rfl⟩ dX8_of_2 rfl (kRp ?_)
  refine g_ast3 (pc' := 6) rfl (by decide) dX8_of_5 rfl ?_
  refine g_ald3 (pc' := 7) dX8_of_6 rfl ?_
  refine g_ifnullF (pc' := 10) dX8_of_7 rfl ?_
  refine g_ild2 (pc' := 11) dX8_of_10 rfl ?_
  refine g_ifge (pc' := 14) (tgt := 16) dX8_of_11 (by decide) rfl (fun h11 => (by first | exact absurd h11 (Int32.not_le.mpr hy) | exact absurd (Int32.not_le.mpr hy) h11)) (fun h11 => ?_)
  refine g_iconst (pc' := 15) (v := (-1)) dX8_of_14 rfl (by decide) ?_
  refine g_iret rfl dX8_of_15 ?_
  exact eIp rfl

def ofV (I : MI) (n k w : Nat) : Int32 := if w = 0 then I (11, k) 7 else if w = 1 then I (11, k) 8 else if w = 2 then I (11, k) 2 else if w = 3 then I (11, k) 3 else if w = 4 then (if n = 0 then (-2) else nI (grN (I (12, k)) n)) else -1
theorem c_ofL (l : Launch) {S : Shp} {I : MI} {L : ML} {R : MR} (xg : XG S R) (sg : SG S R) {n : Nat} (hn : I (1, 0) 1 = nI n) (hN : n ≤ 12) {m j : Nat} (hm : I (0, 0) 5 = nI m) (hj : j < m) (hM : m ≤ 9) (hR : R (10, 0) j = some (11, j)) (wg : WG j S R) {w : Nat} (hw : 100 ≤ w) (hw2 : w < 2 ^ 31) (hs : w % 100 < n) : Ct l mX8_of 4 0 0 [.inr (.inr (some (0, 0))), .inl (nI j), .inl (nI w)] S I L R (PIm S L R (fun v J => v = osV I j n (w / 100) (w % 100) ∧ Fr (fun t _ => t = (13, j) ∨ t = (14, j)) I J)) := by
  refine Ct.of [some (.inr (.inr (some (0, 0)))), some (.inl (nI j)), some (.inl (nI w)), none] (by decide) rfl (Nat.le_of_ble_eq_true rfl) ?_
  refine g_ald0 (pc' := 1) dX8_of_0 rfl ?_
  refine g_ild1 (pc' := 2) dX8_of_1 rfl ?_
  refine g_callV (pc' := 5) (c_worldOfS l xg hm hj hM hR) xg.s0 (by decide) wX8_worldOf lX8_147 rfl rfl (Nat.le_of_ble_eq_true rfl) ⟨Nat.le_of_ble_eq_true rfl, Nat.le_of_ble_eq_true rfl⟩ ⟨Nat.le_of_ble_eq_true rfl, Nat.le_of_ble_eq_true rfl⟩ dX8_of_2 rfl (kRp ?_)
  refine g_ast3 (pc' := 6) rfl (by decide) dX8_of_5 rfl ?_
  refine g_ald3 (pc' := 7) dX8_of_6 rfl ?_
  refine g_ifnullF (pc' := 10) dX8_of_7 rfl ?_
  refine g_ild2 (pc' := 11) dX8_of_10 rfl ?_
  refine g_ifgeN (by omega) (tgt := 16) dX8_of_11 (by decide) ?_
  refine g_ild2 (pc' := 17) dX8_of_16 rfl ?_
  refine g_bipush (pc' := 19) (v := nI 100) dX8_of_17 rfl (by decide) ?_
  refine g_icmpltN (pc' := 22) (by omega) (by omega) (tgt := 53) dX8_of_19 (by decide) rfl (fun h19 => ?_) (fun h19 => ?_)
  · exact absurd h19 (by omega)
  · refine g_ald0 (pc' := 23) dX8_of_22 rfl ?_
    refine g_getR (pc' := 26) xg.s0 (by decide) fX8_10 xg.r0_0 dX8_of_23 rfl ?_
    refine g_ild2 (pc' := 27) dX8_of_26 rfl ?_
    refine g_bipush (pc' := 29) (v := nI 100) dX8_of_27 rfl (by decide) ?_
    refine g_iremN (pc' := 30) (by omega) dX8_of_29 rfl ?_
    refine g_callV (pc' := 33) (c_has l sg hn hN (nI (w % 100))) sg.s1 (by decide) wX5_has lX8_95 rfl rfl (Nat.le_of_ble_eq_true rfl) ⟨Nat.le_of_ble_eq_true rfl, Nat.le_of_ble_eq_true rfl⟩ ⟨Nat.le_of_ble_eq_true rfl, Nat.le_of_ble_eq_true rfl⟩ dX8_of_30 rfl (kIp ?_)
    refine g_ifeqB (pc' := 36) (tgt := 51) dX8_of_33 (by decide) rfl (fun h33 => (by first | exact absurd h33 (by rw [inb_nI (by omega) (by omega)]; simp [hs]) | exact absurd (by rw [inb_nI (by omega) (by omega)]; simp [hs]) h33)) (fun h33 => ?_)
    refine g_ald3 (pc' := 37) dX8_of_36 rfl ?_
    refine g_ild2 (pc' := 38) dX8_of_37 rfl ?_
    refine g_bipush (pc' := 40) (v := nI 100) dX8_of_38 rfl (by decide) ?_
    refine g_idivN (pc' := 41) (by omega) dX8_of_40 rfl ?_
    refine g_ild2 (pc' := 42) dX8_of_41 rfl ?_
    refine g_bipush (pc' := 44) (v := nI 100) dX8_of_42 rfl (by decide) ?_
    refine g_iremN (pc' := 45) (by omega) dX8_of_44 rfl ?_
    refine g_callS (pc' := 48) (c_ofSong l sg hn hN wg (a := w / 100) (s := w % 100) (by omega) hs) wX8_ofSong lX8_151 rfl rfl (Nat.le_of_ble_eq_true rfl) ⟨Nat.le_of_ble_eq_true rfl, Nat.le_of_ble_eq_true rfl⟩ ⟨Nat.le_of_ble_eq_true rfl, Nat.le_of_ble_eq_true rfl⟩ dX8_of_45 rfl (kI (fun v J hq => ?_))
    refine g_goto (tgt := 52) dX8_of_48 (by decide) ?_
    refine g_iret rfl dX8_of_52 ?_
    exact eI hq

theorem c_ofM (l : Launch) {S : Shp} {I : MI} {L : ML} {R : MR} (xg : XG S R) (sg : SG S R) {n : Nat} (hn : I (1, 0) 1 = nI n) (hN : n ≤ 12) {m j : Nat} (hm : I (0, 0) 5 = nI m) (hj : j < m) (hM : m ≤ 9) (hR : R (10, 0) j = some (11, j)) (wg : WG j S R) {w : Nat} (hw : 100 ≤ w) (hw2 : w < 2 ^ 31) (hs : ¬ w % 100 < n) : Ct l mX8_of 4 0 0 [.inr (.inr (some (0, 0))), .inl (nI j), .inl (nI w)] S I L R (PIp S I L R (-1)) := by
  refine Ct.of [some (.inr (.inr (some (0, 0)))), some (.inl (nI j)), some (.inl (nI w)), none] (by decide) rfl (Nat.le_of_ble_eq_true rfl) ?_
  refine g_ald0 (pc' := 1) dX8_of_0 rfl ?_
  refine g_ild1 (pc' := 2) dX8_of_1 rfl ?_
  refine g_callV (pc' := 5) (c_worldOfS l xg hm hj hM hR) xg.s0 (by decide) wX8_worldOf lX8_147 rfl rfl (Nat.le_of_ble_eq_true rfl) ⟨Nat.le_of_ble_eq_true rfl, Nat.le_of_ble_eq_true rfl⟩ ⟨Nat.le_of_ble_eq_true rfl, Nat.le_of_ble_eq_true rfl⟩ dX8_of_2 rfl (kRp ?_)
  refine g_ast3 (pc' := 6) rfl (by decide) dX8_of_5 rfl ?_
  refine g_ald3 (pc' := 7) dX8_of_6 rfl ?_
  refine g_ifnullF (pc' := 10) dX8_of_7 rfl ?_
  refine g_ild2 (pc' := 11) dX8_of_10 rfl ?_
  refine g_ifgeN (by omega) (tgt := 16) dX8_of_11 (by decide) ?_
  refine g_ild2 (pc' := 17) dX8_of_16 rfl ?_
  refine g_bipush (pc' := 19) (v := nI 100) dX8_of_17 rfl (by decide) ?_
  refine g_icmpltN (pc' := 22) (by omega) (by omega) (tgt := 53) dX8_of_19 (by decide) rfl (fun h19 => ?_) (fun h19 => ?_)
  · exact absurd h19 (by omega)
  · refine g_ald0 (pc' := 23) dX8_of_22 rfl ?_
    refine g_getR (pc' := 26) xg.s0 (by decide) fX8_10 xg.r0_0 dX8_of_23 rfl ?_
    refine g_ild2 (pc' := 27) dX8_of_26 rfl ?_
    refine g_bipush (pc' := 29) (v := nI 100) dX8_of_27 rfl (by decide) ?_
    refine g_iremN (pc' := 30) (by omega) dX8_of_29 rfl ?_
    refine g_callV (pc' := 33) (c_has l sg hn hN (nI (w % 100))) sg.s1 (by decide) wX5_has lX8_95 rfl rfl (Nat.le_of_ble_eq_true rfl) ⟨Nat.le_of_ble_eq_true rfl, Nat.le_of_ble_eq_true rfl⟩ ⟨Nat.le_of_ble_eq_true rfl, Nat.le_of_ble_eq_true rfl⟩ dX8_of_30 rfl (kIp ?_)
    refine g_ifeqB (pc' := 36) (tgt := 51) dX8_of_33 (by decide) rfl (fun h33 => ?_) (fun h33 => (by first | exact absurd h33 (by rw [inb_nI (by omega) (by omega)]; simp; omega) | exact absurd (by rw [inb_nI (by omega) (by omega)]; simp; omega) h33))
    refine g_iconst (pc' := 52) (v := (-1)) dX8_of_51 rfl (by decide) ?_
    refine g_iret rfl dX8_of_52 ?_
    exact eIp rfl

theorem c_ofS (l : Launch) {S : Shp} {I : MI} {L : ML} {R : MR} (xg : XG S R) (sg : SG S R) {n : Nat} (hn : I (1, 0) 1 = nI n) (hN : n ≤ 12) {m j : Nat} (hm : I (0, 0) 5 = nI m) (hj : j < m) (hM : m ≤ 9) (hR : R (10, 0) j = some (11, j)) (wg : WG j S R) {w : Nat} (hw : w < 100) : Ct l mX8_of 3 0 0 [.inr (.inr (some (0, 0))), .inl (nI j), .inl (nI w)] S I L R (PIp S I L R (ofV I n j w)) := by
  refine Ct.of [some (.inr (.inr (some (0, 0)))), some (.inl (nI j)), some (.inl (nI w)), none] (by decide) rfl (Nat.le_of_ble_eq_true rfl) ?_
  refine g_ald0 (pc' := 1) dX8_of_0 rfl ?_
  refine g_ild1 (pc' := 2) dX8_of_1 rfl ?_
  refine g_callV (pc' := 5) (c_worldOfS l xg hm hj hM hR) xg.s0 (by decide) wX8_worldOf lX8_147 rfl rfl (Nat.le_of_ble_eq_true rfl) ⟨Nat.le_of_ble_eq_true rfl, Nat.le_of_ble_eq_true rfl⟩ ⟨Nat.le_of_ble_eq_true rfl, Nat.le_of_ble_eq_true rfl⟩ dX8_of_2 rfl (kRp ?_)
  refine g_ast3 (pc' := 6) rfl (by decide) dX8_of_5 rfl ?_
  refine g_ald3 (pc' := 7) dX8_of_6 rfl ?_
  refine g_ifnullF (pc' := 10) dX8_of_7 rfl ?_
  refine g_ild2 (pc' := 11) dX8_of_10 rfl ?_
  refine g_ifgeN (by omega) (tgt := 16) dX8_of_11 (by decide) ?_
  refine g_ild2 (pc' := 17) dX8_of_16 rfl ?_
  refine g_bipush (pc' := 19) (v := nI 100) dX8_of_17 rfl (by decide) ?_
  refine g_icmpltN (pc' := 22) (by omega) (by omega) (tgt := 53) dX8_of_19 (by decide) rfl (fun h19 => ?_) (fun h19 => ?_)
  · refine g_ild2 (pc' := 54) dX8_of_53 rfl ?_
    rcases (show w = 0 ∨ w = 1 ∨ w = 2 ∨ w = 3 ∨ w = 4 ∨ 4 < w by omega) with rfl | rfl | rfl | rfl | rfl | h4
    · refine g_tin (off := 34) (tgt := 88) dX8_of_54 (by decide) (by decide) (by decide) (by decide) ?_
      refine g_ald3 (pc' := 89) dX8_of_88 rfl ?_
      refine g_getI (pc' := 92) wg.s11 (by decide) fX8_155 rfl dX8_of_89 rfl ?_
      refine g_iret rfl dX8_of_92 ?_
      exact eIp rfl
    · refine g_tin (off := 39) (tgt := 93) dX8_of_54 (by decide) (by decide) (by decide) (by decide) ?_
      refine g_ald3 (pc' := 94) dX8_of_93 rfl ?_
      refine g_getI (pc' := 97) wg.s11 (by decide) fX8_158 rfl dX8_of_94 rfl ?_
      refine g_iret rfl dX8_of_97 ?_
      exact eIp rfl
    · refine g_tin (off := 44) (tgt := 98) dX8_of_54 (by decide) (by decide) (by decide) (by decide) ?_
      refine g_ald3 (pc' := 99) dX8_of_98 rfl ?_
      refine g_getI (pc' := 102) wg.s11 (by decide) fX8_135 rfl dX8_of_99 rfl ?_
      refine g_iret rfl dX8_of_102 ?_
      exact eIp rfl
    · refine g_tin (off := 49) (tgt := 103) dX8_of_54 (by decide) (by decide) (by decide) (by decide) ?_
      refine g_ald3 (pc' := 104) dX8_of_103 rfl ?_
      refine g_getI (pc' := 107) wg.s11 (by decide) fX8_138 rfl dX8_of_104 rfl ?_
      refine g_iret rfl dX8_of_107 ?_
      exact eIp rfl
    · refine g_tin (off := 54) (tgt := 108) dX8_of_54 (by decide) (by decide) (by decide) (by decide) ?_
      refine g_ald3 (pc' := 109) dX8_of_108 rfl ?_
      refine g_callV (pc' := 112) (c_first l sg wg hn hN) wg.s11 (by decide) wX7_first lX8_161 rfl rfl (Nat.le_of_ble_eq_true rfl) ⟨Nat.le_of_ble_eq_true rfl, Nat.le_of_ble_eq_true rfl⟩ ⟨Nat.le_of_ble_eq_true rfl, Nat.le_of_ble_eq_true rfl⟩ dX8_of_109 rfl (kIp ?_)
      refine g_iret rfl dX8_of_112 ?_
      exact eIp rfl
    · refine g_tout (tgt := 113) dX8_of_54 (Or.inr (by rw [nI_toInt (by omega)]; omega)) (by decide) ?_
      refine g_iconst (pc' := 114) (v := (-1)) dX8_of_113 rfl (by decide) ?_
      refine g_iret rfl dX8_of_114 ?_
      exact eIp (by unfold ofV; rw [if_neg (by omega), if_neg (by omega), if_neg (by omega), if_neg (by omega), if_neg (by omega)])
  · exact absurd h19 (by omega)
