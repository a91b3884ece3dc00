/-! EightWorlds: what is said after -/
theorem g_name {l : Launch} {mi : MInf} {Rm : Room} {Qf : QF} {k n pc : Nat} {S : Shp} {I : MI} {L : ML} {R : MR} {lv : List (Option PV)} {st : List PV} (kk : ∀ J, J = I → G l mi Rm Qf k n pc lv st S J L R) : G l mi Rm Qf k n pc lv st S I L R := kk I rfl
def wtSd (cd : Nat → Nat × Nat) (len : Nat) (wo : Int32) (n s : Nat) (p : Int32) : Int32 := evalL cd len (seenV wo (nI 0) p n (nI 0) (nI 0) s)
def sdP (lj : Nat) (t : Tok) (_ : Nat) : Prop := t = (32, 0) ∨ t = (9, lj)
def prevW (w : Nat → Int32) (p : Nat) : Int32 := if p = 0 then nI 9999 else w (p - 1)
def okN (w : Nat → Int32) : Nat → Bool
  | 0 => true
  | m + 1 => okN w m && decide (w m ≤ prevW w m)
theorem okN_no {w : Nat → Int32} {i : Nat} (h : okN w i = false) : ∀ {n : Nat}, i ≤ n → okN w n = false
  | 0, hn => by rw [show i = 0 by omega] at h; exact h
  | n + 1, hn => by
    by_cases e : i = n + 1
    · rw [← e]; exact h
    · simp only [okN]
      rw [okN_no h (n := n) (by omega)]
      rfl
theorem okN_bad {w : Nat → Int32} {i n : Nat} (h : ¬ w i ≤ prevW w i) (hn : i < n) : okN w n = false := okN_no (i := i + 1) (by simp [okN, h]) hn
theorem prevW_s (w : Nat → Int32) (i : Nat) : prevW w (i + 1) = w i := by unfold prevW; rw [if_neg (by omega)]; rfl
theorem c_weightSaid (l : Launch) {S : Shp} {I : MI} {L : ML} {R : MR} (xg : XG S R) (sg : SG S R) {n : Nat} (hn : I (1, 0) 1 = nI n) (hN : n ≤ 12) {lj len : Nat} {cd : Nat → Nat × Nat} (lg : LG lj len S R) (hv : LV I lj len cd) {s : Nat} (hs : s < n) (p : Int32) : Ct l mX8_weightSaid 3 0 0 [.inr (.inr (some (0, 0))), .inr (.inr (some (7, lj))), .inl (nI s), .inl p] S I L R (PIm S L R (fun v J => v = wtSd cd len (I (2, 0) s) n s p ∧ Fr (sdP lj) I J)) := by
  refine Ct.of [some (.inr (.inr (some (0, 0)))), some (.inr (.inr (some (7, lj)))), some (.inl (nI s)), some (.inl p)] (by decide) rfl (Nat.le_of_ble_eq_true rfl) ?_
  refine g_ald0 (pc' := 1) dX8_weightSaid_0 rfl ?_
  refine g_getR (pc' := 4) xg.s0 (by decide) fX8_74 xg.r0_12 dX8_weightSaid_1 rfl ?_
  refine g_iconst (pc' := 5) (v := nI 0) dX8_weightSaid_4 rfl (by decide) ?_
  refine g_callS (pc' := 8) (c_fillI l S _ L R (v := nI 0) xg.s32 (by decide)) wJ7_fill_53178 lX8_286 rfl rfl (Nat.le_of_ble_eq_true rfl) ⟨Nat.le_of_ble_eq_true rfl, Nat.le_of_ble_eq_true rfl⟩ ⟨Nat.le_of_ble_eq_true rfl, Nat.le_of_ble_eq_true rfl⟩ dX8_weightSaid_5 rfl (kV (fun J hJ => ?_))
  have hn2 : J (1, 0) 1 = nI n := by rw [hJ, upT_n _ (by simp)]; exact hn
  have hw2 : J (2, 0) s = I (2, 0) s := by rw [hJ, upT_n _ (by simp)]
  refine g_ald0 (pc' := 9) dX8_weightSaid_8 rfl ?_
  refine g_getR (pc' := 12) xg.s0 (by decide) fX8_74 xg.r0_12 dX8_weightSaid_9 rfl ?_
  refine g_iconst (pc' := 13) (v := nI 0) dX8_weightSaid_12 rfl (by decide) ?_
  refine g_ald0 (pc' := 14) dX8_weightSaid_13 rfl ?_
  refine g_getR (pc' := 17) xg.s0 (by decide) fX8_10 xg.r0_0 dX8_weightSaid_14 rfl ?_
  refine g_getR (pc' := 20) sg.s1 (by decide) fX8_92 sg.r1_0 dX8_weightSaid_17 rfl ?_
  refine g_ild2 (pc' := 21) dX8_weightSaid_20 rfl ?_
  refine g_iald (pc' := 22) (j := s) sg.s2 rfl (by omega) (by decide) hw2 dX8_weightSaid_21 rfl ?_
  refine g_iast (pc' := 23) (j := 0) xg.s32 rfl (by omega) (by decide) dX8_weightSaid_22 rfl ?_
  refine g_ald0 (pc' := 24) dX8_weightSaid_23 rfl ?_
  refine g_getR (pc' := 27) xg.s0 (by decide) fX8_74 xg.r0_12 dX8_weightSaid_24 rfl ?_
  refine g_iconst (pc' := 28) (v := nI 2) dX8_weightSaid_27 rfl (by decide) ?_
  refine g_ild3 (pc' := 29) dX8_weightSaid_28 rfl ?_
  refine g_iast (pc' := 30) (j := 2) xg.s32 rfl (by omega) (by decide) dX8_weightSaid_29 rfl ?_
  refine g_ald0 (pc' := 31) dX8_weightSaid_30 rfl ?_
  refine g_getR (pc' := 34) xg.s0 (by decide) fX8_74 xg.r0_12 dX8_weightSaid_31 rfl ?_
  refine g_iconst (pc' := 35) (v := nI 3) dX8_weightSaid_34 rfl (by decide) ?_
  refine g_ald0 (pc' := 36) dX8_weightSaid_35 rfl ?_
  refine g_getR (pc' := 39) xg.s0 (by decide) fX8_10 xg.r0_0 dX8_weightSaid_36 rfl ?_
  refine g_getI (pc' := 42) sg.s1 (by decide) fX8_88 (v := nI n) (by simp [upM, hn2]) dX8_weightSaid_39 rfl ?_
  refine g_iast (pc' := 43) (j := 3) xg.s32 rfl (by omega) (by decide) dX8_weightSaid_42 rfl ?_
  refine g_ald0 (pc' := 44) dX8_weightSaid_43 rfl ?_
  refine g_getR (pc' := 47) xg.s0 (by decide) fX8_74 xg.r0_12 dX8_weightSaid_44 rfl ?_
  refine g_bipush (pc' := 49) (v := nI 6) dX8_weightSaid_47 rfl (by decide) ?_
  refine g_ild2 (pc' := 50) dX8_weightSaid_49 rfl ?_
  refine g_iast (pc' := 51) (j := 6) xg.s32 rfl (by omega) (by decide) dX8_weightSaid_50 rfl ?_
  refine g_name (fun J2 hJ2 => ?_)
  have hse : ∀ i, i < 7 → J2 (32, 0) i = seenV (I (2, 0) s) (nI 0) p n (nI 0) (nI 0) s i := by
    intro i hi
    rw [hJ2]
    rcases (show i = 0 ∨ i = 1 ∨ i = 2 ∨ i = 3 ∨ i = 4 ∨ i = 5 ∨ i = 6 by omega) with rfl | rfl | rfl | rfl | rfl | rfl | rfl <;> simp [upM, hJ, upT_s, filN, seenV]
  have hfr : Fr (sdP lj) I J2 := by
    rw [hJ2, hJ]
    refine Fr.up (Fr.up (Fr.up (Fr.up (Fr.upT Fr.rf ?_) ?_) ?_) ?_) ?_ <;> simp [sdP]
  have hv2 : LV J2 lj len cd := hv.to (fun i => hfr _ _ (by simp [sdP]))
  refine g_ald1 (pc' := 52) dX8_weightSaid_51 rfl ?_
  refine g_ald0 (pc' := 53) dX8_weightSaid_52 rfl ?_
  refine g_getR (pc' := 56) xg.s0 (by decide) fX8_74 xg.r0_12 dX8_weightSaid_53 rfl ?_
  refine g_callV (pc' := 59) (c_lawWeigh l lg xg.s32 (by simp) (by have := hv2.1; omega) hv2.2.1 hv2.2.2.1 (hv2.run hse)) lg.s7 (by decide) wX2_weigh lX8_292 rfl rfl (Nat.le_of_ble_eq_true rfl) ⟨Nat.le_of_ble_eq_true rfl, Nat.le_of_ble_eq_true rfl⟩ ⟨Nat.le_of_ble_eq_true rfl, Nat.le_of_ble_eq_true rfl⟩ dX8_weightSaid_56 rfl (kI (fun v J3 hq => ?_))
  refine g_iret rfl dX8_weightSaid_59 ?_
  exact eI ⟨hq.1, hfr.tr (hq.2.le (fun t i q => Or.inr q))⟩

def trP (k lj : Nat) (t : Tok) (_ : Nat) : Prop := t = (13, k) ∨ t = (14, k) ∨ t = (32, 0) ∨ t = (9, lj)
theorem c_isTrueOf (l : Launch) {S : Shp} {I : MI} {L : ML} {R : MR} (xg : XG S R) (sg : SG S R) {n : Nat} (hn : I (1, 0) 1 = nI n) (hN : n ≤ 12) {lj len : Nat} {cd : Nat → Nat × Nat} (lg : LG lj len S R) (hv : LV I lj len cd) {k : Nat} (wg : WG k S R) : Ct l mX8_isTrueOf 4 0 0 [.inr (.inr (some (0, 0))), .inr (.inr (some (7, lj))), .inr (.inr (some (11, k)))] S I L R (PIm S L R (fun v J => v = bI (okN (fun p => wtSd cd len (I (2, 0) (rkO (I (12, k)) n p)) n (rkO (I (12, k)) n p) (nI p)) n) ∧ Fr (trP k lj) I J)) := by
  refine Ct.of [some (.inr (.inr (some (0, 0)))), some (.inr (.inr (some (7, lj)))), some (.inr (.inr (some (11, k)))), none, none, none] (by decide) rfl (Nat.le_of_ble_eq_true rfl) ?_
  refine g_ald2 (pc' := 1) dX8_isTrueOf_0 rfl ?_
  refine g_callV (pc' := 4) (c_arrange l sg wg hn hN) wg.s11 (by decide) wX7_arrange lX8_164 rfl rfl (Nat.le_of_ble_eq_true rfl) ⟨Nat.le_of_ble_eq_true rfl, Nat.le_of_ble_eq_true rfl⟩ ⟨Nat.le_of_ble_eq_true rfl, Nat.le_of_ble_eq_true rfl⟩ dX8_isTrueOf_1 rfl (kV (fun J1 hq1 => ?_))
  refine g_sipush (pc' := 7) (v := nI 9999) dX8_isTrueOf_4 rfl (by decide) ?_
  refine g_ist3 (pc' := 8) rfl (by decide) dX8_isTrueOf_7 rfl ?_
  refine g_iconst (pc' := 9) (v := nI 0) dX8_isTrueOf_8 rfl (by decide) ?_
  refine g_ist4 (pc' := 11) rfl (by decide) dX8_isTrueOf_9 rfl ?_
  obtain ⟨W, hW⟩ : ∃ W : Nat → Int32, W = (fun p => wtSd cd len (I (2, 0) (rkO (I (12, k)) n p)) n (rkO (I (12, k)) n p) (nI p)) := ⟨_, rfl⟩
  rw [← hW]
  refine g_loop (σ := MI) (fun i (J : MI) => okN W i = true ∧ Fr (trP k lj) I J ∧ ∀ p, p < n → J (13, k) p = nI (rkO (I (12, k)) n p)) (fun i J => [some (.inr (.inr (some (0, 0)))), some (.inr (.inr (some (7, lj)))), some (.inr (.inr (some (11, k)))), some (.inl (prevW W i)), some (.inl (nI i)), none]) (fun i J => J) n 0 J1 (by omega) ⟨rfl, hq1.1.le (fun t i q => by rcases q with q | q <;> simp [trP, q]), hq1.2.1⟩ ?_ ?_
  · intro i J hi hP ih
    have hn2 : J (1, 0) 1 = nI n := (hP.2.1 _ _ (by simp [trP])).trans hn
    refine g_ild4 (pc' := 13) dX8_isTrueOf_11 rfl ?_
    have hro : rkO (I (12, k)) n i < n := rkO_lt _ _ _ hi
    refine g_ald0 (pc' := 14) dX8_isTrueOf_13 rfl ?_
    refine g_getR (pc' := 17) xg.s0 (by decide) fX8_10 xg.r0_0 dX8_isTrueOf_14 rfl ?_
    refine g_getI (pc' := 20) sg.s1 (by decide) fX8_88 hn2 dX8_isTrueOf_17 rfl ?_
    refine g_icmpgeN (pc' := 23) (by omega) (by omega) (tgt := 56) dX8_isTrueOf_20 (by decide) rfl (fun h20 => ?_) (fun h20 => ?_)
    · exact absurd h20 (by omega)
    · refine g_ald0 (pc' := 24) dX8_isTrueOf_23 rfl ?_
      refine g_ald1 (pc' := 25) dX8_isTrueOf_24 rfl ?_
      refine g_ald2 (pc' := 26) dX8_isTrueOf_25 rfl ?_
      refine g_getR (pc' := 29) wg.s11 (by decide) fX8_283 wg.r11_11 dX8_isTrueOf_26 rfl ?_
      refine g_ild4 (pc' := 31) dX8_isTrueOf_29 rfl ?_
      refine g_iald (pc' := 32) (j := i) wg.s13 rfl (by omega) (by decide) (v := nI (rkO (I (12, k)) n i)) (hP.2.2 i hi) dX8_isTrueOf_31 rfl ?_
      refine g_ild4 (pc' := 34) dX8_isTrueOf_32 rfl ?_
      refine g_callV (pc' := 37) (c_weightSaid l xg sg hn2 hN lg (hv.to (fun i => hP.2.1 _ _ (by simp [trP]))) hro (nI i)) xg.s0 (by decide) wX8_weightSaid lX8_275 rfl rfl (Nat.le_of_ble_eq_true rfl) ⟨Nat.le_of_ble_eq_true rfl, Nat.le_of_ble_eq_true rfl⟩ ⟨Nat.le_of_ble_eq_true rfl, Nat.le_of_ble_eq_true rfl⟩ dX8_isTrueOf_34 rfl (kI (fun v J2 hq => ?_))
      obtain ⟨hv0, hfr2⟩ := hq
      have hvW : v = W i := by rw [hv0, hW]; show wtSd cd len (J (2, 0) _) n _ _ = _; rw [hP.2.1 (2, 0) _ (by simp [trP])]
      refine g_topi (v := W i) hvW ?_
      refine g_ist5 (pc' := 39) rfl (by decide) dX8_isTrueOf_37 rfl ?_
      refine g_ild5 (pc' := 41) dX8_isTrueOf_39 rfl ?_
      refine g_ild3 (pc' := 42) dX8_isTrueOf_41 rfl ?_
      refine g_icmple (pc' := 45) (tgt := 47) dX8_isTrueOf_42 (by decide) rfl (fun h42 => ?_) (fun h42 => ?_)
      · refine g_ild5 (pc' := 49) dX8_isTrueOf_47 rfl ?_
        refine g_ist3 (pc' := 50) rfl (by decide) dX8_isTrueOf_49 rfl ?_
        refine g_inc4 (pc' := 53) rfl (by decide) (v := nI (i + 1)) (nI_1 _) dX8_isTrueOf_50 rfl ?_
        refine g_goto (tgt := 11) dX8_isTrueOf_53 (by decide) ?_
        refine G.lsub [some (.inr (.inr (some (0, 0)))), some (.inr (.inr (some (7, lj)))), some (.inr (.inr (some (11, k)))), some (.inl (W i)), some (.inl (nI (i + 1))), none] (by intro j v; rcases j with _ | _ | _ | _ | _ | _ | j <;> simp) ?_
        have hI := ih J2 ⟨by simp only [okN]; rw [hP.1, decide_eq_true (by assumption)]; rfl, hP.2.1.tr (hfr2.le (fun t i q => by rcases q with q | q <;> simp [trP, q])), fun p hp => (hfr2 _ _ (by simp [sdP])).trans (hP.2.2 p hp)⟩
        rw [prevW_s] at hI
        exact hI
      · refine g_iconst (pc' := 46) (v := nI 0) dX8_isTrueOf_45 rfl (by decide) ?_
        refine g_zret (ty := .boolean) rfl (by decide) dX8_isTrueOf_46 ?_
        exact eI ⟨by rw [okN_bad h42 hi]; rfl, hP.2.1.tr (hfr2.le (fun t i q => by rcases q with q | q <;> simp [trP, q]))⟩
  · intro J hP
    have hn2 : J (1, 0) 1 = nI n := (hP.2.1 _ _ (by simp [trP])).trans hn
    refine g_ild4 (pc' := 13) dX8_isTrueOf_11 rfl ?_
    refine g_ald0 (pc' := 14) dX8_isTrueOf_13 rfl ?_
    refine g_getR (pc' := 17) xg.s0 (by decide) fX8_10 xg.r0_0 dX8_isTrueOf_14 rfl ?_
    refine g_getI (pc' := 20) sg.s1 (by decide) fX8_88 hn2 dX8_isTrueOf_17 rfl ?_
    refine g_icmpgeN (pc' := 23) (by omega) (by omega) (tgt := 56) dX8_isTrueOf_20 (by decide) rfl (fun h20 => ?_) (fun h20 => ?_)
    · refine g_iconst (pc' := 57) (v := nI 1) dX8_isTrueOf_56 rfl (by decide) ?_
      refine g_zret (ty := .boolean) rfl (by decide) dX8_isTrueOf_57 ?_
      exact eI ⟨by rw [hP.1]; rfl, hP.2.1⟩
    · exact absurd h20 (by omega)

def ordN (w : Nat → Nat → Int32) (n : Nat) : Nat → Nat → Int32 → Int32 → Int32
  | 0, _, _, _ => nI 1
  | f + 1, p, u, a => sumN (fun s => if ((u >>> (nI s &&& 31)) &&& nI 1) = 0 ∧ w s p ≤ a then ordN w n f (p + 1) (u ||| (nI 1 <<< (nI s &&& 31))) (w s p) else nI 0) n
theorem ordN_0 (w : Nat → Nat → Int32) (n p : Nat) (u a : Int32) : ordN w n 0 p u a = nI 1 := rfl
def ordT (w : Nat → Nat → Int32) (n f p : Nat) (u a : Int32) (s : Nat) : Int32 := if ((u >>> (nI s &&& 31)) &&& nI 1) = 0 ∧ w s p ≤ a then ordN w n f (p + 1) (u ||| (nI 1 <<< (nI s &&& 31))) (w s p) else nI 0
theorem ordN_s (w : Nat → Nat → Int32) (n f p : Nat) (u a : Int32) : ordN w n (f + 1) p u a = sumN (ordT w n f p u a) n := rfl
theorem sumN_s (f : Nat → Int32) (n : Nat) : sumN f (n + 1) = sumN f n + f n := rfl
theorem add_n0 (x : Int32) : x + nI 0 = x := Int32.add_zero x
theorem c_orders (l : Launch) {S : Shp} {I : MI} {L : ML} {R : MR} {n ta tb : Nat} (hn : n ≤ 6) (hT : S (ta, tb) = (1, 36)) {w : Nat → Nat → Int32} (hw : ∀ s p, s < n → p < n → I (ta, tb) (s * 6 + p) = w s p) : ∀ (f p : Nat) (u a : Int32), p + f = n → Ct l mX8_ordersFrom (f + 1) 0 0 [.inr (.inr (some (ta, tb))), .inl (nI n), .inl (nI p), .inl u, .inl a] S I L R (PIp S I L R (ordN w n f p u a)) := by
  intro f
  induction f with
  | zero =>
    intro p u a hp
    obtain rfl : p = n := by omega
    refine Ct.of [some (.inr (.inr (some (ta, tb)))), some (.inl (nI p)), some (.inl (nI p)), some (.inl u), some (.inl a), none, none, none] (by decide) rfl (Nat.le_of_ble_eq_true rfl) ?_
    refine g_ild2 (pc' := 1) dX8_ordersFrom_0 rfl ?_
    refine g_ild1 (pc' := 2) dX8_ordersFrom_1 rfl ?_
    refine g_icmpgeN (pc' := 5) (by omega) (by omega) (tgt := 11) dX8_ordersFrom_2 (by decide) rfl (fun h2 => ?_) (fun h2 => ?_)
    · refine g_iconst (pc' := 12) (v := nI 1) dX8_ordersFrom_11 rfl (by decide) ?_
      refine g_iret rfl dX8_ordersFrom_12 ?_
      exact eIp rfl
    · exact absurd h2 (by omega)
  | succ f ih =>
    intro p u a hp
    refine Ct.of [some (.inr (.inr (some (ta, tb)))), some (.inl (nI n)), some (.inl (nI p)), some (.inl u), some (.inl a), none, none, none] (by decide) rfl (Nat.le_of_ble_eq_true rfl) ?_
    refine g_ild2 (pc' := 1) dX8_ordersFrom_0 rfl ?_
    refine g_ild1 (pc' := 2) dX8_ordersFrom_1 rfl ?_
    refine g_icmpgeN (pc' := 5) (by omega) (by omega) (tgt := 11) dX8_ordersFrom_2 (by decide) rfl (fun h2 => ?_) (fun h2 => ?_)
    · exact absurd h2 (by omega)
    · refine g_ild2 (pc' := 6) dX8_ordersFrom_5 rfl ?_
      refine g_bipush (pc' := 8) (v := nI 6) dX8_ordersFrom_6 rfl (by decide) ?_
      refine g_icmpltN (pc' := 11) (by omega) (by omega) (tgt := 13) dX8_ordersFrom_8 (by decide) rfl (fun h8 => ?_) (fun h8 => ?_)
      · refine g_iconst (pc' := 14) (v := nI 0) dX8_ordersFrom_13 rfl (by decide) ?_
        refine g_ist5 (pc' := 16) rfl (by decide) dX8_ordersFrom_14 rfl ?_
        refine g_iconst (pc' := 17) (v := nI 0) dX8_ordersFrom_16 rfl (by decide) ?_
        refine g_ist6 (pc' := 19) rfl (by decide) dX8_ordersFrom_17 rfl ?_
        refine g_loop (σ := Unit) (fun _ _ => True) (fun i s => [some (.inr (.inr (some (ta, tb)))), some (.inl (nI n)), some (.inl (nI p)), some (.inl u), some (.inl a), some (.inl (sumN (ordT w n f p u a) i)), some (.inl (nI i)), none]) (fun i s => I) n 0 () (by omega) trivial ?_ ?_
        · intro i s hi hP ihL
          refine g_ild6 (pc' := 21) dX8_ordersFrom_19 rfl ?_
          refine g_ild1 (pc' := 22) dX8_ordersFrom_21 rfl ?_
          refine g_icmpgeN (pc' := 25) (by omega) (by omega) (tgt := 79) dX8_ordersFrom_22 (by decide) rfl (fun h22 => ?_) (fun h22 => ?_)
          · exact absurd h22 (by omega)
          · refine g_ald0 (pc' := 26) dX8_ordersFrom_25 rfl ?_
            refine g_ild6 (pc' := 28) dX8_ordersFrom_26 rfl ?_
            refine g_bipush (pc' := 30) (v := nI 6) dX8_ordersFrom_28 rfl (by decide) ?_
            refine g_imulN (pc' := 31) dX8_ordersFrom_30 rfl ?_
            refine g_ild2 (pc' := 32) dX8_ordersFrom_31 rfl ?_
            refine g_iaddN (pc' := 33) dX8_ordersFrom_32 rfl ?_
            refine g_iald (pc' := 34) (j := i * 6 + p) hT rfl (by omega) (by decide) (v := w i p) (hw i p hi (by omega)) dX8_ordersFrom_33 rfl ?_
            refine g_ist7 (pc' := 36) rfl (by decide) dX8_ordersFrom_34 rfl ?_
            refine g_ild3 (pc' := 37) dX8_ordersFrom_36 rfl ?_
            refine g_ild6 (pc' := 39) dX8_ordersFrom_37 rfl ?_
            refine g_ishr (pc' := 40) dX8_ordersFrom_39 rfl ?_
            refine g_iconst (pc' := 41) (v := nI 1) dX8_ordersFrom_40 rfl (by decide) ?_
            refine g_iand (pc' := 42) dX8_ordersFrom_41 rfl ?_
            refine g_ifne (pc' := 45) (tgt := 73) dX8_ordersFrom_42 (by decide) rfl (fun h42 => ?_) (fun h42 => ?_)
            · refine g_inc6 (pc' := 76) rfl (by decide) (v := nI (i + 1)) (nI_1 _) dX8_ordersFrom_73 rfl ?_
              refine g_goto (tgt := 19) dX8_ordersFrom_76 (by decide) ?_
              have e : ordT w n f p u a i = nI 0 := if_neg (by first | exact fun q => h42 q.1 | exact fun q => absurd q.2 (Int32.not_le.mpr h49))
              refine G.lsub [some (.inr (.inr (some (ta, tb)))), some (.inl (nI n)), some (.inl (nI p)), some (.inl u), some (.inl a), some (.inl (sumN (ordT w n f p u a) i)), some (.inl (nI (i + 1))), none] (by intro j v; rcases j with _ | _ | _ | _ | _ | _ | _ | _ | j <;> simp) ?_
              have hL := ihL () trivial
              rw [sumN_s, e, add_n0] at hL
              exact hL
            · refine g_ild7 (pc' := 47) dX8_ordersFrom_45 rfl ?_
              refine g_ild4 (pc' := 49) dX8_ordersFrom_47 rfl ?_
              refine g_icmpgt (pc' := 52) (tgt := 73) dX8_ordersFrom_49 (by decide) rfl (fun h49 => ?_) (fun h49 => ?_)
              · refine g_inc6 (pc' := 76) rfl (by decide) (v := nI (i + 1)) (nI_1 _) dX8_ordersFrom_73 rfl ?_
                refine g_goto (tgt := 19) dX8_ordersFrom_76 (by decide) ?_
                have e : ordT w n f p u a i = nI 0 := if_neg (by first | exact fun q => h42 q.1 | exact fun q => absurd q.2 (Int32.not_le.mpr h49))
                refine G.lsub [some (.inr (.inr (some (ta, tb)))), some (.inl (nI n)), some (.inl (nI p)), some (.inl u), some (.inl a), some (.inl (sumN (ordT w n f p u a) i)), some (.inl (nI (i + 1))), none] (by intro j v; rcases j with _ | _ | _ | _ | _ | _ | _ | _ | j <;> simp) ?_
                have hL := ihL () trivial
                rw [sumN_s, e, add_n0] at hL
                exact hL
              · refine g_ild5 (pc' := 54) dX8_ordersFrom_52 rfl ?_
                refine g_ald0 (pc' := 55) dX8_ordersFrom_54 rfl ?_
                refine g_ild1 (pc' := 56) dX8_ordersFrom_55 rfl ?_
                refine g_ild2 (pc' := 57) dX8_ordersFrom_56 rfl ?_
                refine g_iconst (pc' := 58) (v := nI 1) dX8_ordersFrom_57 rfl (by decide) ?_
                refine g_iaddN (pc' := 59) dX8_ordersFrom_58 rfl ?_
                refine g_ild3 (pc' := 60) dX8_ordersFrom_59 rfl ?_
                refine g_iconst (pc' := 61) (v := nI 1) dX8_ordersFrom_60 rfl (by decide) ?_
                refine g_ild6 (pc' := 63) dX8_ordersFrom_61 rfl ?_
                refine g_ishl (pc' := 64) dX8_ordersFrom_63 rfl ?_
                refine g_ior (pc' := 65) dX8_ordersFrom_64 rfl ?_
                refine g_ild7 (pc' := 67) dX8_ordersFrom_65 rfl ?_
                refine g_callS (pc' := 70) (ih (p + 1) (u ||| (nI 1 <<< (nI i &&& 31))) (w i p) (by omega)) wX8_ordersFrom lX8_279 rfl rfl (Nat.le_of_ble_eq_true rfl) ⟨by simp [rmd], by simp [rmd, mX8_ordersFrom]; omega⟩ ⟨by simp [rmd], by simp [rmd]⟩ dX8_ordersFrom_67 rfl (kIp ?_)
                refine g_iadd (pc' := 71) dX8_ordersFrom_70 rfl ?_
                refine g_ist5 (pc' := 73) rfl (by decide) dX8_ordersFrom_71 rfl ?_
                refine g_inc6 (pc' := 76) rfl (by decide) (v := nI (i + 1)) (nI_1 _) dX8_ordersFrom_73 rfl ?_
                refine g_goto (tgt := 19) dX8_ordersFrom_76 (by decide) ?_
                have e : ordT w n f p u a i = ordN w n f (p + 1) (u ||| (nI 1 <<< (nI i &&& 31))) (w i p) := if_pos ⟨h42, Int32.not_lt.mp h49⟩
                rw [← e]
                refine G.lsub [some (.inr (.inr (some (ta, tb)))), some (.inl (nI n)), some (.inl (nI p)), some (.inl u), some (.inl a), some (.inl (sumN (ordT w n f p u a) i + ordT w n f p u a i)), some (.inl (nI (i + 1))), none] (by intro j v; rcases j with _ | _ | _ | _ | _ | _ | _ | _ | j <;> simp) ?_
                exact ihL () trivial
        · intro s hP
          refine g_ild6 (pc' := 21) dX8_ordersFrom_19 rfl ?_
          refine g_ild1 (pc' := 22) dX8_ordersFrom_21 rfl ?_
          refine g_icmpgeN (pc' := 25) (by omega) (by omega) (tgt := 79) dX8_ordersFrom_22 (by decide) rfl (fun h22 => ?_) (fun h22 => ?_)
          · refine g_ild5 (pc' := 81) dX8_ordersFrom_79 rfl ?_
            refine g_iret rfl dX8_ordersFrom_81 ?_
            exact eIp (ordN_s _ _ _ _ _ _).symm
          · exact absurd h22 (by omega)
      · exact absurd h8 (by omega)
