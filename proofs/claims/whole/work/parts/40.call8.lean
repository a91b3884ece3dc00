/-! EightWorlds: undoing, odds, after, charts, finding, houses -/
def appI (I : MI) (n m : Nat) (w s v : Int32) : MI := if inb w m = true then (if inb s n = true then upM I (12, w.toInt.toNat) s.toInt.toNat v else upM I (11, w.toInt.toNat) 5 v) else if inb s n = true then upM I (2, 0) s.toInt.toNat v else I
theorem c_apply00 (l : Launch) {S : Shp} {I : MI} {L : ML} {R : MR} (xg : XG S R) (sg : SG S R) {n : Nat} (hn : I (1, 0) 1 = nI n) (hN : n ≤ 12) {m : Nat} (hm : I (0, 0) 5 = nI m) (hM : m ≤ 9) (hR : ∀ k, k < m → R (10, 0) k = some (11, k)) (hW : ∀ k, k < m → WG k S R) (hg : HG S R) {t : Nat} (ht : t < 40) {w : Int32} (hw : I (19, 0) t = w) (hwm : inb w m = false) {s : Int32} (hs : I (20, 0) t = s) (hsn : inb s n = false) (v : Int32) : Ct l mX8_apply 2 0 0 [.inr (.inr (some (0, 0))), .inl (nI t), .inl v] S I L R (PVm S L R (fun J => J = I)) := by
  refine Ct.of [some (.inr (.inr (some (0, 0)))), some (.inl (nI t)), some (.inl v), none, none] (by decide) rfl (Nat.le_of_ble_eq_true rfl) ?_
  refine g_ald0 (pc' := 1) dX8_apply_0 rfl ?_
  refine g_ald0 (pc' := 2) dX8_apply_1 rfl ?_
  refine g_getR (pc' := 5) xg.s0 (by decide) fX8_38 xg.r0_6 dX8_apply_2 rfl ?_
  refine g_getR (pc' := 8) hg.s18 (by decide) fX8_328 hg.r18_0 dX8_apply_5 rfl ?_
  refine g_ild1 (pc' := 9) dX8_apply_8 rfl ?_
  refine g_iald (pc' := 10) (j := t) hg.s19 rfl (by omega) (by decide) hw dX8_apply_9 rfl ?_
  refine g_callV (pc' := 13) (c_worldOfN l xg hm hwm) xg.s0 (by decide) wX8_worldOf lX8_147 rfl rfl (Nat.le_of_ble_eq_true rfl) ⟨Nat.le_of_ble_eq_true rfl, Nat.le_of_ble_eq_true rfl⟩ ⟨Nat.le_of_ble_eq_true rfl, Nat.le_of_ble_eq_true rfl⟩ dX8_apply_10 rfl (kRp ?_)
  refine g_ast3 (pc' := 14) rfl (by decide) dX8_apply_13 rfl ?_
  refine g_ald0 (pc' := 15) dX8_apply_14 rfl ?_
  refine g_getR (pc' := 18) xg.s0 (by decide) fX8_38 xg.r0_6 dX8_apply_15 rfl ?_
  refine g_getR (pc' := 21) hg.s18 (by decide) fX8_330 hg.r18_1 dX8_apply_18 rfl ?_
  refine g_ild1 (pc' := 22) dX8_apply_21 rfl ?_
  refine g_iald (pc' := 23) (j := t) hg.s20 rfl (by omega) (by decide) hs dX8_apply_22 rfl ?_
  refine g_ist4 (pc' := 25) rfl (by decide) dX8_apply_23 rfl ?_
  refine g_ald3 (pc' := 26) dX8_apply_25 rfl ?_
  refine g_ifnonnullF (pc' := 29) dX8_apply_26 rfl ?_
  refine g_ald0 (pc' := 30) dX8_apply_29 rfl ?_
  refine g_getR (pc' := 33) xg.s0 (by decide) fX8_10 xg.r0_0 dX8_apply_30 rfl ?_
  refine g_ild4 (pc' := 35) dX8_apply_33 rfl ?_
  refine g_callV (pc' := 38) (c_has l sg hn hN s) sg.s1 (by decide) wX5_has lX8_95 rfl rfl (Nat.le_of_ble_eq_true rfl) ⟨Nat.le_of_ble_eq_true rfl, Nat.le_of_ble_eq_true rfl⟩ ⟨Nat.le_of_ble_eq_true rfl, Nat.le_of_ble_eq_true rfl⟩ dX8_apply_35 rfl (kIp ?_)
  refine g_ifeqB (pc' := 41) (tgt := 55) dX8_apply_38 (by decide) rfl (fun h38 => ?_) (fun h38 => (by first | exact absurd h38 (Bool.eq_false_iff.mp hsn) | exact absurd (Bool.eq_false_iff.mp hsn) h38))
  refine g_ald3 (pc' := 56) dX8_apply_55 rfl ?_
  refine g_ifnullT (tgt := 82) dX8_apply_56 (by decide) ?_
  refine g_ald3 (pc' := 83) dX8_apply_82 rfl ?_
  refine g_ifnullT (tgt := 91) dX8_apply_83 (by decide) ?_
  refine g_vret rfl dX8_apply_91 ?_
  exact eV rfl

theorem c_apply01 (l : Launch) {S : Shp} {I : MI} {L : ML} {R : MR} (xg : XG S R) (sg : SG S R) {n : Nat} (hn : I (1, 0) 1 = nI n) (hN : n ≤ 12) {m : Nat} (hm : I (0, 0) 5 = nI m) (hM : m ≤ 9) (hR : ∀ k, k < m → R (10, 0) k = some (11, k)) (hW : ∀ k, k < m → WG k S R) (hg : HG S R) {t : Nat} (ht : t < 40) {w : Int32} (hw : I (19, 0) t = w) (hwm : inb w m = false) {sj : Nat} (hs : I (20, 0) t = nI sj) (hsn : sj < n) (v : Int32) : Ct l mX8_apply 2 0 0 [.inr (.inr (some (0, 0))), .inl (nI t), .inl v] S I L R (PVm S L R (fun J => J = upM I (2, 0) sj v)) := by
  refine Ct.of [some (.inr (.inr (some (0, 0)))), some (.inl (nI t)), some (.inl v), none, none] (by decide) rfl (Nat.le_of_ble_eq_true rfl) ?_
  refine g_ald0 (pc' := 1) dX8_apply_0 rfl ?_
  refine g_ald0 (pc' := 2) dX8_apply_1 rfl ?_
  refine g_getR (pc' := 5) xg.s0 (by decide) fX8_38 xg.r0_6 dX8_apply_2 rfl ?_
  refine g_getR (pc' := 8) hg.s18 (by decide) fX8_328 hg.r18_0 dX8_apply_5 rfl ?_
  refine g_ild1 (pc' := 9) dX8_apply_8 rfl ?_
  refine g_iald (pc' := 10) (j := t) hg.s19 rfl (by omega) (by decide) hw dX8_apply_9 rfl ?_
  refine g_callV (pc' := 13) (c_worldOfN l xg hm hwm) xg.s0 (by decide) wX8_worldOf lX8_147 rfl rfl (Nat.le_of_ble_eq_true rfl) ⟨Nat.le_of_ble_eq_true rfl, Nat.le_of_ble_eq_true rfl⟩ ⟨Nat.le_of_ble_eq_true rfl, Nat.le_of_ble_eq_true rfl⟩ dX8_apply_10 rfl (kRp ?_)
  refine g_ast3 (pc' := 14) rfl (by decide) dX8_apply_13 rfl ?_
  refine g_ald0 (pc' := 15) dX8_apply_14 rfl ?_
  refine g_getR (pc' := 18) xg.s0 (by decide) fX8_38 xg.r0_6 dX8_apply_15 rfl ?_
  refine g_getR (pc' := 21) hg.s18 (by decide) fX8_330 hg.r18_1 dX8_apply_18 rfl ?_
  refine g_ild1 (pc' := 22) dX8_apply_21 rfl ?_
  refine g_iald (pc' := 23) (j := t) hg.s20 rfl (by omega) (by decide) hs dX8_apply_22 rfl ?_
  refine g_ist4 (pc' := 25) rfl (by decide) dX8_apply_23 rfl ?_
  refine g_ald3 (pc' := 26) dX8_apply_25 rfl ?_
  refine g_ifnonnullF (pc' := 29) dX8_apply_26 rfl ?_
  refine g_ald0 (pc' := 30) dX8_apply_29 rfl ?_
  refine g_getR (pc' := 33) xg.s0 (by decide) fX8_10 xg.r0_0 dX8_apply_30 rfl ?_
  refine g_ild4 (pc' := 35) dX8_apply_33 rfl ?_
  refine g_callV (pc' := 38) (c_has l sg hn hN (nI sj)) sg.s1 (by decide) wX5_has lX8_95 rfl rfl (Nat.le_of_ble_eq_true rfl) ⟨Nat.le_of_ble_eq_true rfl, Nat.le_of_ble_eq_true rfl⟩ ⟨Nat.le_of_ble_eq_true rfl, Nat.le_of_ble_eq_true rfl⟩ dX8_apply_35 rfl (kIp ?_)
  refine g_ifeqB (pc' := 41) (tgt := 55) dX8_apply_38 (by decide) rfl (fun h38 => (by first | exact absurd h38 (by rw [inb_nI (by omega) (by omega)]; simp [hsn]) | exact absurd (by rw [inb_nI (by omega) (by omega)]; simp [hsn]) h38)) (fun h38 => ?_)
  refine g_ald0 (pc' := 42) dX8_apply_41 rfl ?_
  refine g_getR (pc' := 45) xg.s0 (by decide) fX8_10 xg.r0_0 dX8_apply_42 rfl ?_
  refine g_getR (pc' := 48) sg.s1 (by decide) fX8_92 sg.r1_0 dX8_apply_45 rfl ?_
  refine g_ild4 (pc' := 50) dX8_apply_48 rfl ?_
  refine g_ild2 (pc' := 51) dX8_apply_50 rfl ?_
  refine g_iast (pc' := 52) (j := sj) sg.s2 rfl (by omega) (by decide) dX8_apply_51 rfl ?_
  refine g_goto (tgt := 91) dX8_apply_52 (by decide) ?_
  refine g_vret rfl dX8_apply_91 ?_
  exact eV rfl

theorem c_apply10 (l : Launch) {S : Shp} {I : MI} {L : ML} {R : MR} (xg : XG S R) (sg : SG S R) {n : Nat} (hn : I (1, 0) 1 = nI n) (hN : n ≤ 12) {m : Nat} (hm : I (0, 0) 5 = nI m) (hM : m ≤ 9) (hR : ∀ k, k < m → R (10, 0) k = some (11, k)) (hW : ∀ k, k < m → WG k S R) (hg : HG S R) {t : Nat} (ht : t < 40) {wj : Nat} (hw : I (19, 0) t = nI wj) (hwm : wj < m) {s : Int32} (hs : I (20, 0) t = s) (hsn : inb s n = false) (v : Int32) : Ct l mX8_apply 2 0 0 [.inr (.inr (some (0, 0))), .inl (nI t), .inl v] S I L R (PVm S L R (fun J => J = upM I (11, wj) 5 v)) := by
  refine Ct.of [some (.inr (.inr (some (0, 0)))), some (.inl (nI t)), some (.inl v), none, none] (by decide) rfl (Nat.le_of_ble_eq_true rfl) ?_
  refine g_ald0 (pc' := 1) dX8_apply_0 rfl ?_
  refine g_ald0 (pc' := 2) dX8_apply_1 rfl ?_
  refine g_getR (pc' := 5) xg.s0 (by decide) fX8_38 xg.r0_6 dX8_apply_2 rfl ?_
  refine g_getR (pc' := 8) hg.s18 (by decide) fX8_328 hg.r18_0 dX8_apply_5 rfl ?_
  refine g_ild1 (pc' := 9) dX8_apply_8 rfl ?_
  refine g_iald (pc' := 10) (j := t) hg.s19 rfl (by omega) (by decide) hw dX8_apply_9 rfl ?_
  refine g_callV (pc' := 13) (c_worldOfS l xg hm hwm hM (hR _ hwm)) xg.s0 (by decide) wX8_worldOf lX8_147 rfl rfl (Nat.le_of_ble_eq_true rfl) ⟨Nat.le_of_ble_eq_true rfl, Nat.le_of_ble_eq_true rfl⟩ ⟨Nat.le_of_ble_eq_true rfl, Nat.le_of_ble_eq_true rfl⟩ dX8_apply_10 rfl (kRp ?_)
  refine g_ast3 (pc' := 14) rfl (by decide) dX8_apply_13 rfl ?_
  refine g_ald0 (pc' := 15) dX8_apply_14 rfl ?_
  refine g_getR (pc' := 18) xg.s0 (by decide) fX8_38 xg.r0_6 dX8_apply_15 rfl ?_
  refine g_getR (pc' := 21) hg.s18 (by decide) fX8_330 hg.r18_1 dX8_apply_18 rfl ?_
  refine g_ild1 (pc' := 22) dX8_apply_21 rfl ?_
  refine g_iald (pc' := 23) (j := t) hg.s20 rfl (by omega) (by decide) hs dX8_apply_22 rfl ?_
  refine g_ist4 (pc' := 25) rfl (by decide) dX8_apply_23 rfl ?_
  refine g_ald3 (pc' := 26) dX8_apply_25 rfl ?_
  refine g_ifnonnullT (tgt := 55) dX8_apply_26 (by decide) ?_
  refine g_ald3 (pc' := 56) dX8_apply_55 rfl ?_
  refine g_ifnullF (pc' := 59) dX8_apply_56 rfl ?_
  refine g_ald0 (pc' := 60) dX8_apply_59 rfl ?_
  refine g_getR (pc' := 63) xg.s0 (by decide) fX8_10 xg.r0_0 dX8_apply_60 rfl ?_
  refine g_ild4 (pc' := 65) dX8_apply_63 rfl ?_
  refine g_callV (pc' := 68) (c_has l sg hn hN s) sg.s1 (by decide) wX5_has lX8_95 rfl rfl (Nat.le_of_ble_eq_true rfl) ⟨Nat.le_of_ble_eq_true rfl, Nat.le_of_ble_eq_true rfl⟩ ⟨Nat.le_of_ble_eq_true rfl, Nat.le_of_ble_eq_true rfl⟩ dX8_apply_65 rfl (kIp ?_)
  refine g_ifeqB (pc' := 71) (tgt := 82) dX8_apply_68 (by decide) rfl (fun h68 => ?_) (fun h68 => (by first | exact absurd h68 (Bool.eq_false_iff.mp hsn) | exact absurd (Bool.eq_false_iff.mp hsn) h68))
  refine g_ald3 (pc' := 83) dX8_apply_82 rfl ?_
  refine g_ifnullF (pc' := 86) dX8_apply_83 rfl ?_
  refine g_ald3 (pc' := 87) dX8_apply_86 rfl ?_
  refine g_ild2 (pc' := 88) dX8_apply_87 rfl ?_
  refine g_putI (pc' := 91) (hW (wj) (by omega)).s11 (by decide) ⟨fX8_144, rfl, pI⟩ dX8_apply_88 rfl ?_
  refine g_vret rfl dX8_apply_91 ?_
  exact eV rfl

theorem c_apply11 (l : Launch) {S : Shp} {I : MI} {L : ML} {R : MR} (xg : XG S R) (sg : SG S R) {n : Nat} (hn : I (1, 0) 1 = nI n) (hN : n ≤ 12) {m : Nat} (hm : I (0, 0) 5 = nI m) (hM : m ≤ 9) (hR : ∀ k, k < m → R (10, 0) k = some (11, k)) (hW : ∀ k, k < m → WG k S R) (hg : HG S R) {t : Nat} (ht : t < 40) {wj : Nat} (hw : I (19, 0) t = nI wj) (hwm : wj < m) {sj : Nat} (hs : I (20, 0) t = nI sj) (hsn : sj < n) (v : Int32) : Ct l mX8_apply 2 0 0 [.inr (.inr (some (0, 0))), .inl (nI t), .inl v] S I L R (PVm S L R (fun J => J = upM I (12, wj) sj v)) := by
  refine Ct.of [some (.inr (.inr (some (0, 0)))), some (.inl (nI t)), some (.inl v), none, none] (by decide) rfl (Nat.le_of_ble_eq_true rfl) ?_
  refine g_ald0 (pc' := 1) dX8_apply_0 rfl ?_
  refine g_ald0 (pc' := 2) dX8_apply_1 rfl ?_
  refine g_getR (pc' := 5) xg.s0 (by decide) fX8_38 xg.r0_6 dX8_apply_2 rfl ?_
  refine g_getR (pc' := 8) hg.s18 (by decide) fX8_328 hg.r18_0 dX8_apply_5 rfl ?_
  refine g_ild1 (pc' := 9) dX8_apply_8 rfl ?_
  refine g_iald (pc' := 10) (j := t) hg.s19 rfl (by omega) (by decide) hw dX8_apply_9 rfl ?_
  refine g_callV (pc' := 13) (c_worldOfS l xg hm hwm hM (hR _ hwm)) xg.s0 (by decide) wX8_worldOf lX8_147 rfl rfl (Nat.le_of_ble_eq_true rfl) ⟨Nat.le_of_ble_eq_true rfl, Nat.le_of_ble_eq_true rfl⟩ ⟨Nat.le_of_ble_eq_true rfl, Nat.le_of_ble_eq_true rfl⟩ dX8_apply_10 rfl (kRp ?_)
  refine g_ast3 (pc' := 14) rfl (by decide) dX8_apply_13 rfl ?_
  refine g_ald0 (pc' := 15) dX8_apply_14 rfl ?_
  refine g_getR (pc' := 18) xg.s0 (by decide) fX8_38 xg.r0_6 dX8_apply_15 rfl ?_
  refine g_getR (pc' := 21) hg.s18 (by decide) fX8_330 hg.r18_1 dX8_apply_18 rfl ?_
  refine g_ild1 (pc' := 22) dX8_apply_21 rfl ?_
  refine g_iald (pc' := 23) (j := t) hg.s20 rfl (by omega) (by decide) hs dX8_apply_22 rfl ?_
  refine g_ist4 (pc' := 25) rfl (by decide) dX8_apply_23 rfl ?_
  refine g_ald3 (pc' := 26) dX8_apply_25 rfl ?_
  refine g_ifnonnullT (tgt := 55) dX8_apply_26 (by decide) ?_
  refine g_ald3 (pc' := 56) dX8_apply_55 rfl ?_
  refine g_ifnullF (pc' := 59) dX8_apply_56 rfl ?_
  refine g_ald0 (pc' := 60) dX8_apply_59 rfl ?_
  refine g_getR (pc' := 63) xg.s0 (by decide) fX8_10 xg.r0_0 dX8_apply_60 rfl ?_
  refine g_ild4 (pc' := 65) dX8_apply_63 rfl ?_
  refine g_callV (pc' := 68) (c_has l sg hn hN (nI sj)) sg.s1 (by decide) wX5_has lX8_95 rfl rfl (Nat.le_of_ble_eq_true rfl) ⟨Nat.le_of_ble_eq_true rfl, Nat.le_of_ble_eq_true rfl⟩ ⟨Nat.le_of_ble_eq_true rfl, Nat.le_of_ble_eq_true rfl⟩ dX8_apply_65 rfl (kIp ?_)
  refine g_ifeqB (pc' := 71) (tgt := 82) dX8_apply_68 (by decide) rfl (fun h68 => (by first | exact absurd h68 (by rw [inb_nI (by omega) (by omega)]; simp [hsn]) | exact absurd (by rw [inb_nI (by omega) (by omega)]; simp [hsn]) h68)) (fun h68 => ?_)
  refine g_ald3 (pc' := 72) dX8_apply_71 rfl ?_
  refine g_getR (pc' := 75) (hW (wj) (by omega)).s11 (by decide) fX8_167 (hW (wj) (by omega)).r11_10 dX8_apply_72 rfl ?_
  refine g_ild4 (pc' := 77) dX8_apply_75 rfl ?_
  refine g_ild2 (pc' := 78) dX8_apply_77 rfl ?_
  refine g_iast (pc' := 79) (j := sj) (hW (wj) (by omega)).s12 rfl (by omega) (by decide) dX8_apply_78 rfl ?_
  refine g_goto (tgt := 91) dX8_apply_79 (by decide) ?_
  refine g_vret rfl dX8_apply_91 ?_
  exact eV rfl

theorem c_apply (l : Launch) {S : Shp} {I : MI} {L : ML} {R : MR} (xg : XG S R) (sg : SG S R) {n : Nat} (hn : I (1, 0) 1 = nI n) (hN : n ≤ 12) {m : Nat} (hm : I (0, 0) 5 = nI m) (hM : m ≤ 9) (hR : ∀ k, k < m → R (10, 0) k = some (11, k)) (hW : ∀ k, k < m → WG k S R) (hg : HG S R) {t : Nat} (ht : t < 40) {w s : Int32} (hw : I (19, 0) t = w) (hs : I (20, 0) t = s) (v : Int32) : Ct l mX8_apply 2 0 0 [.inr (.inr (some (0, 0))), .inl (nI t), .inl v] S I L R (PVm S L R (fun J => J = appI I n m w s v)) := by
  cases h1 : inb w m with
  | true =>
    obtain ⟨wj, hwm, rfl⟩ := inb_of (by omega) h1
    cases h2 : inb s n with
    | true =>
      obtain ⟨sj, hsn, rfl⟩ := inb_of (by omega) h2
      have e : appI I n m (nI wj) (nI sj) v = upM I (12, wj) sj v := by unfold appI; rw [if_pos h1, if_pos h2, toN_nI (by omega), toN_nI (by omega)]
      rw [e]
      exact c_apply11 l xg sg hn hN hm hM hR hW hg ht hw hwm hs hsn v
    | false =>
      have e : appI I n m (nI wj) s v = upM I (11, wj) 5 v := by unfold appI; rw [if_pos h1, if_neg (by rw [h2]; simp), toN_nI (by omega)]
      rw [e]
      exact c_apply10 l xg sg hn hN hm hM hR hW hg ht hw hwm hs h2 v
  | false =>
    cases h2 : inb s n with
    | true =>
      obtain ⟨sj, hsn, rfl⟩ := inb_of (by omega) h2
      have e : appI I n m w (nI sj) v = upM I (2, 0) sj v := by unfold appI; rw [if_neg (by rw [h1]; simp), if_pos h2, toN_nI (by omega)]
      rw [e]
      exact c_apply01 l xg sg hn hN hm hM hR hW hg ht hw h1 hs hsn v
    | false =>
      have e : appI I n m w s v = I := by unfold appI; rw [if_neg (by rw [h1]; simp), if_neg (by rw [h2]; simp)]
      rw [e]
      exact c_apply00 l xg sg hn hN hm hM hR hW hg ht hw h1 hs h2 v
theorem appI_18 (I : MI) (n m : Nat) (w s v : Int32) (i : Nat) : appI I n m w s v (18, 0) i = I (18, 0) i := by
  unfold appI
  repeat' split
  all_goals first | rfl | exact congrFun (upM_n _ (by simp) _ _) i
theorem c_undoE (l : Launch) {S : Shp} {I : MI} {L : ML} {R : MR} (xg : XG S R) (hg : HG S R) (hd : I (18, 0) 4 = nI 0) : Ct l mX8_undo 3 0 0 [.inr (.inr (some (0, 0)))] S I L R (PIp S I L R (-5)) := by
  refine Ct.of [some (.inr (.inr (some (0, 0))))] (by decide) rfl (Nat.le_of_ble_eq_true rfl) ?_
  refine g_ald0 (pc' := 1) dX8_undo_0 rfl ?_
  refine g_getR (pc' := 4) xg.s0 (by decide) fX8_38 xg.r0_6 dX8_undo_1 rfl ?_
  refine g_getI (pc' := 7) hg.s18 (by decide) fX8_314 hd dX8_undo_4 rfl ?_
  refine g_ifneN (pc' := 10) (by omega) (tgt := 13) dX8_undo_7 (by decide) rfl (fun h7 => absurd h7 (by omega)) (fun h7 => ?_)
  refine g_bipush (pc' := 12) (v := (-5)) dX8_undo_10 rfl (by decide) ?_
  refine g_iret rfl dX8_undo_12 ?_
  exact eIp rfl

theorem c_undoS (l : Launch) {S : Shp} {I : MI} {L : ML} {R : MR} (xg : XG S R) (sg : SG S R) {n : Nat} (hn : I (1, 0) 1 = nI n) (hN : n ≤ 12) {m : Nat} (hm : I (0, 0) 5 = nI m) (hM : m ≤ 9) (hR : ∀ k, k < m → R (10, 0) k = some (11, k)) (hW : ∀ k, k < m → WG k S R) (hg : HG S R) {t : Nat} (ht : t < 40) (hd : I (18, 0) 4 = nI (t + 1)) : Ct l mX8_undo 3 0 0 [.inr (.inr (some (0, 0)))] S I L R (PIm S L R (fun v J => v = nI t ∧ J = appI (upM I (18, 0) 4 (nI t)) n m (I (19, 0) t) (I (20, 0) t) (I (21, 0) t))) := by
  refine Ct.of [some (.inr (.inr (some (0, 0))))] (by decide) rfl (Nat.le_of_ble_eq_true rfl) ?_
  refine g_ald0 (pc' := 1) dX8_undo_0 rfl ?_
  refine g_getR (pc' := 4) xg.s0 (by decide) fX8_38 xg.r0_6 dX8_undo_1 rfl ?_
  refine g_getI (pc' := 7) hg.s18 (by decide) fX8_314 hd dX8_undo_4 rfl ?_
  refine g_ifneN (pc' := 10) (by omega) (tgt := 13) dX8_undo_7 (by decide) rfl (fun h7 => ?_) (fun h7 => ?_)
  · refine g_ald0 (pc' := 14) dX8_undo_13 rfl ?_
    refine g_getR (pc' := 17) xg.s0 (by decide) fX8_38 xg.r0_6 dX8_undo_14 rfl ?_
    refine g_dupR (pc' := 18) dX8_undo_17 rfl ?_
    refine g_getI (pc' := 21) hg.s18 (by decide) fX8_314 hd dX8_undo_18 rfl ?_
    refine g_iconst (pc' := 22) (v := nI 1) dX8_undo_21 rfl (by decide) ?_
    refine g_isub (pc' := 23) dX8_undo_22 rfl ?_
    refine g_topi (v := nI t) (pk_sub (by omega)) ?_
    refine g_putI (pc' := 26) hg.s18 (by decide) ⟨fX8_314, rfl, pI⟩ dX8_undo_23 rfl ?_
    refine g_ald0 (pc' := 27) dX8_undo_26 rfl ?_
    refine g_ald0 (pc' := 28) dX8_undo_27 rfl ?_
    refine g_getR (pc' := 31) xg.s0 (by decide) fX8_38 xg.r0_6 dX8_undo_28 rfl ?_
    refine g_getI (pc' := 34) hg.s18 (by decide) fX8_314 (v := nI t) (by simp [upM]) dX8_undo_31 rfl ?_
    refine g_ald0 (pc' := 35) dX8_undo_34 rfl ?_
    refine g_getR (pc' := 38) xg.s0 (by decide) fX8_38 xg.r0_6 dX8_undo_35 rfl ?_
    refine g_getR (pc' := 41) hg.s18 (by decide) fX8_317 hg.r18_2 dX8_undo_38 rfl ?_
    refine g_ald0 (pc' := 42) dX8_undo_41 rfl ?_
    refine g_getR (pc' := 45) xg.s0 (by decide) fX8_38 xg.r0_6 dX8_undo_42 rfl ?_
    refine g_getI (pc' := 48) hg.s18 (by decide) fX8_314 (v := nI t) (by simp [upM]) dX8_undo_45 rfl ?_
    refine g_iald (pc' := 49) (j := t) hg.s21 rfl (by omega) (by decide) (v := I (21, 0) t) (by simp [upM]) dX8_undo_48 rfl ?_
    refine g_callV (pc' := 52) (c_apply l xg sg (by simp [upM, hn]) hN (by simp [upM, hm]) hM hR hW hg (t := t) (by omega) rfl rfl _) xg.s0 (by decide) wX8_apply lX8_320 rfl rfl (Nat.le_of_ble_eq_true rfl) ⟨Nat.le_of_ble_eq_true rfl, Nat.le_of_ble_eq_true rfl⟩ ⟨Nat.le_of_ble_eq_true rfl, Nat.le_of_ble_eq_true rfl⟩ dX8_undo_49 rfl (kV (fun J hJ => ?_))
    have hJ18 : J (18, 0) 4 = nI t := by rw [hJ, appI_18, upM_s]
    refine g_ald0 (pc' := 53) dX8_undo_52 rfl ?_
    refine g_getR (pc' := 56) xg.s0 (by decide) fX8_38 xg.r0_6 dX8_undo_53 rfl ?_
    refine g_getI (pc' := 59) hg.s18 (by decide) fX8_314 hJ18 dX8_undo_56 rfl ?_
    refine g_iret rfl dX8_undo_59 ?_
    exact eI ⟨rfl, hJ⟩
  · exact absurd h7 (by omega)

theorem c_redoE (l : Launch) {S : Shp} {I : MI} {L : ML} {R : MR} (xg : XG S R) (hg : HG S R) {t z : Nat} (hd : I (18, 0) 4 = nI t) (hz : I (18, 0) 5 = nI z) (ht : t ≤ 40) (hz4 : z ≤ 40) (hge : z ≤ t) : Ct l mX8_redo 3 0 0 [.inr (.inr (some (0, 0)))] S I L R (PIp S I L R (-5)) := by
  refine Ct.of [some (.inr (.inr (some (0, 0))))] (by decide) rfl (Nat.le_of_ble_eq_true rfl) ?_
  refine g_ald0 (pc' := 1) dX8_redo_0 rfl ?_
  refine g_getR (pc' := 4) xg.s0 (by decide) fX8_38 xg.r0_6 dX8_redo_1 rfl ?_
  refine g_getI (pc' := 7) hg.s18 (by decide) fX8_314 hd dX8_redo_4 rfl ?_
  refine g_ald0 (pc' := 8) dX8_redo_7 rfl ?_
  refine g_getR (pc' := 11) xg.s0 (by decide) fX8_38 xg.r0_6 dX8_redo_8 rfl ?_
  refine g_getI (pc' := 14) hg.s18 (by decide) fX8_324 hz dX8_redo_11 rfl ?_
  refine g_icmpltN (pc' := 17) (by omega) (by omega) (tgt := 20) dX8_redo_14 (by decide) rfl (fun h14 => ?_) (fun h14 => ?_)
  · exact absurd h14 (by omega)
  · refine g_bipush (pc' := 19) (v := (-5)) dX8_redo_17 rfl (by decide) ?_
    refine g_iret rfl dX8_redo_19 ?_
    exact eIp rfl

theorem c_redoS (l : Launch) {S : Shp} {I : MI} {L : ML} {R : MR} (xg : XG S R) (sg : SG S R) {n : Nat} (hn : I (1, 0) 1 = nI n) (hN : n ≤ 12) {m : Nat} (hm : I (0, 0) 5 = nI m) (hM : m ≤ 9) (hR : ∀ k, k < m → R (10, 0) k = some (11, k)) (hW : ∀ k, k < m → WG k S R) (hg : HG S R) {t z : Nat} (hd : I (18, 0) 4 = nI t) (hz : I (18, 0) 5 = nI z) (hz4 : z ≤ 40) (hlt : t < z) : Ct l mX8_redo 3 0 0 [.inr (.inr (some (0, 0)))] S I L R (PIm S L R (fun v J => v = nI (z - (t + 1)) ∧ J = appI (upM I (18, 0) 4 (nI (t + 1))) n m (I (19, 0) t) (I (20, 0) t) (I (22, 0) t))) := by
  refine Ct.of [some (.inr (.inr (some (0, 0))))] (by decide) rfl (Nat.le_of_ble_eq_true rfl) ?_
  refine g_ald0 (pc' := 1) dX8_redo_0 rfl ?_
  refine g_getR (pc' := 4) xg.s0 (by decide) fX8_38 xg.r0_6 dX8_redo_1 rfl ?_
  refine g_getI (pc' := 7) hg.s18 (by decide) fX8_314 hd dX8_redo_4 rfl ?_
  refine g_ald0 (pc' := 8) dX8_redo_7 rfl ?_
  refine g_getR (pc' := 11) xg.s0 (by decide) fX8_38 xg.r0_6 dX8_redo_8 rfl ?_
  refine g_getI (pc' := 14) hg.s18 (by decide) fX8_324 hz dX8_redo_11 rfl ?_
  refine g_icmpltN (pc' := 17) (by omega) (by omega) (tgt := 20) dX8_redo_14 (by decide) rfl (fun h14 => ?_) (fun h14 => ?_)
  · refine g_ald0 (pc' := 21) dX8_redo_20 rfl ?_
    refine g_getR (pc' := 24) xg.s0 (by decide) fX8_38 xg.r0_6 dX8_redo_21 rfl ?_
    refine g_dupR (pc' := 25) dX8_redo_24 rfl ?_
    refine g_getI (pc' := 28) hg.s18 (by decide) fX8_314 hd dX8_redo_25 rfl ?_
    refine g_iconst (pc' := 29) (v := nI 1) dX8_redo_28 rfl (by decide) ?_
    refine g_iaddN (pc' := 30) dX8_redo_29 rfl ?_
    refine g_putI (pc' := 33) hg.s18 (by decide) ⟨fX8_314, rfl, pI⟩ dX8_redo_30 rfl ?_
    refine g_ald0 (pc' := 34) dX8_redo_33 rfl ?_
    refine g_ald0 (pc' := 35) dX8_redo_34 rfl ?_
    refine g_getR (pc' := 38) xg.s0 (by decide) fX8_38 xg.r0_6 dX8_redo_35 rfl ?_
    refine g_getI (pc' := 41) hg.s18 (by decide) fX8_314 (v := nI (t + 1)) (by simp [upM]) dX8_redo_38 rfl ?_
    refine g_iconst (pc' := 42) (v := nI 1) dX8_redo_41 rfl (by decide) ?_
    refine g_isub (pc' := 43) dX8_redo_42 rfl ?_
    refine g_topi (v := nI t) (pk_sub (by omega)) ?_
    refine g_ald0 (pc' := 44) dX8_redo_43 rfl ?_
    refine g_getR (pc' := 47) xg.s0 (by decide) fX8_38 xg.r0_6 dX8_redo_44 rfl ?_
    refine g_getR (pc' := 50) hg.s18 (by decide) fX8_325 hg.r18_3 dX8_redo_47 rfl ?_
    refine g_ald0 (pc' := 51) dX8_redo_50 rfl ?_
    refine g_getR (pc' := 54) xg.s0 (by decide) fX8_38 xg.r0_6 dX8_redo_51 rfl ?_
    refine g_getI (pc' := 57) hg.s18 (by decide) fX8_314 (v := nI (t + 1)) (by simp [upM]) dX8_redo_54 rfl ?_
    refine g_iconst (pc' := 58) (v := nI 1) dX8_redo_57 rfl (by decide) ?_
    refine g_isub (pc' := 59) dX8_redo_58 rfl ?_
    refine g_topi (v := nI t) (pk_sub (by omega)) ?_
    refine g_iald (pc' := 60) (j := t) hg.s22 rfl (by omega) (by decide) (v := I (22, 0) t) (by simp [upM]) dX8_redo_59 rfl ?_
    refine g_callV (pc' := 63) (c_apply l xg sg (by simp [upM, hn]) hN (by simp [upM, hm]) hM hR hW hg (t := t) (by omega) rfl rfl _) xg.s0 (by decide) wX8_apply lX8_320 rfl rfl (Nat.le_of_ble_eq_true rfl) ⟨Nat.le_of_ble_eq_true rfl, Nat.le_of_ble_eq_true rfl⟩ ⟨Nat.le_of_ble_eq_true rfl, Nat.le_of_ble_eq_true rfl⟩ dX8_redo_60 rfl (kV (fun J hJ => ?_))
    have hJ18 : J (18, 0) 4 = nI (t + 1) := by rw [hJ, appI_18, upM_s]
    have hJ5 : J (18, 0) 5 = nI z := by rw [hJ, appI_18, upM_k _ _ (by decide), hz]
    refine g_ald0 (pc' := 64) dX8_redo_63 rfl ?_
    refine g_getR (pc' := 67) xg.s0 (by decide) fX8_38 xg.r0_6 dX8_redo_64 rfl ?_
    refine g_getI (pc' := 70) hg.s18 (by decide) fX8_324 hJ5 dX8_redo_67 rfl ?_
    refine g_ald0 (pc' := 71) dX8_redo_70 rfl ?_
    refine g_getR (pc' := 74) xg.s0 (by decide) fX8_38 xg.r0_6 dX8_redo_71 rfl ?_
    refine g_getI (pc' := 77) hg.s18 (by decide) fX8_314 hJ18 dX8_redo_74 rfl ?_
    refine g_isubN (pc' := 78) (by omega) dX8_redo_77 rfl ?_
    refine g_iret rfl dX8_redo_78 ?_
    exact eI ⟨rfl, hJ⟩
  · exact absurd h14 (by omega)

theorem c_oddsN (l : Launch) {S : Shp} {I : MI} {L : ML} {R : MR} (xg : XG S R) {m : Nat} {x : Int32} (hm : I (0, 0) 5 = nI m) (hx : inb x m = false) (y0 : Int32) (y1 : Int32) (y2 : Int32) : Ct l mX8_odds 2 0 0 [.inr (.inr (some (0, 0))), .inl x, .inl y0, .inl y1, .inl y2] S I L R (PIp S I L R (-1)) := by
  refine Ct.of [some (.inr (.inr (some (0, 0)))), some (.inl x), some (.inl y0), some (.inl y1), some (.inl y2), none] (by decide) rfl (Nat.le_of_ble_eq_true rfl) ?_
  refine g_ald0 (pc' := 1) dX8_odds_0 rfl ?_
  refine g_ild1 (pc' := 2) dX8_odds_1 rfl ?_
  refine g_callV (pc' := 5) (c_worldOfN l xg hm hx) xg.s0 (by decide) wX8_worldOf lX8_147 rfl rfl (Nat.le_of_ble_eq_true rfl) ⟨Nat.le_of_ble_eq_true rfl, Nat.le_of_ble_eq_true rfl⟩ ⟨Nat.le_of_ble_eq_true rfl, Nat.le_of_ble_eq_true rfl⟩ dX8_odds_2 rfl (kRp ?_)
  refine g_ast5 (pc' := 7) rfl (by decide) dX8_odds_5 rfl ?_
  refine g_ald5 (pc' := 9) dX8_odds_7 rfl ?_
  refine g_ifnullT (tgt := 44) dX8_odds_9 (by decide) ?_
  refine g_iconst (pc' := 45) (v := (-1)) dX8_odds_44 rfl (by decide) ?_
  refine g_iret rfl dX8_odds_45 ?_
  exact eIp rfl

theorem c_oddsB (l : Launch) {S : Shp} {I : MI} {L : ML} {R : MR} (xg : XG S R) (sg : SG S R) {n : Nat} (hn : I (1, 0) 1 = nI n) (hN : n ≤ 12) {m j : Nat} (hm : I (0, 0) 5 = nI m) (hj : j < m) (hM : m ≤ 9) (hR : R (10, 0) j = some (11, j)) (wg : WG j S R) {y z w : Int32} (hb : inb y n = false ∨ z < 0 ∨ nI 6 < z ∨ w < 0 ∨ nI 1 < w) : Ct l mX8_odds 2 0 0 [.inr (.inr (some (0, 0))), .inl (nI j), .inl y, .inl z, .inl w] S I L R (PIp S I L R (-1)) := by
  refine Ct.of [some (.inr (.inr (some (0, 0)))), some (.inl (nI j)), some (.inl y), some (.inl z), some (.inl w), none] (by decide) rfl (Nat.le_of_ble_eq_true rfl) ?_
  refine g_ald0 (pc' := 1) dX8_odds_0 rfl ?_
  refine g_ild1 (pc' := 2) dX8_odds_1 rfl ?_
  refine g_callV (pc' := 5) (c_worldOfS l xg hm hj hM hR) xg.s0 (by decide) wX8_worldOf lX8_147 rfl rfl (Nat.le_of_ble_eq_true rfl) ⟨Nat.le_of_ble_eq_true rfl, Nat.le_of_ble_eq_true rfl⟩ ⟨Nat.le_of_ble_eq_true rfl, Nat.le_of_ble_eq_true rfl⟩ dX8_odds_2 rfl (kRp ?_)
  refine g_ast5 (pc' := 7) rfl (by decide) dX8_odds_5 rfl ?_
  refine g_ald5 (pc' := 9) dX8_odds_7 rfl ?_
  refine g_ifnullF (pc' := 12) dX8_odds_9 rfl ?_
  refine g_ald0 (pc' := 13) dX8_odds_12 rfl ?_
  refine g_getR (pc' := 16) xg.s0 (by decide) fX8_10 xg.r0_0 dX8_odds_13 rfl ?_
  refine g_ild2 (pc' := 17) dX8_odds_16 rfl ?_
  refine g_callV (pc' := 20) (c_has l sg hn hN y) sg.s1 (by decide) wX5_has lX8_95 rfl rfl (Nat.le_of_ble_eq_true rfl) ⟨Nat.le_of_ble_eq_true rfl, Nat.le_of_ble_eq_true rfl⟩ ⟨Nat.le_of_ble_eq_true rfl, Nat.le_of_ble_eq_true rfl⟩ dX8_odds_17 rfl (kIp ?_)
  refine g_ifeqB (pc' := 23) (tgt := 44) dX8_odds_20 (by decide) rfl (fun h20 => ?_) (fun h20 => ?_)
  · refine g_iconst (pc' := 45) (v := (-1)) dX8_odds_44 rfl (by decide) ?_
    refine g_iret rfl dX8_odds_45 ?_
    exact eIp rfl
  · refine g_ild3 (pc' := 24) dX8_odds_23 rfl ?_
    refine g_iflt (pc' := 27) (tgt := 44) dX8_odds_24 (by decide) rfl (fun h24 => ?_) (fun h24 => ?_)
    · refine g_iconst (pc' := 45) (v := (-1)) dX8_odds_44 rfl (by decide) ?_
      refine g_iret rfl dX8_odds_45 ?_
      exact eIp rfl
    · refine g_ild3 (pc' := 28) dX8_odds_27 rfl ?_
      refine g_bipush (pc' := 30) (v := nI 6) dX8_odds_28 rfl (by decide) ?_
      refine g_icmpgt (pc' := 33) (tgt := 44) dX8_odds_30 (by decide) rfl (fun h30 => ?_) (fun h30 => ?_)
      · refine g_iconst (pc' := 45) (v := (-1)) dX8_odds_44 rfl (by decide) ?_
        refine g_iret rfl dX8_odds_45 ?_
        exact eIp rfl
      · refine g_ild4 (pc' := 35) dX8_odds_33 rfl ?_
        refine g_iflt (pc' := 38) (tgt := 44) dX8_odds_35 (by decide) rfl (fun h35 => ?_) (fun h35 => ?_)
        · refine g_iconst (pc' := 45) (v := (-1)) dX8_odds_44 rfl (by decide) ?_
          refine g_iret rfl dX8_odds_45 ?_
          exact eIp rfl
        · refine g_ild4 (pc' := 40) dX8_odds_38 rfl ?_
          refine g_iconst (pc' := 41) (v := nI 1) dX8_odds_40 rfl (by decide) ?_
          refine g_icmple (pc' := 44) (tgt := 46) dX8_odds_41 (by decide) rfl (fun h41 => ?_) (fun h41 => ?_)
          · exfalso
            rcases hb with h | h | h | h | h
            · rw [h] at h20; cases h20
            · exact h24 h
            · exact h30 h
            · exact h35 h
            · exact absurd h41 (Int32.not_le.mpr h)
          · refine g_iconst (pc' := 45) (v := (-1)) dX8_odds_44 rfl (by decide) ?_
            refine g_iret rfl dX8_odds_45 ?_
            exact eIp rfl

theorem c_oddsG (l : Launch) {S : Shp} {I : MI} {L : ML} {R : MR} (xg : XG S R) (sg : SG S R) {n : Nat} (hn : I (1, 0) 1 = nI n) (hN : n ≤ 12) {m j : Nat} (hm : I (0, 0) 5 = nI m) (hj : j < m) (hM : m ≤ 9) (hR : R (10, 0) j = some (11, j)) (wg : WG j S R) {s p w : Nat} (hs : s < n) (hp : p ≤ 6) (hw : w ≤ 1) (hbig : 4 < n) : Ct l mX8_odds 2 0 0 [.inr (.inr (some (0, 0))), .inl (nI j), .inl (nI s), .inl (nI p), .inl (nI w)] S I L R (PIp S I L R (-4)) := by
  refine Ct.of [some (.inr (.inr (some (0, 0)))), some (.inl (nI j)), some (.inl (nI s)), some (.inl (nI p)), some (.inl (nI w)), none] (by decide) rfl (Nat.le_of_ble_eq_true rfl) ?_
  refine g_ald0 (pc' := 1) dX8_odds_0 rfl ?_
  refine g_ild1 (pc' := 2) dX8_odds_1 rfl ?_
  refine g_callV (pc' := 5) (c_worldOfS l xg hm hj hM hR) xg.s0 (by decide) wX8_worldOf lX8_147 rfl rfl (Nat.le_of_ble_eq_true rfl) ⟨Nat.le_of_ble_eq_true rfl, Nat.le_of_ble_eq_true rfl⟩ ⟨Nat.le_of_ble_eq_true rfl, Nat.le_of_ble_eq_true rfl⟩ dX8_odds_2 rfl (kRp ?_)
  refine g_ast5 (pc' := 7) rfl (by decide) dX8_odds_5 rfl ?_
  refine g_ald5 (pc' := 9) dX8_odds_7 rfl ?_
  refine g_ifnullF (pc' := 12) dX8_odds_9 rfl ?_
  refine g_ald0 (pc' := 13) dX8_odds_12 rfl ?_
  refine g_getR (pc' := 16) xg.s0 (by decide) fX8_10 xg.r0_0 dX8_odds_13 rfl ?_
  refine g_ild2 (pc' := 17) dX8_odds_16 rfl ?_
  refine g_callV (pc' := 20) (c_has l sg hn hN (nI s)) sg.s1 (by decide) wX5_has lX8_95 rfl rfl (Nat.le_of_ble_eq_true rfl) ⟨Nat.le_of_ble_eq_true rfl, Nat.le_of_ble_eq_true rfl⟩ ⟨Nat.le_of_ble_eq_true rfl, Nat.le_of_ble_eq_true rfl⟩ dX8_odds_17 rfl (kIp ?_)
  refine g_ifeqB (pc' := 23) (tgt := 44) dX8_odds_20 (by decide) rfl (fun h20 => (by first | exact absurd h20 (by rw [inb_nI (by omega) (by omega)]; simp [hs]) | exact absurd (by rw [inb_nI (by omega) (by omega)]; simp [hs]) h20)) (fun h20 => ?_)
  refine g_ild3 (pc' := 24) dX8_odds_23 rfl ?_
  refine g_ifltN (pc' := 27) (by omega) dX8_odds_24 rfl ?_
  refine g_ild3 (pc' := 28) dX8_odds_27 rfl ?_
  refine g_bipush (pc' := 30) (v := nI 6) dX8_odds_28 rfl (by decide) ?_
  refine g_icmpgtN (pc' := 33) (by omega) (by omega) (tgt := 44) dX8_odds_30 (by decide) rfl (fun h30 => ?_) (fun h30 => ?_)
  · exact absurd h30 (by omega)
  · refine g_ild4 (pc' := 35) dX8_odds_33 rfl ?_
    refine g_ifltN (pc' := 38) (by omega) dX8_odds_35 rfl ?_
    refine g_ild4 (pc' := 40) dX8_odds_38 rfl ?_
    refine g_iconst (pc' := 41) (v := nI 1) dX8_odds_40 rfl (by decide) ?_
    refine g_icmpleN (pc' := 44) (by omega) (by omega) (tgt := 46) dX8_odds_41 (by decide) rfl (fun h41 => ?_) (fun h41 => ?_)
    · refine g_ald0 (pc' := 47) dX8_odds_46 rfl ?_
      refine g_getR (pc' := 50) xg.s0 (by decide) fX8_10 xg.r0_0 dX8_odds_47 rfl ?_
      refine g_getI (pc' := 53) sg.s1 (by decide) fX8_88 hn dX8_odds_50 rfl ?_
      refine g_iconst (pc' := 54) (v := nI 4) dX8_odds_53 rfl (by decide) ?_
      refine g_icmpleN (pc' := 57) (by omega) (by omega) (tgt := 60) dX8_odds_54 (by decide) rfl (fun h54 => ?_) (fun h54 => ?_)
      · exact absurd h54 (by omega)
      · refine g_bipush (pc' := 59) (v := (-4)) dX8_odds_57 rfl (by decide) ?_
        refine g_iret rfl dX8_odds_59 ?_
        exact eIp rfl
    · exact absurd h41 (by omega)

theorem c_oddsS (l : Launch) {S : Shp} {I : MI} {L : ML} {R : MR} (xg : XG S R) (sg : SG S R) {n : Nat} (hn : I (1, 0) 1 = nI n) (hN : n ≤ 12) {m j : Nat} (hm : I (0, 0) 5 = nI m) (hj : j < m) (hM : m ≤ 9) (hR : R (10, 0) j = some (11, j)) (wg : WG j S R) (og : OG S R) (wg9 : WG 9 S R) (st : ST I) {lj len : Nat} {cd : Nat → Nat × Nat} (lg : LG lj len S R) (hLk : R (11, j) 1 = some (7, lj)) (hv : LV I lj len cd) {s p w : Nat} (hs : s < n) (hp : p ≤ 6) (hw : w ≤ 1) (hn4 : n ≤ 4) : Ct l mX8_odds 7 0 0 [.inr (.inr (some (0, 0))), .inl (nI j), .inl (nI s), .inl (nI p), .inl (nI w)] S I L R (PIl S (upM R (11, 9) 1 (some (7, lj))) (fun r J L2 => r = (odF cd len n (folI I 9 j) j p (nI w) s p (0, 0, 0, 0)).toInt32 ∧ Fr (foP lj) I J ∧ ∀ t, t ≠ (30, 0) → L2 t = L t)) := by
  refine Ct.of [some (.inr (.inr (some (0, 0)))), some (.inl (nI j)), some (.inl (nI s)), some (.inl (nI p)), some (.inl (nI w)), none] (by decide) rfl (Nat.le_of_ble_eq_true rfl) ?_
  refine g_ald0 (pc' := 1) dX8_odds_0 rfl ?_
  refine g_ild1 (pc' := 2) dX8_odds_1 rfl ?_
  refine g_callV (pc' := 5) (c_worldOfS l xg hm hj hM hR) xg.s0 (by decide) wX8_worldOf lX8_147 rfl rfl (Nat.le_of_ble_eq_true rfl) ⟨Nat.le_of_ble_eq_true rfl, Nat.le_of_ble_eq_true rfl⟩ ⟨Nat.le_of_ble_eq_true rfl, Nat.le_of_ble_eq_true rfl⟩ dX8_odds_2 rfl (kRp ?_)
  refine g_ast5 (pc' := 7) rfl (by decide) dX8_odds_5 rfl ?_
  refine g_ald5 (pc' := 9) dX8_odds_7 rfl ?_
  refine g_ifnullF (pc' := 12) dX8_odds_9 rfl ?_
  refine g_ald0 (pc' := 13) dX8_odds_12 rfl ?_
  refine g_getR (pc' := 16) xg.s0 (by decide) fX8_10 xg.r0_0 dX8_odds_13 rfl ?_
  refine g_ild2 (pc' := 17) dX8_odds_16 rfl ?_
  refine g_callV (pc' := 20) (c_has l sg hn hN (nI s)) sg.s1 (by decide) wX5_has lX8_95 rfl rfl (Nat.le_of_ble_eq_true rfl) ⟨Nat.le_of_ble_eq_true rfl, Nat.le_of_ble_eq_true rfl⟩ ⟨Nat.le_of_ble_eq_true rfl, Nat.le_of_ble_eq_true rfl⟩ dX8_odds_17 rfl (kIp ?_)
  refine g_ifeqB (pc' := 23) (tgt := 44) dX8_odds_20 (by decide) rfl (fun h20 => (by first | exact absurd h20 (by rw [inb_nI (by omega) (by omega)]; simp [hs]) | exact absurd (by rw [inb_nI (by omega) (by omega)]; simp [hs]) h20)) (fun h20 => ?_)
  refine g_ild3 (pc' := 24) dX8_odds_23 rfl ?_
  refine g_ifltN (pc' := 27) (by omega) dX8_odds_24 rfl ?_
  refine g_ild3 (pc' := 28) dX8_odds_27 rfl ?_
  refine g_bipush (pc' := 30) (v := nI 6) dX8_odds_28 rfl (by decide) ?_
  refine g_icmpgtN (pc' := 33) (by omega) (by omega) (tgt := 44) dX8_odds_30 (by decide) rfl (fun h30 => ?_) (fun h30 => ?_)
  · exact absurd h30 (by omega)
  · refine g_ild4 (pc' := 35) dX8_odds_33 rfl ?_
    refine g_ifltN (pc' := 38) (by omega) dX8_odds_35 rfl ?_
    refine g_ild4 (pc' := 40) dX8_odds_38 rfl ?_
    refine g_iconst (pc' := 41) (v := nI 1) dX8_odds_40 rfl (by decide) ?_
    refine g_icmpleN (pc' := 44) (by omega) (by omega) (tgt := 46) dX8_odds_41 (by decide) rfl (fun h41 => ?_) (fun h41 => ?_)
    · refine g_ald0 (pc' := 47) dX8_odds_46 rfl ?_
      refine g_getR (pc' := 50) xg.s0 (by decide) fX8_10 xg.r0_0 dX8_odds_47 rfl ?_
      refine g_getI (pc' := 53) sg.s1 (by decide) fX8_88 hn dX8_odds_50 rfl ?_
      refine g_iconst (pc' := 54) (v := nI 4) dX8_odds_53 rfl (by decide) ?_
      refine g_icmpleN (pc' := 57) (by omega) (by omega) (tgt := 60) dX8_odds_54 (by decide) rfl (fun h54 => ?_) (fun h54 => ?_)
      · refine g_ald0 (pc' := 61) dX8_odds_60 rfl ?_
        refine g_getR (pc' := 64) xg.s0 (by decide) fX8_70 xg.r0_11 dX8_odds_61 rfl ?_
        refine g_ald5 (pc' := 66) dX8_odds_64 rfl ?_
        refine g_ild2 (pc' := 67) dX8_odds_66 rfl ?_
        refine g_ild3 (pc' := 68) dX8_odds_67 rfl ?_
        refine g_ild4 (pc' := 70) dX8_odds_68 rfl ?_
        refine g_callV (pc' := 73) (c_foretell l og sg wg9 wg (by omega) hn hn4 hs hp st lg hLk hv) og.s29 (by decide) wX3_foretell lX8_234 rfl rfl (Nat.le_of_ble_eq_true rfl) ⟨Nat.le_of_ble_eq_true rfl, Nat.le_of_ble_eq_true rfl⟩ ⟨Nat.le_of_ble_eq_true rfl, Nat.le_of_ble_eq_true rfl⟩ dX8_odds_70 rfl ?_
        rintro r S' J L' R' ⟨v, rfl, rfl, rfl, hq⟩ _
        refine g_iret rfl dX8_odds_73 ?_
        exact ⟨v, rfl, rfl, rfl, hq⟩
      · exact absurd h54 (by omega)
    · exact absurd h41 (by omega)

theorem c_afterN (l : Launch) {S : Shp} {I : MI} {L : ML} {R : MR} (xg : XG S R) {m : Nat} {x : Int32} (hm : I (0, 0) 5 = nI m) (hx : inb x m = false) : Ct l mX8_after 2 0 0 [.inr (.inr (some (0, 0))), .inl x] S I L R (PIp S I L R (-1)) := by
  refine Ct.of [some (.inr (.inr (some (0, 0)))), some (.inl x), none] (by decide) rfl (Nat.le_of_ble_eq_true rfl) ?_
  refine g_ald0 (pc' := 1) dX8_after_0 rfl ?_
  refine g_ild1 (pc' := 2) dX8_after_1 rfl ?_
  refine g_callV (pc' := 5) (c_worldOfN l xg hm hx) xg.s0 (by decide) wX8_worldOf lX8_147 rfl rfl (Nat.le_of_ble_eq_true rfl) ⟨Nat.le_of_ble_eq_true rfl, Nat.le_of_ble_eq_true rfl⟩ ⟨Nat.le_of_ble_eq_true rfl, Nat.le_of_ble_eq_true rfl⟩ dX8_after_2 rfl (kRp ?_)
  refine g_ast2 (pc' := 6) rfl (by decide) dX8_after_5 rfl ?_
  refine g_ald2 (pc' := 7) dX8_after_6 rfl ?_
  refine g_ifnonnullF (pc' := 10) dX8_after_7 rfl ?_
  refine g_iconst (pc' := 11) (v := (-1)) dX8_after_10 rfl (by decide) ?_
  refine g_iret rfl dX8_after_11 ?_
  exact eIp rfl

theorem c_afterE (l : Launch) {S : Shp} {I : MI} {L : ML} {R : MR} (xg : XG S R) {m j : Nat} (hm : I (0, 0) 5 = nI m) (hj : j < m) (hM : m ≤ 9) (hR : R (10, 0) j = some (11, j)) (wg : WG j S R) {ke : Nat} (hke : I (11, j) 8 = nI ke) (hk : ke < 2 ^ 30) (hb : ke = 0 ∨ 200 < ke) : Ct l mX8_after 2 0 0 [.inr (.inr (some (0, 0))), .inl (nI j)] S I L R (PIp S I L R (if ke = 0 then -2 else -5)) := by
  refine Ct.of [some (.inr (.inr (some (0, 0)))), some (.inl (nI j)), none] (by decide) rfl (Nat.le_of_ble_eq_true rfl) ?_
  refine g_ald0 (pc' := 1) dX8_after_0 rfl ?_
  refine g_ild1 (pc' := 2) dX8_after_1 rfl ?_
  refine g_callV (pc' := 5) (c_worldOfS l xg hm hj hM hR) xg.s0 (by decide) wX8_worldOf lX8_147 rfl rfl (Nat.le_of_ble_eq_true rfl) ⟨Nat.le_of_ble_eq_true rfl, Nat.le_of_ble_eq_true rfl⟩ ⟨Nat.le_of_ble_eq_true rfl, Nat.le_of_ble_eq_true rfl⟩ dX8_after_2 rfl (kRp ?_)
  refine g_ast2 (pc' := 6) rfl (by decide) dX8_after_5 rfl ?_
  refine g_ald2 (pc' := 7) dX8_after_6 rfl ?_
  refine g_ifnonnullT (tgt := 12) dX8_after_7 (by decide) ?_
  refine g_ald2 (pc' := 13) dX8_after_12 rfl ?_
  refine g_getI (pc' := 16) wg.s11 (by decide) fX8_158 hke dX8_after_13 rfl ?_
  refine g_ifneN (pc' := 19) (by omega) (tgt := 22) dX8_after_16 (by decide) rfl (fun h16 => ?_) (fun h16 => ?_)
  · refine g_ald2 (pc' := 23) dX8_after_22 rfl ?_
    refine g_getI (pc' := 26) wg.s11 (by decide) fX8_158 hke dX8_after_23 rfl ?_
    refine g_sipush (pc' := 29) (v := nI 200) dX8_after_26 rfl (by decide) ?_
    refine g_icmpleN (pc' := 32) (by omega) (by omega) (tgt := 35) dX8_after_29 (by decide) rfl (fun h29 => ?_) (fun h29 => ?_)
    · exact absurd hb (by omega)
    · refine g_bipush (pc' := 34) (v := (-5)) dX8_after_32 rfl (by decide) ?_
      refine g_iret rfl dX8_after_34 ?_
      exact eIp (by rw [if_neg (by omega)])
  · refine g_bipush (pc' := 21) (v := (-2)) dX8_after_19 rfl (by decide) ?_
    refine g_iret rfl dX8_after_21 ?_
    exact eIp (by rw [if_pos (by omega)])

theorem c_afterS (l : Launch) {S : Shp} {I : MI} {L : ML} {R : MR} (xg : XG S R) (sg : SG S R) {n : Nat} (hn : I (1, 0) 1 = nI n) (hN : n ≤ 12) {m j : Nat} (hm : I (0, 0) 5 = nI m) (hj : j < m) (hM : m ≤ 9) (hR : R (10, 0) j = some (11, j)) (wg : WG j S R) {ke : Nat} (hke : I (11, j) 8 = nI ke) (hk : ke < 2 ^ 30) (h0 : 0 < ke) (h2 : ke ≤ 200) {lg : Nat → Nat} (hlg : ∀ q, q < min ke 200 → I (16, j) q = nI (lg q) ∧ lg q < 12) : Ct l mX8_after 4 0 0 [.inr (.inr (some (0, 0))), .inl (nI j)] S I L R (PIm S L R (fun v J => v = nI (sinceN (fun q => grN (tallyN lg q) n) (grN (tallyN lg (min ke 200)) n) (min ke 200)) ∧ Fr (fun t _ => t = (33, 0)) I J)) := by
  refine Ct.of [some (.inr (.inr (some (0, 0)))), some (.inl (nI j)), none] (by decide) rfl (Nat.le_of_ble_eq_true rfl) ?_
  refine g_ald0 (pc' := 1) dX8_after_0 rfl ?_
  refine g_ild1 (pc' := 2) dX8_after_1 rfl ?_
  refine g_callV (pc' := 5) (c_worldOfS l xg hm hj hM hR) xg.s0 (by decide) wX8_worldOf lX8_147 rfl rfl (Nat.le_of_ble_eq_true rfl) ⟨Nat.le_of_ble_eq_true rfl, Nat.le_of_ble_eq_true rfl⟩ ⟨Nat.le_of_ble_eq_true rfl, Nat.le_of_ble_eq_true rfl⟩ dX8_after_2 rfl (kRp ?_)
  refine g_ast2 (pc' := 6) rfl (by decide) dX8_after_5 rfl ?_
  refine g_ald2 (pc' := 7) dX8_after_6 rfl ?_
  refine g_ifnonnullT (tgt := 12) dX8_after_7 (by decide) ?_
  refine g_ald2 (pc' := 13) dX8_after_12 rfl ?_
  refine g_getI (pc' := 16) wg.s11 (by decide) fX8_158 hke dX8_after_13 rfl ?_
  refine g_ifneN (pc' := 19) (by omega) (tgt := 22) dX8_after_16 (by decide) rfl (fun h16 => ?_) (fun h16 => ?_)
  · refine g_ald2 (pc' := 23) dX8_after_22 rfl ?_
    refine g_getI (pc' := 26) wg.s11 (by decide) fX8_158 hke dX8_after_23 rfl ?_
    refine g_sipush (pc' := 29) (v := nI 200) dX8_after_26 rfl (by decide) ?_
    refine g_icmpleN (pc' := 32) (by omega) (by omega) (tgt := 35) dX8_after_29 (by decide) rfl (fun h29 => ?_) (fun h29 => ?_)
    · refine g_ald2 (pc' := 36) dX8_after_35 rfl ?_
      refine g_ald0 (pc' := 37) dX8_after_36 rfl ?_
      refine g_getR (pc' := 40) xg.s0 (by decide) fX8_78 xg.r0_13 dX8_after_37 rfl ?_
      refine g_callV (pc' := 43) (c_settled l sg wg hn hN xg.s33 (by simp) hke hk hlg) wg.s11 (by decide) wX7_settled lX8_238 rfl rfl (Nat.le_of_ble_eq_true rfl) ⟨Nat.le_of_ble_eq_true rfl, Nat.le_of_ble_eq_true rfl⟩ ⟨Nat.le_of_ble_eq_true rfl, Nat.le_of_ble_eq_true rfl⟩ dX8_after_40 rfl (kI (fun v J hq => ?_))
      refine g_iret rfl dX8_after_43 ?_
      exact eI hq
    · exact absurd h29 (by omega)
  · exact absurd h16 (by omega)

theorem sumN_congr {f g : Nat → Int32} : ∀ {n : Nat}, (∀ q, q < n → f q = g q) → sumN f n = sumN g n
  | 0, _ => rfl
  | n + 1, h => by
    simp only [sumN]
    rw [sumN_congr (n := n) (fun q hq => h q (by omega)), h n (by omega)]
theorem insP_congr {f g : Nat → Int32} {o : Nat → Nat} {s : Nat} (ho : ∀ p, p < s → o p < s) (h : ∀ q, q < s + 1 → f q = g q) : ∀ a, a ≤ s → insP f o s a = insP g o s a
  | 0, _ => rfl
  | a + 1, ha => by
    unfold insP
    rw [h (o a) (Nat.lt_succ_of_lt (ho a (by omega))), h s (by omega), insP_congr ho h a (by omega)]
theorem rkO_congr {f g : Nat → Int32} : ∀ {n : Nat}, (∀ q, q < n → f q = g q) → rkO f n = rkO g n
  | 0, _ => rfl
  | n + 1, h => by
    have ih := rkO_congr (n := n) (fun q hq => h q (by omega))
    funext p
    simp only [rkO]
    rw [ih, insP_congr (fun p hp => rkO_lt g n p hp) h n (Nat.le_refl _)]
def tldI (I : MI) (m s : Nat) : Int32 := sumN (fun i => I (11, i) 9 * I (12, i) s) m
theorem c_toldOf (l : Launch) {S : Shp} {I : MI} {L : ML} {R : MR} (xg : XG S R) {m : Nat} (hm : I (0, 0) 5 = nI m) (hM : m ≤ 9) (hR : ∀ k, k < m → R (10, 0) k = some (11, k)) (hW : ∀ k, k < m → WG k S R) {z : Nat} (hs : z < 12) : Ct l mX8_toldOf 2 0 0 [.inr (.inr (some (0, 0))), .inl (nI z)] S I L R (PIp S I L R (tldI I m z)) := by
  refine Ct.of [some (.inr (.inr (some (0, 0)))), some (.inl (nI z)), none, none, none] (by decide) rfl (Nat.le_of_ble_eq_true rfl) ?_
  refine g_iconst (pc' := 1) (v := nI 0) dX8_toldOf_0 rfl (by decide) ?_
  refine g_ist2 (pc' := 2) rfl (by decide) dX8_toldOf_1 rfl ?_
  refine g_iconst (pc' := 3) (v := nI 0) dX8_toldOf_2 rfl (by decide) ?_
  refine g_ist3 (pc' := 4) rfl (by decide) dX8_toldOf_3 rfl ?_
  refine g_loop (σ := Unit) (fun _ _ => True) (fun i s => [some (.inr (.inr (some (0, 0)))), some (.inl (nI z)), some (.inl (sumN (fun i => I (11, i) 9 * I (12, i) z) i)), some (.inl (nI i)), none]) (fun i s => I) (m) (0) (()) (by omega) (trivial) ?_ ?_
  · intro i s hi hP ih
    refine g_ild3 (pc' := 5) dX8_toldOf_4 rfl ?_
    refine g_ald0 (pc' := 6) dX8_toldOf_5 rfl ?_
    refine g_getI (pc' := 9) xg.s0 (by decide) fX8_128 hm dX8_toldOf_6 rfl ?_
    refine g_icmpgeN (pc' := 12) (by omega) (by omega) (tgt := 46) dX8_toldOf_9 (by decide) rfl (fun h9 => ?_) (fun h9 => ?_)
    · exact absurd h9 (by omega)
    · refine g_ald0 (pc' := 13) dX8_toldOf_12 rfl ?_
      refine g_ild3 (pc' := 14) dX8_toldOf_13 rfl ?_
      refine g_callV (pc' := 17) (c_worldOfS l xg hm hi hM (hR _ hi)) xg.s0 (by decide) wX8_worldOf lX8_147 rfl rfl (Nat.le_of_ble_eq_true rfl) ⟨Nat.le_of_ble_eq_true rfl, Nat.le_of_ble_eq_true rfl⟩ ⟨Nat.le_of_ble_eq_true rfl, Nat.le_of_ble_eq_true rfl⟩ dX8_toldOf_14 rfl (kRp ?_)
      refine g_ast4 (pc' := 19) rfl (by decide) dX8_toldOf_17 rfl ?_
      refine g_ald4 (pc' := 21) dX8_toldOf_19 rfl ?_
      refine g_ifnullF (pc' := 24) dX8_toldOf_21 rfl ?_
      refine g_ild2 (pc' := 25) dX8_toldOf_24 rfl ?_
      refine g_ald4 (pc' := 27) dX8_toldOf_25 rfl ?_
      refine g_getI (pc' := 30) (hW (i) (by omega)).s11 (by decide) fX8_242 rfl dX8_toldOf_27 rfl ?_
      refine g_ald4 (pc' := 32) dX8_toldOf_30 rfl ?_
      refine g_getR (pc' := 35) (hW (i) (by omega)).s11 (by decide) fX8_167 (hW (i) (by omega)).r11_10 dX8_toldOf_32 rfl ?_
      refine g_ild1 (pc' := 36) dX8_toldOf_35 rfl ?_
      refine g_iald (pc' := 37) (j := z) (hW (i) (by omega)).s12 rfl (by omega) (by decide) rfl dX8_toldOf_36 rfl ?_
      refine g_imul (pc' := 38) dX8_toldOf_37 rfl ?_
      refine g_iadd (pc' := 39) dX8_toldOf_38 rfl ?_
      refine g_ist2 (pc' := 40) rfl (by decide) dX8_toldOf_39 rfl ?_
      refine g_inc3 (pc' := 43) rfl (by decide) (v := nI (i + 1)) (nI_1 _) dX8_toldOf_40 rfl ?_
      refine g_goto (tgt := 4) dX8_toldOf_43 (by decide) ?_
      refine G.lsub [some (.inr (.inr (some (0, 0)))), some (.inl (nI z)), some (.inl ((sumN (fun i => I (11, i) 9 * I (12, i) z) i) + ((I (11, i) 9) * (I (12, i) z)))), some (.inl (nI (i + 1))), none] (by intro j v; rcases j with _ | _ | _ | _ | _ | j <;> simp) ?_
      exact ih () trivial
  · intro s hP
    refine g_ild3 (pc' := 5) dX8_toldOf_4 rfl ?_
    refine g_ald0 (pc' := 6) dX8_toldOf_5 rfl ?_
    refine g_getI (pc' := 9) xg.s0 (by decide) fX8_128 hm dX8_toldOf_6 rfl ?_
    refine g_icmpgeN (pc' := 12) (by omega) (by omega) (tgt := 46) dX8_toldOf_9 (by decide) rfl (fun h9 => ?_) (fun h9 => ?_)
    · refine g_ild2 (pc' := 47) dX8_toldOf_46 rfl ?_
      refine g_iret rfl dX8_toldOf_47 ?_
      exact eIp rfl
    · exact absurd h9 (by omega)

theorem c_chartB (l : Launch) {S : Shp} {I : MI} {L : ML} {R : MR} (xg : XG S R) (sg : SG S R) {n : Nat} (hn : I (1, 0) 1 = nI n) (hN : n ≤ 12) {y z : Int32} (hb : inb y n = false ∨ z < 0 ∨ nI 1 < z) : Ct l mX8_chart 2 0 0 [.inr (.inr (some (0, 0))), .inl y, .inl z] S I L R (PIp S I L R (-1)) := by
  refine Ct.of [some (.inr (.inr (some (0, 0)))), some (.inl y), some (.inl z), none] (by decide) rfl (Nat.le_of_ble_eq_true rfl) ?_
  refine g_ald0 (pc' := 1) dX8_chart_0 rfl ?_
  refine g_getR (pc' := 4) xg.s0 (by decide) fX8_10 xg.r0_0 dX8_chart_1 rfl ?_
  refine g_ild1 (pc' := 5) dX8_chart_4 rfl ?_
  refine g_callV (pc' := 8) (c_has l sg hn hN y) sg.s1 (by decide) wX5_has lX8_95 rfl rfl (Nat.le_of_ble_eq_true rfl) ⟨Nat.le_of_ble_eq_true rfl, Nat.le_of_ble_eq_true rfl⟩ ⟨Nat.le_of_ble_eq_true rfl, Nat.le_of_ble_eq_true rfl⟩ dX8_chart_5 rfl (kIp ?_)
  refine g_ifeqB (pc' := 11) (tgt := 20) dX8_chart_8 (by decide) rfl (fun h8 => ?_) (fun h8 => ?_)
  · refine g_iconst (pc' := 21) (v := (-1)) dX8_chart_20 rfl (by decide) ?_
    refine g_iret rfl dX8_chart_21 ?_
    exact eIp rfl
  · refine g_ild2 (pc' := 12) dX8_chart_11 rfl ?_
    refine g_iflt (pc' := 15) (tgt := 20) dX8_chart_12 (by decide) rfl (fun h12 => ?_) (fun h12 => ?_)
    · refine g_iconst (pc' := 21) (v := (-1)) dX8_chart_20 rfl (by decide) ?_
      refine g_iret rfl dX8_chart_21 ?_
      exact eIp rfl
    · refine g_ild2 (pc' := 16) dX8_chart_15 rfl ?_
      refine g_iconst (pc' := 17) (v := nI 1) dX8_chart_16 rfl (by decide) ?_
      refine g_icmple (pc' := 20) (tgt := 22) dX8_chart_17 (by decide) rfl (fun h17 => ?_) (fun h17 => ?_)
      · exfalso
        rcases hb with h | h | h
        · rw [h] at h8; cases h8
        · exact h12 h
        · exact absurd h17 (Int32.not_le.mpr h)
      · refine g_iconst (pc' := 21) (v := (-1)) dX8_chart_20 rfl (by decide) ?_
        refine g_iret rfl dX8_chart_21 ?_
        exact eIp rfl

def chV (I : MI) (n m s w : Nat) : Int32 := if w = 0 then nI (rkO (tldI I m) n s) else tldI I m (rkO (tldI I m) n s)
theorem c_chartS (l : Launch) {S : Shp} {I : MI} {L : ML} {R : MR} (xg : XG S R) (sg : SG S R) {n : Nat} (hn : I (1, 0) 1 = nI n) (hN : n ≤ 12) {m : Nat} (hm : I (0, 0) 5 = nI m) (hM : m ≤ 9) (hR : ∀ k, k < m → R (10, 0) k = some (11, k)) (hW : ∀ k, k < m → WG k S R) {s w : Nat} (hs : s < n) (hw : w ≤ 1) : Ct l mX8_chart 3 0 0 [.inr (.inr (some (0, 0))), .inl (nI s), .inl (nI w)] S I L R (PIm S L R (fun v J => v = chV I n m s w ∧ Fr (fun t _ => t = (33, 0) ∨ t = (34, 0)) I J)) := by
  refine Ct.of [some (.inr (.inr (some (0, 0)))), some (.inl (nI s)), some (.inl (nI w)), none] (by decide) rfl (Nat.le_of_ble_eq_true rfl) ?_
  refine g_ald0 (pc' := 1) dX8_chart_0 rfl ?_
  refine g_getR (pc' := 4) xg.s0 (by decide) fX8_10 xg.r0_0 dX8_chart_1 rfl ?_
  refine g_ild1 (pc' := 5) dX8_chart_4 rfl ?_
  refine g_callV (pc' := 8) (c_has l sg hn hN (nI s)) sg.s1 (by decide) wX5_has lX8_95 rfl rfl (Nat.le_of_ble_eq_true rfl) ⟨Nat.le_of_ble_eq_true rfl, Nat.le_of_ble_eq_true rfl⟩ ⟨Nat.le_of_ble_eq_true rfl, Nat.le_of_ble_eq_true rfl⟩ dX8_chart_5 rfl (kIp ?_)
  refine g_ifeqB (pc' := 11) (tgt := 20) dX8_chart_8 (by decide) rfl (fun h8 => (by first | exact absurd h8 (by rw [inb_nI (by omega) (by omega)]; simp [hs]) | exact absurd (by rw [inb_nI (by omega) (by omega)]; simp [hs]) h8)) (fun h8 => ?_)
  refine g_ild2 (pc' := 12) dX8_chart_11 rfl ?_
  refine g_ifltN (pc' := 15) (by omega) dX8_chart_12 rfl ?_
  refine g_ild2 (pc' := 16) dX8_chart_15 rfl ?_
  refine g_iconst (pc' := 17) (v := nI 1) dX8_chart_16 rfl (by decide) ?_
  refine g_icmpleN (pc' := 20) (by omega) (by omega) (tgt := 22) dX8_chart_17 (by decide) rfl (fun h17 => ?_) (fun h17 => ?_)
  · refine g_iconst (pc' := 23) (v := nI 0) dX8_chart_22 rfl (by decide) ?_
    refine g_ist3 (pc' := 24) rfl (by decide) dX8_chart_23 rfl ?_
    refine g_loop (σ := MI) (fun i (J : MI) => Fr (fun t _ => t = (33, 0)) I J ∧ ∀ q, q < i → J (33, 0) q = tldI I m q) (fun i J => [some (.inr (.inr (some (0, 0)))), some (.inl (nI s)), some (.inl (nI w)), some (.inl (nI i))]) (fun i J => J) n 0 I (by omega) ⟨Fr.rf, fun q hq => absurd hq (by omega)⟩ ?_ ?_
    · intro i J hi hP ih
      have hnJ : J (1, 0) 1 = nI n := (hP.1 _ _ (by simp)).trans hn
      refine g_ild3 (pc' := 25) dX8_chart_24 rfl ?_
      refine g_ald0 (pc' := 26) dX8_chart_25 rfl ?_
      refine g_getR (pc' := 29) xg.s0 (by decide) fX8_10 xg.r0_0 dX8_chart_26 rfl ?_
      refine g_getI (pc' := 32) sg.s1 (by decide) fX8_88 hnJ dX8_chart_29 rfl ?_
      refine g_icmpgeN (pc' := 35) (by omega) (by omega) (tgt := 52) dX8_chart_32 (by decide) rfl (fun h32 => ?_) (fun h32 => ?_)
      · exact absurd h32 (by omega)
      · refine g_ald0 (pc' := 36) dX8_chart_35 rfl ?_
        refine g_getR (pc' := 39) xg.s0 (by decide) fX8_78 xg.r0_13 dX8_chart_36 rfl ?_
        refine g_ild3 (pc' := 40) dX8_chart_39 rfl ?_
        refine g_ald0 (pc' := 41) dX8_chart_40 rfl ?_
        refine g_ild3 (pc' := 42) dX8_chart_41 rfl ?_
        refine g_callV (pc' := 45) (c_toldOf l xg (m := m) ((hP.1 _ _ (by simp)).trans hm) hM hR hW (z := i) (by omega)) xg.s0 (by decide) wX8_toldOf lX8_245 rfl rfl (Nat.le_of_ble_eq_true rfl) ⟨Nat.le_of_ble_eq_true rfl, Nat.le_of_ble_eq_true rfl⟩ ⟨Nat.le_of_ble_eq_true rfl, Nat.le_of_ble_eq_true rfl⟩ dX8_chart_42 rfl (kIp ?_)
        refine g_topi (v := tldI I m i) (by unfold tldI; exact sumN_congr (fun q hq => by rw [hP.1 (11, q) 9 (by simp), hP.1 (12, q) i (by simp)])) ?_
        refine g_iast (pc' := 46) (j := i) xg.s33 rfl (by omega) (by decide) dX8_chart_45 rfl ?_
        refine g_inc3 (pc' := 49) rfl (by decide) (v := nI (i + 1)) (nI_1 _) dX8_chart_46 rfl ?_
        refine g_goto (tgt := 24) dX8_chart_49 (by decide) ?_
        refine ih (upM J (33, 0) i (tldI I m i)) ⟨hP.1.up rfl, fun q hq => ?_⟩
        by_cases e : q = i
        · rw [e, upM_s]
        · rw [upM_k _ _ e]; exact hP.2 q (by omega)
    · intro J hP
      have hnJ : J (1, 0) 1 = nI n := (hP.1 _ _ (by simp)).trans hn
      refine g_ild3 (pc' := 25) dX8_chart_24 rfl ?_
      refine g_ald0 (pc' := 26) dX8_chart_25 rfl ?_
      refine g_getR (pc' := 29) xg.s0 (by decide) fX8_10 xg.r0_0 dX8_chart_26 rfl ?_
      refine g_getI (pc' := 32) sg.s1 (by decide) fX8_88 hnJ dX8_chart_29 rfl ?_
      refine g_icmpgeN (pc' := 35) (by omega) (by omega) (tgt := 52) dX8_chart_32 (by decide) rfl (fun h32 => ?_) (fun h32 => ?_)
      · refine g_ald0 (pc' := 53) dX8_chart_52 rfl ?_
        refine g_getR (pc' := 56) xg.s0 (by decide) fX8_78 xg.r0_13 dX8_chart_53 rfl ?_
        refine g_ald0 (pc' := 57) dX8_chart_56 rfl ?_
        refine g_getR (pc' := 60) xg.s0 (by decide) fX8_10 xg.r0_0 dX8_chart_57 rfl ?_
        refine g_getI (pc' := 63) sg.s1 (by decide) fX8_88 hnJ dX8_chart_60 rfl ?_
        refine g_ald0 (pc' := 64) dX8_chart_63 rfl ?_
        refine g_getR (pc' := 67) xg.s0 (by decide) fX8_81 xg.r0_14 dX8_chart_64 rfl ?_
        refine g_callS (pc' := 70) (c_rank l xg.s33 xg.s34 (by simp) hN) wX7_rank lX8_248 rfl rfl (Nat.le_of_ble_eq_true rfl) ⟨Nat.le_of_ble_eq_true rfl, Nat.le_of_ble_eq_true rfl⟩ ⟨Nat.le_of_ble_eq_true rfl, Nat.le_of_ble_eq_true rfl⟩ dX8_chart_67 rfl (kV (fun J2 hq2 => ?_))
        obtain ⟨hfr2, hrk⟩ := hq2
        have e33 : ∀ q, q < n → J (33, 0) q = tldI I m q := hP.2
        have e34 : ∀ p, p < n → J2 (34, 0) p = nI (rkO (tldI I m) n p) := fun p hp => (hrk p hp).trans (by rw [rkO_congr e33])
        have e332 : ∀ q, q < n → J2 (33, 0) q = tldI I m q := fun q hq => (hfr2 _ _ (by simp)).trans (hP.2 q hq)
        have hlt : rkO (tldI I m) n s < n := rkO_lt _ _ _ hs
        have hfr3 : Fr (fun t _ => t = (33, 0) ∨ t = (34, 0)) I J2 := (hP.1.le (fun t i q => Or.inl q)).tr (hfr2.le (fun t i q => Or.inr q))
        refine g_ild2 (pc' := 71) dX8_chart_70 rfl ?_
        refine g_ifneN (pc' := 74) (by omega) (tgt := 83) dX8_chart_71 (by decide) rfl (fun h71 => ?_) (fun h71 => ?_)
        · refine g_ald0 (pc' := 84) dX8_chart_83 rfl ?_
          refine g_getR (pc' := 87) xg.s0 (by decide) fX8_78 xg.r0_13 dX8_chart_84 rfl ?_
          refine g_ald0 (pc' := 88) dX8_chart_87 rfl ?_
          refine g_getR (pc' := 91) xg.s0 (by decide) fX8_81 xg.r0_14 dX8_chart_88 rfl ?_
          refine g_ild1 (pc' := 92) dX8_chart_91 rfl ?_
          refine g_iald (pc' := 93) (j := s) xg.s34 rfl (by omega) (by decide) (v := nI (rkO (tldI I m) n s)) (e34 s hs) dX8_chart_92 rfl ?_
          refine g_iald (pc' := 94) (j := rkO (tldI I m) n s) xg.s33 rfl (by omega) (by decide) (v := tldI I m (rkO (tldI I m) n s)) (e332 _ hlt) dX8_chart_93 rfl ?_
          refine g_iret rfl dX8_chart_94 ?_
          exact eI ⟨by unfold chV; first | rw [if_pos (by omega)] | rw [if_neg (by omega)], hfr3⟩
        · refine g_ald0 (pc' := 75) dX8_chart_74 rfl ?_
          refine g_getR (pc' := 78) xg.s0 (by decide) fX8_81 xg.r0_14 dX8_chart_75 rfl ?_
          refine g_ild1 (pc' := 79) dX8_chart_78 rfl ?_
          refine g_iald (pc' := 80) (j := s) xg.s34 rfl (by omega) (by decide) (v := nI (rkO (tldI I m) n s)) (e34 s hs) dX8_chart_79 rfl ?_
          refine g_goto (tgt := 94) dX8_chart_80 (by decide) ?_
          refine g_iret rfl dX8_chart_94 ?_
          exact eI ⟨by unfold chV; first | rw [if_pos (by omega)] | rw [if_neg (by omega)], hfr3⟩
      · exact absurd h32 (by omega)
  · exact absurd h17 (by omega)
