/-! EightWorlds: undoing, odds, after, charts, finding, houses -/
def appI (I : MI) (n m : Nat) (w s v : Int32) : MI := if inb w m = true then (if inb s n = true then upM I (12, w.toInt.toNat) s.toInt.toNat v else upM I (11, w.toInt.toNat) 5 v) else if inb s n = true then upM I (2, 0) s.toInt.toNat v else I
theorem c_apply00 (l : Launch) {S : Shp} {I : MI} {L : ML} {R : MR} (xg : XG S R) (sg : SG S R) {n : Nat} (hn : I (1, 0) 1 = nI n) (hN : n ≤ 12) {m : Nat} (hm : I (0, 0) 5 = nI m) (hM : m ≤ 9) (hR : ∀ k, k < m → R (10, 0) k = some (11, k)) (hW : ∀ k, k < m → WG k S R) (hg : HG S R) {t : Nat} (ht : t < 40) {w : Int32} (hw : I (19, 0) t = w) (hwm : inb w m = false) {s : Int32} (hs : I (20, 0) t = s) (hsn : inb s n = false) (v : Int32) : Ct l mX8_apply 2 0 0 [.inr (.inr (some (0, 0))), .inl (nI t), .inl v] S I L R (PVm S L R (fun J => J = I)) := by
  refine Ct.of [some (.inr (.inr (some (0, 0)))), some (.inl (nI t)), some (.inl v), none, none] (by decide) rfl (Nat.le_of_ble_eq_true rfl) ?_
  refine g_ald0 (pc' := 1) dX8_apply_0 rfl ?_
  refine g_ald0 (pc' := 2) dX8_apply_1 rfl ?_
  refine g_getR (pc' := 5) xg.s0 (by decide) fX8_38 xg.r0_6 dX8_apply_2 rfl ?_
  refine g_getR (pc' := 8) hg.s18 (by decide) fX8_328 hg.r18_0 dX8_apply_5 rfl ?_
  refine g_ild1 (pc' := 9) dX8_apply_8 rfl ?_
  refine g_iald (pc' := 10) (j := t) hg.s19 rfl (by omega) (by decide) hw dX8_apply_9 rfl ?_
  refine g_callV (pc' := 13) (c_worldOfN l xg hm hwm) xg.s0 (by decide) wX8_worldOf lX8_147 rfl rfl (Nat.le_of_ble_eq_true rfl) ⟨Nat.le_of_ble_eq_true rfl, Nat.le_of_ble_eq_true rfl⟩ ⟨Nat.le_of_ble_eq_true rfl, Nat.le_of_ble_eq_true rfl⟩ dX8_apply_10 rfl (kRp ?_)
  refine g_ast3 (pc' := 14) rfl (by decide) dX8_apply_13 rfl ?_
  refine g_ald0 (pc' := 15) dX8_apply_14 rfl ?_
  refine g_getR (pc' := 18) xg.s0 (by decide) fX8_38 xg.r0_6 dX8_apply_15 rfl ?_
  refine g_getR (pc' := 21) hg.s18 (by decide) fX8_330 hg.r18_1 dX8_apply_18 rfl ?_
  refine g_ild1 (pc' := 22) dX8_apply_21 rfl ?_
  refine g_iald (pc' := 23) (j := t) hg.s20 rfl (by omega) (by decide) hs dX8_apply_22 rfl ?_
  refine g_ist4 (pc' := 25) rfl (by decide) dX8_apply_23 rfl ?_
  refine g_ald3 (pc' := 26) dX8_apply_25 rfl ?_
  refine g_ifnonnullF (pc' := 29) dX8_apply_26 rfl ?_
  refine g_ald0 (pc' := 30) dX8_apply_29 rfl ?_
  refine g_getR (pc' := 33) xg.s0 (by decide) fX8_10 xg.r0_0 dX8_apply_30 rfl ?_
  refine g_ild4 (pc' := 35) dX8_apply_33 rfl ?_
  refine g_callV (pc' := 38) (c_has l sg hn hN s) sg.s1 (by decide) wX5_has lX8_95 rfl rfl (Nat.le_of_ble_eq_true rfl) ⟨Nat.le_of_ble_eq_true rfl, Nat.le_of_ble_eq_true rfl⟩ ⟨Nat.le_of_ble_eq_true rfl, Nat.le_of_ble_eq_true rfl⟩ dX8_apply_35 rfl (kIp ?_)
  refine g_ifeqB (pc' := 41) (tgt := 55) dX8_apply_38 (by decide) rfl (fun h38 => ?_) (fun h38 => (by first | exact absurd h38 (Bool.eq_false_iff.mp hsn) | exact absurd (Bool.eq_false_iff.mp hsn) h38))
  refine g_ald3 (pc' := 56) dX8_apply_55 rfl ?_
  refine g_ifnullT (tgt := 82) dX8_apply_56 (by decide) ?_
  refine g_ald3 (pc' := 83) dX8_apply_82 rfl ?_
  refine g_ifnullT (tgt := 91) dX8_apply_83 (by decide) ?_
  refine g_vret rfl dX8_apply_91 ?_
  exact eV rfl

theorem c_apply01 (l : Launch) {S : Shp} {I : MI} {L : ML} {R : MR} (xg : XG S R) (sg : SG S R) {n : Nat} (hn : I (1, 0) 1 = nI n) (hN : n ≤ 12) {m : Nat} (hm : I (0, 0) 5 = nI m) (hM : m ≤ 9) (hR : ∀ k, k < m → R (10, 0) k = some (11, k)) (hW : ∀ k, k < m → WG k S R) (hg : HG S R) {t : Nat} (ht : t < 40) {w : Int32} (hw : I (19, 0) t = w) (hwm : inb w m = false) {sj : Nat} (hs : I (20, 0) t = nI sj) (hsn : sj < n) (v : Int32) : Ct l mX8_apply 2 0 0 [.inr (.inr (some (0, 0))), .inl (nI t), .inl v] S I L R (PVm S L R (fun J => J = upM I (2, 0) sj v)) := by
  refine Ct.of [some (.inr (.inr (some (0, 0)))), some (.inl (nI t)), some (.inl v), none, none] (by decide) rfl (Nat.le_of_ble_eq_true rfl) ?_
  refine g_ald0 (pc' := 1) dX8_apply_0 rfl ?_
  refine g_ald0 (pc' := 2) dX8_apply_1 rfl ?_
  refine g_getR (pc' := 5) xg.s0 (by decide) fX8_38 xg.r0_6 dX8_apply_2 rfl ?_
  refine g_getR (pc' := 8) hg.s18 (by decide) fX8_328 hg.r18_0 dX8_apply_5 rfl ?_
  refine g_ild1 (pc' := 9) dX8_apply_8 rfl ?_
  refine g_iald (pc' := 10) (j := t) hg.s19 rfl (by omega) (by decide) hw dX8_apply_9 rfl ?_
  refine g_callV (pc' := 13) (c_worldOfN l xg hm hwm) xg.s0 (by decide) wX8_worldOf lX8_147 rfl rfl (Nat.le_of_ble_eq_true rfl) ⟨Nat.le_of_ble_eq_true rfl, Nat.le_of_ble_eq_true rfl⟩ ⟨Nat.le_of_ble_eq_true rfl, Nat.le_of_ble_eq_true rfl⟩ dX8_apply_10 rfl (kRp ?_)
  refine g_ast3 (pc' := 14) rfl (by decide) dX8_apply_13 rfl ?_
  refine g_ald0 (pc' := 15) dX8_apply_14 rfl ?_
  refine g_getR (pc' := 18) xg.s0 (by decide) fX8_38 xg.r0_6 dX8_apply_15 rfl ?_
  refine g_getR (pc' := 21) hg.s18 (by decide) fX8_330 hg.r18_1 dX8_apply_18 rfl ?_
  refine g_ild1 (pc' := 22) dX8_apply_21 rfl ?_
  refine g_iald (pc' := 23) (j := t) hg.s20 rfl (by omega) (by decide) hs dX8_apply_22 rfl ?_
  refine g_ist4 (pc' := 25) rfl (by decide) dX8_apply_23 rfl ?_
  refine g_ald3 (pc' := 26) dX8_apply_25 rfl ?_
  refine g_ifnonnullF (pc' := 29) dX8_apply_26 rfl ?_
  refine g_ald0 (pc' := 30) dX8_apply_29 rfl ?_
  refine g_getR (pc' := 33) xg.s0 (by decide) fX8_10 xg.r0_0 dX8_apply_30 rfl ?_
  refine g_ild4 (pc' := 35) dX8_apply_33 rfl ?_
  refine g_callV (pc' := 38) (c_has l sg hn hN (nI sj)) sg.s1 (by decide) wX5_has lX8_95 rfl rfl (Nat.le_of_ble_eq_true rfl) ⟨Nat.le_of_ble_eq_true rfl, Nat.le_of_ble_eq_true rfl⟩ ⟨Nat.le_of_ble_eq_true rfl, Nat.le_of_ble_eq_true rfl⟩ dX8_apply_35 rfl (kIp ?_)
  refine g_ifeqB (pc' := 41) (tgt := 55) dX8_apply_38 (by decide) rfl (fun h38 => (by first | exact absurd h38 (by rw [inb_nI (by omega) (by omega)]; simp [hsn]) | exact absurd (by rw [inb_nI (by omega) (by omega)]; simp [hsn]) h38)) (fun h38 => ?_)
  refine g_ald0 (pc' := 42) dX8_apply_41 rfl ?_
  refine g_getR (pc' := 45) xg.s0 (by decide) fX8_10 xg.r0_0 dX8_apply_42 rfl ?_
  refine g_getR (pc' := 48) sg.s1 (by decide) fX8_92 sg.r1_0 dX8_apply_45 rfl ?_
  refine g_ild4 (pc' := 50) dX8_apply_48 rfl ?_
  refine g_ild2 (pc' := 51) dX8_apply_50 rfl ?_
  refine g_iast (pc' := 52) (j := sj) sg.s2 rfl (by omega) (by decide) dX8_apply_51 rfl ?_
  refine g_goto (tgt := 91) dX8_apply_52 (by decide) ?_
  refine g_vret rfl dX8_apply_91 ?_
  exact eV rfl

theorem c_apply10 (l : Launch) {S : Shp} {I : MI} {L : ML} {R : MR} (xg : XG S R) (sg : SG S R) {n : Nat} (hn : I (1, 0) 1 = nI n) (hN : n ≤ 12) {m : Nat} (hm : I (0, 0) 5 = nI m) (hM : m ≤ 9) (hR : ∀ k, k < m → R (10, 0) k = some (11, k)) (hW : ∀ k, k < m → WG k S R) (hg : HG S R) {t : Nat} (ht : t < 40) {wj : Nat} (hw : I (19, 0) t = nI wj) (hwm : wj < m) {s : Int32} (hs : I (20, 0) t = s) (hsn : inb s n = false) (v : Int32) : Ct l mX8_apply 2 0 0 [.inr (.inr (some (0, 0))), .inl (nI t), .inl v] S I L R (PVm S L R (fun J => J = upM I (11, wj) 5 v)) := by
  refine Ct.of [some (.inr (.inr (some (0, 0)))), some (.inl (nI t)), some (.inl v), none, none] (by decide) rfl (Nat.le_of_ble_eq_true rfl) ?_
  refine g_ald0 (pc' := 1) dX8_apply_0 rfl ?_
  refine g_ald0 (pc' := 2) dX8_apply_1 rfl ?_
  refine g_getR (pc' := 5) xg.s0 (by decide) fX8_38 xg.r0_6 dX8_apply_2 rfl ?_
  refine g_getR (pc' := 8) hg.s18 (by decide) fX8_328 hg.r18_0 dX8_apply_5 rfl ?_
  refine g_ild1 (pc' := 9) dX8_apply_8 rfl ?_
  refine g_iald (pc' := 10) (j := t) hg.s19 rfl (by omega) (by decide) hw dX8_apply_9 rfl ?_
  refine g_callV (pc' := 13) (c_worldOfS l xg hm hwm hM (hR _ hwm)) xg.s0 (by decide) wX8_worldOf lX8_147 rfl rfl (Nat.le_of_ble_eq_true rfl) ⟨Nat.le_of_ble_eq_true rfl, Nat.le_of_ble_eq_true rfl⟩ ⟨Nat.le_of_ble_eq_true rfl, Nat.le_of_ble_eq_true rfl⟩ dX8_apply_10 rfl (kRp ?_)
  refine g_ast3 (pc' := 14) rfl (by decide) dX8_apply_13 rfl ?_
  refine g_ald0 (pc' := 15) dX8_apply_14 rfl ?_
  refine g_getR (pc' := 18) xg.s0 (by decide) fX8_38 xg.r0_6 dX8_apply_15 rfl ?_
  refine g_getR (pc' := 21) hg.s18 (by decide) fX8_330 hg.r18_1 dX8_apply_18 rfl ?_
  refine g_ild1 (pc' := 22) dX8_apply_21 rfl ?_
  refine g_iald (pc' := 23) (j := t) hg.s20 rfl (by omega) (by decide) hs dX8_apply_22 rfl ?_
  refine g_ist4 (pc' := 25) rfl (by decide) dX8_apply_23 rfl ?_
  refine g_ald3 (pc' := 26) dX8_apply_25 rfl ?_
  refine g_ifnonnullT (tgt := 55) dX8_apply_26 (by decide) ?_
  refine g_ald3 (pc' := 56) dX8_apply_55 rfl ?_
  refine g_ifnullF (pc' := 59) dX8_apply_56 rfl ?_
  refine g_ald0 (pc' := 60) dX8_apply_59 rfl ?_
  refine g_getR (pc' := 63) xg.s0 (by decide) fX8_10 xg.r0_0 dX8_apply_60 rfl ?_
  refine g_ild4 (pc' := 65) dX8_apply_63 rfl ?_
  refine g_callV (pc' := 68) (c_has l sg hn hN s) sg.s1 (by decide) wX5_has lX8_95 rfl rfl (Nat.le_of_ble_eq_true rfl) ⟨Nat.le_of_ble_eq_true rfl, Nat.le_of_ble_eq_true rfl⟩ ⟨Nat.le_of_ble_eq_true rfl, Nat.le_of_ble_eq_true rfl⟩ dX8_apply_65 rfl (kIp ?_)
  refine g_ifeqB (pc' := 71) (tgt := 82) dX8_apply_68 (by decide) rfl (fun h68 => ?_) (fun h68 => (by first | exact absurd h68 (Bool.eq_false_iff.mp hsn) | exact absurd (Bool.eq_false_iff.mp hsn) h68))
  refine g_ald3 (pc' := 83) dX8_apply_82 rfl ?_
  refine g_ifnullF (pc' := 86) dX8_apply_83 rfl ?_
  refine g_ald3 (pc' := 87) dX8_apply_86 rfl ?_
  refine g_ild2 (pc' := 88) dX8_apply_87 rfl ?_
  refine g_putI (pc' := 91) (hW (wj) (by omega)).s11 (by decide) ⟨fX8_144, rfl, pI⟩ dX8_apply_88 rfl ?_
  refine g_vret rfl dX8_apply_91 ?_
  exact eV rfl

theorem c_apply11 (l : Launch) {S : Shp} {I : MI} {L : ML} {R : MR} (xg : XG S R) (sg : SG S R) {n : Nat} (hn : I (1, 0) 1 = nI n) (hN : n ≤ 12) {m : Nat} (hm : I (0, 0) 5 = nI m) (hM : m ≤ 9) (hR : ∀ k, k < m → R (10, 0) k = some (11, k)) (hW : ∀ k, k < m → WG k S R) (hg : HG S R) {t : Nat} (ht : t < 40) {wj : Nat} (hw : I (19, 0) t = nI wj) (hwm : wj < m) {sj : Nat} (hs : I (20, 0) t = nI sj) (hsn : sj < n) (v : Int32) : Ct l mX8_apply 2 0 0 [.inr (.inr (some (0, 0))), .inl (nI t), .inl v] S I L R (PVm S L R (fun J => J = upM I (12, wj) sj v)) := by
  refine Ct.of [some (.inr (.inr (some (0, 0)))), some (.inl (nI t)), some (.inl v), none, none] (by decide) rfl (Nat.le_of_ble_eq_true rfl) ?_
  refine g_ald0 (pc' := 1) dX8_apply_0 rfl ?_
  refine g_ald0 (pc' := 2) dX8_apply_1 rfl ?_
  refine g_getR (pc' := 5) xg.s0 (by decide) fX8_38 xg.r0_6 dX8_apply_2 rfl ?_
  refine g_getR (pc' := 8) hg.s18 (by decide) fX8_328 hg.r18_0 dX8_apply_5 rfl ?_
  refine g_ild1 (pc' := 9) dX8_apply_8 rfl ?_
  refine g_iald (pc' := 10) (j := t) hg.s19 rfl (by omega) (by decide) hw dX8_apply_9 rfl ?_
  refine g_callV (pc' := 13) (c_worldOfS l xg hm hwm hM (hR _ hwm)) xg.s0 (by decide) wX8_worldOf lX8_147 rfl rfl (Nat.le_of_ble_eq_true rfl) ⟨Nat.le_of_ble_eq_true rfl, Nat.le_of_ble_eq_true rfl⟩ ⟨Nat.le_of_ble_eq_true rfl, Nat.le_of_ble_eq_true rfl⟩ dX8_apply_10 rfl (kRp ?_)
  refine g_ast3 (pc' := 14) rfl (by decide) dX8_apply_13 rfl ?_
  refine g_ald0 (pc' := 15) dX8_apply_14 rfl ?_
  refine g_getR (pc' := 18) xg.s0 (by decide) fX8_38 xg.r0_6 dX8_apply_15 rfl ?_
  refine g_getR (pc' := 21) hg.s18 (by decide) fX8_330 hg.r18_1 dX8_apply_18 rfl ?_
  refine g_ild1 (pc' := 22) dX8_apply_21 rfl ?_
  refine g_iald (pc' := 23) (j := t) hg.s20 rfl (by omega) (by decide) hs dX8_apply_22 rfl ?_
  refine g_ist4 (pc' := 25) rfl (by decide) dX8_apply_23 rfl ?_
  refine g_ald3 (pc' := 26) dX8_apply_25 rfl ?_
  refine g_ifnonnullT (tgt := 55) dX8_apply_26 (by decide) ?_
  refine g_ald3 (pc' := 56) dX8_apply_55 rfl ?_
  refine g_ifnullF (pc' := 59) dX8_apply_56 rfl ?_
  refine g_ald0 (pc' := 60) dX8_apply_59 rfl ?_
  refine g_getR (pc' := 63) xg.s0 (by decide) fX8_10 xg.r0_0 dX8_apply_60 rfl ?_
  refine g_ild4 (pc' := 65) dX8_apply_63 rfl ?_
  refine g_callV (pc' := 68) (c_has l sg hn hN (nI sj)) sg.s1 (by decide) wX5_has lX8_95 rfl rfl (Nat.le_of_ble_eq_true rfl) ⟨Nat.le_of_ble_eq_true rfl, Nat.le_of_ble_eq_true rfl⟩ ⟨Nat.le_of_ble_eq_true rfl, Nat.le_of_ble_eq_true rfl⟩ dX8_apply_65 rfl (kIp ?_)
  refine g_ifeqB (pc' := 71) (tgt := 82) dX8_apply_68 (by decide) rfl (fun h68 => (by first | exact absurd h68 (by rw [inb_nI (by omega) (by omega)]; simp [hsn]) | exact absurd (by rw [inb_nI (by omega) (by omega)]; simp [hsn]) h68)) (fun h68 => ?_)
  refine g_ald3 (pc' := 72) dX8_apply_71 rfl ?_
  refine g_getR (pc' := 75) (hW (wj) (by omega)).s11 (by decide) fX8_167 (hW (wj) (by omega)).r11_10 dX8_apply_72 rfl ?_
  refine g_ild4 (pc' := 77) dX8_apply_75 rfl ?_
  refine g_ild2 (pc' := 78) dX8_apply_77 rfl ?_
  refine g_iast (pc' := 79) (j := sj) (hW (wj) (by omega)).s12 rfl (by omega) (by decide) dX8_apply_78 rfl ?_
  refine g_goto (tgt := 91) dX8_apply_79 (by decide) ?_
  refine g_vret rfl dX8_apply_91 ?_
  exact eV rfl
