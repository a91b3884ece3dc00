/-! EightWorlds: shelves -/
def rfV (h z : Nat) (x : Int32) : Int32 := if h = 0 then -11 else if h = 2 then (if inb x z = true then 0 else -13) else -12
theorem g_memL {l : Launch} {mi : MInf} {Rm : Room} {Qf : QF} {k n pc : Nat} {S : Shp} {I : MI} {R : MR} {lv : List (Option PV)} {st : List PV} {L L' : ML} (h : L = L') (kk : G l mi Rm Qf k n pc lv st S I L' R) : G l mi Rm Qf k n pc lv st S I L R := h ▸ kk
theorem g_loopL {l : Launch} {mi : MInf} {Rm : Room} {Qf : QF} {k n pc : Nat} {S : Shp} {R : MR} {st : List PV} {σ : Type} (P : Nat → σ → Prop) (lvf : Nat → σ → List (Option PV)) (If : Nat → σ → MI) (Lf : Nat → σ → ML) (N i0 : Nat) (s0 : σ) (hle : i0 ≤ N) (h0 : P i0 s0)
    (step : ∀ i s, i < N → P i s → (∀ s', P (i + 1) s' → G l mi Rm Qf k n pc (lvf (i + 1) s') st S (If (i + 1) s') (Lf (i + 1) s') R) → G l mi Rm Qf k n pc (lvf i s) st S (If i s) (Lf i s) R) (ex : ∀ s, P N s → G l mi Rm Qf k n pc (lvf N s) st S (If N s) (Lf N s) R) : G l mi Rm Qf k n pc (lvf i0 s0) st S (If i0 s0) (Lf i0 s0) R := by
  have key : ∀ (d i : Nat) (s : σ), i ≤ N → N - i = d → P i s → G l mi Rm Qf k n pc (lvf i s) st S (If i s) (Lf i s) R := by
    intro d
    induction d with
    | zero =>
      intro i s h1 h2 hP
      have e : i = N := by omega
      subst e
      exact ex s hP
    | succ d ih => intro i s h1 h2 hP; exact step i s (by omega) hP (fun s' hP' => ih (i + 1) s' (by omega) (by omega) hP')
  exact key (N - i0) i0 s0 hle rfl h0
theorem c_refusalN (l : Launch) {S : Shp} {I : MI} {L : ML} {R : MR} (x : Int32) : Ct l mX8_refusalOf 1 0 0 [.inr (.inr none), .inl x] S I L R (PIp S I L R (-1)) := by
  refine Ct.of [some (.inr (.inr none)), some (.inl x)] (by decide) rfl (Nat.le_of_ble_eq_true rfl) ?_
  refine g_ald0 (pc' := 1) dX8_refusalOf_0 rfl ?_
  refine g_ifnonnullF (pc' := 4) dX8_refusalOf_1 rfl ?_
  refine g_iconst (pc' := 5) (v := (-1)) dX8_refusalOf_4 rfl (by decide) ?_
  refine g_iret rfl dX8_refusalOf_5 ?_
  exact eIp rfl

theorem c_refusalS (l : Launch) {S : Shp} {I : MI} {L : ML} {R : MR} {d : Nat} (dg : DG d S R) {h z : Nat} (hh : I (27, d) 0 = nI h) (hh3 : h < 3) (hz : I (27, d) 3 = nI z) (hz6 : z ≤ 60) (x : Int32) : Ct l mX8_refusalOf 2 0 0 [.inr (.inr (some (27, d))), .inl x] S I L R (PIp S I L R (rfV h z x)) := by
  refine Ct.of [some (.inr (.inr (some (27, d)))), some (.inl x)] (by decide) rfl (Nat.le_of_ble_eq_true rfl) ?_
  refine g_ald0 (pc' := 1) dX8_refusalOf_0 rfl ?_
  refine g_ifnonnullT (tgt := 6) dX8_refusalOf_1 (by decide) ?_
  refine g_ald0 (pc' := 7) dX8_refusalOf_6 rfl ?_
  refine g_getI (pc' := 10) dg.s27 (by decide) fX8_190 hh dX8_refusalOf_7 rfl ?_
  refine g_ifneN (pc' := 13) (by omega) (tgt := 16) dX8_refusalOf_10 (by decide) rfl (fun h10 => ?_) (fun h10 => ?_)
  · refine g_ald0 (pc' := 17) dX8_refusalOf_16 rfl ?_
    refine g_getI (pc' := 20) dg.s27 (by decide) fX8_190 hh dX8_refusalOf_17 rfl ?_
    refine g_iconst (pc' := 21) (v := nI 2) dX8_refusalOf_20 rfl (by decide) ?_
    refine g_icmpeqN (pc' := 24) (by omega) (by omega) (tgt := 27) dX8_refusalOf_21 (by decide) rfl (fun h21 => ?_) (fun h21 => ?_)
    · refine g_ald0 (pc' := 28) dX8_refusalOf_27 rfl ?_
      refine g_ild1 (pc' := 29) dX8_refusalOf_28 rfl ?_
      refine g_callV (pc' := 32) (c_sHas l dg hz hz6 x) dg.s27 (by decide) wX4_has lX8_196 rfl rfl (Nat.le_of_ble_eq_true rfl) ⟨Nat.le_of_ble_eq_true rfl, Nat.le_of_ble_eq_true rfl⟩ ⟨Nat.le_of_ble_eq_true rfl, Nat.le_of_ble_eq_true rfl⟩ dX8_refusalOf_29 rfl (kIp ?_)
      refine g_ifeqB (pc' := 35) (tgt := 39) dX8_refusalOf_32 (by decide) rfl (fun h32 => ?_) (fun h32 => ?_)
      · refine g_bipush (pc' := 41) (v := (-13)) dX8_refusalOf_39 rfl (by decide) ?_
        refine g_iret rfl dX8_refusalOf_41 ?_
        exact eIp (by unfold rfV; (repeat' split) <;> first | rfl | (exfalso; omega) | (exfalso; simp_all; done))
      · refine g_iconst (pc' := 36) (v := nI 0) dX8_refusalOf_35 rfl (by decide) ?_
        refine g_goto (tgt := 41) dX8_refusalOf_36 (by decide) ?_
        refine g_iret rfl dX8_refusalOf_41 ?_
        exact eIp (by unfold rfV; (repeat' split) <;> first | rfl | (exfalso; omega) | (exfalso; simp_all; done))
    · refine g_bipush (pc' := 26) (v := (-12)) dX8_refusalOf_24 rfl (by decide) ?_
      refine g_iret rfl dX8_refusalOf_26 ?_
      exact eIp (by unfold rfV; (repeat' split) <;> first | rfl | (exfalso; omega) | (exfalso; simp_all; done))
  · refine g_bipush (pc' := 15) (v := (-11)) dX8_refusalOf_13 rfl (by decide) ?_
    refine g_iret rfl dX8_refusalOf_15 ?_
    exact eIp (by unfold rfV; (repeat' split) <;> first | rfl | (exfalso; omega) | (exfalso; simp_all; done))

theorem c_putN (l : Launch) {S : Shp} {I : MI} {L : ML} {R : MR} (xg : XG S R) {x : Int32} (hx : inb x 6 = false) (y : Int32) (v : Int64) : Ct l mX8_put 3 0 0 [.inr (.inr (some (0, 0))), .inl x, .inl y, .inr (.inl v)] S I L R (PIp S I L R (-1)) := by
  refine Ct.of [some (.inr (.inr (some (0, 0)))), some (.inl x), some (.inl y), some (.inr (.inl v)), none, none, none] (by decide) rfl (Nat.le_of_ble_eq_true rfl) ?_
  refine g_ald0 (pc' := 1) dX8_put_0 rfl ?_
  refine g_ild1 (pc' := 2) dX8_put_1 rfl ?_
  refine g_callV (pc' := 5) (c_shelfOfN l xg hx) xg.s0 (by decide) wX8_shelfOf lX8_186 rfl rfl (Nat.le_of_ble_eq_true rfl) ⟨Nat.le_of_ble_eq_true rfl, Nat.le_of_ble_eq_true rfl⟩ ⟨Nat.le_of_ble_eq_true rfl, Nat.le_of_ble_eq_true rfl⟩ dX8_put_2 rfl (kRp ?_)
  refine g_ast5 (pc' := 7) rfl (by decide) dX8_put_5 rfl ?_
  refine g_ald5 (pc' := 9) dX8_put_7 rfl ?_
  refine g_ild2 (pc' := 10) dX8_put_9 rfl ?_
  refine g_callS (pc' := 13) (c_refusalN l y) wX8_refusalOf lX8_354 rfl rfl (Nat.le_of_ble_eq_true rfl) ⟨Nat.le_of_ble_eq_true rfl, Nat.le_of_ble_eq_true rfl⟩ ⟨Nat.le_of_ble_eq_true rfl, Nat.le_of_ble_eq_true rfl⟩ dX8_put_10 rfl (kIp ?_)
  refine g_ist6 (pc' := 15) rfl (by decide) dX8_put_13 rfl ?_
  refine g_ald5 (pc' := 17) dX8_put_15 rfl ?_
  refine g_ifnullT (tgt := 25) dX8_put_17 (by decide) ?_
  refine g_ild6 (pc' := 27) dX8_put_25 rfl ?_
  refine g_iret rfl dX8_put_27 ?_
  exact eIp rfl

theorem c_putR (l : Launch) {S : Shp} {I : MI} {L : ML} {R : MR} (xg : XG S R) {d : Nat} (hd6 : d < 6) (hRd : R (26, 0) d = some (27, d)) (dg : DG d S R) {h z : Nat} (hh : I (27, d) 0 = nI h) (hh3 : h < 3) (hz : I (27, d) 3 = nI z) (hz6 : z ≤ 60) (x : Int32) (v : Int64) (hr : ¬ rfV h z x = 0) : Ct l mX8_put 4 0 0 [.inr (.inr (some (0, 0))), .inl (nI d), .inl x, .inr (.inl v)] S I L R (PIp S I L R (rfV h z x)) := by
  refine Ct.of [some (.inr (.inr (some (0, 0)))), some (.inl (nI d)), some (.inl x), some (.inr (.inl v)), none, none, none] (by decide) rfl (Nat.le_of_ble_eq_true rfl) ?_
  refine g_ald0 (pc' := 1) dX8_put_0 rfl ?_
  refine g_ild1 (pc' := 2) dX8_put_1 rfl ?_
  refine g_callV (pc' := 5) (c_shelfOfS l xg hd6 hRd) xg.s0 (by decide) wX8_shelfOf lX8_186 rfl rfl (Nat.le_of_ble_eq_true rfl) ⟨Nat.le_of_ble_eq_true rfl, Nat.le_of_ble_eq_true rfl⟩ ⟨Nat.le_of_ble_eq_true rfl, Nat.le_of_ble_eq_true rfl⟩ dX8_put_2 rfl (kRp ?_)
  refine g_ast5 (pc' := 7) rfl (by decide) dX8_put_5 rfl ?_
  refine g_ald5 (pc' := 9) dX8_put_7 rfl ?_
  refine g_ild2 (pc' := 10) dX8_put_9 rfl ?_
  refine g_callS (pc' := 13) (c_refusalS l dg hh hh3 hz hz6 x) wX8_refusalOf lX8_354 rfl rfl (Nat.le_of_ble_eq_true rfl) ⟨Nat.le_of_ble_eq_true rfl, Nat.le_of_ble_eq_true rfl⟩ ⟨Nat.le_of_ble_eq_true rfl, Nat.le_of_ble_eq_true rfl⟩ dX8_put_10 rfl (kIp ?_)
  refine g_ist6 (pc' := 15) rfl (by decide) dX8_put_13 rfl ?_
  refine g_ald5 (pc' := 17) dX8_put_15 rfl ?_
  refine g_ifnullF (pc' := 20) dX8_put_17 rfl ?_
  refine g_ild6 (pc' := 22) dX8_put_20 rfl ?_
  refine g_ifeq (pc' := 25) (tgt := 28) dX8_put_22 (by decide) rfl (fun h22 => (by first | exact absurd h22 hr | exact absurd hr h22)) (fun h22 => ?_)
  refine g_ild6 (pc' := 27) dX8_put_25 rfl ?_
  refine g_iret rfl dX8_put_27 ?_
  exact eIp rfl

theorem c_putS (l : Launch) {S : Shp} {I : MI} {L : ML} {R : MR} (xg : XG S R) {d : Nat} (hd6 : d < 6) (hRd : R (26, 0) d = some (27, d)) (dg : DG d S R) {z : Nat} (hh : I (27, d) 0 = nI 2) (hz : I (27, d) 3 = nI z) (hz6 : z ≤ 60) {t : Nat} (ht : t < z) (v : Int64) {s : Nat} (hs : I (27, d) 2 = nI s) (hs4 : s ≤ 4) : Ct l mX8_put 4 0 0 [.inr (.inr (some (0, 0))), .inl (nI d), .inl (nI t), .inr (.inl v)] S I L R (PIl S R (fun r J L2 => r = nI 1 ∧ J = I ∧ L2 = upM L (28, d) t (lowI s v))) := by
  have hr0 : rfV 2 z (nI t) = 0 := by unfold rfV; rw [if_neg (by decide), if_pos rfl, inb_nI (by omega) (by omega), if_pos (by simp [ht])]
  refine Ct.of [some (.inr (.inr (some (0, 0)))), some (.inl (nI d)), some (.inl (nI t)), some (.inr (.inl v)), none, none, none] (by decide) rfl (Nat.le_of_ble_eq_true rfl) ?_
  refine g_ald0 (pc' := 1) dX8_put_0 rfl ?_
  refine g_ild1 (pc' := 2) dX8_put_1 rfl ?_
  refine g_callV (pc' := 5) (c_shelfOfS l xg hd6 hRd) xg.s0 (by decide) wX8_shelfOf lX8_186 rfl rfl (Nat.le_of_ble_eq_true rfl) ⟨Nat.le_of_ble_eq_true rfl, Nat.le_of_ble_eq_true rfl⟩ ⟨Nat.le_of_ble_eq_true rfl, Nat.le_of_ble_eq_true rfl⟩ dX8_put_2 rfl (kRp ?_)
  refine g_ast5 (pc' := 7) rfl (by decide) dX8_put_5 rfl ?_
  refine g_ald5 (pc' := 9) dX8_put_7 rfl ?_
  refine g_ild2 (pc' := 10) dX8_put_9 rfl ?_
  refine g_callS (pc' := 13) (c_refusalS l dg hh (by decide) hz hz6 (nI t)) wX8_refusalOf lX8_354 rfl rfl (Nat.le_of_ble_eq_true rfl) ⟨Nat.le_of_ble_eq_true rfl, Nat.le_of_ble_eq_true rfl⟩ ⟨Nat.le_of_ble_eq_true rfl, Nat.le_of_ble_eq_true rfl⟩ dX8_put_10 rfl (kIp ?_)
  refine g_topi (v := 0) (hr0) ?_
  refine g_ist6 (pc' := 15) rfl (by decide) dX8_put_13 rfl ?_
  refine g_ald5 (pc' := 17) dX8_put_15 rfl ?_
  refine g_ifnullF (pc' := 20) dX8_put_17 rfl ?_
  refine g_ild6 (pc' := 22) dX8_put_20 rfl ?_
  refine g_ifeq (pc' := 25) (tgt := 28) dX8_put_22 (by decide) rfl (fun h22 => ?_) (fun h22 => (by first | exact absurd h22 (show (0 : Int32) = 0 from rfl) | exact absurd (show (0 : Int32) = 0 from rfl) h22))
  refine g_ald5 (pc' := 30) dX8_put_28 rfl ?_
  refine g_getR (pc' := 33) dg.s27 (by decide) fX8_197 dg.r27_4 dX8_put_30 rfl ?_
  refine g_ild2 (pc' := 34) dX8_put_33 rfl ?_
  refine g_ald5 (pc' := 36) dX8_put_34 rfl ?_
  refine g_lld3 (pc' := 37) dX8_put_36 rfl ?_
  refine g_callV (pc' := 40) (c_lowest l dg hs hs4 v) dg.s27 (by decide) wX4_lowest lX8_358 rfl rfl (Nat.le_of_ble_eq_true rfl) ⟨Nat.le_of_ble_eq_true rfl, Nat.le_of_ble_eq_true rfl⟩ ⟨Nat.le_of_ble_eq_true rfl, Nat.le_of_ble_eq_true rfl⟩ dX8_put_37 rfl (kJp ?_)
  refine g_last (pc' := 41) (j := t) dg.s28 rfl (by omega) (by decide) dX8_put_40 rfl ?_
  refine g_iconst (pc' := 42) (v := nI 1) dX8_put_41 rfl (by decide) ?_
  refine g_iret rfl dX8_put_42 ?_
  exact eIl ⟨rfl, rfl, rfl⟩

theorem c_elementN (l : Launch) {S : Shp} {I : MI} {L : ML} {R : MR} (xg : XG S R) {x : Int32} (hx : inb x 6 = false) (y : Int32) : Ct l mX8_element 3 0 0 [.inr (.inr (some (0, 0))), .inl x, .inl y] S I L R (PJp S I L R (-9223372036854775808)) := by
  refine Ct.of [some (.inr (.inr (some (0, 0)))), some (.inl x), some (.inl y), none] (by decide) rfl (Nat.le_of_ble_eq_true rfl) ?_
  refine g_ald0 (pc' := 1) dX8_element_0 rfl ?_
  refine g_ild1 (pc' := 2) dX8_element_1 rfl ?_
  refine g_callV (pc' := 5) (c_shelfOfN l xg hx) xg.s0 (by decide) wX8_shelfOf lX8_186 rfl rfl (Nat.le_of_ble_eq_true rfl) ⟨Nat.le_of_ble_eq_true rfl, Nat.le_of_ble_eq_true rfl⟩ ⟨Nat.le_of_ble_eq_true rfl, Nat.le_of_ble_eq_true rfl⟩ dX8_element_2 rfl (kRp ?_)
  refine g_ast3 (pc' := 6) rfl (by decide) dX8_element_5 rfl ?_
  refine g_ald3 (pc' := 7) dX8_element_6 rfl ?_
  refine g_ifnullT (tgt := 18) dX8_element_7 (by decide) ?_
  refine g_ldc2 (pc' := 21) dX8_element_18 rfl kX8_362 ?_
  refine g_goto (tgt := 30) dX8_element_21 (by decide) ?_
  refine g_lret rfl dX8_element_30 ?_
  exact eJp rfl

theorem c_elementR (l : Launch) {S : Shp} {I : MI} {L : ML} {R : MR} (xg : XG S R) {d : Nat} (hd6 : d < 6) (hRd : R (26, 0) d = some (27, d)) (dg : DG d S R) {h z : Nat} (hh : I (27, d) 0 = nI h) (hh3 : h < 3) (hz : I (27, d) 3 = nI z) (hz6 : z ≤ 60) (x : Int32) (hr : ¬ rfV h z x = 0) : Ct l mX8_element 4 0 0 [.inr (.inr (some (0, 0))), .inl (nI d), .inl x] S I L R (PJp S I L R (-9223372036854775808)) := by
  refine Ct.of [some (.inr (.inr (some (0, 0)))), some (.inl (nI d)), some (.inl x), none] (by decide) rfl (Nat.le_of_ble_eq_true rfl) ?_
  refine g_ald0 (pc' := 1) dX8_element_0 rfl ?_
  refine g_ild1 (pc' := 2) dX8_element_1 rfl ?_
  refine g_callV (pc' := 5) (c_shelfOfS l xg hd6 hRd) xg.s0 (by decide) wX8_shelfOf lX8_186 rfl rfl (Nat.le_of_ble_eq_true rfl) ⟨Nat.le_of_ble_eq_true rfl, Nat.le_of_ble_eq_true rfl⟩ ⟨Nat.le_of_ble_eq_true rfl, Nat.le_of_ble_eq_true rfl⟩ dX8_element_2 rfl (kRp ?_)
  refine g_ast3 (pc' := 6) rfl (by decide) dX8_element_5 rfl ?_
  refine g_ald3 (pc' := 7) dX8_element_6 rfl ?_
  refine g_ifnullF (pc' := 10) dX8_element_7 rfl ?_
  refine g_ald3 (pc' := 11) dX8_element_10 rfl ?_
  refine g_ild2 (pc' := 12) dX8_element_11 rfl ?_
  refine g_callS (pc' := 15) (c_refusalS l dg hh hh3 hz hz6 x) wX8_refusalOf lX8_354 rfl rfl (Nat.le_of_ble_eq_true rfl) ⟨Nat.le_of_ble_eq_true rfl, Nat.le_of_ble_eq_true rfl⟩ ⟨Nat.le_of_ble_eq_true rfl, Nat.le_of_ble_eq_true rfl⟩ dX8_element_12 rfl (kIp ?_)
  refine g_ifeq (pc' := 18) (tgt := 24) dX8_element_15 (by decide) rfl (fun h15 => (by first | exact absurd h15 hr | exact absurd hr h15)) (fun h15 => ?_)
  refine g_ldc2 (pc' := 21) dX8_element_18 rfl kX8_362 ?_
  refine g_goto (tgt := 30) dX8_element_21 (by decide) ?_
  refine g_lret rfl dX8_element_30 ?_
  exact eJp rfl

theorem c_elementS (l : Launch) {S : Shp} {I : MI} {L : ML} {R : MR} (xg : XG S R) {d : Nat} (hd6 : d < 6) (hRd : R (26, 0) d = some (27, d)) (dg : DG d S R) {z : Nat} (hh : I (27, d) 0 = nI 2) (hz : I (27, d) 3 = nI z) (hz6 : z ≤ 60) {t : Nat} (ht : t < z) : Ct l mX8_element 4 0 0 [.inr (.inr (some (0, 0))), .inl (nI d), .inl (nI t)] S I L R (PJp S I L R (L (28, d) t)) := by
  have hr0 : rfV 2 z (nI t) = 0 := by unfold rfV; rw [if_neg (by decide), if_pos rfl, inb_nI (by omega) (by omega), if_pos (by simp [ht])]
  refine Ct.of [some (.inr (.inr (some (0, 0)))), some (.inl (nI d)), some (.inl (nI t)), none] (by decide) rfl (Nat.le_of_ble_eq_true rfl) ?_
  refine g_ald0 (pc' := 1) dX8_element_0 rfl ?_
  refine g_ild1 (pc' := 2) dX8_element_1 rfl ?_
  refine g_callV (pc' := 5) (c_shelfOfS l xg hd6 hRd) xg.s0 (by decide) wX8_shelfOf lX8_186 rfl rfl (Nat.le_of_ble_eq_true rfl) ⟨Nat.le_of_ble_eq_true rfl, Nat.le_of_ble_eq_true rfl⟩ ⟨Nat.le_of_ble_eq_true rfl, Nat.le_of_ble_eq_true rfl⟩ dX8_element_2 rfl (kRp ?_)
  refine g_ast3 (pc' := 6) rfl (by decide) dX8_element_5 rfl ?_
  refine g_ald3 (pc' := 7) dX8_element_6 rfl ?_
  refine g_ifnullF (pc' := 10) dX8_element_7 rfl ?_
  refine g_ald3 (pc' := 11) dX8_element_10 rfl ?_
  refine g_ild2 (pc' := 12) dX8_element_11 rfl ?_
  refine g_callS (pc' := 15) (c_refusalS l dg hh (by decide) hz hz6 (nI t)) wX8_refusalOf lX8_354 rfl rfl (Nat.le_of_ble_eq_true rfl) ⟨Nat.le_of_ble_eq_true rfl, Nat.le_of_ble_eq_true rfl⟩ ⟨Nat.le_of_ble_eq_true rfl, Nat.le_of_ble_eq_true rfl⟩ dX8_element_12 rfl (kIp ?_)
  refine g_topi (v := 0) (hr0) ?_
  refine g_ifeq (pc' := 18) (tgt := 24) dX8_element_15 (by decide) rfl (fun h15 => ?_) (fun h15 => (by first | exact absurd h15 (show (0 : Int32) = 0 from rfl) | exact absurd (show (0 : Int32) = 0 from rfl) h15))
  refine g_ald3 (pc' := 25) dX8_element_24 rfl ?_
  refine g_getR (pc' := 28) dg.s27 (by decide) fX8_197 dg.r27_4 dX8_element_25 rfl ?_
  refine g_ild2 (pc' := 29) dX8_element_28 rfl ?_
  refine g_lald (pc' := 30) (j := t) dg.s28 rfl (by omega) (by decide) rfl dX8_element_29 rfl ?_
  refine g_lret rfl dX8_element_30 ?_
  exact eJp rfl

theorem c_keepN (l : Launch) {S : Shp} {I : MI} {L : ML} {R : MR} (xg : XG S R) {x : Int32} (hx : inb x 6 = false) (y : Int32) : Ct l mX8_keep 2 0 0 [.inr (.inr (some (0, 0))), .inl x, .inl y] S I L R (PIp S I L R (-1)) := by
  refine Ct.of [some (.inr (.inr (some (0, 0)))), some (.inl x), some (.inl y), none] (by decide) rfl (Nat.le_of_ble_eq_true rfl) ?_
  refine g_ald0 (pc' := 1) dX8_keep_0 rfl ?_
  refine g_ild1 (pc' := 2) dX8_keep_1 rfl ?_
  refine g_callV (pc' := 5) (c_shelfOfN l xg hx) xg.s0 (by decide) wX8_shelfOf lX8_186 rfl rfl (Nat.le_of_ble_eq_true rfl) ⟨Nat.le_of_ble_eq_true rfl, Nat.le_of_ble_eq_true rfl⟩ ⟨Nat.le_of_ble_eq_true rfl, Nat.le_of_ble_eq_true rfl⟩ dX8_keep_2 rfl (kRp ?_)
  refine g_ast3 (pc' := 6) rfl (by decide) dX8_keep_5 rfl ?_
  refine g_ald3 (pc' := 7) dX8_keep_6 rfl ?_
  refine g_ifnullT (tgt := 26) dX8_keep_7 (by decide) ?_
  refine g_iconst (pc' := 27) (v := (-1)) dX8_keep_26 rfl (by decide) ?_
  refine g_iret rfl dX8_keep_27 ?_
  exact eIp rfl

theorem c_keepB (l : Launch) {S : Shp} {I : MI} {L : ML} {R : MR} (xg : XG S R) {d : Nat} (hd6 : d < 6) (hRd : R (26, 0) d = some (27, d)) (dg : DG d S R) (ag : AG S R) {b : Nat} (hb : I (23, 0) 1 = nI b) (hb5 : b ≤ 50) {y : Int32} (hy : ¬ y = -1) (hi : inb y b = false) : Ct l mX8_keep 2 0 0 [.inr (.inr (some (0, 0))), .inl (nI d), .inl y] S I L R (PIp S I L R (-1)) := by
  refine Ct.of [some (.inr (.inr (some (0, 0)))), some (.inl (nI d)), some (.inl y), none] (by decide) rfl (Nat.le_of_ble_eq_true rfl) ?_
  refine g_ald0 (pc' := 1) dX8_keep_0 rfl ?_
  refine g_ild1 (pc' := 2) dX8_keep_1 rfl ?_
  refine g_callV (pc' := 5) (c_shelfOfS l xg hd6 hRd) xg.s0 (by decide) wX8_shelfOf lX8_186 rfl rfl (Nat.le_of_ble_eq_true rfl) ⟨Nat.le_of_ble_eq_true rfl, Nat.le_of_ble_eq_true rfl⟩ ⟨Nat.le_of_ble_eq_true rfl, Nat.le_of_ble_eq_true rfl⟩ dX8_keep_2 rfl (kRp ?_)
  refine g_ast3 (pc' := 6) rfl (by decide) dX8_keep_5 rfl ?_
  refine g_ald3 (pc' := 7) dX8_keep_6 rfl ?_
  refine g_ifnullF (pc' := 10) dX8_keep_7 rfl ?_
  refine g_ild2 (pc' := 11) dX8_keep_10 rfl ?_
  refine g_iconst (pc' := 12) (v := (-1)) dX8_keep_11 rfl (by decide) ?_
  refine g_icmpeq (pc' := 15) (tgt := 28) dX8_keep_12 (by decide) rfl (fun h12 => (by first | exact absurd h12 hy | exact absurd hy h12)) (fun h12 => ?_)
  refine g_ald0 (pc' := 16) dX8_keep_15 rfl ?_
  refine g_getR (pc' := 19) xg.s0 (by decide) fX8_45 xg.r0_7 dX8_keep_16 rfl ?_
  refine g_ild2 (pc' := 20) dX8_keep_19 rfl ?_
  refine g_callV (pc' := 23) (c_aHas l ag hb hb5 y) ag.s23 (by decide) wX0_has lX8_346 rfl rfl (Nat.le_of_ble_eq_true rfl) ⟨Nat.le_of_ble_eq_true rfl, Nat.le_of_ble_eq_true rfl⟩ ⟨Nat.le_of_ble_eq_true rfl, Nat.le_of_ble_eq_true rfl⟩ dX8_keep_20 rfl (kIp ?_)
  refine g_ifneB (pc' := 26) (tgt := 28) dX8_keep_23 (by decide) rfl (fun h23 => (by first | exact absurd h23 (Bool.eq_false_iff.mp hi) | exact absurd (Bool.eq_false_iff.mp hi) h23)) (fun h23 => ?_)
  refine g_iconst (pc' := 27) (v := (-1)) dX8_keep_26 rfl (by decide) ?_
  refine g_iret rfl dX8_keep_27 ?_
  exact eIp rfl

theorem c_keepS (l : Launch) {S : Shp} {I : MI} {L : ML} {R : MR} (xg : XG S R) {d : Nat} (hd6 : d < 6) (hRd : R (26, 0) d = some (27, d)) (dg : DG d S R) (ag : AG S R) {b : Nat} (hb : I (23, 0) 1 = nI b) (hb5 : b ≤ 50) {y : Int32} (hy : y = -1 ∨ inb y b = true) : Ct l mX8_keep 2 0 0 [.inr (.inr (some (0, 0))), .inl (nI d), .inl y] S I L R (PIm S L R (fun r J => r = nI 1 ∧ J = upM (upM I (27, d) 0 (if y < 0 then nI 0 else nI 1)) (27, d) 1 y)) := by
  refine Ct.of [some (.inr (.inr (some (0, 0)))), some (.inl (nI d)), some (.inl y), none] (by decide) rfl (Nat.le_of_ble_eq_true rfl) ?_
  refine g_ald0 (pc' := 1) dX8_keep_0 rfl ?_
  refine g_ild1 (pc' := 2) dX8_keep_1 rfl ?_
  refine g_callV (pc' := 5) (c_shelfOfS l xg hd6 hRd) xg.s0 (by decide) wX8_shelfOf lX8_186 rfl rfl (Nat.le_of_ble_eq_true rfl) ⟨Nat.le_of_ble_eq_true rfl, Nat.le_of_ble_eq_true rfl⟩ ⟨Nat.le_of_ble_eq_true rfl, Nat.le_of_ble_eq_true rfl⟩ dX8_keep_2 rfl (kRp ?_)
  refine g_ast3 (pc' := 6) rfl (by decide) dX8_keep_5 rfl ?_
  refine g_ald3 (pc' := 7) dX8_keep_6 rfl ?_
  refine g_ifnullF (pc' := 10) dX8_keep_7 rfl ?_
  refine g_ild2 (pc' := 11) dX8_keep_10 rfl ?_
  refine g_iconst (pc' := 12) (v := (-1)) dX8_keep_11 rfl (by decide) ?_
  refine g_icmpeq (pc' := 15) (tgt := 28) dX8_keep_12 (by decide) rfl (fun h12 => ?_) (fun h12 => ?_)
  · refine g_ald3 (pc' := 29) dX8_keep_28 rfl ?_
    refine g_ild2 (pc' := 30) dX8_keep_29 rfl ?_
    refine g_ifge (pc' := 33) (tgt := 37) dX8_keep_30 (by decide) rfl (fun h30 => ?_) (fun h30 => ?_)
    · refine g_iconst (pc' := 38) (v := nI 1) dX8_keep_37 rfl (by decide) ?_
      refine g_putI (pc' := 41) dg.s27 (by decide) ⟨fX8_190, rfl, pI⟩ dX8_keep_38 rfl ?_
      refine g_ald3 (pc' := 42) dX8_keep_41 rfl ?_
      refine g_ild2 (pc' := 43) dX8_keep_42 rfl ?_
      refine g_putI (pc' := 46) dg.s27 (by decide) ⟨fX8_347, rfl, pI⟩ dX8_keep_43 rfl ?_
      refine g_iconst (pc' := 47) (v := nI 1) dX8_keep_46 rfl (by decide) ?_
      refine g_iret rfl dX8_keep_47 ?_
      exact eI ⟨rfl, by first | rw [if_pos (by assumption)] | rw [if_neg (by rw [Int32.not_lt]; assumption)] | rw [if_pos (by rw [← Int32.not_le]; assumption)]⟩
    · refine g_iconst (pc' := 34) (v := nI 0) dX8_keep_33 rfl (by decide) ?_
      refine g_goto (tgt := 38) dX8_keep_34 (by decide) ?_
      refine g_putI (pc' := 41) dg.s27 (by decide) ⟨fX8_190, rfl, pI⟩ dX8_keep_38 rfl ?_
      refine g_ald3 (pc' := 42) dX8_keep_41 rfl ?_
      refine g_ild2 (pc' := 43) dX8_keep_42 rfl ?_
      refine g_putI (pc' := 46) dg.s27 (by decide) ⟨fX8_347, rfl, pI⟩ dX8_keep_43 rfl ?_
      refine g_iconst (pc' := 47) (v := nI 1) dX8_keep_46 rfl (by decide) ?_
      refine g_iret rfl dX8_keep_47 ?_
      exact eI ⟨rfl, by first | rw [if_pos (by assumption)] | rw [if_neg (by rw [Int32.not_lt]; assumption)] | rw [if_pos (by rw [← Int32.not_le]; assumption)]⟩
  · refine g_ald0 (pc' := 16) dX8_keep_15 rfl ?_
    refine g_getR (pc' := 19) xg.s0 (by decide) fX8_45 xg.r0_7 dX8_keep_16 rfl ?_
    refine g_ild2 (pc' := 20) dX8_keep_19 rfl ?_
    refine g_callV (pc' := 23) (c_aHas l ag hb hb5 y) ag.s23 (by decide) wX0_has lX8_346 rfl rfl (Nat.le_of_ble_eq_true rfl) ⟨Nat.le_of_ble_eq_true rfl, Nat.le_of_ble_eq_true rfl⟩ ⟨Nat.le_of_ble_eq_true rfl, Nat.le_of_ble_eq_true rfl⟩ dX8_keep_20 rfl (kIp ?_)
    refine g_ifneB (pc' := 26) (tgt := 28) dX8_keep_23 (by decide) rfl (fun h23 => ?_) (fun h23 => ?_)
    · refine g_ald3 (pc' := 29) dX8_keep_28 rfl ?_
      refine g_ild2 (pc' := 30) dX8_keep_29 rfl ?_
      refine g_ifge (pc' := 33) (tgt := 37) dX8_keep_30 (by decide) rfl (fun h30 => ?_) (fun h30 => ?_)
      · refine g_iconst (pc' := 38) (v := nI 1) dX8_keep_37 rfl (by decide) ?_
        refine g_putI (pc' := 41) dg.s27 (by decide) ⟨fX8_190, rfl, pI⟩ dX8_keep_38 rfl ?_
        refine g_ald3 (pc' := 42) dX8_keep_41 rfl ?_
        refine g_ild2 (pc' := 43) dX8_keep_42 rfl ?_
        refine g_putI (pc' := 46) dg.s27 (by decide) ⟨fX8_347, rfl, pI⟩ dX8_keep_43 rfl ?_
        refine g_iconst (pc' := 47) (v := nI 1) dX8_keep_46 rfl (by decide) ?_
        refine g_iret rfl dX8_keep_47 ?_
        exact eI ⟨rfl, by first | rw [if_pos (by assumption)] | rw [if_neg (by rw [Int32.not_lt]; assumption)] | rw [if_pos (by rw [← Int32.not_le]; assumption)]⟩
      · refine g_iconst (pc' := 34) (v := nI 0) dX8_keep_33 rfl (by decide) ?_
        refine g_goto (tgt := 38) dX8_keep_34 (by decide) ?_
        refine g_putI (pc' := 41) dg.s27 (by decide) ⟨fX8_190, rfl, pI⟩ dX8_keep_38 rfl ?_
        refine g_ald3 (pc' := 42) dX8_keep_41 rfl ?_
        refine g_ild2 (pc' := 43) dX8_keep_42 rfl ?_
        refine g_putI (pc' := 46) dg.s27 (by decide) ⟨fX8_347, rfl, pI⟩ dX8_keep_43 rfl ?_
        refine g_iconst (pc' := 47) (v := nI 1) dX8_keep_46 rfl (by decide) ?_
        refine g_iret rfl dX8_keep_47 ?_
        exact eI ⟨rfl, by first | rw [if_pos (by assumption)] | rw [if_neg (by rw [Int32.not_lt]; assumption)] | rw [if_pos (by rw [← Int32.not_le]; assumption)]⟩
    · exact (hy.elim h12 (fun q => by rw [q] at h23; cases h23)).elim

theorem c_fillJ (l : Launch) (S : Shp) (I : MI) (L : ML) (R : MR) {ta tb len : Nat} {v : Int64} (hS : S (ta, tb) = (3, len)) (hl : len < 2 ^ 31) : Ct l mJ7_fill_d0a16 1 0 0 [.inr (.inr (some (ta, tb))), .inr (.inl v)] S I L R (PVl S R (fun J L2 => J = I ∧ L2 = upT L (ta, tb) (filN len v (L (ta, tb))))) := by
  refine Ct.of [some (.inr (.inr (some (ta, tb)))), some (.inr (.inl v)), none, none, none] (by decide) rfl (Nat.le_of_ble_eq_true rfl) ?_
  refine g_iconst (pc' := 1) (v := nI 0) dJ7_fill_d0a16_0 rfl (by decide) ?_
  refine g_ist3 (pc' := 2) rfl (by decide) dJ7_fill_d0a16_1 rfl ?_
  refine g_ald0 (pc' := 3) dJ7_fill_d0a16_2 rfl ?_
  refine g_alen (pc' := 4) (by decide) hS dJ7_fill_d0a16_3 rfl ?_
  refine g_ist4 (pc' := 6) rfl (by decide) dJ7_fill_d0a16_4 rfl ?_
  have e0 : L = upT L (ta, tb) (filN 0 v (L (ta, tb))) := by rw [filN_0, upT_self]
  refine g_memL e0 ?_
  refine g_loopL (σ := Unit) (fun _ _ => True) (fun i s => [some (.inr (.inr (some (ta, tb)))), some (.inr (.inl v)), none, some (.inl (nI i)), some (.inl (nI len))]) (fun i s => I) (fun i s => upT L (ta, tb) (filN i v (L (ta, tb)))) len 0 () (by omega) trivial ?_ ?_
  · intro i s hi hP ih
    refine g_ild3 (pc' := 7) dJ7_fill_d0a16_6 rfl ?_
    refine g_ild4 (pc' := 9) dJ7_fill_d0a16_7 rfl ?_
    refine g_icmpgeN (pc' := 12) (by omega) (by omega) (tgt := 22) dJ7_fill_d0a16_9 (by decide) rfl (fun h9 => ?_) (fun h9 => ?_)
    · exact absurd h9 (by omega)
    · refine g_ald0 (pc' := 13) dJ7_fill_d0a16_12 rfl ?_
      refine g_ild3 (pc' := 14) dJ7_fill_d0a16_13 rfl ?_
      refine g_lld1 (pc' := 15) dJ7_fill_d0a16_14 rfl ?_
      refine g_last (pc' := 16) (j := i) hS rfl (by omega) (by omega) dJ7_fill_d0a16_15 rfl ?_
      refine g_inc3 (pc' := 19) rfl (by decide) (v := nI (i + 1)) (nI_1 _) dJ7_fill_d0a16_16 rfl ?_
      refine g_goto (tgt := 6) dJ7_fill_d0a16_19 (by decide) ?_
      rw [upT_up trivial]
      exact ih () trivial
  · intro s hP
    refine g_ild3 (pc' := 7) dJ7_fill_d0a16_6 rfl ?_
    refine g_ild4 (pc' := 9) dJ7_fill_d0a16_7 rfl ?_
    refine g_icmpgeN (pc' := 12) (by omega) (by omega) (tgt := 22) dJ7_fill_d0a16_9 (by decide) rfl (fun h9 => ?_) (fun h9 => ?_)
    · refine g_vret rfl dJ7_fill_d0a16_22 ?_
      exact eVl ⟨rfl, rfl⟩
    · exact absurd h9 (by omega)

theorem c_rowN (l : Launch) {S : Shp} {I : MI} {L : ML} {R : MR} (xg : XG S R) {x : Int32} (hx : inb x 6 = false) (y z : Int32) : Ct l mX8_row 2 0 0 [.inr (.inr (some (0, 0))), .inl x, .inl y, .inl z] S I L R (PIp S I L R (-1)) := by
  refine Ct.of [some (.inr (.inr (some (0, 0)))), some (.inl x), some (.inl y), some (.inl z), none] (by decide) rfl (Nat.le_of_ble_eq_true rfl) ?_
  refine g_ald0 (pc' := 1) dX8_row_0 rfl ?_
  refine g_ild1 (pc' := 2) dX8_row_1 rfl ?_
  refine g_callV (pc' := 5) (c_shelfOfN l xg hx) xg.s0 (by decide) wX8_shelfOf lX8_186 rfl rfl (Nat.le_of_ble_eq_true rfl) ⟨Nat.le_of_ble_eq_true rfl, Nat.le_of_ble_eq_true rfl⟩ ⟨Nat.le_of_ble_eq_true rfl, Nat.le_of_ble_eq_true rfl⟩ dX8_row_2 rfl (kRp ?_)
  refine g_ast4 (pc' := 7) rfl (by decide) dX8_row_5 rfl ?_
  refine g_ald4 (pc' := 9) dX8_row_7 rfl ?_
  refine g_ifnullT (tgt := 27) dX8_row_9 (by decide) ?_
  refine g_iconst (pc' := 28) (v := (-1)) dX8_row_27 rfl (by decide) ?_
  refine g_iret rfl dX8_row_28 ?_
  exact eIp rfl

theorem c_rowB (l : Launch) {S : Shp} {I : MI} {L : ML} {R : MR} (xg : XG S R) {d : Nat} (hd6 : d < 6) (hRd : R (26, 0) d = some (27, d)) (dg : DG d S R) {y z : Int32} (hb : y < 0 ∨ nI 4 < y ∨ nI 60 < z) : Ct l mX8_row 2 0 0 [.inr (.inr (some (0, 0))), .inl (nI d), .inl y, .inl z] S I L R (PIp S I L R (-1)) := by
  refine Ct.of [some (.inr (.inr (some (0, 0)))), some (.inl (nI d)), some (.inl y), some (.inl z), none] (by decide) rfl (Nat.le_of_ble_eq_true rfl) ?_
  refine g_ald0 (pc' := 1) dX8_row_0 rfl ?_
  refine g_ild1 (pc' := 2) dX8_row_1 rfl ?_
  refine g_callV (pc' := 5) (c_shelfOfS l xg hd6 hRd) xg.s0 (by decide) wX8_shelfOf lX8_186 rfl rfl (Nat.le_of_ble_eq_true rfl) ⟨Nat.le_of_ble_eq_true rfl, Nat.le_of_ble_eq_true rfl⟩ ⟨Nat.le_of_ble_eq_true rfl, Nat.le_of_ble_eq_true rfl⟩ dX8_row_2 rfl (kRp ?_)
  refine g_ast4 (pc' := 7) rfl (by decide) dX8_row_5 rfl ?_
  refine g_ald4 (pc' := 9) dX8_row_7 rfl ?_
  refine g_ifnullF (pc' := 12) dX8_row_9 rfl ?_
  refine g_ild2 (pc' := 13) dX8_row_12 rfl ?_
  refine g_iflt (pc' := 16) (tgt := 27) dX8_row_13 (by decide) rfl (fun h13 => ?_) (fun h13 => ?_)
  · refine g_iconst (pc' := 28) (v := (-1)) dX8_row_27 rfl (by decide) ?_
    refine g_iret rfl dX8_row_28 ?_
    exact eIp rfl
  · refine g_ild2 (pc' := 17) dX8_row_16 rfl ?_
    refine g_iconst (pc' := 18) (v := nI 4) dX8_row_17 rfl (by decide) ?_
    refine g_icmpgt (pc' := 21) (tgt := 27) dX8_row_18 (by decide) rfl (fun h18 => ?_) (fun h18 => ?_)
    · refine g_iconst (pc' := 28) (v := (-1)) dX8_row_27 rfl (by decide) ?_
      refine g_iret rfl dX8_row_28 ?_
      exact eIp rfl
    · refine g_ild3 (pc' := 22) dX8_row_21 rfl ?_
      refine g_bipush (pc' := 24) (v := nI 60) dX8_row_22 rfl (by decide) ?_
      refine g_icmple (pc' := 27) (tgt := 29) dX8_row_24 (by decide) rfl (fun h24 => ?_) (fun h24 => ?_)
      · exfalso
        rcases hb with h | h | h
        · exact h13 h
        · exact h18 h
        · exact absurd h24 (Int32.not_le.mpr h)
      · refine g_iconst (pc' := 28) (v := (-1)) dX8_row_27 rfl (by decide) ?_
        refine g_iret rfl dX8_row_28 ?_
        exact eIp rfl

theorem c_rowM (l : Launch) {S : Shp} {I : MI} {L : ML} {R : MR} (xg : XG S R) {d : Nat} (hd6 : d < 6) (hRd : R (26, 0) d = some (27, d)) (dg : DG d S R) {y z : Int32} (hb : ¬ (y < 0 ∨ nI 4 < y ∨ nI 60 < z)) (hz : z < 0) : Ct l mX8_row 2 0 0 [.inr (.inr (some (0, 0))), .inl (nI d), .inl y, .inl z] S I L R (PIp S I L R (-14)) := by
  refine Ct.of [some (.inr (.inr (some (0, 0)))), some (.inl (nI d)), some (.inl y), some (.inl z), none] (by decide) rfl (Nat.le_of_ble_eq_true rfl) ?_
  refine g_ald0 (pc' := 1) dX8_row_0 rfl ?_
  refine g_ild1 (pc' := 2) dX8_row_1 rfl ?_
  refine g_callV (pc' := 5) (c_shelfOfS l xg hd6 hRd) xg.s0 (by decide) wX8_shelfOf lX8_186 rfl rfl (Nat.le_of_ble_eq_true rfl) ⟨Nat.le_of_ble_eq_true rfl, Nat.le_of_ble_eq_true rfl⟩ ⟨Nat.le_of_ble_eq_true rfl, Nat.le_of_ble_eq_true rfl⟩ dX8_row_2 rfl (kRp ?_)
  refine g_ast4 (pc' := 7) rfl (by decide) dX8_row_5 rfl ?_
  refine g_ald4 (pc' := 9) dX8_row_7 rfl ?_
  refine g_ifnullF (pc' := 12) dX8_row_9 rfl ?_
  refine g_ild2 (pc' := 13) dX8_row_12 rfl ?_
  refine g_iflt (pc' := 16) (tgt := 27) dX8_row_13 (by decide) rfl (fun h13 => (by first | exact absurd h13 (fun h => hb (Or.inl h)) | exact absurd (fun h => hb (Or.inl h)) h13)) (fun h13 => ?_)
  refine g_ild2 (pc' := 17) dX8_row_16 rfl ?_
  refine g_iconst (pc' := 18) (v := nI 4) dX8_row_17 rfl (by decide) ?_
  refine g_icmpgt (pc' := 21) (tgt := 27) dX8_row_18 (by decide) rfl (fun h18 => (by first | exact absurd h18 (fun h => hb (Or.inr (Or.inl h))) | exact absurd (fun h => hb (Or.inr (Or.inl h))) h18)) (fun h18 => ?_)
  refine g_ild3 (pc' := 22) dX8_row_21 rfl ?_
  refine g_bipush (pc' := 24) (v := nI 60) dX8_row_22 rfl (by decide) ?_
  refine g_icmple (pc' := 27) (tgt := 29) dX8_row_24 (by decide) rfl (fun h24 => ?_) (fun h24 => (by first | exact absurd h24 (Int32.not_lt.mp fun h => hb (Or.inr (Or.inr h))) | exact absurd (Int32.not_lt.mp fun h => hb (Or.inr (Or.inr h))) h24))
  refine g_ild3 (pc' := 30) dX8_row_29 rfl ?_
  refine g_ifge (pc' := 33) (tgt := 36) dX8_row_30 (by decide) rfl (fun h30 => (by first | exact absurd h30 (Int32.not_le.mpr hz) | exact absurd (Int32.not_le.mpr hz) h30)) (fun h30 => ?_)
  refine g_bipush (pc' := 35) (v := (-14)) dX8_row_33 rfl (by decide) ?_
  refine g_iret rfl dX8_row_35 ?_
  exact eIp rfl

theorem c_rowS (l : Launch) {S : Shp} {I : MI} {L : ML} {R : MR} (xg : XG S R) {d : Nat} (hd6 : d < 6) (hRd : R (26, 0) d = some (27, d)) (dg : DG d S R) {s q : Nat} (hs : s ≤ 4) (hq : q ≤ 60) : Ct l mX8_row 2 0 0 [.inr (.inr (some (0, 0))), .inl (nI d), .inl (nI s), .inl (nI q)] S I L R (PIl S R (fun r J L2 => r = nI 1 ∧ J = upM (upM (upM I (27, d) 0 (nI 2)) (27, d) 2 (nI s)) (27, d) 3 (nI q) ∧ L2 = upT L (28, d) (filN 60 0 (L (28, d))))) := by
  refine Ct.of [some (.inr (.inr (some (0, 0)))), some (.inl (nI d)), some (.inl (nI s)), some (.inl (nI q)), none] (by decide) rfl (Nat.le_of_ble_eq_true rfl) ?_
  refine g_ald0 (pc' := 1) dX8_row_0 rfl ?_
  refine g_ild1 (pc' := 2) dX8_row_1 rfl ?_
  refine g_callV (pc' := 5) (c_shelfOfS l xg hd6 hRd) xg.s0 (by decide) wX8_shelfOf lX8_186 rfl rfl (Nat.le_of_ble_eq_true rfl) ⟨Nat.le_of_ble_eq_true rfl, Nat.le_of_ble_eq_true rfl⟩ ⟨Nat.le_of_ble_eq_true rfl, Nat.le_of_ble_eq_true rfl⟩ dX8_row_2 rfl (kRp ?_)
  refine g_ast4 (pc' := 7) rfl (by decide) dX8_row_5 rfl ?_
  refine g_ald4 (pc' := 9) dX8_row_7 rfl ?_
  refine g_ifnullF (pc' := 12) dX8_row_9 rfl ?_
  refine g_ild2 (pc' := 13) dX8_row_12 rfl ?_
  refine g_ifltN (pc' := 16) (by omega) dX8_row_13 rfl ?_
  refine g_ild2 (pc' := 17) dX8_row_16 rfl ?_
  refine g_iconst (pc' := 18) (v := nI 4) dX8_row_17 rfl (by decide) ?_
  refine g_icmpgtN (pc' := 21) (by omega) (by omega) (tgt := 27) dX8_row_18 (by decide) rfl (fun h18 => ?_) (fun h18 => ?_)
  · exact absurd h18 (by omega)
  · refine g_ild3 (pc' := 22) dX8_row_21 rfl ?_
    refine g_bipush (pc' := 24) (v := nI 60) dX8_row_22 rfl (by decide) ?_
    refine g_icmpleN (pc' := 27) (by omega) (by omega) (tgt := 29) dX8_row_24 (by decide) rfl (fun h24 => ?_) (fun h24 => ?_)
    · refine g_ild3 (pc' := 30) dX8_row_29 rfl ?_
      refine g_ifgeN (by omega) (tgt := 36) dX8_row_30 (by decide) ?_
      refine g_ald4 (pc' := 38) dX8_row_36 rfl ?_
      refine g_iconst (pc' := 39) (v := nI 2) dX8_row_38 rfl (by decide) ?_
      refine g_putI (pc' := 42) dg.s27 (by decide) ⟨fX8_190, rfl, pI⟩ dX8_row_39 rfl ?_
      refine g_ald4 (pc' := 44) dX8_row_42 rfl ?_
      refine g_ild2 (pc' := 45) dX8_row_44 rfl ?_
      refine g_putI (pc' := 48) dg.s27 (by decide) ⟨fX8_193, rfl, pI⟩ dX8_row_45 rfl ?_
      refine g_ald4 (pc' := 50) dX8_row_48 rfl ?_
      refine g_ild3 (pc' := 51) dX8_row_50 rfl ?_
      refine g_putI (pc' := 54) dg.s27 (by decide) ⟨fX8_350, rfl, pI⟩ dX8_row_51 rfl ?_
      refine g_ald4 (pc' := 56) dX8_row_54 rfl ?_
      refine g_getR (pc' := 59) dg.s27 (by decide) fX8_197 dg.r27_4 dX8_row_56 rfl ?_
      refine g_lconst (pc' := 60) (v := 0) dX8_row_59 rfl (by decide) ?_
      refine g_callS (pc' := 63) (c_fillJ l S _ L R dg.s28 (by decide)) wJ7_fill_d0a16 lX8_351 rfl rfl (Nat.le_of_ble_eq_true rfl) ⟨Nat.le_of_ble_eq_true rfl, Nat.le_of_ble_eq_true rfl⟩ ⟨Nat.le_of_ble_eq_true rfl, Nat.le_of_ble_eq_true rfl⟩ dX8_row_60 rfl (kVl (fun J L2 hq2 => ?_))
      refine g_iconst (pc' := 64) (v := nI 1) dX8_row_63 rfl (by decide) ?_
      refine g_iret rfl dX8_row_64 ?_
      exact eIl ⟨rfl, hq2.1, hq2.2⟩
    · exact absurd h24 (by omega)

def tkV (h : Nat) (y : Int32) (bd : Int32) (b : Nat) (kd : Nat → Nat) : Int32 := if h = 0 then -11 else if h = 1 ∧ inb bd b = true ∧ undF 8 (some (kd bd.toInt.toNat)) y = true then nI (kd bd.toInt.toNat) else -12
theorem toN_nI {j : Nat} (h : j < 2 ^ 31) : (nI j).toInt.toNat = j := by rw [nI_toInt h]; rfl
theorem c_takenN (l : Launch) {S : Shp} {I : MI} {L : ML} {R : MR} (xg : XG S R) {x : Int32} (hx : inb x 6 = false) (y : Int32) : Ct l mX8_taken 2 0 0 [.inr (.inr (some (0, 0))), .inl x, .inl y] S I L R (PIp S I L R (-1)) := by
  refine Ct.of [some (.inr (.inr (some (0, 0)))), some (.inl x), some (.inl y), none] (by decide) rfl (Nat.le_of_ble_eq_true rfl) ?_
  refine g_ald0 (pc' := 1) dX8_taken_0 rfl ?_
  refine g_ild1 (pc' := 2) dX8_taken_1 rfl ?_
  refine g_callV (pc' := 5) (c_shelfOfN l xg hx) xg.s0 (by decide) wX8_shelfOf lX8_186 rfl rfl (Nat.le_of_ble_eq_true rfl) ⟨Nat.le_of_ble_eq_true rfl, Nat.le_of_ble_eq_true rfl⟩ ⟨Nat.le_of_ble_eq_true rfl, Nat.le_of_ble_eq_true rfl⟩ dX8_taken_2 rfl (kRp ?_)
  refine g_ast3 (pc' := 6) rfl (by decide) dX8_taken_5 rfl ?_
  refine g_ald3 (pc' := 7) dX8_taken_6 rfl ?_
  refine g_ifnullT (tgt := 20) dX8_taken_7 (by decide) ?_
  refine g_iconst (pc' := 21) (v := (-1)) dX8_taken_20 rfl (by decide) ?_
  refine g_iret rfl dX8_taken_21 ?_
  exact eIp rfl

theorem c_takenB (l : Launch) {S : Shp} {I : MI} {L : ML} {R : MR} (xg : XG S R) {d : Nat} (hd6 : d < 6) (hRd : R (26, 0) d = some (27, d)) (dg : DG d S R) {y : Int32} (hy : y < 0 ∨ nI 8 ≤ y) : Ct l mX8_taken 2 0 0 [.inr (.inr (some (0, 0))), .inl (nI d), .inl y] S I L R (PIp S I L R (-1)) := by
  refine Ct.of [some (.inr (.inr (some (0, 0)))), some (.inl (nI d)), some (.inl y), none] (by decide) rfl (Nat.le_of_ble_eq_true rfl) ?_
  refine g_ald0 (pc' := 1) dX8_taken_0 rfl ?_
  refine g_ild1 (pc' := 2) dX8_taken_1 rfl ?_
  refine g_callV (pc' := 5) (c_shelfOfS l xg hd6 hRd) xg.s0 (by decide) wX8_shelfOf lX8_186 rfl rfl (Nat.le_of_ble_eq_true rfl) ⟨Nat.le_of_ble_eq_true rfl, Nat.le_of_ble_eq_true rfl⟩ ⟨Nat.le_of_ble_eq_true rfl, Nat.le_of_ble_eq_true rfl⟩ dX8_taken_2 rfl (kRp ?_)
  refine g_ast3 (pc' := 6) rfl (by decide) dX8_taken_5 rfl ?_
  refine g_ald3 (pc' := 7) dX8_taken_6 rfl ?_
  refine g_ifnullF (pc' := 10) dX8_taken_7 rfl ?_
  refine g_ild2 (pc' := 11) dX8_taken_10 rfl ?_
  refine g_iflt (pc' := 14) (tgt := 20) dX8_taken_11 (by decide) rfl (fun h11 => ?_) (fun h11 => ?_)
  · refine g_iconst (pc' := 21) (v := (-1)) dX8_taken_20 rfl (by decide) ?_
    refine g_iret rfl dX8_taken_21 ?_
    exact eIp rfl
  · refine g_ild2 (pc' := 15) dX8_taken_14 rfl ?_
    refine g_bipush (pc' := 17) (v := nI 8) dX8_taken_15 rfl (by decide) ?_
    refine g_icmplt (pc' := 20) (tgt := 22) dX8_taken_17 (by decide) rfl (fun h17 => ?_) (fun h17 => ?_)
    · exfalso
      rcases hy with h | h
      · exact h11 h
      · exact absurd h17 (Int32.not_lt.mpr h)
    · refine g_iconst (pc' := 21) (v := (-1)) dX8_taken_20 rfl (by decide) ?_
      refine g_iret rfl dX8_taken_21 ?_
      exact eIp rfl

theorem c_takenS (l : Launch) {S : Shp} {I : MI} {L : ML} {R : MR} (xg : XG S R) {d : Nat} (hd6 : d < 6) (hRd : R (26, 0) d = some (27, d)) (dg : DG d S R) {h b : Nat} {bd : Int32} {kd : Nat → Nat} (hh : I (27, d) 0 = nI h) (hh3 : h < 3) (hbd : I (27, d) 1 = bd) (ag : AG S R) (hb : I (23, 0) 1 = nI b) (hb5 : b ≤ 50) (hkd : ∀ j, j < b → I (24, 0) j = nI (kd j) ∧ kd j < 8) (hat : AT I) {y : Int32} (h0 : ¬ y < 0) (h8 : y < nI 8) : Ct l mX8_taken 2 0 0 [.inr (.inr (some (0, 0))), .inl (nI d), .inl y] S I L R (PIp S I L R (tkV h y bd b kd)) := by
  refine Ct.of [some (.inr (.inr (some (0, 0)))), some (.inl (nI d)), some (.inl y), none] (by decide) rfl (Nat.le_of_ble_eq_true rfl) ?_
  refine g_ald0 (pc' := 1) dX8_taken_0 rfl ?_
  refine g_ild1 (pc' := 2) dX8_taken_1 rfl ?_
  refine g_callV (pc' := 5) (c_shelfOfS l xg hd6 hRd) xg.s0 (by decide) wX8_shelfOf lX8_186 rfl rfl (Nat.le_of_ble_eq_true rfl) ⟨Nat.le_of_ble_eq_true rfl, Nat.le_of_ble_eq_true rfl⟩ ⟨Nat.le_of_ble_eq_true rfl, Nat.le_of_ble_eq_true rfl⟩ dX8_taken_2 rfl (kRp ?_)
  refine g_ast3 (pc' := 6) rfl (by decide) dX8_taken_5 rfl ?_
  refine g_ald3 (pc' := 7) dX8_taken_6 rfl ?_
  refine g_ifnullF (pc' := 10) dX8_taken_7 rfl ?_
  refine g_ild2 (pc' := 11) dX8_taken_10 rfl ?_
  refine g_iflt (pc' := 14) (tgt := 20) dX8_taken_11 (by decide) rfl (fun h11 => (by first | exact absurd h11 h0 | exact absurd h0 h11)) (fun h11 => ?_)
  refine g_ild2 (pc' := 15) dX8_taken_14 rfl ?_
  refine g_bipush (pc' := 17) (v := nI 8) dX8_taken_15 rfl (by decide) ?_
  refine g_icmplt (pc' := 20) (tgt := 22) dX8_taken_17 (by decide) rfl (fun h17 => ?_) (fun h17 => (by first | exact absurd h17 h8 | exact absurd h8 h17))
  refine g_ald3 (pc' := 23) dX8_taken_22 rfl ?_
  refine g_getI (pc' := 26) dg.s27 (by decide) fX8_190 hh dX8_taken_23 rfl ?_
  refine g_ifneN (pc' := 29) (by omega) (tgt := 32) dX8_taken_26 (by decide) rfl (fun h26 => ?_) (fun h26 => ?_)
  · refine g_ald3 (pc' := 33) dX8_taken_32 rfl ?_
    refine g_getI (pc' := 36) dg.s27 (by decide) fX8_190 hh dX8_taken_33 rfl ?_
    refine g_iconst (pc' := 37) (v := nI 1) dX8_taken_36 rfl (by decide) ?_
    refine g_icmpneN (pc' := 40) (by omega) (by omega) (tgt := 73) dX8_taken_37 (by decide) rfl (fun h37 => ?_) (fun h37 => ?_)
    · refine g_bipush (pc' := 75) (v := (-12)) dX8_taken_73 rfl (by decide) ?_
      refine g_iret rfl dX8_taken_75 ?_
      exact eIp (by unfold tkV; rw [if_neg (by omega), if_neg (fun q => by first | exact absurd q.1 (by omega) | (have := q.2.1; rw [this] at h51; cases h51))])
    · refine g_ald0 (pc' := 41) dX8_taken_40 rfl ?_
      refine g_getR (pc' := 44) xg.s0 (by decide) fX8_45 xg.r0_7 dX8_taken_41 rfl ?_
      refine g_ald3 (pc' := 45) dX8_taken_44 rfl ?_
      refine g_getI (pc' := 48) dg.s27 (by decide) fX8_347 hbd dX8_taken_45 rfl ?_
      refine g_callV (pc' := 51) (c_aHas l ag hb hb5 bd) ag.s23 (by decide) wX0_has lX8_346 rfl rfl (Nat.le_of_ble_eq_true rfl) ⟨Nat.le_of_ble_eq_true rfl, Nat.le_of_ble_eq_true rfl⟩ ⟨Nat.le_of_ble_eq_true rfl, Nat.le_of_ble_eq_true rfl⟩ dX8_taken_48 rfl (kIp ?_)
      refine g_ifeqB (pc' := 54) (tgt := 73) dX8_taken_51 (by decide) rfl (fun h51 => ?_) (fun h51 => ?_)
      · refine g_bipush (pc' := 75) (v := (-12)) dX8_taken_73 rfl (by decide) ?_
        refine g_iret rfl dX8_taken_75 ?_
        exact eIp (by unfold tkV; rw [if_neg (by omega), if_neg (fun q => by first | exact absurd q.1 (by omega) | (have := q.2.1; rw [this] at h51; cases h51))])
      · obtain ⟨j, hj, rfl⟩ := inb_of (by omega) h51
        have hkj := (hkd j hj)
        refine g_ald0 (pc' := 55) dX8_taken_54 rfl ?_
        refine g_getR (pc' := 58) xg.s0 (by decide) fX8_45 xg.r0_7 dX8_taken_55 rfl ?_
        refine g_getR (pc' := 61) ag.s23 (by decide) fX8_333 ag.r23_0 dX8_taken_58 rfl ?_
        refine g_ald3 (pc' := 62) dX8_taken_61 rfl ?_
        refine g_getI (pc' := 65) dg.s27 (by decide) fX8_347 hbd dX8_taken_62 rfl ?_
        refine g_iald (pc' := 66) (j := j) ag.s24 rfl (by omega) (by decide) (hkd j (by omega)).1 dX8_taken_65 rfl ?_
        refine g_ild2 (pc' := 67) dX8_taken_66 rfl ?_
        refine g_callS (pc' := 70) (c_isUnder l ag hat hkj.2 y) wX0_isUnder lX8_368 rfl rfl (Nat.le_of_ble_eq_true rfl) ⟨Nat.le_of_ble_eq_true rfl, Nat.le_of_ble_eq_true rfl⟩ ⟨Nat.le_of_ble_eq_true rfl, Nat.le_of_ble_eq_true rfl⟩ dX8_taken_67 rfl (kIp ?_)
        refine g_ifneB (pc' := 73) (tgt := 76) dX8_taken_70 (by decide) rfl (fun h70 => ?_) (fun h70 => ?_)
        · refine g_ald0 (pc' := 77) dX8_taken_76 rfl ?_
          refine g_getR (pc' := 80) xg.s0 (by decide) fX8_45 xg.r0_7 dX8_taken_77 rfl ?_
          refine g_getR (pc' := 83) ag.s23 (by decide) fX8_333 ag.r23_0 dX8_taken_80 rfl ?_
          refine g_ald3 (pc' := 84) dX8_taken_83 rfl ?_
          refine g_getI (pc' := 87) dg.s27 (by decide) fX8_347 hbd dX8_taken_84 rfl ?_
          refine g_iald (pc' := 88) (j := j) ag.s24 rfl (by omega) (by decide) (hkd j (by omega)).1 dX8_taken_87 rfl ?_
          refine g_iret rfl dX8_taken_88 ?_
          exact eIp (by unfold tkV; rw [if_neg (by omega), if_pos ⟨by omega, h51, by rw [toN_nI (by omega)]; exact h70⟩, toN_nI (by omega)])
        · refine g_bipush (pc' := 75) (v := (-12)) dX8_taken_73 rfl (by decide) ?_
          refine g_iret rfl dX8_taken_75 ?_
          exact eIp (by unfold tkV; rw [if_neg (by omega), if_neg (fun q => by have := q.2.2; rw [toN_nI (by omega)] at this; rw [this] at h70; cases h70)])
  · refine g_bipush (pc' := 31) (v := (-11)) dX8_taken_29 rfl (by decide) ?_
    refine g_iret rfl dX8_taken_31 ?_
    exact eIp (by unfold tkV; rw [if_pos (by omega)])
