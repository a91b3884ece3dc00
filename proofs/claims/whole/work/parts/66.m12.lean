/-! the model: keepings from a row -/
def rvN (I : MI) (w : Nat) : MI := upM I (73, 0) w (I (73, 0) w + nI 1)
def rvS (I : MI) (w ke s : Nat) : MI := kpM (rvN I w) w ke s (I (50, 0) (23 + 12 * w + s))
def mkSt (c : Nat → Int64) (w n i0 : Nat) (I : MI) (ke : Nat) : Nat → MI × Nat
  | 0 => (I, ke)
  | t + 1 => if inb (c (i0 + t)).toInt32 n = true then (rvS (mkSt c w n i0 I ke t).1 w (mkSt c w n i0 I ke t).2 (c (i0 + t)).toInt32.toInt.toNat, (mkSt c w n i0 I ke t).2 + 1) else (rvN (mkSt c w n i0 I ke t).1 w, (mkSt c w n i0 I ke t).2)
def mwP (w : Nat) (t : Tok) (i : Nat) : Prop := (t = (73, 0) ∧ i = w) ∨ (t = (74, 0) ∧ i = w) ∨ (t = (75, 0) ∧ 200 * w ≤ i ∧ i < 200 * w + 200) ∨ (t = (50, 0) ∧ 23 + 12 * w ≤ i ∧ i < 23 + 12 * w + 12)
theorem rvN_w {I : MI} {w : Nat} : Fr (mwP w) I (rvN I w) := Fr.rf.up (by simp [mwP])
theorem kpM_w {I : MI} {w ke s : Nat} {x : Int32} (hs : s < 12) : Fr (mwP w) I (kpM I w ke s x) := by
  unfold kpM
  refine Fr.up (Fr.up ?_ ?_) ?_
  · split
    · exact Fr.rf.up (by simp [mwP]; omega)
    · exact Fr.rf
  · simp [mwP]
  · simp [mwP]; omega
theorem rvS_w {I : MI} {w ke s : Nat} (hs : s < 12) : Fr (mwP w) I (rvS I w ke s) := rvN_w.tr (kpM_w hs)
theorem kpM_74 {I : MI} {w ke s : Nat} {x : Int32} : kpM I w ke s x (74, 0) w = nI (ke + 1) := by
  unfold kpM
  rw [upM_n _ (by simp), upM_s]
theorem rvN_74 {I : MI} {w : Nat} : rvN I w (74, 0) w = I (74, 0) w := by unfold rvN; rw [upM_n _ (by simp)]
theorem rvS_74 {I : MI} {w ke s : Nat} : rvS I w ke s (74, 0) w = nI (ke + 1) := by unfold rvS; exact kpM_74
def bdW (I : MI) (w n : Nat) : Prop := bdN (fun o => I (50, 0) (23 + 12 * w + o)) n
theorem minI_bd {x : Int32} {q : Nat} (hq : q ≤ 99999) (hx : x = nI q) : ∃ r, r ≤ 99999 ∧ minI (x + nI 1) 99999 = nI r := by
  subst hx
  rw [nI_add]
  unfold minI
  split
  · exact ⟨99999, Nat.le_refl _, rfl⟩
  · rename_i h
    rw [show (99999 : Int32) = nI 99999 from rfl, nI_ltI (by omega) (by omega)] at h
    exact ⟨q + 1, by omega, rfl⟩
theorem kpM_bd {I : MI} {w ke s n : Nat} (hb : bdW I w n) (hs : s < n) : bdW (kpM I w ke s (I (50, 0) (23 + 12 * w + s))) w n := by
  intro o ho
  obtain ⟨q, hq, e⟩ := hb o ho
  unfold kpM
  dsimp only at e ⊢
  by_cases h : o = s
  · subst h
    rw [upM_s]
    exact minI_bd hq e
  · rw [upM_k _ _ (by omega), upM_n _ (by simp)]
    refine ⟨q, hq, ?_⟩
    split
    · rw [upM_n _ (by simp)]; exact e
    · exact e
theorem rvN_bd {I : MI} {w n : Nat} (hb : bdW I w n) : bdW (rvN I w) w n := fun o ho => by
  obtain ⟨q, hq, e⟩ := hb o ho
  exact ⟨q, hq, by unfold rvN; rw [upM_n _ (by simp)]; exact e⟩
theorem rvS_bd {I : MI} {w ke s n : Nat} (hb : bdW I w n) (hs : s < n) : bdW (rvS I w ke s) w n := by
  have h := kpM_bd (ke := ke) (rvN_bd hb) hs
  have e : rvN I w (50, 0) (23 + 12 * w + s) = I (50, 0) (23 + 12 * w + s) := by unfold rvN; rw [upM_n _ (by simp)]
  rw [e] at h
  exact h
theorem mkSt_S {c : Nat → Int64} {w n i0 t s : Nat} {I : MI} {ke : Nat} (h : (c (i0 + t)).toInt32 = nI s) (hs : s < n) (hn : n ≤ 12) : mkSt c w n i0 I ke (t + 1) = (rvS (mkSt c w n i0 I ke t).1 w (mkSt c w n i0 I ke t).2 s, (mkSt c w n i0 I ke t).2 + 1) := by
  have e : inb (c (i0 + t)).toInt32 n = true := by rw [h, inb_nI (by omega) (by omega)]; simp [hs]
  show (if inb (c (i0 + t)).toInt32 n = true then _ else _) = _
  rw [if_pos e, h, toN_nI (by omega)]
theorem mkSt_N {c : Nat → Int64} {w n i0 t : Nat} {I : MI} {ke : Nat} (h : inb (c (i0 + t)).toInt32 n = false) : mkSt c w n i0 I ke (t + 1) = (rvN (mkSt c w n i0 I ke t).1 w, (mkSt c w n i0 I ke t).2) := if_neg (by rw [h]; simp)
theorem mkSt_w {c : Nat → Int64} {w n i0 : Nat} (hN : n ≤ 12) {I : MI} {ke : Nat} (hke : I (74, 0) w = nI ke) (hb : bdW I w n) : ∀ t, Fr (mwP w) I (mkSt c w n i0 I ke t).1 ∧ (mkSt c w n i0 I ke t).1 (74, 0) w = nI (mkSt c w n i0 I ke t).2 ∧ (mkSt c w n i0 I ke t).2 ≤ ke + t ∧ bdW (mkSt c w n i0 I ke t).1 w n
  | 0 => ⟨Fr.rf, hke, Nat.le_refl _, hb⟩
  | t + 1 => by
    have ih := mkSt_w (c := c) (i0 := i0) hN hke hb t
    cases e : inb (c (i0 + t)).toInt32 n with
    | true =>
      obtain ⟨s, hs, hx⟩ := inb_of (by omega) e
      rw [mkSt_S hx hs hN]
      exact ⟨ih.1.tr (rvS_w (by omega)), rvS_74, by have := ih.2.2.1; show _ + 1 ≤ _; omega, rvS_bd ih.2.2.2 hs⟩
    | false =>
      rw [mkSt_N e]
      refine ⟨ih.1.tr rvN_w, ?_, by have := ih.2.2.1; show _ ≤ _; omega, rvN_bd ih.2.2.2⟩
      exact rvN_74.trans ih.2.1
theorem wt_k (x : Int32) {n : Nat} (hn : n < 2 ^ 31) : wtB x.toInt64 (-1) (nI n - nI 1).toInt64 = (decide (x = -1) || inb x n) := by
  rw [show (-1 : Int64) = (-1 : Int32).toInt64 from by decide, wtB_i]
  rw [← wi_inb x hn]
  unfold wi
  by_cases h : x = -1
  · subst h
    rw [decide_eq_true (Int32.le_refl _), Bool.true_and, decide_eq_true rfl, Bool.true_or]
    rw [decide_eq_true_eq]
    by_cases h0 : n = 0
    · subst h0; rw [nI_m1']; exact Int32.le_refl _
    · rw [pk_sub (by omega)]
      exact Int32.le_trans (show (-1 : Int32) ≤ nI 0 from by decide) ((nI_leI (by omega) (by omega)).mpr (Nat.zero_le _))
  · rw [decide_eq_false h, Bool.false_or]
    congr 1
    rw [decide_eq_decide, show nI 0 = (0 : Int32) from by decide]
    constructor
    · intro q
      rcases Int32.lt_or_eq_of_le q with q | q
      · have := Int32.lt_iff_toInt_lt.mp q
        rw [Int32.le_iff_toInt_le]
        have e1 : (-1 : Int32).toInt = -1 := by decide
        have e2 : (0 : Int32).toInt = 0 := by decide
        omega
      · exact absurd q.symm h
    · intro q
      exact Int32.le_trans (by decide) q
theorem kOK_T {c : Nat → Int64} {z n q : Nat} (h : ¬ q < z) (B : Int64) : wtB (-2) (-1) B = kOK c z n q := by
  unfold kOK wtB
  rw [decide_eq_false h, Bool.false_and, show decide ((-1 : Int64) ≤ -2) = false from by decide, Bool.false_and]
theorem kOK_F {c : Nat → Int64} {z n q : Nat} (hn : n < 2 ^ 31) (h : q < z) (hc : c q = (c q).toInt32.toInt64) : wtB (c q) (-1) (nI n - nI 1).toInt64 = kOK c z n q := by
  unfold kOK
  rw [decide_eq_true h, Bool.true_and, hc, wt_k _ hn]
  rw [← hc]
theorem c_mKpsB (l : Launch) {S : Shp} {I : MI} {L : ML} {R : MR} (mg : MG S R) {m : Nat} (hm : I (40, 0) 18 = nI m) (hM : m ≤ 9) {x y u v : Int32} (hb : inb x m = false ∨ inb y 6 = false ∨ v < nI 1 ∨ nI 60 < v) : Ct l mX9_keepings 3 0 0 [.inr (.inr (some (40, 0))), .inl x, .inl y, .inl u, .inl v] S I L R (PIp S I L R (-1)) := by
  refine Ct.of [some (.inr (.inr (some (40, 0)))), some (.inl x), some (.inl y), some (.inl u), some (.inl v), none, none, none, none] (by decide) rfl (Nat.le_of_ble_eq_true rfl) ?_
  refine g_ald0 (pc' := 1) dX9_keepings_0 rfl ?_
  refine g_ild1 (pc' := 2) dX9_keepings_1 rfl ?_
  refine g_callV (pc' := 5) (c_misWorld l mg hm hM x) mg.s40 (by decide) wX9_isWorld lX9_186 rfl rfl (Nat.le_of_ble_eq_true rfl) ⟨Nat.le_of_ble_eq_true rfl, Nat.le_of_ble_eq_true rfl⟩ ⟨Nat.le_of_ble_eq_true rfl, Nat.le_of_ble_eq_true rfl⟩ dX9_keepings_2 rfl (kIp ?_)
  refine g_ifeqB (pc' := 8) (tgt := 28) dX9_keepings_5 (by decide) rfl (fun h5 => ?_) (fun h5 => ?_)
  · refine g_iconst (pc' := 29) (v := (-1)) dX9_keepings_28 rfl (by decide) ?_
    refine g_iret rfl dX9_keepings_29 ?_
    exact eIp rfl
  · refine g_ild2 (pc' := 9) dX9_keepings_8 rfl ?_
    refine g_callS (pc' := 12) (c_mIsShelf l y) wX9_isShelf lX9_239 rfl rfl (Nat.le_of_ble_eq_true rfl) ⟨Nat.le_of_ble_eq_true rfl, Nat.le_of_ble_eq_true rfl⟩ ⟨Nat.le_of_ble_eq_true rfl, Nat.le_of_ble_eq_true rfl⟩ dX9_keepings_9 rfl (kIp ?_)
    refine g_ifeqB (pc' := 15) (tgt := 28) dX9_keepings_12 (by decide) rfl (fun h12 => ?_) (fun h12 => ?_)
    · refine g_iconst (pc' := 29) (v := (-1)) dX9_keepings_28 rfl (by decide) ?_
      refine g_iret rfl dX9_keepings_29 ?_
      exact eIp rfl
    · refine g_ild4 (pc' := 17) dX9_keepings_15 rfl ?_
      refine g_i2l (pc' := 18) dX9_keepings_17 rfl ?_
      refine g_lconst (pc' := 19) (v := 1) dX9_keepings_18 rfl (by decide) ?_
      refine g_ldc2 (pc' := 22) dX9_keepings_19 rfl kX9_242 ?_
      refine g_callS (pc' := 25) (c_mWI l v (nI 1) (nI 60) (A := 1) (B := 60) (by decide) (by decide)) wX9_within lX9_102 rfl rfl (Nat.le_of_ble_eq_true rfl) ⟨Nat.le_of_ble_eq_true rfl, Nat.le_of_ble_eq_true rfl⟩ ⟨Nat.le_of_ble_eq_true rfl, Nat.le_of_ble_eq_true rfl⟩ dX9_keepings_22 rfl (kIp ?_)
      refine g_ifneB (pc' := 28) (tgt := 30) dX9_keepings_25 (by decide) rfl (fun h25 => ?_) (fun h25 => ?_)
      · exfalso
        rcases hb with h | h | h
        · rw [h] at h5; cases h5
        · rw [h] at h12; cases h12
        · exact wi_no h h25
      · refine g_iconst (pc' := 29) (v := (-1)) dX9_keepings_28 rfl (by decide) ?_
        refine g_iret rfl dX9_keepings_29 ?_
        exact eIp rfl

theorem c_mKps0 (l : Launch) {S : Shp} {I : MI} {L : ML} {R : MR} (mg : MG S R) {m : Nat} (hm : I (40, 0) 18 = nI m) (hM : m ≤ 9) {w : Nat} (hwm : w < m) {d : Nat} (hd : d < 6) (h91 : I (91, 0) d = -1) (u : Int32) {a : Nat} (ha : 1 ≤ a ∧ a ≤ 60) : Ct l mX9_keepings 3 0 0 [.inr (.inr (some (40, 0))), .inl (nI w), .inl (nI d), .inl u, .inl (nI a)] S I L R (PIp S I L R (nI 0)) := by
  refine Ct.of [some (.inr (.inr (some (40, 0)))), some (.inl (nI w)), some (.inl (nI d)), some (.inl u), some (.inl (nI a)), none, none, none, none] (by decide) rfl (Nat.le_of_ble_eq_true rfl) ?_
  refine g_ald0 (pc' := 1) dX9_keepings_0 rfl ?_
  refine g_ild1 (pc' := 2) dX9_keepings_1 rfl ?_
  refine g_callV (pc' := 5) (c_misWorld l mg hm hM (nI w)) mg.s40 (by decide) wX9_isWorld lX9_186 rfl rfl (Nat.le_of_ble_eq_true rfl) ⟨Nat.le_of_ble_eq_true rfl, Nat.le_of_ble_eq_true rfl⟩ ⟨Nat.le_of_ble_eq_true rfl, Nat.le_of_ble_eq_true rfl⟩ dX9_keepings_2 rfl (kIp ?_)
  refine g_ifeqB (pc' := 8) (tgt := 28) dX9_keepings_5 (by decide) rfl (fun h5 => (by first | exact absurd h5 (by rw [inb_nI (by omega) (by omega)]; simp [hwm]) | exact absurd (by rw [inb_nI (by omega) (by omega)]; simp [hwm]) h5)) (fun h5 => ?_)
  refine g_ild2 (pc' := 9) dX9_keepings_8 rfl ?_
  refine g_callS (pc' := 12) (c_mIsShelf l (nI d)) wX9_isShelf lX9_239 rfl rfl (Nat.le_of_ble_eq_true rfl) ⟨Nat.le_of_ble_eq_true rfl, Nat.le_of_ble_eq_true rfl⟩ ⟨Nat.le_of_ble_eq_true rfl, Nat.le_of_ble_eq_true rfl⟩ dX9_keepings_9 rfl (kIp ?_)
  refine g_ifeqB (pc' := 15) (tgt := 28) dX9_keepings_12 (by decide) rfl (fun h12 => (by first | exact absurd h12 (by rw [inb_nI (by omega) (by omega)]; simp [hd]) | exact absurd (by rw [inb_nI (by omega) (by omega)]; simp [hd]) h12)) (fun h12 => ?_)
  refine g_ild4 (pc' := 17) dX9_keepings_15 rfl ?_
  refine g_i2l (pc' := 18) dX9_keepings_17 rfl ?_
  refine g_lconst (pc' := 19) (v := 1) dX9_keepings_18 rfl (by decide) ?_
  refine g_ldc2 (pc' := 22) dX9_keepings_19 rfl kX9_242 ?_
  refine g_callS (pc' := 25) (c_mWI l (nI a) (nI 1) (nI 60) (A := 1) (B := 60) (by decide) (by decide)) wX9_within lX9_102 rfl rfl (Nat.le_of_ble_eq_true rfl) ⟨Nat.le_of_ble_eq_true rfl, Nat.le_of_ble_eq_true rfl⟩ ⟨Nat.le_of_ble_eq_true rfl, Nat.le_of_ble_eq_true rfl⟩ dX9_keepings_22 rfl (kIp ?_)
  refine g_ifneB (pc' := 28) (tgt := 30) dX9_keepings_25 (by decide) rfl (fun h25 => ?_) (fun h25 => (by first | exact absurd h25 (wi_yesN (by omega) (by decide)) | exact absurd (wi_yesN (by omega) (by decide)) h25))
  refine g_ald0 (pc' := 31) dX9_keepings_30 rfl ?_
  refine g_getR (pc' := 34) mg.s40 (by decide) fX9_79 mg.r40_41 dX9_keepings_31 rfl ?_
  refine g_ild2 (pc' := 35) dX9_keepings_34 rfl ?_
  refine g_iald (pc' := 36) (j := d) mg.s91 rfl (by omega) (by decide) h91 dX9_keepings_35 rfl ?_
  refine g_iflt (pc' := 39) (tgt := 53) dX9_keepings_36 (by decide) rfl (fun h36 => ?_) (fun h36 => (by first | exact absurd h36 (by decide : (-1 : Int32) < 0) | exact absurd (by decide : (-1 : Int32) < 0) h36))
  refine g_iconst (pc' := 54) (v := nI 0) dX9_keepings_53 rfl (by decide) ?_
  refine g_ist5 (pc' := 56) rfl (by decide) dX9_keepings_54 rfl ?_
  refine g_ald0 (pc' := 57) dX9_keepings_56 rfl ?_
  refine g_getR (pc' := 60) mg.s40 (by decide) fX9_79 mg.r40_41 dX9_keepings_57 rfl ?_
  refine g_ild2 (pc' := 61) dX9_keepings_60 rfl ?_
  refine g_iald (pc' := 62) (j := d) mg.s91 rfl (by omega) (by decide) h91 dX9_keepings_61 rfl ?_
  refine g_bipush (pc' := 64) (v := nI 50) dX9_keepings_62 rfl (by decide) ?_
  refine g_icmpne (pc' := 67) (tgt := 75) dX9_keepings_64 (by decide) rfl (fun h64 => ?_) (fun h64 => (by first | exact absurd h64 (by decide : ¬ (-1 : Int32) = nI 50) | exact absurd (by decide : ¬ (-1 : Int32) = nI 50) h64))
  refine g_iconst (pc' := 76) (v := nI 0) dX9_keepings_75 rfl (by decide) ?_
  refine g_ist6 (pc' := 78) rfl (by decide) dX9_keepings_76 rfl ?_
  refine g_ild6 (pc' := 80) dX9_keepings_78 rfl ?_
  refine g_ifeqN (pc' := 83) (by omega) (tgt := 178) dX9_keepings_80 (by decide) rfl (fun h80 => ?_) (fun h80 => ?_)
  · refine g_ild5 (pc' := 180) dX9_keepings_178 rfl ?_
    refine g_iret rfl dX9_keepings_180 ?_
    exact eIp rfl
  · exact absurd h80 (by omega)

theorem c_mKps1 (l : Launch) {S : Shp} {I : MI} {L : ML} {R : MR} (mg : MG S R) {m : Nat} (hm : I (40, 0) 18 = nI m) (hM : m ≤ 9) {w : Nat} (hwm : w < m) {d : Nat} (hd : d < 6) {c : Nat} (hc : c < 60) (hc5 : ¬ c = 50) (h91 : I (91, 0) d = nI c) (u : Int32) {a : Nat} (ha : 1 ≤ a ∧ a ≤ 60) : Ct l mX9_keepings 3 0 0 [.inr (.inr (some (40, 0))), .inl (nI w), .inl (nI d), .inl u, .inl (nI a)] S I L R (PIp S I L R (-12)) := by
  refine Ct.of [some (.inr (.inr (some (40, 0)))), some (.inl (nI w)), some (.inl (nI d)), some (.inl u), some (.inl (nI a)), none, none, none, none] (by decide) rfl (Nat.le_of_ble_eq_true rfl) ?_
  refine g_ald0 (pc' := 1) dX9_keepings_0 rfl ?_
  refine g_ild1 (pc' := 2) dX9_keepings_1 rfl ?_
  refine g_callV (pc' := 5) (c_misWorld l mg hm hM (nI w)) mg.s40 (by decide) wX9_isWorld lX9_186 rfl rfl (Nat.le_of_ble_eq_true rfl) ⟨Nat.le_of_ble_eq_true rfl, Nat.le_of_ble_eq_true rfl⟩ ⟨Nat.le_of_ble_eq_true rfl, Nat.le_of_ble_eq_true rfl⟩ dX9_keepings_2 rfl (kIp ?_)
  refine g_ifeqB (pc' := 8) (tgt := 28) dX9_keepings_5 (by decide) rfl (fun h5 => (by first | exact absurd h5 (by rw [inb_nI (by omega) (by omega)]; simp [hwm]) | exact absurd (by rw [inb_nI (by omega) (by omega)]; simp [hwm]) h5)) (fun h5 => ?_)
  refine g_ild2 (pc' := 9) dX9_keepings_8 rfl ?_
  refine g_callS (pc' := 12) (c_mIsShelf l (nI d)) wX9_isShelf lX9_239 rfl rfl (Nat.le_of_ble_eq_true rfl) ⟨Nat.le_of_ble_eq_true rfl, Nat.le_of_ble_eq_true rfl⟩ ⟨Nat.le_of_ble_eq_true rfl, Nat.le_of_ble_eq_true rfl⟩ dX9_keepings_9 rfl (kIp ?_)
  refine g_ifeqB (pc' := 15) (tgt := 28) dX9_keepings_12 (by decide) rfl (fun h12 => (by first | exact absurd h12 (by rw [inb_nI (by omega) (by omega)]; simp [hd]) | exact absurd (by rw [inb_nI (by omega) (by omega)]; simp [hd]) h12)) (fun h12 => ?_)
  refine g_ild4 (pc' := 17) dX9_keepings_15 rfl ?_
  refine g_i2l (pc' := 18) dX9_keepings_17 rfl ?_
  refine g_lconst (pc' := 19) (v := 1) dX9_keepings_18 rfl (by decide) ?_
  refine g_ldc2 (pc' := 22) dX9_keepings_19 rfl kX9_242 ?_
  refine g_callS (pc' := 25) (c_mWI l (nI a) (nI 1) (nI 60) (A := 1) (B := 60) (by decide) (by decide)) wX9_within lX9_102 rfl rfl (Nat.le_of_ble_eq_true rfl) ⟨Nat.le_of_ble_eq_true rfl, Nat.le_of_ble_eq_true rfl⟩ ⟨Nat.le_of_ble_eq_true rfl, Nat.le_of_ble_eq_true rfl⟩ dX9_keepings_22 rfl (kIp ?_)
  refine g_ifneB (pc' := 28) (tgt := 30) dX9_keepings_25 (by decide) rfl (fun h25 => ?_) (fun h25 => (by first | exact absurd h25 (wi_yesN (by omega) (by decide)) | exact absurd (wi_yesN (by omega) (by decide)) h25))
  refine g_ald0 (pc' := 31) dX9_keepings_30 rfl ?_
  refine g_getR (pc' := 34) mg.s40 (by decide) fX9_79 mg.r40_41 dX9_keepings_31 rfl ?_
  refine g_ild2 (pc' := 35) dX9_keepings_34 rfl ?_
  refine g_iald (pc' := 36) (j := d) mg.s91 rfl (by omega) (by decide) h91 dX9_keepings_35 rfl ?_
  refine g_ifltN (pc' := 39) (by omega) dX9_keepings_36 rfl ?_
  refine g_ald0 (pc' := 40) dX9_keepings_39 rfl ?_
  refine g_getR (pc' := 43) mg.s40 (by decide) fX9_79 mg.r40_41 dX9_keepings_40 rfl ?_
  refine g_ild2 (pc' := 44) dX9_keepings_43 rfl ?_
  refine g_iald (pc' := 45) (j := d) mg.s91 rfl (by omega) (by decide) h91 dX9_keepings_44 rfl ?_
  refine g_bipush (pc' := 47) (v := nI 50) dX9_keepings_45 rfl (by decide) ?_
  refine g_icmpeqN (pc' := 50) (by omega) (by omega) (tgt := 53) dX9_keepings_47 (by decide) rfl (fun h47 => ?_) (fun h47 => ?_)
  · exact absurd h47 (by omega)
  · refine g_bipush (pc' := 52) (v := (-12)) dX9_keepings_50 rfl (by decide) ?_
    refine g_iret rfl dX9_keepings_52 ?_
    exact eIp rfl

theorem c_mKpsL (l : Launch) {S : Shp} {I : MI} {L : ML} {R : MR} (mg : MG S R) {m : Nat} (hm : I (40, 0) 18 = nI m) (hM : m ≤ 9) {w : Nat} (hwm : w < m) {d : Nat} (hd : d < 6) (h91 : I (91, 0) d = nI 50) {z : Nat} (h92 : I (92, 0) d = nI z) (hz6 : z ≤ 60) {u : Int32} (hu : u < 0) {a : Nat} (ha : 1 ≤ a ∧ a ≤ 60) : Ct l mX9_keepings 3 0 0 [.inr (.inr (some (40, 0))), .inl (nI w), .inl (nI d), .inl u, .inl (nI a)] S I L R (PIp S I L R (nI 0)) := by
  refine Ct.of [some (.inr (.inr (some (40, 0)))), some (.inl (nI w)), some (.inl (nI d)), some (.inl u), some (.inl (nI a)), none, none, none, none] (by decide) rfl (Nat.le_of_ble_eq_true rfl) ?_
  refine g_ald0 (pc' := 1) dX9_keepings_0 rfl ?_
  refine g_ild1 (pc' := 2) dX9_keepings_1 rfl ?_
  refine g_callV (pc' := 5) (c_misWorld l mg hm hM (nI w)) mg.s40 (by decide) wX9_isWorld lX9_186 rfl rfl (Nat.le_of_ble_eq_true rfl) ⟨Nat.le_of_ble_eq_true rfl, Nat.le_of_ble_eq_true rfl⟩ ⟨Nat.le_of_ble_eq_true rfl, Nat.le_of_ble_eq_true rfl⟩ dX9_keepings_2 rfl (kIp ?_)
  refine g_ifeqB (pc' := 8) (tgt := 28) dX9_keepings_5 (by decide) rfl (fun h5 => (by first | exact absurd h5 (by rw [inb_nI (by omega) (by omega)]; simp [hwm]) | exact absurd (by rw [inb_nI (by omega) (by omega)]; simp [hwm]) h5)) (fun h5 => ?_)
  refine g_ild2 (pc' := 9) dX9_keepings_8 rfl ?_
  refine g_callS (pc' := 12) (c_mIsShelf l (nI d)) wX9_isShelf lX9_239 rfl rfl (Nat.le_of_ble_eq_true rfl) ⟨Nat.le_of_ble_eq_true rfl, Nat.le_of_ble_eq_true rfl⟩ ⟨Nat.le_of_ble_eq_true rfl, Nat.le_of_ble_eq_true rfl⟩ dX9_keepings_9 rfl (kIp ?_)
  refine g_ifeqB (pc' := 15) (tgt := 28) dX9_keepings_12 (by decide) rfl (fun h12 => (by first | exact absurd h12 (by rw [inb_nI (by omega) (by omega)]; simp [hd]) | exact absurd (by rw [inb_nI (by omega) (by omega)]; simp [hd]) h12)) (fun h12 => ?_)
  refine g_ild4 (pc' := 17) dX9_keepings_15 rfl ?_
  refine g_i2l (pc' := 18) dX9_keepings_17 rfl ?_
  refine g_lconst (pc' := 19) (v := 1) dX9_keepings_18 rfl (by decide) ?_
  refine g_ldc2 (pc' := 22) dX9_keepings_19 rfl kX9_242 ?_
  refine g_callS (pc' := 25) (c_mWI l (nI a) (nI 1) (nI 60) (A := 1) (B := 60) (by decide) (by decide)) wX9_within lX9_102 rfl rfl (Nat.le_of_ble_eq_true rfl) ⟨Nat.le_of_ble_eq_true rfl, Nat.le_of_ble_eq_true rfl⟩ ⟨Nat.le_of_ble_eq_true rfl, Nat.le_of_ble_eq_true rfl⟩ dX9_keepings_22 rfl (kIp ?_)
  refine g_ifneB (pc' := 28) (tgt := 30) dX9_keepings_25 (by decide) rfl (fun h25 => ?_) (fun h25 => (by first | exact absurd h25 (wi_yesN (by omega) (by decide)) | exact absurd (wi_yesN (by omega) (by decide)) h25))
  refine g_ald0 (pc' := 31) dX9_keepings_30 rfl ?_
  refine g_getR (pc' := 34) mg.s40 (by decide) fX9_79 mg.r40_41 dX9_keepings_31 rfl ?_
  refine g_ild2 (pc' := 35) dX9_keepings_34 rfl ?_
  refine g_iald (pc' := 36) (j := d) mg.s91 rfl (by omega) (by decide) h91 dX9_keepings_35 rfl ?_
  refine g_ifltN (pc' := 39) (by omega) dX9_keepings_36 rfl ?_
  refine g_ald0 (pc' := 40) dX9_keepings_39 rfl ?_
  refine g_getR (pc' := 43) mg.s40 (by decide) fX9_79 mg.r40_41 dX9_keepings_40 rfl ?_
  refine g_ild2 (pc' := 44) dX9_keepings_43 rfl ?_
  refine g_iald (pc' := 45) (j := d) mg.s91 rfl (by omega) (by decide) h91 dX9_keepings_44 rfl ?_
  refine g_bipush (pc' := 47) (v := nI 50) dX9_keepings_45 rfl (by decide) ?_
  refine g_icmpeqN (pc' := 50) (by omega) (by omega) (tgt := 53) dX9_keepings_47 (by decide) rfl (fun h47 => ?_) (fun h47 => ?_)
  · refine g_iconst (pc' := 54) (v := nI 0) dX9_keepings_53 rfl (by decide) ?_
    refine g_ist5 (pc' := 56) rfl (by decide) dX9_keepings_54 rfl ?_
    refine g_ald0 (pc' := 57) dX9_keepings_56 rfl ?_
    refine g_getR (pc' := 60) mg.s40 (by decide) fX9_79 mg.r40_41 dX9_keepings_57 rfl ?_
    refine g_ild2 (pc' := 61) dX9_keepings_60 rfl ?_
    refine g_iald (pc' := 62) (j := d) mg.s91 rfl (by omega) (by decide) h91 dX9_keepings_61 rfl ?_
    refine g_bipush (pc' := 64) (v := nI 50) dX9_keepings_62 rfl (by decide) ?_
    refine g_icmpneN (pc' := 67) (by omega) (by omega) (tgt := 75) dX9_keepings_64 (by decide) rfl (fun h64 => ?_) (fun h64 => ?_)
    · exact absurd h64 (by omega)
    · refine g_ild3 (pc' := 68) dX9_keepings_67 rfl ?_
      refine g_iflt (pc' := 71) (tgt := 75) dX9_keepings_68 (by decide) rfl (fun h68 => ?_) (fun h68 => (by first | exact absurd h68 hu | exact absurd hu h68))
      refine g_iconst (pc' := 76) (v := nI 0) dX9_keepings_75 rfl (by decide) ?_
      refine g_ist6 (pc' := 78) rfl (by decide) dX9_keepings_76 rfl ?_
      refine g_ild6 (pc' := 80) dX9_keepings_78 rfl ?_
      refine g_ifeqN (pc' := 83) (by omega) (tgt := 178) dX9_keepings_80 (by decide) rfl (fun h80 => ?_) (fun h80 => ?_)
      · refine g_ild5 (pc' := 180) dX9_keepings_178 rfl ?_
        refine g_iret rfl dX9_keepings_180 ?_
        exact eIp rfl
      · exact absurd h80 (by omega)
  · exact absurd h47 (by omega)

theorem c_mKpsH (l : Launch) {S : Shp} {I : MI} {L : ML} {R : MR} (mg : MG S R) {n : Nat} (hn : I (40, 0) 6 = nI n) (hN : n ≤ 12) {m : Nat} (hm : I (40, 0) 18 = nI m) (hM : m ≤ 9) {w : Nat} (hwm : w < m) {d : Nat} (hd : d < 6) (h91 : I (91, 0) d = nI 50) {z : Nat} (h92 : I (92, 0) d = nI z) (hz6 : z ≤ 60) {u : Nat} (hu : z ≤ u) (hu2 : u < 2 ^ 31) {a : Nat} (ha : 1 ≤ a ∧ a ≤ 60) : Ct l mX9_keepings 3 0 0 [.inr (.inr (some (40, 0))), .inl (nI w), .inl (nI d), .inl (nI u), .inl (nI a)] S I L R (PIp S I L R (nI 0)) := by
  refine Ct.of [some (.inr (.inr (some (40, 0)))), some (.inl (nI w)), some (.inl (nI d)), some (.inl (nI u)), some (.inl (nI a)), none, none, none, none] (by decide) rfl (Nat.le_of_ble_eq_true rfl) ?_
  refine g_ald0 (pc' := 1) dX9_keepings_0 rfl ?_
  refine g_ild1 (pc' := 2) dX9_keepings_1 rfl ?_
  refine g_callV (pc' := 5) (c_misWorld l mg hm hM (nI w)) mg.s40 (by decide) wX9_isWorld lX9_186 rfl rfl (Nat.le_of_ble_eq_true rfl) ⟨Nat.le_of_ble_eq_true rfl, Nat.le_of_ble_eq_true rfl⟩ ⟨Nat.le_of_ble_eq_true rfl, Nat.le_of_ble_eq_true rfl⟩ dX9_keepings_2 rfl (kIp ?_)
  refine g_ifeqB (pc' := 8) (tgt := 28) dX9_keepings_5 (by decide) rfl (fun h5 => (by first | exact absurd h5 (by rw [inb_nI (by omega) (by omega)]; simp [hwm]) | exact absurd (by rw [inb_nI (by omega) (by omega)]; simp [hwm]) h5)) (fun h5 => ?_)
  refine g_ild2 (pc' := 9) dX9_keepings_8 rfl ?_
  refine g_callS (pc' := 12) (c_mIsShelf l (nI d)) wX9_isShelf lX9_239 rfl rfl (Nat.le_of_ble_eq_true rfl) ⟨Nat.le_of_ble_eq_true rfl, Nat.le_of_ble_eq_true rfl⟩ ⟨Nat.le_of_ble_eq_true rfl, Nat.le_of_ble_eq_true rfl⟩ dX9_keepings_9 rfl (kIp ?_)
  refine g_ifeqB (pc' := 15) (tgt := 28) dX9_keepings_12 (by decide) rfl (fun h12 => (by first | exact absurd h12 (by rw [inb_nI (by omega) (by omega)]; simp [hd]) | exact absurd (by rw [inb_nI (by omega) (by omega)]; simp [hd]) h12)) (fun h12 => ?_)
  refine g_ild4 (pc' := 17) dX9_keepings_15 rfl ?_
  refine g_i2l (pc' := 18) dX9_keepings_17 rfl ?_
  refine g_lconst (pc' := 19) (v := 1) dX9_keepings_18 rfl (by decide) ?_
  refine g_ldc2 (pc' := 22) dX9_keepings_19 rfl kX9_242 ?_
  refine g_callS (pc' := 25) (c_mWI l (nI a) (nI 1) (nI 60) (A := 1) (B := 60) (by decide) (by decide)) wX9_within lX9_102 rfl rfl (Nat.le_of_ble_eq_true rfl) ⟨Nat.le_of_ble_eq_true rfl, Nat.le_of_ble_eq_true rfl⟩ ⟨Nat.le_of_ble_eq_true rfl, Nat.le_of_ble_eq_true rfl⟩ dX9_keepings_22 rfl (kIp ?_)
  refine g_ifneB (pc' := 28) (tgt := 30) dX9_keepings_25 (by decide) rfl (fun h25 => ?_) (fun h25 => (by first | exact absurd h25 (wi_yesN (by omega) (by decide)) | exact absurd (wi_yesN (by omega) (by decide)) h25))
  refine g_ald0 (pc' := 31) dX9_keepings_30 rfl ?_
  refine g_getR (pc' := 34) mg.s40 (by decide) fX9_79 mg.r40_41 dX9_keepings_31 rfl ?_
  refine g_ild2 (pc' := 35) dX9_keepings_34 rfl ?_
  refine g_iald (pc' := 36) (j := d) mg.s91 rfl (by omega) (by decide) h91 dX9_keepings_35 rfl ?_
  refine g_ifltN (pc' := 39) (by omega) dX9_keepings_36 rfl ?_
  refine g_ald0 (pc' := 40) dX9_keepings_39 rfl ?_
  refine g_getR (pc' := 43) mg.s40 (by decide) fX9_79 mg.r40_41 dX9_keepings_40 rfl ?_
  refine g_ild2 (pc' := 44) dX9_keepings_43 rfl ?_
  refine g_iald (pc' := 45) (j := d) mg.s91 rfl (by omega) (by decide) h91 dX9_keepings_44 rfl ?_
  refine g_bipush (pc' := 47) (v := nI 50) dX9_keepings_45 rfl (by decide) ?_
  refine g_icmpeqN (pc' := 50) (by omega) (by omega) (tgt := 53) dX9_keepings_47 (by decide) rfl (fun h47 => ?_) (fun h47 => ?_)
  · refine g_iconst (pc' := 54) (v := nI 0) dX9_keepings_53 rfl (by decide) ?_
    refine g_ist5 (pc' := 56) rfl (by decide) dX9_keepings_54 rfl ?_
    refine g_ald0 (pc' := 57) dX9_keepings_56 rfl ?_
    refine g_getR (pc' := 60) mg.s40 (by decide) fX9_79 mg.r40_41 dX9_keepings_57 rfl ?_
    refine g_ild2 (pc' := 61) dX9_keepings_60 rfl ?_
    refine g_iald (pc' := 62) (j := d) mg.s91 rfl (by omega) (by decide) h91 dX9_keepings_61 rfl ?_
    refine g_bipush (pc' := 64) (v := nI 50) dX9_keepings_62 rfl (by decide) ?_
    refine g_icmpneN (pc' := 67) (by omega) (by omega) (tgt := 75) dX9_keepings_64 (by decide) rfl (fun h64 => ?_) (fun h64 => ?_)
    · exact absurd h64 (by omega)
    · refine g_ild3 (pc' := 68) dX9_keepings_67 rfl ?_
      refine g_ifltN (pc' := 71) (by omega) dX9_keepings_68 rfl ?_
      refine g_iconst (pc' := 72) (v := nI 1) dX9_keepings_71 rfl (by decide) ?_
      refine g_goto (tgt := 76) dX9_keepings_72 (by decide) ?_
      refine g_ist6 (pc' := 78) rfl (by decide) dX9_keepings_76 rfl ?_
      refine g_ild6 (pc' := 80) dX9_keepings_78 rfl ?_
      refine g_ifeqN (pc' := 83) (by omega) (tgt := 178) dX9_keepings_80 (by decide) rfl (fun h80 => ?_) (fun h80 => ?_)
      · exact absurd h80 (by omega)
      · refine g_ild5 (pc' := 85) dX9_keepings_83 rfl ?_
        refine g_ild4 (pc' := 87) dX9_keepings_85 rfl ?_
        refine g_icmpgeN (pc' := 90) (by omega) (by omega) (tgt := 178) dX9_keepings_87 (by decide) rfl (fun h87 => ?_) (fun h87 => ?_)
        · exact absurd h87 (by omega)
        · refine g_ild3 (pc' := 91) dX9_keepings_90 rfl ?_
          refine g_ald0 (pc' := 92) dX9_keepings_91 rfl ?_
          refine g_getR (pc' := 95) mg.s40 (by decide) fX9_82 mg.r40_42 dX9_keepings_92 rfl ?_
          refine g_ild2 (pc' := 96) dX9_keepings_95 rfl ?_
          refine g_iald (pc' := 97) (j := d) mg.s92 rfl (by omega) (by decide) h92 dX9_keepings_96 rfl ?_
          refine g_ild5 (pc' := 99) dX9_keepings_97 rfl ?_
          refine g_isubN (pc' := 100) (by omega) dX9_keepings_99 rfl ?_
          refine g_icmpgeN (pc' := 103) (by omega) (by omega) (tgt := 120) dX9_keepings_100 (by decide) rfl (fun h100 => ?_) (fun h100 => ?_)
          · refine g_ldc2 (pc' := 123) dX9_keepings_120 rfl kX9_244 ?_
            refine g_lst7 (pc' := 125) rfl (by decide) dX9_keepings_123 rfl ?_
            refine g_lld7 (pc' := 127) dX9_keepings_125 rfl ?_
            refine g_ldc2 (pc' := 130) dX9_keepings_127 rfl kX9_246 ?_
            refine g_ald0 (pc' := 131) dX9_keepings_130 rfl ?_
            refine g_getI (pc' := 134) mg.s40 (by decide) fX9_99 hn dX9_keepings_131 rfl ?_
            refine g_iconst (pc' := 135) (v := nI 1) dX9_keepings_134 rfl (by decide) ?_
            refine g_isub (pc' := 136) dX9_keepings_135 rfl ?_
            refine g_i2l (pc' := 137) dX9_keepings_136 rfl ?_
            refine g_callS (pc' := 140) (c_mWithin l (-2) (-1) (nI n - nI 1).toInt64) wX9_within lX9_102 rfl rfl (Nat.le_of_ble_eq_true rfl) ⟨Nat.le_of_ble_eq_true rfl, Nat.le_of_ble_eq_true rfl⟩ ⟨Nat.le_of_ble_eq_true rfl, Nat.le_of_ble_eq_true rfl⟩ dX9_keepings_137 rfl (kIp ?_)
            refine g_topi (v := nI 0) (by rw [kOK_T (c := fun _ => 0) (z := 0) (n := 0) (q := 0) (by omega)]; rfl) ?_
            refine g_ist6 (pc' := 142) rfl (by decide) dX9_keepings_140 rfl ?_
            refine g_ild6 (pc' := 144) dX9_keepings_142 rfl ?_
            refine g_ifeqN (pc' := 147) (by omega) (tgt := 175) dX9_keepings_144 (by decide) rfl (fun h144 => ?_) (fun h144 => ?_)
            · refine g_goto (tgt := 78) dX9_keepings_175 (by decide) ?_
              refine g_ild6 (pc' := 80) dX9_keepings_78 rfl ?_
              refine g_ifeqN (pc' := 83) (by omega) (tgt := 178) dX9_keepings_80 (by decide) rfl (fun h80 => ?_) (fun h80 => ?_)
              · refine g_ild5 (pc' := 180) dX9_keepings_178 rfl ?_
                refine g_iret rfl dX9_keepings_180 ?_
                first | exact eIp rfl | exact absurd h80 (by omega)
              · exact absurd h80 (by omega)
            · exact absurd h144 (by omega)
          · exact absurd h100 (by omega)
  · exact absurd h47 (by omega)

theorem c_mKpsS (l : Launch) {S : Shp} {I : MI} {L : ML} {R : MR} (mg : MG S R) {n : Nat} (hn : I (40, 0) 6 = nI n) (hN : n ≤ 12) {m : Nat} (hm : I (40, 0) 18 = nI m) (hM : m ≤ 9) {w : Nat} (hwm : w < m) {d : Nat} (hd : d < 6) (h91 : I (91, 0) d = nI 50) {z : Nat} (h92 : I (92, 0) d = nI z) (hz6 : z ≤ 60) {c : Nat → Int64} (hc : ∀ q, q < z → L (93, 0) (60 * d + q) = c q) (hcx : ∀ q, q < z → c q = (c q).toInt32.toInt64) {i0 : Nat} (hi0 : i0 < z) {a : Nat} (ha : 1 ≤ a ∧ a ≤ 60) {ke : Nat} (hke : I (74, 0) w = nI ke) (hk : ke + a < 2 ^ 30) (hbd : bdW I w n) : Ct l mX9_keepings 3 0 0 [.inr (.inr (some (40, 0))), .inl (nI w), .inl (nI d), .inl (nI i0), .inl (nI a)] S I L R (PIm S L R (fun v J => v = nI (kCn c z n i0 a) ∧ J = (mkSt c w n i0 I ke (kCn c z n i0 a)).1)) := by
  refine Ct.of [some (.inr (.inr (some (40, 0)))), some (.inl (nI w)), some (.inl (nI d)), some (.inl (nI i0)), some (.inl (nI a)), none, none, none, none] (by decide) rfl (Nat.le_of_ble_eq_true rfl) ?_
  refine g_ald0 (pc' := 1) dX9_keepings_0 rfl ?_
  refine g_ild1 (pc' := 2) dX9_keepings_1 rfl ?_
  refine g_callV (pc' := 5) (c_misWorld l mg hm hM (nI w)) mg.s40 (by decide) wX9_isWorld lX9_186 rfl rfl (Nat.le_of_ble_eq_true rfl) ⟨Nat.le_of_ble_eq_true rfl, Nat.le_of_ble_eq_true rfl⟩ ⟨Nat.le_of_ble_eq_true rfl, Nat.le_of_ble_eq_true rfl⟩ dX9_keepings_2 rfl (kIp ?_)
  refine g_ifeqB (pc' := 8) (tgt := 28) dX9_keepings_5 (by decide) rfl (fun h5 => (by first | exact absurd h5 (by rw [inb_nI (by omega) (by omega)]; simp [hwm]) | exact absurd (by rw [inb_nI (by omega) (by omega)]; simp [hwm]) h5)) (fun h5 => ?_)
  refine g_ild2 (pc' := 9) dX9_keepings_8 rfl ?_
  refine g_callS (pc' := 12) (c_mIsShelf l (nI d)) wX9_isShelf lX9_239 rfl rfl (Nat.le_of_ble_eq_true rfl) ⟨Nat.le_of_ble_eq_true rfl, Nat.le_of_ble_eq_true rfl⟩ ⟨Nat.le_of_ble_eq_true rfl, Nat.le_of_ble_eq_true rfl⟩ dX9_keepings_9 rfl (kIp ?_)
  refine g_ifeqB (pc' := 15) (tgt := 28) dX9_keepings_12 (by decide) rfl (fun h12 => (by first | exact absurd h12 (by rw [inb_nI (by omega) (by omega)]; simp [hd]) | exact absurd (by rw [inb_nI (by omega) (by omega)]; simp [hd]) h12)) (fun h12 => ?_)
  refine g_ild4 (pc' := 17) dX9_keepings_15 rfl ?_
  refine g_i2l (pc' := 18) dX9_keepings_17 rfl ?_
  refine g_lconst (pc' := 19) (v := 1) dX9_keepings_18 rfl (by decide) ?_
  refine g_ldc2 (pc' := 22) dX9_keepings_19 rfl kX9_242 ?_
  refine g_callS (pc' := 25) (c_mWI l (nI a) (nI 1) (nI 60) (A := 1) (B := 60) (by decide) (by decide)) wX9_within lX9_102 rfl rfl (Nat.le_of_ble_eq_true rfl) ⟨Nat.le_of_ble_eq_true rfl, Nat.le_of_ble_eq_true rfl⟩ ⟨Nat.le_of_ble_eq_true rfl, Nat.le_of_ble_eq_true rfl⟩ dX9_keepings_22 rfl (kIp ?_)
  refine g_ifneB (pc' := 28) (tgt := 30) dX9_keepings_25 (by decide) rfl (fun h25 => ?_) (fun h25 => (by first | exact absurd h25 (wi_yesN (by omega) (by decide)) | exact absurd (wi_yesN (by omega) (by decide)) h25))
  refine g_ald0 (pc' := 31) dX9_keepings_30 rfl ?_
  refine g_getR (pc' := 34) mg.s40 (by decide) fX9_79 mg.r40_41 dX9_keepings_31 rfl ?_
  refine g_ild2 (pc' := 35) dX9_keepings_34 rfl ?_
  refine g_iald (pc' := 36) (j := d) mg.s91 rfl (by omega) (by decide) h91 dX9_keepings_35 rfl ?_
  refine g_ifltN (pc' := 39) (by omega) dX9_keepings_36 rfl ?_
  refine g_ald0 (pc' := 40) dX9_keepings_39 rfl ?_
  refine g_getR (pc' := 43) mg.s40 (by decide) fX9_79 mg.r40_41 dX9_keepings_40 rfl ?_
  refine g_ild2 (pc' := 44) dX9_keepings_43 rfl ?_
  refine g_iald (pc' := 45) (j := d) mg.s91 rfl (by omega) (by decide) h91 dX9_keepings_44 rfl ?_
  refine g_bipush (pc' := 47) (v := nI 50) dX9_keepings_45 rfl (by decide) ?_
  refine g_icmpeqN (pc' := 50) (by omega) (by omega) (tgt := 53) dX9_keepings_47 (by decide) rfl (fun h47 => ?_) (fun h47 => ?_)
  · refine g_iconst (pc' := 54) (v := nI 0) dX9_keepings_53 rfl (by decide) ?_
    refine g_ist5 (pc' := 56) rfl (by decide) dX9_keepings_54 rfl ?_
    refine g_ald0 (pc' := 57) dX9_keepings_56 rfl ?_
    refine g_getR (pc' := 60) mg.s40 (by decide) fX9_79 mg.r40_41 dX9_keepings_57 rfl ?_
    refine g_ild2 (pc' := 61) dX9_keepings_60 rfl ?_
    refine g_iald (pc' := 62) (j := d) mg.s91 rfl (by omega) (by decide) h91 dX9_keepings_61 rfl ?_
    refine g_bipush (pc' := 64) (v := nI 50) dX9_keepings_62 rfl (by decide) ?_
    refine g_icmpneN (pc' := 67) (by omega) (by omega) (tgt := 75) dX9_keepings_64 (by decide) rfl (fun h64 => ?_) (fun h64 => ?_)
    · exact absurd h64 (by omega)
    · refine g_ild3 (pc' := 68) dX9_keepings_67 rfl ?_
      refine g_ifltN (pc' := 71) (by omega) dX9_keepings_68 rfl ?_
      refine g_iconst (pc' := 72) (v := nI 1) dX9_keepings_71 rfl (by decide) ?_
      refine g_goto (tgt := 76) dX9_keepings_72 (by decide) ?_
      refine g_ist6 (pc' := 78) rfl (by decide) dX9_keepings_76 rfl ?_
      refine g_loop (σ := Unit) (fun t _ => kCn c z n i0 t = t ∧ i0 + t ≤ z) (fun t _ => [some (.inr (.inr (some (40, 0)))), some (.inl (nI w)), some (.inl (nI d)), some (.inl (nI i0)), some (.inl (nI a)), some (.inl (nI t)), some (.inl (nI 1)), none, none]) (fun t _ => (mkSt c w n i0 I ke t).1) a 0 () (by omega) ⟨rfl, by omega⟩ ?_ ?_
      · intro t _ hi hP ih
        obtain ⟨hfrT, hkeT, hleT, hbT⟩ := mkSt_w (c := c) (i0 := i0) hN hke hbd t
        have hnT : (mkSt c w n i0 I ke t).1 (40, 0) 6 = nI n := (hfrT _ _ (by simp [mwP])).trans hn
        have h92T : (mkSt c w n i0 I ke t).1 (92, 0) d = nI z := (hfrT _ _ (by simp [mwP])).trans h92
        have hitz := hP.2
        refine g_ild6 (pc' := 80) dX9_keepings_78 rfl ?_
        refine g_ifeqN (pc' := 83) (by omega) (tgt := 178) dX9_keepings_80 (by decide) rfl (fun h80 => ?_) (fun h80 => ?_)
        · exact absurd h80 (by omega)
        · refine g_ild5 (pc' := 85) dX9_keepings_83 rfl ?_
          refine g_ild4 (pc' := 87) dX9_keepings_85 rfl ?_
          refine g_icmpgeN (pc' := 90) (by omega) (by omega) (tgt := 178) dX9_keepings_87 (by decide) rfl (fun h87 => ?_) (fun h87 => ?_)
          · exact absurd h87 (by omega)
          · refine g_ild3 (pc' := 91) dX9_keepings_90 rfl ?_
            refine g_ald0 (pc' := 92) dX9_keepings_91 rfl ?_
            refine g_getR (pc' := 95) mg.s40 (by decide) fX9_82 mg.r40_42 dX9_keepings_92 rfl ?_
            refine g_ild2 (pc' := 96) dX9_keepings_95 rfl ?_
            refine g_iald (pc' := 97) (j := d) mg.s92 rfl (by omega) (by decide) h92T dX9_keepings_96 rfl ?_
            refine g_ild5 (pc' := 99) dX9_keepings_97 rfl ?_
            refine g_isubN (pc' := 100) (by omega) dX9_keepings_99 rfl ?_
            refine g_icmpgeN (pc' := 103) (by omega) (by omega) (tgt := 120) dX9_keepings_100 (by decide) rfl (fun h100 => ?_) (fun h100 => ?_)
            · refine g_ldc2 (pc' := 123) dX9_keepings_120 rfl kX9_244 ?_
              refine g_lst7 (pc' := 125) rfl (by decide) dX9_keepings_123 rfl ?_
              refine g_lld7 (pc' := 127) dX9_keepings_125 rfl ?_
              refine g_ldc2 (pc' := 130) dX9_keepings_127 rfl kX9_246 ?_
              refine g_ald0 (pc' := 131) dX9_keepings_130 rfl ?_
              refine g_getI (pc' := 134) mg.s40 (by decide) fX9_99 hnT dX9_keepings_131 rfl ?_
              refine g_iconst (pc' := 135) (v := nI 1) dX9_keepings_134 rfl (by decide) ?_
              refine g_isub (pc' := 136) dX9_keepings_135 rfl ?_
              refine g_i2l (pc' := 137) dX9_keepings_136 rfl ?_
              refine g_callS (pc' := 140) (c_mWithin l (-2) (-1) (nI n - nI 1).toInt64) wX9_within lX9_102 rfl rfl (Nat.le_of_ble_eq_true rfl) ⟨Nat.le_of_ble_eq_true rfl, Nat.le_of_ble_eq_true rfl⟩ ⟨Nat.le_of_ble_eq_true rfl, Nat.le_of_ble_eq_true rfl⟩ dX9_keepings_137 rfl (kIp ?_)
              have hko : kOK c z n (i0 + t) = false := by unfold kOK; rw [decide_eq_false (show ¬ i0 + t < z by omega)]; rfl
              refine g_topi (v := nI 0) (by rw [kOK_T (c := c) (z := z) (n := n) (q := i0 + t) (by omega), hko]; rfl) ?_
              refine g_ist6 (pc' := 142) rfl (by decide) dX9_keepings_140 rfl ?_
              refine g_ild6 (pc' := 144) dX9_keepings_142 rfl ?_
              refine g_ifeqN (pc' := 147) (by omega) (tgt := 175) dX9_keepings_144 (by decide) rfl (fun h144 => ?_) (fun h144 => ?_)
              · refine g_goto (tgt := 78) dX9_keepings_175 (by decide) ?_
                refine g_ild6 (pc' := 80) dX9_keepings_78 rfl ?_
                refine g_ifeqN (pc' := 83) (by omega) (tgt := 178) dX9_keepings_80 (by decide) rfl (fun h80 => ?_) (fun h80 => ?_)
                · refine g_ild5 (pc' := 180) dX9_keepings_178 rfl ?_
                  refine g_iret rfl dX9_keepings_180 ?_
                  exact eI ⟨by rw [kCn_stop hP.1 hko a (by omega)], by rw [kCn_stop hP.1 hko a (by omega)]⟩
                · exact absurd h80 (by omega)
              · exact absurd h144 (by omega)
            · refine g_ald0 (pc' := 104) dX9_keepings_103 rfl ?_
              refine g_getR (pc' := 107) mg.s40 (by decide) fX9_85 mg.r40_43 dX9_keepings_104 rfl ?_
              refine g_bipush (pc' := 109) (v := nI 60) dX9_keepings_107 rfl (by decide) ?_
              refine g_ild2 (pc' := 110) dX9_keepings_109 rfl ?_
              refine g_imulN (pc' := 111) dX9_keepings_110 rfl ?_
              refine g_ild3 (pc' := 112) dX9_keepings_111 rfl ?_
              refine g_iaddN (pc' := 113) dX9_keepings_112 rfl ?_
              refine g_ild5 (pc' := 115) dX9_keepings_113 rfl ?_
              refine g_iaddN (pc' := 116) dX9_keepings_115 rfl ?_
              refine g_lald (pc' := 117) (j := ((60 * d) + i0) + t) mg.s93 rfl (by omega) (by decide) (v := c (i0 + t)) (by rw [Nat.add_assoc]; exact hc _ (by omega)) dX9_keepings_116 rfl ?_
              refine g_goto (tgt := 123) dX9_keepings_117 (by decide) ?_
              refine g_lst7 (pc' := 125) rfl (by decide) dX9_keepings_123 rfl ?_
              refine g_lld7 (pc' := 127) dX9_keepings_125 rfl ?_
              refine g_ldc2 (pc' := 130) dX9_keepings_127 rfl kX9_246 ?_
              refine g_ald0 (pc' := 131) dX9_keepings_130 rfl ?_
              refine g_getI (pc' := 134) mg.s40 (by decide) fX9_99 hnT dX9_keepings_131 rfl ?_
              refine g_iconst (pc' := 135) (v := nI 1) dX9_keepings_134 rfl (by decide) ?_
              refine g_isub (pc' := 136) dX9_keepings_135 rfl ?_
              refine g_i2l (pc' := 137) dX9_keepings_136 rfl ?_
              refine g_callS (pc' := 140) (c_mWithin l (c (i0 + t)) (-1) (nI n - nI 1).toInt64) wX9_within lX9_102 rfl rfl (Nat.le_of_ble_eq_true rfl) ⟨Nat.le_of_ble_eq_true rfl, Nat.le_of_ble_eq_true rfl⟩ ⟨Nat.le_of_ble_eq_true rfl, Nat.le_of_ble_eq_true rfl⟩ dX9_keepings_137 rfl (kIp ?_)
              have hlt : i0 + t < z := by omega
              have hwo := kOK_F (n := n) (z := z) (by omega) hlt (hcx _ hlt)
              cases hko : kOK c z n (i0 + t) with
              | false =>
                refine g_topi (v := nI 0) (by rw [hwo, hko]; rfl) ?_
                refine g_ist6 (pc' := 142) rfl (by decide) dX9_keepings_140 rfl ?_
                refine g_ild6 (pc' := 144) dX9_keepings_142 rfl ?_
                refine g_ifeqN (pc' := 147) (by omega) (tgt := 175) dX9_keepings_144 (by decide) rfl (fun h144 => ?_) (fun h144 => ?_)
                · refine g_goto (tgt := 78) dX9_keepings_175 (by decide) ?_
                  refine g_ild6 (pc' := 80) dX9_keepings_78 rfl ?_
                  refine g_ifeqN (pc' := 83) (by omega) (tgt := 178) dX9_keepings_80 (by decide) rfl (fun h80 => ?_) (fun h80 => ?_)
                  · refine g_ild5 (pc' := 180) dX9_keepings_178 rfl ?_
                    refine g_iret rfl dX9_keepings_180 ?_
                    exact eI ⟨by rw [kCn_stop hP.1 hko a (by omega)], by rw [kCn_stop hP.1 hko a (by omega)]⟩
                  · exact absurd h80 (by omega)
                · exact absurd h144 (by omega)
              | true =>
                refine g_topi (v := nI 1) (by rw [hwo, hko]; rfl) ?_
                refine g_ist6 (pc' := 142) rfl (by decide) dX9_keepings_140 rfl ?_
                refine g_ild6 (pc' := 144) dX9_keepings_142 rfl ?_
                refine g_ifeqN (pc' := 147) (by omega) (tgt := 175) dX9_keepings_144 (by decide) rfl (fun h144 => ?_) (fun h144 => ?_)
                · exact absurd h144 (by omega)
                · refine g_ald0 (pc' := 148) dX9_keepings_147 rfl ?_
                  refine g_getR (pc' := 151) mg.s40 (by decide) fX9_46 mg.r40_23 dX9_keepings_148 rfl ?_
                  refine g_ild1 (pc' := 152) dX9_keepings_151 rfl ?_
                  refine g_dup2 (pc' := 153) dX9_keepings_152 rfl ?_
                  refine g_iald (pc' := 154) (j := w) mg.s73 rfl (by omega) (by decide) rfl dX9_keepings_153 rfl ?_
                  refine g_iconst (pc' := 155) (v := nI 1) dX9_keepings_154 rfl (by decide) ?_
                  refine g_iadd (pc' := 156) dX9_keepings_155 rfl ?_
                  refine g_iast (pc' := 157) (j := w) mg.s73 rfl (by omega) (by decide) dX9_keepings_156 rfl ?_
                  refine g_inc5 (pc' := 160) rfl (by decide) (v := nI (t + 1)) (nI_1 _) dX9_keepings_157 rfl ?_
                  have kOK_x : (c (i0 + t)).toInt32 = -1 ∨ inb (c (i0 + t)).toInt32 n = true := by
                    have h := hko
                    unfold kOK at h
                    rw [decide_eq_true hlt, Bool.true_and, Bool.or_eq_true, decide_eq_true_eq] at h
                    exact h
                  refine g_lld7 (pc' := 162) dX9_keepings_160 rfl ?_
                  refine g_lconst (pc' := 163) (v := 0) dX9_keepings_162 rfl (by decide) ?_
                  refine g_lcmp (pc' := 164) dX9_keepings_163 rfl ?_
                  refine g_iflt (pc' := 167) (tgt := 175) dX9_keepings_164 (by decide) rfl (fun h164 => ?_) (fun h164 => ?_)
                  · refine g_goto (tgt := 78) dX9_keepings_175 (by decide) ?_
                    refine G.lsub [some (.inr (.inr (some (40, 0)))), some (.inl (nI w)), some (.inl (nI d)), some (.inl (nI i0)), some (.inl (nI a)), some (.inl (nI (t + 1))), some (.inl (nI 1)), none, none] (by intro j v; rcases j with _ | _ | _ | _ | _ | _ | _ | _ | _ | j <;> simp) ?_
                    have hneg : (c (i0 + t)).toInt32 = -1 := by
                      rcases kOK_x with h | h
                      · exact h
                      · exfalso
                        obtain ⟨s, hs, hxs⟩ := inb_of (by omega) h
                        have h2 := (lg_cmp_lt _ _).mp h164
                        rw [hcx _ hlt, hxs, show (0 : Int64) = (nI 0).toInt64 from rfl, i64_lt, nI_ltI (by omega) (by omega)] at h2
                        omega
                    have hin : inb (c (i0 + t)).toInt32 n = false := by rw [hneg]; unfold inb; rw [show decide ((0 : Int32) ≤ -1) = false from by decide]; rfl
                    rw [show upM (mkSt c w n i0 I ke t).1 (73, 0) w ((mkSt c w n i0 I ke t).1 (73, 0) w + nI 1) = (mkSt c w n i0 I ke (t + 1)).1 from by rw [mkSt_N hin]; rfl]
                    exact ih () ⟨kCn_s hP.1 hko, by omega⟩
                  · have hxn : ¬ (c (i0 + t)).toInt32 = -1 := fun e => h164 ((lg_cmp_lt _ _).mpr (by rw [hcx _ hlt, e]; decide))
                    refine g_ald0 (pc' := 168) dX9_keepings_167 rfl ?_
                    refine g_ild1 (pc' := 169) dX9_keepings_168 rfl ?_
                    refine g_lld7 (pc' := 171) dX9_keepings_169 rfl ?_
                    refine g_l2i (pc' := 172) dX9_keepings_171 rfl ?_
                    rcases kOK_x with hx | hx
                    · exact absurd hx hxn
                    obtain ⟨s, hs, hxs⟩ := inb_of (by omega) hx
                    rw [hxs]
                    obtain ⟨qx, hqx, hxq⟩ := hbT s hs
                    refine g_callV (pc' := 175) (c_mKeeps l mg (I := rvN (mkSt c w n i0 I ke t).1 w) (w := w) (by omega) (s := s) (by omega) (ke := (mkSt c w n i0 I ke t).2) (by unfold rvN; rw [upM_n _ (by simp)]; exact hkeT) (by omega) (x := (mkSt c w n i0 I ke t).1 (50, 0) (23 + 12 * w + s)) (q := qx) (by unfold rvN; rw [upM_n _ (by simp)]) hqx hxq) mg.s40 (by decide) wX9_keeps lX9_227 rfl rfl (Nat.le_of_ble_eq_true rfl) ⟨Nat.le_of_ble_eq_true rfl, Nat.le_of_ble_eq_true rfl⟩ ⟨Nat.le_of_ble_eq_true rfl, Nat.le_of_ble_eq_true rfl⟩ dX9_keepings_172 rfl (kV (fun J2 hJ2 => ?_))
                    refine g_goto (tgt := 78) dX9_keepings_175 (by decide) ?_
                    refine G.lsub [some (.inr (.inr (some (40, 0)))), some (.inl (nI w)), some (.inl (nI d)), some (.inl (nI i0)), some (.inl (nI a)), some (.inl (nI (t + 1))), some (.inl (nI 1)), none, none] (by intro j v; rcases j with _ | _ | _ | _ | _ | _ | _ | _ | _ | j <;> simp) ?_
                    rw [hJ2, show kpM (rvN (mkSt c w n i0 I ke t).1 w) w (mkSt c w n i0 I ke t).2 s ((mkSt c w n i0 I ke t).1 (50, 0) (23 + 12 * w + s)) = (mkSt c w n i0 I ke (t + 1)).1 from by rw [mkSt_S hxs hs hN]; rfl]
                    exact ih () ⟨kCn_s hP.1 hko, by omega⟩
      · intro _ hP
        refine g_ild6 (pc' := 80) dX9_keepings_78 rfl ?_
        refine g_ifeqN (pc' := 83) (by omega) (tgt := 178) dX9_keepings_80 (by decide) rfl (fun h80 => ?_) (fun h80 => ?_)
        · exact absurd h80 (by omega)
        · refine g_ild5 (pc' := 85) dX9_keepings_83 rfl ?_
          refine g_ild4 (pc' := 87) dX9_keepings_85 rfl ?_
          refine g_icmpgeN (pc' := 90) (by omega) (by omega) (tgt := 178) dX9_keepings_87 (by decide) rfl (fun h87 => ?_) (fun h87 => ?_)
          · refine g_ild5 (pc' := 180) dX9_keepings_178 rfl ?_
            refine g_iret rfl dX9_keepings_180 ?_
            exact eI ⟨by rw [hP.1], by rw [hP.1]⟩
          · exact absurd h87 (by omega)
  · exact absurd h47 (by omega)
