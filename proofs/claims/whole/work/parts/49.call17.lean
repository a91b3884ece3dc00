/-! EightWorlds: keepings from a row, against chance -/
def kOK (c : Nat → Int64) (z n q : Nat) : Bool := decide (q < z) && (decide ((c q).toInt32 = -1) || inb (c q).toInt32 n)
def kCn (c : Nat → Int64) (z n i0 : Nat) : Nat → Nat
  | 0 => 0
  | a + 1 => if kCn c z n i0 a = a ∧ kOK c z n (i0 + a) = true then a + 1 else kCn c z n i0 a
def kSt (c : Nat → Int64) (k n i0 : Nat) (I : MI) (ke : Nat) : Nat → MI × Nat
  | 0 => (I, ke)
  | t + 1 => if inb (c (i0 + t)).toInt32 n = true then (rcvS (kSt c k n i0 I ke t).1 k (kSt c k n i0 I ke t).2 (c (i0 + t)).toInt32.toInt.toNat, (kSt c k n i0 I ke t).2 + 1) else (rcvN (kSt c k n i0 I ke t).1 k, (kSt c k n i0 I ke t).2)
theorem kCn_s {c : Nat → Int64} {z n i0 a : Nat} (h : kCn c z n i0 a = a) (h2 : kOK c z n (i0 + a) = true) : kCn c z n i0 (a + 1) = a + 1 := if_pos ⟨h, h2⟩
theorem kCn_stop {c : Nat → Int64} {z n i0 t : Nat} (h : kCn c z n i0 t = t) (h2 : kOK c z n (i0 + t) = false) : ∀ a, t ≤ a → kCn c z n i0 a = t
  | 0, ha => by rw [show t = 0 by omega]; rfl
  | a + 1, ha => by
    by_cases e : t = a + 1
    · rw [← e]; exact h
    · have ih := kCn_stop h h2 a (by omega)
      have : ¬ (kCn c z n i0 a = a ∧ kOK c z n (i0 + a) = true) := by
        rintro ⟨q1, q2⟩
        have : a = t := by omega
        rw [this, h2] at q2
        cases q2
      rw [show kCn c z n i0 (a + 1) = kCn c z n i0 a from if_neg this]
      exact ih
theorem kSt_S {c : Nat → Int64} {k n i0 t s : Nat} {I : MI} {ke : Nat} (h : (c (i0 + t)).toInt32 = nI s) (hs : s < n) (hn : n ≤ 12) : kSt c k n i0 I ke (t + 1) = (rcvS (kSt c k n i0 I ke t).1 k (kSt c k n i0 I ke t).2 s, (kSt c k n i0 I ke t).2 + 1) := by
  have e : inb (c (i0 + t)).toInt32 n = true := by rw [h, inb_nI (by omega) (by omega)]; simp [hs]
  show (if inb (c (i0 + t)).toInt32 n = true then _ else _) = _
  rw [if_pos e, h, toN_nI (by omega)]
theorem kSt_N {c : Nat → Int64} {k n i0 t : Nat} {I : MI} {ke : Nat} (h : inb (c (i0 + t)).toInt32 n = false) : kSt c k n i0 I ke (t + 1) = (rcvN (kSt c k n i0 I ke t).1 k, (kSt c k n i0 I ke t).2) := if_neg (by rw [h]; simp)
theorem rcvS_8 {k ke j : Nat} {I : MI} : rcvS I k ke j (11, k) 8 = nI (ke + 1) := by simp [rcvS, upM]
theorem rcvN_8 {k : Nat} {I : MI} : rcvN I k (11, k) 8 = I (11, k) 8 := by simp [rcvN, upM]
theorem kSt_w {c : Nat → Int64} {k n i0 : Nat} {I : MI} {ke : Nat} (hke : I (11, k) 8 = nI ke) : ∀ t, Fr (wldP k) I (kSt c k n i0 I ke t).1 ∧ (kSt c k n i0 I ke t).1 (11, k) 8 = nI (kSt c k n i0 I ke t).2 ∧ (kSt c k n i0 I ke t).2 ≤ ke + t
  | 0 => ⟨Fr.rf, hke, Nat.le_refl _⟩
  | t + 1 => by
    have ih := kSt_w (c := c) (n := n) (i0 := i0) hke t
    cases e : inb (c (i0 + t)).toInt32 n with
    | true =>
      rw [show kSt c k n i0 I ke (t + 1) = (rcvS (kSt c k n i0 I ke t).1 k (kSt c k n i0 I ke t).2 (c (i0 + t)).toInt32.toInt.toNat, (kSt c k n i0 I ke t).2 + 1) from if_pos e]
      exact ⟨ih.1.tr rcvS_w, rcvS_8, by have := ih.2.2; show _ + 1 ≤ _; omega⟩
    | false =>
      rw [kSt_N e]
      exact ⟨ih.1.tr rcvN_w, rcvN_8.trans ih.2.1, by have := ih.2.2; show _ ≤ _; omega⟩
theorem c_keepingsN (l : Launch) {S : Shp} {I : MI} {L : ML} {R : MR} (xg : XG S R) {m : Nat} {x : Int32} (hm : I (0, 0) 5 = nI m) (hx : inb x m = false) (hRd : ∀ d, d < 6 → R (26, 0) d = some (27, d)) (y : Int32) (y1 y2 : Int32) : Ct l mX8_keepings 2 0 0 [.inr (.inr (some (0, 0))), .inl x, .inl y, .inl y1, .inl y2] S I L R (PIp S I L R (-1)) := by
  refine Ct.of [some (.inr (.inr (some (0, 0)))), some (.inl x), some (.inl y), some (.inl y1), some (.inl y2), none, none, none, none, none] (by decide) rfl (Nat.le_of_ble_eq_true rfl) ?_
  refine g_ald0 (pc' := 1) dX8_keepings_0 rfl ?_
  refine g_ild1 (pc' := 2) dX8_keepings_1 rfl ?_
  refine g_callV (pc' := 5) (c_worldOfN l xg hm hx) xg.s0 (by decide) wX8_worldOf lX8_147 rfl rfl (Nat.le_of_ble_eq_true rfl) ⟨Nat.le_of_ble_eq_true rfl, Nat.le_of_ble_eq_true rfl⟩ ⟨Nat.le_of_ble_eq_true rfl, Nat.le_of_ble_eq_true rfl⟩ dX8_keepings_2 rfl (kRp ?_)
  refine g_ast5 (pc' := 7) rfl (by decide) dX8_keepings_5 rfl ?_
  refine g_ald0 (pc' := 8) dX8_keepings_7 rfl ?_
  refine g_ild2 (pc' := 9) dX8_keepings_8 rfl ?_
  cases hq : inb y 6 with
  | true =>
    obtain ⟨d, hd6, rfl⟩ := inb_of (by omega) hq
    refine g_callV (pc' := 12) (c_shelfOfS l xg hd6 (hRd _ hd6)) xg.s0 (by decide) wX8_shelfOf lX8_186 rfl rfl (Nat.le_of_ble_eq_true rfl) ⟨Nat.le_of_ble_eq_true rfl, Nat.le_of_ble_eq_true rfl⟩ ⟨Nat.le_of_ble_eq_true rfl, Nat.le_of_ble_eq_true rfl⟩ dX8_keepings_9 rfl (kRp ?_)
    refine g_ast6 (pc' := 14) rfl (by decide) dX8_keepings_12 rfl ?_
    refine g_ald5 (pc' := 16) dX8_keepings_14 rfl ?_
    refine g_ifnullT (tgt := 37) dX8_keepings_16 (by decide) ?_
    refine g_iconst (pc' := 38) (v := (-1)) dX8_keepings_37 rfl (by decide) ?_
    refine g_iret rfl dX8_keepings_38 ?_
    exact eIp rfl
  | false =>
    refine g_callV (pc' := 12) (c_shelfOfN l xg hq) xg.s0 (by decide) wX8_shelfOf lX8_186 rfl rfl (Nat.le_of_ble_eq_true rfl) ⟨Nat.le_of_ble_eq_true rfl, Nat.le_of_ble_eq_true rfl⟩ ⟨Nat.le_of_ble_eq_true rfl, Nat.le_of_ble_eq_true rfl⟩ dX8_keepings_9 rfl (kRp ?_)
    refine g_ast6 (pc' := 14) rfl (by decide) dX8_keepings_12 rfl ?_
    refine g_ald5 (pc' := 16) dX8_keepings_14 rfl ?_
    refine g_ifnullT (tgt := 37) dX8_keepings_16 (by decide) ?_
    refine g_iconst (pc' := 38) (v := (-1)) dX8_keepings_37 rfl (by decide) ?_
    refine g_iret rfl dX8_keepings_38 ?_
    exact eIp rfl

theorem c_keepingsM (l : Launch) {S : Shp} {I : MI} {L : ML} {R : MR} (xg : XG S R) {m j : Nat} (hm : I (0, 0) 5 = nI m) (hj : j < m) (hM : m ≤ 9) (hR : R (10, 0) j = some (11, j)) (wg : WG j S R) {x : Int32} (hx : inb x 6 = false) (y1 y2 : Int32) : Ct l mX8_keepings 2 0 0 [.inr (.inr (some (0, 0))), .inl (nI j), .inl x, .inl y1, .inl y2] S I L R (PIp S I L R (-1)) := by
  refine Ct.of [some (.inr (.inr (some (0, 0)))), some (.inl (nI j)), some (.inl x), some (.inl y1), some (.inl y2), none, none, none, none, none] (by decide) rfl (Nat.le_of_ble_eq_true rfl) ?_
  refine g_ald0 (pc' := 1) dX8_keepings_0 rfl ?_
  refine g_ild1 (pc' := 2) dX8_keepings_1 rfl ?_
  refine g_callV (pc' := 5) (c_worldOfS l xg hm hj hM hR) xg.s0 (by decide) wX8_worldOf lX8_147 rfl rfl (Nat.le_of_ble_eq_true rfl) ⟨Nat.le_of_ble_eq_true rfl, Nat.le_of_ble_eq_true rfl⟩ ⟨Nat.le_of_ble_eq_true rfl, Nat.le_of_ble_eq_true rfl⟩ dX8_keepings_2 rfl (kRp ?_)
  refine g_ast5 (pc' := 7) rfl (by decide) dX8_keepings_5 rfl ?_
  refine g_ald0 (pc' := 8) dX8_keepings_7 rfl ?_
  refine g_ild2 (pc' := 9) dX8_keepings_8 rfl ?_
  refine g_callV (pc' := 12) (c_shelfOfN l xg hx) xg.s0 (by decide) wX8_shelfOf lX8_186 rfl rfl (Nat.le_of_ble_eq_true rfl) ⟨Nat.le_of_ble_eq_true rfl, Nat.le_of_ble_eq_true rfl⟩ ⟨Nat.le_of_ble_eq_true rfl, Nat.le_of_ble_eq_true rfl⟩ dX8_keepings_9 rfl (kRp ?_)
  refine g_ast6 (pc' := 14) rfl (by decide) dX8_keepings_12 rfl ?_
  refine g_ald5 (pc' := 16) dX8_keepings_14 rfl ?_
  refine g_ifnullF (pc' := 19) dX8_keepings_16 rfl ?_
  refine g_ald6 (pc' := 21) dX8_keepings_19 rfl ?_
  refine g_ifnullT (tgt := 37) dX8_keepings_21 (by decide) ?_
  refine g_iconst (pc' := 38) (v := (-1)) dX8_keepings_37 rfl (by decide) ?_
  refine g_iret rfl dX8_keepings_38 ?_
  exact eIp rfl

theorem c_keepingsB (l : Launch) {S : Shp} {I : MI} {L : ML} {R : MR} (xg : XG S R) {m j : Nat} (hm : I (0, 0) 5 = nI m) (hj : j < m) (hM : m ≤ 9) (hR : R (10, 0) j = some (11, j)) (wg : WG j S R) {d : Nat} (hd6 : d < 6) (hRd : R (26, 0) d = some (27, d)) (dg : DG d S R) (y1 : Int32) {y2 : Int32} (hb : y2 < nI 1 ∨ nI 60 < y2) : Ct l mX8_keepings 2 0 0 [.inr (.inr (some (0, 0))), .inl (nI j), .inl (nI d), .inl y1, .inl y2] S I L R (PIp S I L R (-1)) := by
  refine Ct.of [some (.inr (.inr (some (0, 0)))), some (.inl (nI j)), some (.inl (nI d)), some (.inl y1), some (.inl y2), none, none, none, none, none] (by decide) rfl (Nat.le_of_ble_eq_true rfl) ?_
  refine g_ald0 (pc' := 1) dX8_keepings_0 rfl ?_
  refine g_ild1 (pc' := 2) dX8_keepings_1 rfl ?_
  refine g_callV (pc' := 5) (c_worldOfS l xg hm hj hM hR) xg.s0 (by decide) wX8_worldOf lX8_147 rfl rfl (Nat.le_of_ble_eq_true rfl) ⟨Nat.le_of_ble_eq_true rfl, Nat.le_of_ble_eq_true rfl⟩ ⟨Nat.le_of_ble_eq_true rfl, Nat.le_of_ble_eq_true rfl⟩ dX8_keepings_2 rfl (kRp ?_)
  refine g_ast5 (pc' := 7) rfl (by decide) dX8_keepings_5 rfl ?_
  refine g_ald0 (pc' := 8) dX8_keepings_7 rfl ?_
  refine g_ild2 (pc' := 9) dX8_keepings_8 rfl ?_
  refine g_callV (pc' := 12) (c_shelfOfS l xg hd6 hRd) xg.s0 (by decide) wX8_shelfOf lX8_186 rfl rfl (Nat.le_of_ble_eq_true rfl) ⟨Nat.le_of_ble_eq_true rfl, Nat.le_of_ble_eq_true rfl⟩ ⟨Nat.le_of_ble_eq_true rfl, Nat.le_of_ble_eq_true rfl⟩ dX8_keepings_9 rfl (kRp ?_)
  refine g_ast6 (pc' := 14) rfl (by decide) dX8_keepings_12 rfl ?_
  refine g_ald5 (pc' := 16) dX8_keepings_14 rfl ?_
  refine g_ifnullF (pc' := 19) dX8_keepings_16 rfl ?_
  refine g_ald6 (pc' := 21) dX8_keepings_19 rfl ?_
  refine g_ifnullF (pc' := 24) dX8_keepings_21 rfl ?_
  refine g_ild4 (pc' := 26) dX8_keepings_24 rfl ?_
  refine g_iconst (pc' := 27) (v := nI 1) dX8_keepings_26 rfl (by decide) ?_
  refine g_icmplt (pc' := 30) (tgt := 37) dX8_keepings_27 (by decide) rfl (fun h27 => ?_) (fun h27 => ?_)
  · refine g_iconst (pc' := 38) (v := (-1)) dX8_keepings_37 rfl (by decide) ?_
    refine g_iret rfl dX8_keepings_38 ?_
    exact eIp rfl
  · refine g_ild4 (pc' := 32) dX8_keepings_30 rfl ?_
    refine g_bipush (pc' := 34) (v := nI 60) dX8_keepings_32 rfl (by decide) ?_
    refine g_icmple (pc' := 37) (tgt := 39) dX8_keepings_34 (by decide) rfl (fun h34 => ?_) (fun h34 => ?_)
    · exfalso
      rcases hb with h | h
      · exact h27 h
      · exact absurd h34 (Int32.not_le.mpr h)
    · refine g_iconst (pc' := 38) (v := (-1)) dX8_keepings_37 rfl (by decide) ?_
      refine g_iret rfl dX8_keepings_38 ?_
      exact eIp rfl

theorem c_keepingsE (l : Launch) {S : Shp} {I : MI} {L : ML} {R : MR} (xg : XG S R) {m j : Nat} (hm : I (0, 0) 5 = nI m) (hj : j < m) (hM : m ≤ 9) (hR : R (10, 0) j = some (11, j)) (wg : WG j S R) {d : Nat} (hd6 : d < 6) (hRd : R (26, 0) d = some (27, d)) (dg : DG d S R) (hh : I (27, d) 0 = nI 0) (y1 : Int32) {a : Nat} (ha : 1 ≤ a ∧ a ≤ 60) : Ct l mX8_keepings 2 0 0 [.inr (.inr (some (0, 0))), .inl (nI j), .inl (nI d), .inl y1, .inl (nI a)] S I L R (PIp S I L R (nI 0)) := by
  refine Ct.of [some (.inr (.inr (some (0, 0)))), some (.inl (nI j)), some (.inl (nI d)), some (.inl y1), some (.inl (nI a)), none, none, none, none, none] (by decide) rfl (Nat.le_of_ble_eq_true rfl) ?_
  refine g_ald0 (pc' := 1) dX8_keepings_0 rfl ?_
  refine g_ild1 (pc' := 2) dX8_keepings_1 rfl ?_
  refine g_callV (pc' := 5) (c_worldOfS l xg hm hj hM hR) xg.s0 (by decide) wX8_worldOf lX8_147 rfl rfl (Nat.le_of_ble_eq_true rfl) ⟨Nat.le_of_ble_eq_true rfl, Nat.le_of_ble_eq_true rfl⟩ ⟨Nat.le_of_ble_eq_true rfl, Nat.le_of_ble_eq_true rfl⟩ dX8_keepings_2 rfl (kRp ?_)
  refine g_ast5 (pc' := 7) rfl (by decide) dX8_keepings_5 rfl ?_
  refine g_ald0 (pc' := 8) dX8_keepings_7 rfl ?_
  refine g_ild2 (pc' := 9) dX8_keepings_8 rfl ?_
  refine g_callV (pc' := 12) (c_shelfOfS l xg hd6 hRd) xg.s0 (by decide) wX8_shelfOf lX8_186 rfl rfl (Nat.le_of_ble_eq_true rfl) ⟨Nat.le_of_ble_eq_true rfl, Nat.le_of_ble_eq_true rfl⟩ ⟨Nat.le_of_ble_eq_true rfl, Nat.le_of_ble_eq_true rfl⟩ dX8_keepings_9 rfl (kRp ?_)
  refine g_ast6 (pc' := 14) rfl (by decide) dX8_keepings_12 rfl ?_
  refine g_ald5 (pc' := 16) dX8_keepings_14 rfl ?_
  refine g_ifnullF (pc' := 19) dX8_keepings_16 rfl ?_
  refine g_ald6 (pc' := 21) dX8_keepings_19 rfl ?_
  refine g_ifnullF (pc' := 24) dX8_keepings_21 rfl ?_
  refine g_ild4 (pc' := 26) dX8_keepings_24 rfl ?_
  refine g_iconst (pc' := 27) (v := nI 1) dX8_keepings_26 rfl (by decide) ?_
  refine g_icmpltN (pc' := 30) (by omega) (by omega) (tgt := 37) dX8_keepings_27 (by decide) rfl (fun h27 => ?_) (fun h27 => ?_)
  · exact absurd h27 (by omega)
  · refine g_ild4 (pc' := 32) dX8_keepings_30 rfl ?_
    refine g_bipush (pc' := 34) (v := nI 60) dX8_keepings_32 rfl (by decide) ?_
    refine g_icmpleN (pc' := 37) (by omega) (by omega) (tgt := 39) dX8_keepings_34 (by decide) rfl (fun h34 => ?_) (fun h34 => ?_)
    · refine g_ald6 (pc' := 41) dX8_keepings_39 rfl ?_
      refine g_getI (pc' := 44) dg.s27 (by decide) fX8_190 hh dX8_keepings_41 rfl ?_
      refine g_ifneN (pc' := 47) (by omega) (tgt := 49) dX8_keepings_44 (by decide) rfl (fun h44 => ?_) (fun h44 => ?_)
      · exact absurd h44 (by omega)
      · refine g_iconst (pc' := 48) (v := nI 0) dX8_keepings_47 rfl (by decide) ?_
        refine g_iret rfl dX8_keepings_48 ?_
        exact eIp rfl
    · exact absurd h34 (by omega)

theorem c_keepingsO (l : Launch) {S : Shp} {I : MI} {L : ML} {R : MR} (xg : XG S R) {m j : Nat} (hm : I (0, 0) 5 = nI m) (hj : j < m) (hM : m ≤ 9) (hR : R (10, 0) j = some (11, j)) (wg : WG j S R) {d : Nat} (hd6 : d < 6) (hRd : R (26, 0) d = some (27, d)) (dg : DG d S R) {h s : Nat} (hh : I (27, d) 0 = nI h) (hs : I (27, d) 2 = nI s) (hh3 : h < 3) (hs4 : s ≤ 4) (h0 : ¬ h = 0) (ho : ¬ h = 2 ∨ ¬ s = 0) (y1 : Int32) {a : Nat} (ha : 1 ≤ a ∧ a ≤ 60) : Ct l mX8_keepings 2 0 0 [.inr (.inr (some (0, 0))), .inl (nI j), .inl (nI d), .inl y1, .inl (nI a)] S I L R (PIp S I L R (-12)) := by
  refine Ct.of [some (.inr (.inr (some (0, 0)))), some (.inl (nI j)), some (.inl (nI d)), some (.inl y1), some (.inl (nI a)), none, none, none, none, none] (by decide) rfl (Nat.le_of_ble_eq_true rfl) ?_
  refine g_ald0 (pc' := 1) dX8_keepings_0 rfl ?_
  refine g_ild1 (pc' := 2) dX8_keepings_1 rfl ?_
  refine g_callV (pc' := 5) (c_worldOfS l xg hm hj hM hR) xg.s0 (by decide) wX8_worldOf lX8_147 rfl rfl (Nat.le_of_ble_eq_true rfl) ⟨Nat.le_of_ble_eq_true rfl, Nat.le_of_ble_eq_true rfl⟩ ⟨Nat.le_of_ble_eq_true rfl, Nat.le_of_ble_eq_true rfl⟩ dX8_keepings_2 rfl (kRp ?_)
  refine g_ast5 (pc' := 7) rfl (by decide) dX8_keepings_5 rfl ?_
  refine g_ald0 (pc' := 8) dX8_keepings_7 rfl ?_
  refine g_ild2 (pc' := 9) dX8_keepings_8 rfl ?_
  refine g_callV (pc' := 12) (c_shelfOfS l xg hd6 hRd) xg.s0 (by decide) wX8_shelfOf lX8_186 rfl rfl (Nat.le_of_ble_eq_true rfl) ⟨Nat.le_of_ble_eq_true rfl, Nat.le_of_ble_eq_true rfl⟩ ⟨Nat.le_of_ble_eq_true rfl, Nat.le_of_ble_eq_true rfl⟩ dX8_keepings_9 rfl (kRp ?_)
  refine g_ast6 (pc' := 14) rfl (by decide) dX8_keepings_12 rfl ?_
  refine g_ald5 (pc' := 16) dX8_keepings_14 rfl ?_
  refine g_ifnullF (pc' := 19) dX8_keepings_16 rfl ?_
  refine g_ald6 (pc' := 21) dX8_keepings_19 rfl ?_
  refine g_ifnullF (pc' := 24) dX8_keepings_21 rfl ?_
  refine g_ild4 (pc' := 26) dX8_keepings_24 rfl ?_
  refine g_iconst (pc' := 27) (v := nI 1) dX8_keepings_26 rfl (by decide) ?_
  refine g_icmpltN (pc' := 30) (by omega) (by omega) (tgt := 37) dX8_keepings_27 (by decide) rfl (fun h27 => ?_) (fun h27 => ?_)
  · exact absurd h27 (by omega)
  · refine g_ild4 (pc' := 32) dX8_keepings_30 rfl ?_
    refine g_bipush (pc' := 34) (v := nI 60) dX8_keepings_32 rfl (by decide) ?_
    refine g_icmpleN (pc' := 37) (by omega) (by omega) (tgt := 39) dX8_keepings_34 (by decide) rfl (fun h34 => ?_) (fun h34 => ?_)
    · refine g_ald6 (pc' := 41) dX8_keepings_39 rfl ?_
      refine g_getI (pc' := 44) dg.s27 (by decide) fX8_190 hh dX8_keepings_41 rfl ?_
      refine g_ifneN (pc' := 47) (by omega) (tgt := 49) dX8_keepings_44 (by decide) rfl (fun h44 => ?_) (fun h44 => ?_)
      · refine g_ald6 (pc' := 51) dX8_keepings_49 rfl ?_
        refine g_getI (pc' := 54) dg.s27 (by decide) fX8_190 hh dX8_keepings_51 rfl ?_
        refine g_iconst (pc' := 55) (v := nI 2) dX8_keepings_54 rfl (by decide) ?_
        refine g_icmpneN (pc' := 58) (by omega) (by omega) (tgt := 66) dX8_keepings_55 (by decide) rfl (fun h55 => ?_) (fun h55 => ?_)
        · refine g_bipush (pc' := 68) (v := (-12)) dX8_keepings_66 rfl (by decide) ?_
          refine g_iret rfl dX8_keepings_68 ?_
          exact eIp rfl
        · refine g_ald6 (pc' := 60) dX8_keepings_58 rfl ?_
          refine g_getI (pc' := 63) dg.s27 (by decide) fX8_193 hs dX8_keepings_60 rfl ?_
          refine g_ifeqN (pc' := 66) (by omega) (tgt := 69) dX8_keepings_63 (by decide) rfl (fun h63 => ?_) (fun h63 => ?_)
          · exact absurd ho (by omega)
          · refine g_bipush (pc' := 68) (v := (-12)) dX8_keepings_66 rfl (by decide) ?_
            refine g_iret rfl dX8_keepings_68 ?_
            exact eIp rfl
      · exact absurd h44 (by omega)
    · exact absurd h34 (by omega)

theorem c_keepingsZ (l : Launch) {S : Shp} {I : MI} {L : ML} {R : MR} (xg : XG S R) {m j : Nat} (hm : I (0, 0) 5 = nI m) (hj : j < m) (hM : m ≤ 9) (hR : R (10, 0) j = some (11, j)) (wg : WG j S R) {d : Nat} (hd6 : d < 6) (hRd : R (26, 0) d = some (27, d)) (dg : DG d S R) (hh : I (27, d) 0 = nI 2) (hs : I (27, d) 2 = nI 0) {z : Nat} (hz : I (27, d) 3 = nI z) (hz6 : z ≤ 60) {y1 : Int32} (hy : inb y1 z = false) {a : Nat} (ha : 1 ≤ a ∧ a ≤ 60) : Ct l mX8_keepings 2 0 0 [.inr (.inr (some (0, 0))), .inl (nI j), .inl (nI d), .inl y1, .inl (nI a)] S I L R (PIp S I L R (nI 0)) := by
  refine Ct.of [some (.inr (.inr (some (0, 0)))), some (.inl (nI j)), some (.inl (nI d)), some (.inl y1), some (.inl (nI a)), none, none, none, none, none] (by decide) rfl (Nat.le_of_ble_eq_true rfl) ?_
  refine g_ald0 (pc' := 1) dX8_keepings_0 rfl ?_
  refine g_ild1 (pc' := 2) dX8_keepings_1 rfl ?_
  refine g_callV (pc' := 5) (c_worldOfS l xg hm hj hM hR) xg.s0 (by decide) wX8_worldOf lX8_147 rfl rfl (Nat.le_of_ble_eq_true rfl) ⟨Nat.le_of_ble_eq_true rfl, Nat.le_of_ble_eq_true rfl⟩ ⟨Nat.le_of_ble_eq_true rfl, Nat.le_of_ble_eq_true rfl⟩ dX8_keepings_2 rfl (kRp ?_)
  refine g_ast5 (pc' := 7) rfl (by decide) dX8_keepings_5 rfl ?_
  refine g_ald0 (pc' := 8) dX8_keepings_7 rfl ?_
  refine g_ild2 (pc' := 9) dX8_keepings_8 rfl ?_
  refine g_callV (pc' := 12) (c_shelfOfS l xg hd6 hRd) xg.s0 (by decide) wX8_shelfOf lX8_186 rfl rfl (Nat.le_of_ble_eq_true rfl) ⟨Nat.le_of_ble_eq_true rfl, Nat.le_of_ble_eq_true rfl⟩ ⟨Nat.le_of_ble_eq_true rfl, Nat.le_of_ble_eq_true rfl⟩ dX8_keepings_9 rfl (kRp ?_)
  refine g_ast6 (pc' := 14) rfl (by decide) dX8_keepings_12 rfl ?_
  refine g_ald5 (pc' := 16) dX8_keepings_14 rfl ?_
  refine g_ifnullF (pc' := 19) dX8_keepings_16 rfl ?_
  refine g_ald6 (pc' := 21) dX8_keepings_19 rfl ?_
  refine g_ifnullF (pc' := 24) dX8_keepings_21 rfl ?_
  refine g_ild4 (pc' := 26) dX8_keepings_24 rfl ?_
  refine g_iconst (pc' := 27) (v := nI 1) dX8_keepings_26 rfl (by decide) ?_
  refine g_icmpltN (pc' := 30) (by omega) (by omega) (tgt := 37) dX8_keepings_27 (by decide) rfl (fun h27 => ?_) (fun h27 => ?_)
  · exact absurd h27 (by omega)
  · refine g_ild4 (pc' := 32) dX8_keepings_30 rfl ?_
    refine g_bipush (pc' := 34) (v := nI 60) dX8_keepings_32 rfl (by decide) ?_
    refine g_icmpleN (pc' := 37) (by omega) (by omega) (tgt := 39) dX8_keepings_34 (by decide) rfl (fun h34 => ?_) (fun h34 => ?_)
    · refine g_ald6 (pc' := 41) dX8_keepings_39 rfl ?_
      refine g_getI (pc' := 44) dg.s27 (by decide) fX8_190 hh dX8_keepings_41 rfl ?_
      refine g_ifneN (pc' := 47) (by omega) (tgt := 49) dX8_keepings_44 (by decide) rfl (fun h44 => ?_) (fun h44 => ?_)
      · refine g_ald6 (pc' := 51) dX8_keepings_49 rfl ?_
        refine g_getI (pc' := 54) dg.s27 (by decide) fX8_190 hh dX8_keepings_51 rfl ?_
        refine g_iconst (pc' := 55) (v := nI 2) dX8_keepings_54 rfl (by decide) ?_
        refine g_icmpneN (pc' := 58) (by omega) (by omega) (tgt := 66) dX8_keepings_55 (by decide) rfl (fun h55 => ?_) (fun h55 => ?_)
        · exact absurd h55 (by omega)
        · refine g_ald6 (pc' := 60) dX8_keepings_58 rfl ?_
          refine g_getI (pc' := 63) dg.s27 (by decide) fX8_193 hs dX8_keepings_60 rfl ?_
          refine g_ifeqN (pc' := 66) (by omega) (tgt := 69) dX8_keepings_63 (by decide) rfl (fun h63 => ?_) (fun h63 => ?_)
          · refine g_iconst (pc' := 70) (v := nI 0) dX8_keepings_69 rfl (by decide) ?_
            refine g_ist7 (pc' := 72) rfl (by decide) dX8_keepings_70 rfl ?_
            refine g_ild3 (pc' := 73) dX8_keepings_72 rfl ?_
            refine g_ist8 (pc' := 75) rfl (by decide) dX8_keepings_73 rfl ?_
            refine g_ild7 (pc' := 77) dX8_keepings_75 rfl ?_
            refine g_ild4 (pc' := 79) dX8_keepings_77 rfl ?_
            refine g_icmpgeN (pc' := 82) (by omega) (by omega) (tgt := 140) dX8_keepings_79 (by decide) rfl (fun h79 => ?_) (fun h79 => ?_)
            · exact absurd h79 (by omega)
            · refine g_ald6 (pc' := 84) dX8_keepings_82 rfl ?_
              refine g_ild8 (pc' := 86) dX8_keepings_84 rfl ?_
              refine g_callV (pc' := 89) (c_sHas l dg hz hz6 y1) dg.s27 (by decide) wX4_has lX8_196 rfl rfl (Nat.le_of_ble_eq_true rfl) ⟨Nat.le_of_ble_eq_true rfl, Nat.le_of_ble_eq_true rfl⟩ ⟨Nat.le_of_ble_eq_true rfl, Nat.le_of_ble_eq_true rfl⟩ dX8_keepings_86 rfl (kIp ?_)
              refine g_ifeqB (pc' := 92) (tgt := 140) dX8_keepings_89 (by decide) rfl (fun h89 => ?_) (fun h89 => (by first | exact absurd h89 (Bool.eq_false_iff.mp hy) | exact absurd (Bool.eq_false_iff.mp hy) h89))
              refine g_ild7 (pc' := 142) dX8_keepings_140 rfl ?_
              refine g_iret rfl dX8_keepings_142 ?_
              exact eIp rfl
          · exact absurd h63 (by omega)
      · exact absurd h44 (by omega)
    · exact absurd h34 (by omega)

theorem c_keepingsS (l : Launch) {S : Shp} {I : MI} {L : ML} {R : MR} (xg : XG S R) (sg : SG S R) {n : Nat} (hn : I (1, 0) 1 = nI n) (hN : n ≤ 12) {m j : Nat} (hm : I (0, 0) 5 = nI m) (hj : j < m) (hM : m ≤ 9) (hR : R (10, 0) j = some (11, j)) (wg : WG j S R) {d : Nat} (hd6 : d < 6) (hRd : R (26, 0) d = some (27, d)) (dg : DG d S R) (hh : I (27, d) 0 = nI 2) (hs : I (27, d) 2 = nI 0) {z : Nat} (hz : I (27, d) 3 = nI z) (hz6 : z ≤ 60) {i0 : Nat} (hi0 : i0 < z) {a : Nat} (ha : 1 ≤ a ∧ a ≤ 60) {ke : Nat} (hke : I (11, j) 8 = nI ke) (hk : ke + a < 2 ^ 30) : Ct l mX8_keepings 4 0 0 [.inr (.inr (some (0, 0))), .inl (nI j), .inl (nI d), .inl (nI i0), .inl (nI a)] S I L R (PIm S L R (fun v J => v = nI (kCn (L (28, d)) z n i0 a) ∧ J = (kSt (L (28, d)) j n i0 I ke (kCn (L (28, d)) z n i0 a)).1)) := by
  refine Ct.of [some (.inr (.inr (some (0, 0)))), some (.inl (nI j)), some (.inl (nI d)), some (.inl (nI i0)), some (.inl (nI a)), none, none, none, none, none] (by decide) rfl (Nat.le_of_ble_eq_true rfl) ?_
  refine g_ald0 (pc' := 1) dX8_keepings_0 rfl ?_
  refine g_ild1 (pc' := 2) dX8_keepings_1 rfl ?_
  refine g_callV (pc' := 5) (c_worldOfS l xg hm hj hM hR) xg.s0 (by decide) wX8_worldOf lX8_147 rfl rfl (Nat.le_of_ble_eq_true rfl) ⟨Nat.le_of_ble_eq_true rfl, Nat.le_of_ble_eq_true rfl⟩ ⟨Nat.le_of_ble_eq_true rfl, Nat.le_of_ble_eq_true rfl⟩ dX8_keepings_2 rfl (kRp ?_)
  refine g_ast5 (pc' := 7) rfl (by decide) dX8_keepings_5 rfl ?_
  refine g_ald0 (pc' := 8) dX8_keepings_7 rfl ?_
  refine g_ild2 (pc' := 9) dX8_keepings_8 rfl ?_
  refine g_callV (pc' := 12) (c_shelfOfS l xg hd6 hRd) xg.s0 (by decide) wX8_shelfOf lX8_186 rfl rfl (Nat.le_of_ble_eq_true rfl) ⟨Nat.le_of_ble_eq_true rfl, Nat.le_of_ble_eq_true rfl⟩ ⟨Nat.le_of_ble_eq_true rfl, Nat.le_of_ble_eq_true rfl⟩ dX8_keepings_9 rfl (kRp ?_)
  refine g_ast6 (pc' := 14) rfl (by decide) dX8_keepings_12 rfl ?_
  refine g_ald5 (pc' := 16) dX8_keepings_14 rfl ?_
  refine g_ifnullF (pc' := 19) dX8_keepings_16 rfl ?_
  refine g_ald6 (pc' := 21) dX8_keepings_19 rfl ?_
  refine g_ifnullF (pc' := 24) dX8_keepings_21 rfl ?_
  refine g_ild4 (pc' := 26) dX8_keepings_24 rfl ?_
  refine g_iconst (pc' := 27) (v := nI 1) dX8_keepings_26 rfl (by decide) ?_
  refine g_icmpltN (pc' := 30) (by omega) (by omega) (tgt := 37) dX8_keepings_27 (by decide) rfl (fun h27 => ?_) (fun h27 => ?_)
  · exact absurd h27 (by omega)
  · refine g_ild4 (pc' := 32) dX8_keepings_30 rfl ?_
    refine g_bipush (pc' := 34) (v := nI 60) dX8_keepings_32 rfl (by decide) ?_
    refine g_icmpleN (pc' := 37) (by omega) (by omega) (tgt := 39) dX8_keepings_34 (by decide) rfl (fun h34 => ?_) (fun h34 => ?_)
    · refine g_ald6 (pc' := 41) dX8_keepings_39 rfl ?_
      refine g_getI (pc' := 44) dg.s27 (by decide) fX8_190 hh dX8_keepings_41 rfl ?_
      refine g_ifneN (pc' := 47) (by omega) (tgt := 49) dX8_keepings_44 (by decide) rfl (fun h44 => ?_) (fun h44 => ?_)
      · refine g_ald6 (pc' := 51) dX8_keepings_49 rfl ?_
        refine g_getI (pc' := 54) dg.s27 (by decide) fX8_190 hh dX8_keepings_51 rfl ?_
        refine g_iconst (pc' := 55) (v := nI 2) dX8_keepings_54 rfl (by decide) ?_
        refine g_icmpneN (pc' := 58) (by omega) (by omega) (tgt := 66) dX8_keepings_55 (by decide) rfl (fun h55 => ?_) (fun h55 => ?_)
        · exact absurd h55 (by omega)
        · refine g_ald6 (pc' := 60) dX8_keepings_58 rfl ?_
          refine g_getI (pc' := 63) dg.s27 (by decide) fX8_193 hs dX8_keepings_60 rfl ?_
          refine g_ifeqN (pc' := 66) (by omega) (tgt := 69) dX8_keepings_63 (by decide) rfl (fun h63 => ?_) (fun h63 => ?_)
          · refine g_iconst (pc' := 70) (v := nI 0) dX8_keepings_69 rfl (by decide) ?_
            refine g_ist7 (pc' := 72) rfl (by decide) dX8_keepings_70 rfl ?_
            refine g_ild3 (pc' := 73) dX8_keepings_72 rfl ?_
            refine g_ist8 (pc' := 75) rfl (by decide) dX8_keepings_73 rfl ?_
            refine g_loop (σ := Unit) (fun t _ => kCn (L (28, d)) z n i0 t = t) (fun t s => [some (.inr (.inr (some (0, 0)))), some (.inl (nI j)), some (.inl (nI d)), some (.inl (nI i0)), some (.inl (nI a)), some (.inr (.inr (some (11, j)))), some (.inr (.inr (some (27, d)))), some (.inl (nI t)), some (.inl (nI (i0 + t))), none]) (fun t s => (kSt (L (28, d)) j n i0 I ke t).1) a 0 () (by omega) rfl ?_ ?_
            · intro t s hi hP ih
              have hfrT := (kSt_w (c := L (28, d)) (n := n) (i0 := i0) hke t).1
              have hkeT := (kSt_w (c := L (28, d)) (n := n) (i0 := i0) hke t).2
              have hzT : (kSt (L (28, d)) j n i0 I ke t).1 (27, d) 3 = nI z := (hfrT _ _ (by simp [wldP])).trans hz
              have hnT : (kSt (L (28, d)) j n i0 I ke t).1 (1, 0) 1 = nI n := (hfrT _ _ (by simp [wldP])).trans hn
              refine g_ild7 (pc' := 77) dX8_keepings_75 rfl ?_
              refine g_ild4 (pc' := 79) dX8_keepings_77 rfl ?_
              refine g_icmpgeN (pc' := 82) (by omega) (by omega) (tgt := 140) dX8_keepings_79 (by decide) rfl (fun h79 => ?_) (fun h79 => ?_)
              · exact absurd h79 (by omega)
              · refine g_ald6 (pc' := 84) dX8_keepings_82 rfl ?_
                refine g_ild8 (pc' := 86) dX8_keepings_84 rfl ?_
                refine g_callV (pc' := 89) (c_sHas l dg hzT hz6 (nI (i0 + t))) dg.s27 (by decide) wX4_has lX8_196 rfl rfl (Nat.le_of_ble_eq_true rfl) ⟨Nat.le_of_ble_eq_true rfl, Nat.le_of_ble_eq_true rfl⟩ ⟨Nat.le_of_ble_eq_true rfl, Nat.le_of_ble_eq_true rfl⟩ dX8_keepings_86 rfl (kIp ?_)
                refine g_ifeqB (pc' := 92) (tgt := 140) dX8_keepings_89 (by decide) rfl (fun h89 => ?_) (fun h89 => ?_)
                · have hno : kOK (L (28, d)) z n (i0 + t) = false := by
                    unfold kOK
                    rw [inb_nI (by omega) (by omega)] at h89; rw [h89]; rfl
                  have hst := kCn_stop hP hno a (by omega)
                  refine g_ild7 (pc' := 142) dX8_keepings_140 rfl ?_
                  refine g_iret rfl dX8_keepings_142 ?_
                  exact eI ⟨by rw [hst], by rw [hst]⟩
                · have hlt : i0 + t < z := by rw [inb_nI (by omega) (by omega)] at h89; simpa using h89
                  obtain ⟨x, hx⟩ : ∃ x, x = (L (28, d) (i0 + t)).toInt32 := ⟨_, rfl⟩
                  refine g_ald6 (pc' := 94) dX8_keepings_92 rfl ?_
                  refine g_getR (pc' := 97) dg.s27 (by decide) fX8_197 dg.r27_4 dX8_keepings_94 rfl ?_
                  refine g_ild8 (pc' := 99) dX8_keepings_97 rfl ?_
                  refine g_lald (pc' := 100) (j := i0 + t) dg.s28 rfl (by omega) (by decide) rfl dX8_keepings_99 rfl ?_
                  refine g_l2i (pc' := 101) dX8_keepings_100 rfl ?_
                  refine g_topi (v := x) (hx.symm) ?_
                  refine g_ist9 (pc' := 103) rfl (by decide) dX8_keepings_101 rfl ?_
                  refine g_ild9 (pc' := 105) dX8_keepings_103 rfl ?_
                  refine g_iconst (pc' := 106) (v := (-1)) dX8_keepings_105 rfl (by decide) ?_
                  refine g_icmpeq (pc' := 109) (tgt := 124) dX8_keepings_106 (by decide) rfl (fun h106 => ?_) (fun h106 => ?_)
                  · have hok : x = -1 ∨ inb x n = true := by first | exact Or.inl h106 | exact Or.inr h118
                    have hkO : kOK (L (28, d)) z n (i0 + t) = true := by
                      unfold kOK
                      rw [← hx, decide_eq_true hlt]
                      rcases hok with h | h
                      · rw [h]; rfl
                      · rw [h]; simp
                    have hcn := kCn_s hP hkO
                    cases hin : inb x n with
                    | true =>
                      obtain ⟨s, hs0, hxs⟩ := inb_of (by omega) hin
                      rw [hxs]
                      refine g_ald5 (pc' := 126) dX8_keepings_124 rfl ?_
                      refine g_ild9 (pc' := 128) dX8_keepings_126 rfl ?_
                      refine g_callV (pc' := 131) (c_receiveS l sg wg hnT hN hs0 hkeT.1 (by have := hkeT.2; omega)) (wg).s11 (by decide) wX7_receive lX8_201 rfl rfl (Nat.le_of_ble_eq_true rfl) ⟨Nat.le_of_ble_eq_true rfl, Nat.le_of_ble_eq_true rfl⟩ ⟨Nat.le_of_ble_eq_true rfl, Nat.le_of_ble_eq_true rfl⟩ dX8_keepings_128 rfl (kV (fun J2 hJ2 => ?_))
                      refine g_inc7 (pc' := 134) rfl (by decide) (v := nI (t + 1)) (nI_1 _) dX8_keepings_131 rfl ?_
                      refine g_inc8 (pc' := 137) rfl (by decide) (v := nI (i0 + t + 1)) (nI_1 _) dX8_keepings_134 rfl ?_
                      refine g_goto (tgt := 75) dX8_keepings_137 (by decide) ?_
                      refine G.lsub [some (.inr (.inr (some (0, 0)))), some (.inl (nI j)), some (.inl (nI d)), some (.inl (nI i0)), some (.inl (nI a)), some (.inr (.inr (some (11, j)))), some (.inr (.inr (some (27, d)))), some (.inl (nI (t + 1))), some (.inl (nI (i0 + t + 1))), none] (by intro j v; rcases j with _ | _ | _ | _ | _ | _ | _ | _ | _ | _ | j <;> simp) ?_
                      rw [hJ2, show rcvS _ j _ s = (kSt (L (28, d)) j n i0 I ke (t + 1)).1 from by rw [kSt_S (hx.symm.trans hxs) hs0 hN]]
                      exact ih () hcn
                    | false =>
                      refine g_ald5 (pc' := 126) dX8_keepings_124 rfl ?_
                      refine g_ild9 (pc' := 128) dX8_keepings_126 rfl ?_
                      refine g_callV (pc' := 131) (c_receiveN l sg wg hnT hN _ hin) (wg).s11 (by decide) wX7_receive lX8_201 rfl rfl (Nat.le_of_ble_eq_true rfl) ⟨Nat.le_of_ble_eq_true rfl, Nat.le_of_ble_eq_true rfl⟩ ⟨Nat.le_of_ble_eq_true rfl, Nat.le_of_ble_eq_true rfl⟩ dX8_keepings_128 rfl (kV (fun J2 hJ2 => ?_))
                      refine g_inc7 (pc' := 134) rfl (by decide) (v := nI (t + 1)) (nI_1 _) dX8_keepings_131 rfl ?_
                      refine g_inc8 (pc' := 137) rfl (by decide) (v := nI (i0 + t + 1)) (nI_1 _) dX8_keepings_134 rfl ?_
                      refine g_goto (tgt := 75) dX8_keepings_137 (by decide) ?_
                      refine G.lsub [some (.inr (.inr (some (0, 0)))), some (.inl (nI j)), some (.inl (nI d)), some (.inl (nI i0)), some (.inl (nI a)), some (.inr (.inr (some (11, j)))), some (.inr (.inr (some (27, d)))), some (.inl (nI (t + 1))), some (.inl (nI (i0 + t + 1))), none] (by intro j v; rcases j with _ | _ | _ | _ | _ | _ | _ | _ | _ | _ | j <;> simp) ?_
                      rw [hJ2, show rcvN _ j = (kSt (L (28, d)) j n i0 I ke (t + 1)).1 from by rw [kSt_N (by rw [← hx]; exact hin)]]
                      exact ih () hcn
                  · refine g_ald0 (pc' := 110) dX8_keepings_109 rfl ?_
                    refine g_getR (pc' := 113) xg.s0 (by decide) fX8_10 xg.r0_0 dX8_keepings_110 rfl ?_
                    refine g_ild9 (pc' := 115) dX8_keepings_113 rfl ?_
                    refine g_callV (pc' := 118) (c_has l sg hnT hN x) sg.s1 (by decide) wX5_has lX8_95 rfl rfl (Nat.le_of_ble_eq_true rfl) ⟨Nat.le_of_ble_eq_true rfl, Nat.le_of_ble_eq_true rfl⟩ ⟨Nat.le_of_ble_eq_true rfl, Nat.le_of_ble_eq_true rfl⟩ dX8_keepings_115 rfl (kIp ?_)
                    refine g_ifneB (pc' := 121) (tgt := 124) dX8_keepings_118 (by decide) rfl (fun h118 => ?_) (fun h118 => ?_)
                    · have hok : x = -1 ∨ inb x n = true := by first | exact Or.inl h106 | exact Or.inr h118
                      have hkO : kOK (L (28, d)) z n (i0 + t) = true := by
                        unfold kOK
                        rw [← hx, decide_eq_true hlt]
                        rcases hok with h | h
                        · rw [h]; rfl
                        · rw [h]; simp
                      have hcn := kCn_s hP hkO
                      cases hin : inb x n with
                      | true =>
                        obtain ⟨s, hs0, hxs⟩ := inb_of (by omega) hin
                        rw [hxs]
                        refine g_ald5 (pc' := 126) dX8_keepings_124 rfl ?_
                        refine g_ild9 (pc' := 128) dX8_keepings_126 rfl ?_
                        refine g_callV (pc' := 131) (c_receiveS l sg wg hnT hN hs0 hkeT.1 (by have := hkeT.2; omega)) (wg).s11 (by decide) wX7_receive lX8_201 rfl rfl (Nat.le_of_ble_eq_true rfl) ⟨Nat.le_of_ble_eq_true rfl, Nat.le_of_ble_eq_true rfl⟩ ⟨Nat.le_of_ble_eq_true rfl, Nat.le_of_ble_eq_true rfl⟩ dX8_keepings_128 rfl (kV (fun J2 hJ2 => ?_))
                        refine g_inc7 (pc' := 134) rfl (by decide) (v := nI (t + 1)) (nI_1 _) dX8_keepings_131 rfl ?_
                        refine g_inc8 (pc' := 137) rfl (by decide) (v := nI (i0 + t + 1)) (nI_1 _) dX8_keepings_134 rfl ?_
                        refine g_goto (tgt := 75) dX8_keepings_137 (by decide) ?_
                        refine G.lsub [some (.inr (.inr (some (0, 0)))), some (.inl (nI j)), some (.inl (nI d)), some (.inl (nI i0)), some (.inl (nI a)), some (.inr (.inr (some (11, j)))), some (.inr (.inr (some (27, d)))), some (.inl (nI (t + 1))), some (.inl (nI (i0 + t + 1))), none] (by intro j v; rcases j with _ | _ | _ | _ | _ | _ | _ | _ | _ | _ | j <;> simp) ?_
                        rw [hJ2, show rcvS _ j _ s = (kSt (L (28, d)) j n i0 I ke (t + 1)).1 from by rw [kSt_S (hx.symm.trans hxs) hs0 hN]]
                        exact ih () hcn
                      | false =>
                        refine g_ald5 (pc' := 126) dX8_keepings_124 rfl ?_
                        refine g_ild9 (pc' := 128) dX8_keepings_126 rfl ?_
                        refine g_callV (pc' := 131) (c_receiveN l sg wg hnT hN _ hin) (wg).s11 (by decide) wX7_receive lX8_201 rfl rfl (Nat.le_of_ble_eq_true rfl) ⟨Nat.le_of_ble_eq_true rfl, Nat.le_of_ble_eq_true rfl⟩ ⟨Nat.le_of_ble_eq_true rfl, Nat.le_of_ble_eq_true rfl⟩ dX8_keepings_128 rfl (kV (fun J2 hJ2 => ?_))
                        refine g_inc7 (pc' := 134) rfl (by decide) (v := nI (t + 1)) (nI_1 _) dX8_keepings_131 rfl ?_
                        refine g_inc8 (pc' := 137) rfl (by decide) (v := nI (i0 + t + 1)) (nI_1 _) dX8_keepings_134 rfl ?_
                        refine g_goto (tgt := 75) dX8_keepings_137 (by decide) ?_
                        refine G.lsub [some (.inr (.inr (some (0, 0)))), some (.inl (nI j)), some (.inl (nI d)), some (.inl (nI i0)), some (.inl (nI a)), some (.inr (.inr (some (11, j)))), some (.inr (.inr (some (27, d)))), some (.inl (nI (t + 1))), some (.inl (nI (i0 + t + 1))), none] (by intro j v; rcases j with _ | _ | _ | _ | _ | _ | _ | _ | _ | _ | j <;> simp) ?_
                        rw [hJ2, show rcvN _ j = (kSt (L (28, d)) j n i0 I ke (t + 1)).1 from by rw [kSt_N (by rw [← hx]; exact hin)]]
                        exact ih () hcn
                    · refine g_ild7 (pc' := 123) dX8_keepings_121 rfl ?_
                      refine g_iret rfl dX8_keepings_123 ?_
                      have hno : kOK (L (28, d)) z n (i0 + t) = false := by
                        unfold kOK
                        rw [← hx, h118, decide_eq_false h106]; simp
                      have hst := kCn_stop hP hno a (by omega)
                      exact eI ⟨by rw [hst], by rw [hst]⟩
            · intro s hP
              refine g_ild7 (pc' := 77) dX8_keepings_75 rfl ?_
              refine g_ild4 (pc' := 79) dX8_keepings_77 rfl ?_
              refine g_icmpgeN (pc' := 82) (by omega) (by omega) (tgt := 140) dX8_keepings_79 (by decide) rfl (fun h79 => ?_) (fun h79 => ?_)
              · refine g_ild7 (pc' := 142) dX8_keepings_140 rfl ?_
                refine g_iret rfl dX8_keepings_142 ?_
                exact eI ⟨by rw [hP], by rw [hP]⟩
              · exact absurd h79 (by omega)
          · exact absurd h63 (by omega)
      · exact absurd h44 (by omega)
    · exact absurd h34 (by omega)
