/-! EightWorlds: said -/
def sfP (lj : Nat) (t : Tok) (_ : Nat) : Prop := t = (35, 0) ∨ t = (32, 0) ∨ t = (9, lj)
theorem ordN_congr {w w' : Nat → Nat → Int32} {n : Nat} (h : ∀ s p, s < n → p < n → w s p = w' s p) : ∀ (f p : Nat) (u a : Int32), p + f = n → ordN w n f p u a = ordN w' n f p u a
  | 0, _, _, _, _ => rfl
  | f + 1, p, u, a, hp => by
    rw [ordN_s, ordN_s]
    refine sumN_congr (fun s hs => ?_)
    unfold ordT
    rw [h s p hs (by omega), ordN_congr h f (p + 1) _ _ (by omega)]
theorem c_saidN (l : Launch) {S : Shp} {I : MI} {L : ML} {R : MR} (xg : XG S R) {c : Nat} (hc : I (0, 0) 3 = nI c) {x : Int32} (hx0 : inb x c = false) {m : Nat} (hm : I (0, 0) 5 = nI m) (hM : m ≤ 9) (hR : ∀ k, k < m → R (10, 0) k = some (11, k)) (hW : ∀ k, k < m → WG k S R) (y : Int32) : Ct l mX8_said 2 0 0 [.inr (.inr (some (0, 0))), .inl x, .inl y] S I L R (PIp S I L R (-1)) := by
  refine Ct.of [some (.inr (.inr (some (0, 0)))), some (.inl x), some (.inl y), none, none, none, none, none] (by decide) rfl (Nat.le_of_ble_eq_true rfl) ?_
  refine g_ald0 (pc' := 1) dX8_said_0 rfl ?_
  refine g_ild1 (pc' := 2) dX8_said_1 rfl ?_
  refine g_callV (pc' := 5) (c_lawOfN l xg hc hx0) xg.s0 (by decide) wX8_lawOf lX8_124 rfl rfl (Nat.le_of_ble_eq_true rfl) ⟨Nat.le_of_ble_eq_true rfl, Nat.le_of_ble_eq_true rfl⟩ ⟨Nat.le_of_ble_eq_true rfl, Nat.le_of_ble_eq_true rfl⟩ dX8_said_2 rfl (kRp ?_)
  refine g_ast3 (pc' := 6) rfl (by decide) dX8_said_5 rfl ?_
  refine g_ald0 (pc' := 7) dX8_said_6 rfl ?_
  refine g_ild2 (pc' := 8) dX8_said_7 rfl ?_
  cases hq : inb y m with
  | true =>
    obtain ⟨j, hj, rfl⟩ := inb_of (by omega) hq
    refine g_callV (pc' := 11) (c_worldOfS l xg hm hj hM (hR _ hj)) xg.s0 (by decide) wX8_worldOf lX8_147 rfl rfl (Nat.le_of_ble_eq_true rfl) ⟨Nat.le_of_ble_eq_true rfl, Nat.le_of_ble_eq_true rfl⟩ ⟨Nat.le_of_ble_eq_true rfl, Nat.le_of_ble_eq_true rfl⟩ dX8_said_8 rfl (kRp ?_)
    refine g_ast4 (pc' := 13) rfl (by decide) dX8_said_11 rfl ?_
    refine g_ald3 (pc' := 14) dX8_said_13 rfl ?_
    refine g_ifnullT (tgt := 27) dX8_said_14 (by decide) ?_
    refine g_iconst (pc' := 28) (v := (-1)) dX8_said_27 rfl (by decide) ?_
    refine g_iret rfl dX8_said_28 ?_
    exact eIp rfl
  | false =>
    refine g_callV (pc' := 11) (c_worldOfN l xg hm hq) xg.s0 (by decide) wX8_worldOf lX8_147 rfl rfl (Nat.le_of_ble_eq_true rfl) ⟨Nat.le_of_ble_eq_true rfl, Nat.le_of_ble_eq_true rfl⟩ ⟨Nat.le_of_ble_eq_true rfl, Nat.le_of_ble_eq_true rfl⟩ dX8_said_8 rfl (kRp ?_)
    refine g_ast4 (pc' := 13) rfl (by decide) dX8_said_11 rfl ?_
    refine g_ald3 (pc' := 14) dX8_said_13 rfl ?_
    refine g_ifnullT (tgt := 27) dX8_said_14 (by decide) ?_
    refine g_iconst (pc' := 28) (v := (-1)) dX8_said_27 rfl (by decide) ?_
    refine g_iret rfl dX8_said_28 ?_
    exact eIp rfl

theorem c_saidM (l : Launch) {S : Shp} {I : MI} {L : ML} {R : MR} (xg : XG S R) {c lj : Nat} (hc : I (0, 0) 3 = nI c) (hlj : lj < c) (hC : c ≤ 6) (hRl : R (6, 0) lj = some (7, lj)) {len : Nat} {cd : Nat → Nat × Nat} (lg : LG lj len S R) (hv : LV I lj len cd) {m : Nat} {x : Int32} (hm : I (0, 0) 5 = nI m) (hx : inb x m = false) (hx1 : ¬ x = -1) : Ct l mX8_said 2 0 0 [.inr (.inr (some (0, 0))), .inl (nI lj), .inl x] S I L R (PIp S I L R (-1)) := by
  refine Ct.of [some (.inr (.inr (some (0, 0)))), some (.inl (nI lj)), some (.inl x), none, none, none, none, none] (by decide) rfl (Nat.le_of_ble_eq_true rfl) ?_
  refine g_ald0 (pc' := 1) dX8_said_0 rfl ?_
  refine g_ild1 (pc' := 2) dX8_said_1 rfl ?_
  refine g_callV (pc' := 5) (c_lawOfS l xg hc hlj hC hRl) xg.s0 (by decide) wX8_lawOf lX8_124 rfl rfl (Nat.le_of_ble_eq_true rfl) ⟨Nat.le_of_ble_eq_true rfl, Nat.le_of_ble_eq_true rfl⟩ ⟨Nat.le_of_ble_eq_true rfl, Nat.le_of_ble_eq_true rfl⟩ dX8_said_2 rfl (kRp ?_)
  refine g_ast3 (pc' := 6) rfl (by decide) dX8_said_5 rfl ?_
  refine g_ald0 (pc' := 7) dX8_said_6 rfl ?_
  refine g_ild2 (pc' := 8) dX8_said_7 rfl ?_
  refine g_callV (pc' := 11) (c_worldOfN l xg hm hx) xg.s0 (by decide) wX8_worldOf lX8_147 rfl rfl (Nat.le_of_ble_eq_true rfl) ⟨Nat.le_of_ble_eq_true rfl, Nat.le_of_ble_eq_true rfl⟩ ⟨Nat.le_of_ble_eq_true rfl, Nat.le_of_ble_eq_true rfl⟩ dX8_said_8 rfl (kRp ?_)
  refine g_ast4 (pc' := 13) rfl (by decide) dX8_said_11 rfl ?_
  refine g_ald3 (pc' := 14) dX8_said_13 rfl ?_
  refine g_ifnullF (pc' := 17) dX8_said_14 rfl ?_
  refine g_ald4 (pc' := 19) dX8_said_17 rfl ?_
  refine g_ifnonnullF (pc' := 22) dX8_said_19 rfl ?_
  refine g_ild2 (pc' := 23) dX8_said_22 rfl ?_
  refine g_iconst (pc' := 24) (v := (-1)) dX8_said_23 rfl (by decide) ?_
  refine g_icmpeq (pc' := 27) (tgt := 29) dX8_said_24 (by decide) rfl (fun h24 => (by first | exact absurd h24 hx1 | exact absurd hx1 h24)) (fun h24 => ?_)
  refine g_iconst (pc' := 28) (v := (-1)) dX8_said_27 rfl (by decide) ?_
  refine g_iret rfl dX8_said_28 ?_
  exact eIp rfl

theorem c_saidS (l : Launch) {S : Shp} {I : MI} {L : ML} {R : MR} (xg : XG S R) (sg : SG S R) {n : Nat} (hn : I (1, 0) 1 = nI n) (hN : n ≤ 12) {m j : Nat} (hm : I (0, 0) 5 = nI m) (hj : j < m) (hM : m ≤ 9) (hR : R (10, 0) j = some (11, j)) (wg : WG j S R) {c lj : Nat} (hc : I (0, 0) 3 = nI c) (hlj : lj < c) (hC : c ≤ 6) (hRl : R (6, 0) lj = some (7, lj)) {len : Nat} {cd : Nat → Nat × Nat} (lg : LG lj len S R) (hv : LV I lj len cd) : Ct l mX8_said 5 0 0 [.inr (.inr (some (0, 0))), .inl (nI lj), .inl (nI j)] S I L R (PIm S L R (fun v J => v = bI (okN (fun p => wtSd cd len (I (2, 0) (rkO (I (12, j)) n p)) n (rkO (I (12, j)) n p) (nI p)) n) ∧ Fr (trP j lj) I J)) := by
  refine Ct.of [some (.inr (.inr (some (0, 0)))), some (.inl (nI lj)), some (.inl (nI j)), none, none, none, none, none] (by decide) rfl (Nat.le_of_ble_eq_true rfl) ?_
  refine g_ald0 (pc' := 1) dX8_said_0 rfl ?_
  refine g_ild1 (pc' := 2) dX8_said_1 rfl ?_
  refine g_callV (pc' := 5) (c_lawOfS l xg hc hlj hC hRl) xg.s0 (by decide) wX8_lawOf lX8_124 rfl rfl (Nat.le_of_ble_eq_true rfl) ⟨Nat.le_of_ble_eq_true rfl, Nat.le_of_ble_eq_true rfl⟩ ⟨Nat.le_of_ble_eq_true rfl, Nat.le_of_ble_eq_true rfl⟩ dX8_said_2 rfl (kRp ?_)
  refine g_ast3 (pc' := 6) rfl (by decide) dX8_said_5 rfl ?_
  refine g_ald0 (pc' := 7) dX8_said_6 rfl ?_
  refine g_ild2 (pc' := 8) dX8_said_7 rfl ?_
  refine g_callV (pc' := 11) (c_worldOfS l xg hm hj hM hR) xg.s0 (by decide) wX8_worldOf lX8_147 rfl rfl (Nat.le_of_ble_eq_true rfl) ⟨Nat.le_of_ble_eq_true rfl, Nat.le_of_ble_eq_true rfl⟩ ⟨Nat.le_of_ble_eq_true rfl, Nat.le_of_ble_eq_true rfl⟩ dX8_said_8 rfl (kRp ?_)
  refine g_ast4 (pc' := 13) rfl (by decide) dX8_said_11 rfl ?_
  refine g_ald3 (pc' := 14) dX8_said_13 rfl ?_
  refine g_ifnullF (pc' := 17) dX8_said_14 rfl ?_
  refine g_ald4 (pc' := 19) dX8_said_17 rfl ?_
  refine g_ifnonnullT (tgt := 29) dX8_said_19 (by decide) ?_
  refine g_ald4 (pc' := 31) dX8_said_29 rfl ?_
  refine g_ifnullF (pc' := 34) dX8_said_31 rfl ?_
  refine g_ald0 (pc' := 35) dX8_said_34 rfl ?_
  refine g_ald3 (pc' := 36) dX8_said_35 rfl ?_
  refine g_ald4 (pc' := 38) dX8_said_36 rfl ?_
  refine g_callV (pc' := 41) (c_isTrueOf l xg sg hn hN lg hv wg) xg.s0 (by decide) wX8_isTrueOf lX8_271 rfl rfl (Nat.le_of_ble_eq_true rfl) ⟨Nat.le_of_ble_eq_true rfl, Nat.le_of_ble_eq_true rfl⟩ ⟨Nat.le_of_ble_eq_true rfl, Nat.le_of_ble_eq_true rfl⟩ dX8_said_38 rfl (kI (fun v J hq => ?_))
  refine g_topi (v := bI (okN (fun p => wtSd cd len (I (2, 0) (rkO (I (12, j)) n p)) n (rkO (I (12, j)) n p) (nI p)) n)) hq.1 ?_
  refine g_ifeqB (pc' := 44) (tgt := 48) dX8_said_41 (by decide) rfl (fun h41 => ?_) (fun h41 => ?_)
  · refine g_iconst (pc' := 49) (v := nI 0) dX8_said_48 rfl (by decide) ?_
    refine g_iret rfl dX8_said_49 ?_
    exact eI ⟨by first | (rw [h41]; rfl), hq.2⟩
  · refine g_iconst (pc' := 45) (v := nI 1) dX8_said_44 rfl (by decide) ?_
    refine g_goto (tgt := 49) dX8_said_45 (by decide) ?_
    refine g_iret rfl dX8_said_49 ?_
    exact eI ⟨by first | (rw [h41]; rfl), hq.2⟩

theorem c_saidG (l : Launch) {S : Shp} {I : MI} {L : ML} {R : MR} (xg : XG S R) (sg : SG S R) {n : Nat} (hn : I (1, 0) 1 = nI n) (hN : n ≤ 12) {c lj : Nat} (hc : I (0, 0) 3 = nI c) (hlj : lj < c) (hC : c ≤ 6) (hRl : R (6, 0) lj = some (7, lj)) {len : Nat} {cd : Nat → Nat × Nat} (lg : LG lj len S R) (hv : LV I lj len cd) {m : Nat} (hm : I (0, 0) 5 = nI m) (hbig : 6 < n) : Ct l mX8_said 2 0 0 [.inr (.inr (some (0, 0))), .inl (nI lj), .inl (-1)] S I L R (PIp S I L R (-4)) := by
  have hx : inb (-1) m = false := by unfold inb; rw [show decide ((0 : Int32) ≤ -1) = false from by decide]; rfl
  refine Ct.of [some (.inr (.inr (some (0, 0)))), some (.inl (nI lj)), some (.inl (-1)), none, none, none, none, none] (by decide) rfl (Nat.le_of_ble_eq_true rfl) ?_
  refine g_ald0 (pc' := 1) dX8_said_0 rfl ?_
  refine g_ild1 (pc' := 2) dX8_said_1 rfl ?_
  refine g_callV (pc' := 5) (c_lawOfS l xg hc hlj hC hRl) xg.s0 (by decide) wX8_lawOf lX8_124 rfl rfl (Nat.le_of_ble_eq_true rfl) ⟨Nat.le_of_ble_eq_true rfl, Nat.le_of_ble_eq_true rfl⟩ ⟨Nat.le_of_ble_eq_true rfl, Nat.le_of_ble_eq_true rfl⟩ dX8_said_2 rfl (kRp ?_)
  refine g_ast3 (pc' := 6) rfl (by decide) dX8_said_5 rfl ?_
  refine g_ald0 (pc' := 7) dX8_said_6 rfl ?_
  refine g_ild2 (pc' := 8) dX8_said_7 rfl ?_
  refine g_callV (pc' := 11) (c_worldOfN l xg hm hx) xg.s0 (by decide) wX8_worldOf lX8_147 rfl rfl (Nat.le_of_ble_eq_true rfl) ⟨Nat.le_of_ble_eq_true rfl, Nat.le_of_ble_eq_true rfl⟩ ⟨Nat.le_of_ble_eq_true rfl, Nat.le_of_ble_eq_true rfl⟩ dX8_said_8 rfl (kRp ?_)
  refine g_ast4 (pc' := 13) rfl (by decide) dX8_said_11 rfl ?_
  refine g_ald3 (pc' := 14) dX8_said_13 rfl ?_
  refine g_ifnullF (pc' := 17) dX8_said_14 rfl ?_
  refine g_ald4 (pc' := 19) dX8_said_17 rfl ?_
  refine g_ifnonnullF (pc' := 22) dX8_said_19 rfl ?_
  refine g_ild2 (pc' := 23) dX8_said_22 rfl ?_
  refine g_iconst (pc' := 24) (v := (-1)) dX8_said_23 rfl (by decide) ?_
  refine g_icmpeq (pc' := 27) (tgt := 29) dX8_said_24 (by decide) rfl (fun h24 => ?_) (fun h24 => (by first | exact absurd h24 (rfl : (-1 : Int32) = -1) | exact absurd (rfl : (-1 : Int32) = -1) h24))
  refine g_ald4 (pc' := 31) dX8_said_29 rfl ?_
  refine g_ifnullT (tgt := 50) dX8_said_31 (by decide) ?_
  refine g_ald0 (pc' := 51) dX8_said_50 rfl ?_
  refine g_getR (pc' := 54) xg.s0 (by decide) fX8_10 xg.r0_0 dX8_said_51 rfl ?_
  refine g_getI (pc' := 57) sg.s1 (by decide) fX8_88 hn dX8_said_54 rfl ?_
  refine g_ist5 (pc' := 59) rfl (by decide) dX8_said_57 rfl ?_
  refine g_ild5 (pc' := 61) dX8_said_59 rfl ?_
  refine g_bipush (pc' := 63) (v := nI 6) dX8_said_61 rfl (by decide) ?_
  refine g_icmpleN (pc' := 66) (by omega) (by omega) (tgt := 69) dX8_said_63 (by decide) rfl (fun h63 => ?_) (fun h63 => ?_)
  · exact absurd h63 (by omega)
  · refine g_bipush (pc' := 68) (v := (-4)) dX8_said_66 rfl (by decide) ?_
    refine g_iret rfl dX8_said_68 ?_
    exact eIp rfl

theorem c_saidO (l : Launch) {S : Shp} {I : MI} {L : ML} {R : MR} (xg : XG S R) (sg : SG S R) {n : Nat} (hn : I (1, 0) 1 = nI n) (hN : n ≤ 12) {c lj : Nat} (hc : I (0, 0) 3 = nI c) (hlj : lj < c) (hC : c ≤ 6) (hRl : R (6, 0) lj = some (7, lj)) {len : Nat} {cd : Nat → Nat × Nat} (lg : LG lj len S R) (hv : LV I lj len cd) {m : Nat} (hm : I (0, 0) 5 = nI m) (hn6 : n ≤ 6) : Ct l mX8_said 9 0 0 [.inr (.inr (some (0, 0))), .inl (nI lj), .inl (-1)] S I L R (PIm S L R (fun v J => v = ordN (fun s p => wtSd cd len (I (2, 0) s) n s (nI p)) n n 0 (nI 0) (nI 9999) ∧ Fr (sfP lj) I J)) := by
  have hx : inb (-1) m = false := by unfold inb; rw [show decide ((0 : Int32) ≤ -1) = false from by decide]; rfl
  refine Ct.of [some (.inr (.inr (some (0, 0)))), some (.inl (nI lj)), some (.inl (-1)), none, none, none, none, none] (by decide) rfl (Nat.le_of_ble_eq_true rfl) ?_
  refine g_ald0 (pc' := 1) dX8_said_0 rfl ?_
  refine g_ild1 (pc' := 2) dX8_said_1 rfl ?_
  refine g_callV (pc' := 5) (c_lawOfS l xg hc hlj hC hRl) xg.s0 (by decide) wX8_lawOf lX8_124 rfl rfl (Nat.le_of_ble_eq_true rfl) ⟨Nat.le_of_ble_eq_true rfl, Nat.le_of_ble_eq_true rfl⟩ ⟨Nat.le_of_ble_eq_true rfl, Nat.le_of_ble_eq_true rfl⟩ dX8_said_2 rfl (kRp ?_)
  refine g_ast3 (pc' := 6) rfl (by decide) dX8_said_5 rfl ?_
  refine g_ald0 (pc' := 7) dX8_said_6 rfl ?_
  refine g_ild2 (pc' := 8) dX8_said_7 rfl ?_
  refine g_callV (pc' := 11) (c_worldOfN l xg hm hx) xg.s0 (by decide) wX8_worldOf lX8_147 rfl rfl (Nat.le_of_ble_eq_true rfl) ⟨Nat.le_of_ble_eq_true rfl, Nat.le_of_ble_eq_true rfl⟩ ⟨Nat.le_of_ble_eq_true rfl, Nat.le_of_ble_eq_true rfl⟩ dX8_said_8 rfl (kRp ?_)
  refine g_ast4 (pc' := 13) rfl (by decide) dX8_said_11 rfl ?_
  refine g_ald3 (pc' := 14) dX8_said_13 rfl ?_
  refine g_ifnullF (pc' := 17) dX8_said_14 rfl ?_
  refine g_ald4 (pc' := 19) dX8_said_17 rfl ?_
  refine g_ifnonnullF (pc' := 22) dX8_said_19 rfl ?_
  refine g_ild2 (pc' := 23) dX8_said_22 rfl ?_
  refine g_iconst (pc' := 24) (v := (-1)) dX8_said_23 rfl (by decide) ?_
  refine g_icmpeq (pc' := 27) (tgt := 29) dX8_said_24 (by decide) rfl (fun h24 => ?_) (fun h24 => (by first | exact absurd h24 (rfl : (-1 : Int32) = -1) | exact absurd (rfl : (-1 : Int32) = -1) h24))
  refine g_ald4 (pc' := 31) dX8_said_29 rfl ?_
  refine g_ifnullT (tgt := 50) dX8_said_31 (by decide) ?_
  refine g_ald0 (pc' := 51) dX8_said_50 rfl ?_
  refine g_getR (pc' := 54) xg.s0 (by decide) fX8_10 xg.r0_0 dX8_said_51 rfl ?_
  refine g_getI (pc' := 57) sg.s1 (by decide) fX8_88 hn dX8_said_54 rfl ?_
  refine g_ist5 (pc' := 59) rfl (by decide) dX8_said_57 rfl ?_
  refine g_ild5 (pc' := 61) dX8_said_59 rfl ?_
  refine g_bipush (pc' := 63) (v := nI 6) dX8_said_61 rfl (by decide) ?_
  refine g_icmpleN (pc' := 66) (by omega) (by omega) (tgt := 69) dX8_said_63 (by decide) rfl (fun h63 => ?_) (fun h63 => ?_)
  · refine g_iconst (pc' := 70) (v := nI 0) dX8_said_69 rfl (by decide) ?_
    refine g_ist6 (pc' := 72) rfl (by decide) dX8_said_70 rfl ?_
    refine G.lsub [some (.inr (.inr (some (0, 0)))), some (.inl (nI lj)), some (.inl (-1)), some (.inr (.inr (some (7, lj)))), some (.inr (.inr none)), some (.inl (nI n)), some (.inl (nI 0)), none] (by intro j v; rcases j with _ | _ | _ | _ | _ | _ | _ | _ | j <;> simp) ?_
    refine g_loop (σ := MI) (fun i (J : MI) => Fr (sfP lj) I J ∧ ∀ s p, s < i → p < n → J (35, 0) (s * 6 + p) = wtSd cd len (I (2, 0) s) n s (nI p)) (fun i J => [some (.inr (.inr (some (0, 0)))), some (.inl (nI lj)), some (.inl (-1)), some (.inr (.inr (some (7, lj)))), some (.inr (.inr none)), some (.inl (nI n)), some (.inl (nI i)), none]) (fun i J => J) n 0 I (by omega) ⟨Fr.rf, fun s p hs hp => absurd hs (by omega)⟩ ?_ ?_
    · intro i J hi hP ih
      refine g_ild6 (pc' := 74) dX8_said_72 rfl ?_
      refine g_ild5 (pc' := 76) dX8_said_74 rfl ?_
      refine g_icmpgeN (pc' := 79) (by omega) (by omega) (tgt := 123) dX8_said_76 (by decide) rfl (fun h76 => ?_) (fun h76 => ?_)
      · exact absurd h76 (by omega)
      · refine g_iconst (pc' := 80) (v := nI 0) dX8_said_79 rfl (by decide) ?_
        refine g_ist7 (pc' := 82) rfl (by decide) dX8_said_80 rfl ?_
        refine g_loop (σ := MI) (fun k (J : MI) => Fr (sfP lj) I J ∧ ∀ s p, (s < i ∨ s = i ∧ p < k) → p < n → J (35, 0) (s * 6 + p) = wtSd cd len (I (2, 0) s) n s (nI p)) (fun k J => [some (.inr (.inr (some (0, 0)))), some (.inl (nI lj)), some (.inl (-1)), some (.inr (.inr (some (7, lj)))), some (.inr (.inr none)), some (.inl (nI n)), some (.inl (nI i)), some (.inl (nI k))]) (fun k J => J) n 0 J (by omega) ⟨hP.1, fun s p hs hp => hP.2 s p (by omega) hp⟩ ?_ ?_
        · intro k J hk hQ ihk
          have hn2 : J (1, 0) 1 = nI n := (hQ.1 _ _ (by simp [sfP])).trans hn
          refine g_ild7 (pc' := 84) dX8_said_82 rfl ?_
          refine g_ild5 (pc' := 86) dX8_said_84 rfl ?_
          refine g_icmpgeN (pc' := 89) (by omega) (by omega) (tgt := 117) dX8_said_86 (by decide) rfl (fun h86 => ?_) (fun h86 => ?_)
          · exact absurd h86 (by omega)
          · refine g_ald0 (pc' := 90) dX8_said_89 rfl ?_
            refine g_getR (pc' := 93) xg.s0 (by decide) fX8_84 xg.r0_15 dX8_said_90 rfl ?_
            refine g_ild6 (pc' := 95) dX8_said_93 rfl ?_
            refine g_bipush (pc' := 97) (v := nI 6) dX8_said_95 rfl (by decide) ?_
            refine g_imulN (pc' := 98) dX8_said_97 rfl ?_
            refine g_ild7 (pc' := 100) dX8_said_98 rfl ?_
            refine g_iaddN (pc' := 101) dX8_said_100 rfl ?_
            refine g_ald0 (pc' := 102) dX8_said_101 rfl ?_
            refine g_ald3 (pc' := 103) dX8_said_102 rfl ?_
            refine g_ild6 (pc' := 105) dX8_said_103 rfl ?_
            refine g_ild7 (pc' := 107) dX8_said_105 rfl ?_
            refine g_callV (pc' := 110) (c_weightSaid l xg sg hn2 hN lg (hv.to (fun i => hQ.1 _ _ (by simp [sfP]))) hi (nI k)) xg.s0 (by decide) wX8_weightSaid lX8_275 rfl rfl (Nat.le_of_ble_eq_true rfl) ⟨Nat.le_of_ble_eq_true rfl, Nat.le_of_ble_eq_true rfl⟩ ⟨Nat.le_of_ble_eq_true rfl, Nat.le_of_ble_eq_true rfl⟩ dX8_said_107 rfl (kI (fun v J2 hq => ?_))
            obtain ⟨hv0, hfr2⟩ := hq
            refine g_topi (v := wtSd cd len (I (2, 0) i) n i (nI k)) (by rw [hv0, hQ.1 (2, 0) _ (by simp [sfP])]) ?_
            refine g_iast (pc' := 111) (j := i * 6 + k) xg.s35 rfl (by omega) (by decide) dX8_said_110 rfl ?_
            refine g_inc7 (pc' := 114) rfl (by decide) (v := nI (k + 1)) (nI_1 _) dX8_said_111 rfl ?_
            refine g_goto (tgt := 82) dX8_said_114 (by decide) ?_
            refine ihk _ ⟨(hQ.1.tr (hfr2.le (fun t i q => Or.inr q))).up (by simp [sfP]), fun s p hs hp => ?_⟩
            by_cases e : s * 6 + p = i * 6 + k
            · rw [e, upM_s, show s = i by omega, show p = k by omega]
            · rw [upM_k _ _ e, hfr2 _ _ (by simp [sdP])]
              exact hQ.2 s p (by omega) hp
        · intro J hQ
          have hn2 : J (1, 0) 1 = nI n := (hQ.1 _ _ (by simp [sfP])).trans hn
          refine g_ild7 (pc' := 84) dX8_said_82 rfl ?_
          refine g_ild5 (pc' := 86) dX8_said_84 rfl ?_
          refine g_icmpgeN (pc' := 89) (by omega) (by omega) (tgt := 117) dX8_said_86 (by decide) rfl (fun h86 => ?_) (fun h86 => ?_)
          · refine g_inc6 (pc' := 120) rfl (by decide) (v := nI (i + 1)) (nI_1 _) dX8_said_117 rfl ?_
            refine g_goto (tgt := 72) dX8_said_120 (by decide) ?_
            refine G.lsub [some (.inr (.inr (some (0, 0)))), some (.inl (nI lj)), some (.inl (-1)), some (.inr (.inr (some (7, lj)))), some (.inr (.inr none)), some (.inl (nI n)), some (.inl (nI (i + 1))), none] (by intro j v; rcases j with _ | _ | _ | _ | _ | _ | _ | _ | j <;> simp) ?_
            refine ih J ⟨hQ.1, fun s p hs hp => hQ.2 s p ?_ hp⟩
            omega
          · exact absurd h86 (by omega)
    · intro J hP
      refine g_ild6 (pc' := 74) dX8_said_72 rfl ?_
      refine g_ild5 (pc' := 76) dX8_said_74 rfl ?_
      refine g_icmpgeN (pc' := 79) (by omega) (by omega) (tgt := 123) dX8_said_76 (by decide) rfl (fun h76 => ?_) (fun h76 => ?_)
      · refine g_ald0 (pc' := 124) dX8_said_123 rfl ?_
        refine g_getR (pc' := 127) xg.s0 (by decide) fX8_84 xg.r0_15 dX8_said_124 rfl ?_
        refine g_ild5 (pc' := 129) dX8_said_127 rfl ?_
        refine g_iconst (pc' := 130) (v := nI 0) dX8_said_129 rfl (by decide) ?_
        refine g_iconst (pc' := 131) (v := nI 0) dX8_said_130 rfl (by decide) ?_
        refine g_sipush (pc' := 134) (v := nI 9999) dX8_said_131 rfl (by decide) ?_
        refine g_callS (pc' := 137) (c_orders l (w := (fun s p => wtSd cd len (I (2, 0) s) n s (nI p))) (by omega) xg.s35 (fun s p hs hp => hP.2 s p hs hp) n 0 (nI 0) (nI 9999) (by omega)) wX8_ordersFrom lX8_279 rfl rfl (Nat.le_of_ble_eq_true rfl) ⟨by simp [rmd]; omega, by simp [rmd, mX8_ordersFrom]; omega⟩ ⟨by simp [rmd], by simp [rmd]⟩ dX8_said_134 rfl (kIp ?_)
        refine g_iret rfl dX8_said_137 ?_
        exact eI ⟨rfl, hP.1⟩
      · exact absurd h76 (by omega)
  · exact absurd h63 (by omega)
