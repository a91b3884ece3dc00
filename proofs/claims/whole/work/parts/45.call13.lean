/-! EightWorlds: strong -/
def aiP (lj : Nat) (t : Tok) (i : Nat) : Prop := begP 9 t i ∨ begP 10 t i ∨ mcP 9 lj t i ∨ mcP 10 lj t i
theorem aiT.fr {I J : MI} {cd : Nat → Nat × Nat} {len n a lj : Nat} {z v : Int32} (h : aiT I cd len n a lj z v J) : Fr (aiP lj) I J := by
  obtain ⟨J3, h1, h2, -⟩ := h
  exact (((beg_fr.le (fun t i q => Or.inl q)).tr (beg_fr.le (fun t i q => Or.inr (Or.inl q)))).tr ((many_fr h1).le (fun t i q => Or.inr (Or.inr (Or.inl q))))).tr ((many_fr h2).le (fun t i q => Or.inr (Or.inr (Or.inr q))))
theorem wr12 {S : Shp} {t : Tok} (h : S t = (12, 0)) : ∀ u, some t = some u → wr (S u) := fun u e => by
  cases e
  exact wrN h ⟨by simp, by simp⟩
theorem c_strongNN (l : Launch) {S : Shp} {I : MI} {L : ML} {R : MR} (xg : XG S R) {c : Nat} (hc : I (0, 0) 3 = nI c) (hC : c ≤ 6) (hRl : ∀ k, k < c → R (6, 0) k = some (7, k)) {x : Int32} (h1 : inb (x / nI 10) c = false) (h2 : inb (x - x / nI 10 * nI 10) c = false) (y z : Int32) : Ct l mX8_strong 2 0 0 [.inr (.inr (some (0, 0))), .inl x, .inl y, .inl z] S I L R (PIp S I L R (-2000000000)) := by
  refine Ct.of [some (.inr (.inr (some (0, 0)))), some (.inl x), some (.inl y), some (.inl z), none, none] (by decide) rfl (Nat.le_of_ble_eq_true rfl) ?_
  refine g_ald0 (pc' := 1) dX8_strong_0 rfl ?_
  refine g_ild1 (pc' := 2) dX8_strong_1 rfl ?_
  refine g_bipush (pc' := 4) (v := nI 10) dX8_strong_2 rfl (by decide) ?_
  refine g_idiv (pc' := 5) dX8_strong_4 rfl (by decide) ?_
  refine g_callV (pc' := 8) (c_lawOfN l xg hc h1) xg.s0 (by decide) wX8_lawOf lX8_124 rfl rfl (Nat.le_of_ble_eq_true rfl) ⟨Nat.le_of_ble_eq_true rfl, Nat.le_of_ble_eq_true rfl⟩ ⟨Nat.le_of_ble_eq_true rfl, Nat.le_of_ble_eq_true rfl⟩ dX8_strong_5 rfl (kRp ?_)
  refine g_ast4 (pc' := 10) rfl (by decide) dX8_strong_8 rfl ?_
  refine g_ald0 (pc' := 11) dX8_strong_10 rfl ?_
  refine g_ild1 (pc' := 12) dX8_strong_11 rfl ?_
  refine g_bipush (pc' := 14) (v := nI 10) dX8_strong_12 rfl (by decide) ?_
  refine g_irem (pc' := 15) dX8_strong_14 rfl (by decide) ?_
  refine g_callV (pc' := 18) (c_lawOfN l xg hc h2) xg.s0 (by decide) wX8_lawOf lX8_124 rfl rfl (Nat.le_of_ble_eq_true rfl) ⟨Nat.le_of_ble_eq_true rfl, Nat.le_of_ble_eq_true rfl⟩ ⟨Nat.le_of_ble_eq_true rfl, Nat.le_of_ble_eq_true rfl⟩ dX8_strong_15 rfl (kRp ?_)
  refine g_ast5 (pc' := 20) rfl (by decide) dX8_strong_18 rfl ?_
  refine g_ald4 (pc' := 22) dX8_strong_20 rfl ?_
  refine g_ifnullT (tgt := 49) dX8_strong_22 (by decide) ?_
  refine g_ldcw (pc' := 52) dX8_strong_49 rfl kX8_262 ?_
  refine g_iret rfl dX8_strong_52 ?_
  exact eIp rfl

theorem c_strongNS (l : Launch) {S : Shp} {I : MI} {L : ML} {R : MR} (xg : XG S R) {c : Nat} (hc : I (0, 0) 3 = nI c) (hC : c ≤ 6) (hRl : ∀ k, k < c → R (6, 0) k = some (7, k)) {x : Int32} (h1 : inb (x / nI 10) c = false) {j2 : Nat} (e2 : x - x / nI 10 * nI 10 = nI j2) (h2 : j2 < c) (y z : Int32) : Ct l mX8_strong 2 0 0 [.inr (.inr (some (0, 0))), .inl x, .inl y, .inl z] S I L R (PIp S I L R (-2000000000)) := by
  refine Ct.of [some (.inr (.inr (some (0, 0)))), some (.inl x), some (.inl y), some (.inl z), none, none] (by decide) rfl (Nat.le_of_ble_eq_true rfl) ?_
  refine g_ald0 (pc' := 1) dX8_strong_0 rfl ?_
  refine g_ild1 (pc' := 2) dX8_strong_1 rfl ?_
  refine g_bipush (pc' := 4) (v := nI 10) dX8_strong_2 rfl (by decide) ?_
  refine g_idiv (pc' := 5) dX8_strong_4 rfl (by decide) ?_
  refine g_callV (pc' := 8) (c_lawOfN l xg hc h1) xg.s0 (by decide) wX8_lawOf lX8_124 rfl rfl (Nat.le_of_ble_eq_true rfl) ⟨Nat.le_of_ble_eq_true rfl, Nat.le_of_ble_eq_true rfl⟩ ⟨Nat.le_of_ble_eq_true rfl, Nat.le_of_ble_eq_true rfl⟩ dX8_strong_5 rfl (kRp ?_)
  refine g_ast4 (pc' := 10) rfl (by decide) dX8_strong_8 rfl ?_
  refine g_ald0 (pc' := 11) dX8_strong_10 rfl ?_
  refine g_ild1 (pc' := 12) dX8_strong_11 rfl ?_
  refine g_bipush (pc' := 14) (v := nI 10) dX8_strong_12 rfl (by decide) ?_
  refine g_irem (pc' := 15) dX8_strong_14 rfl (by decide) ?_
  refine g_topi (v := nI j2) (e2) ?_
  refine g_callV (pc' := 18) (c_lawOfS l xg hc h2 hC (hRl _ h2)) xg.s0 (by decide) wX8_lawOf lX8_124 rfl rfl (Nat.le_of_ble_eq_true rfl) ⟨Nat.le_of_ble_eq_true rfl, Nat.le_of_ble_eq_true rfl⟩ ⟨Nat.le_of_ble_eq_true rfl, Nat.le_of_ble_eq_true rfl⟩ dX8_strong_15 rfl (kRp ?_)
  refine g_ast5 (pc' := 20) rfl (by decide) dX8_strong_18 rfl ?_
  refine g_ald4 (pc' := 22) dX8_strong_20 rfl ?_
  refine g_ifnullT (tgt := 49) dX8_strong_22 (by decide) ?_
  refine g_ldcw (pc' := 52) dX8_strong_49 rfl kX8_262 ?_
  refine g_iret rfl dX8_strong_52 ?_
  exact eIp rfl

theorem c_strongSN (l : Launch) {S : Shp} {I : MI} {L : ML} {R : MR} (xg : XG S R) {c : Nat} (hc : I (0, 0) 3 = nI c) (hC : c ≤ 6) (hRl : ∀ k, k < c → R (6, 0) k = some (7, k)) {x : Int32} {j1 : Nat} (e1 : x / nI 10 = nI j1) (h1 : j1 < c) (h2 : inb (x - x / nI 10 * nI 10) c = false) (y z : Int32) : Ct l mX8_strong 2 0 0 [.inr (.inr (some (0, 0))), .inl x, .inl y, .inl z] S I L R (PIp S I L R (-2000000000)) := by
  refine Ct.of [some (.inr (.inr (some (0, 0)))), some (.inl x), some (.inl y), some (.inl z), none, none] (by decide) rfl (Nat.le_of_ble_eq_true rfl) ?_
  refine g_ald0 (pc' := 1) dX8_strong_0 rfl ?_
  refine g_ild1 (pc' := 2) dX8_strong_1 rfl ?_
  refine g_bipush (pc' := 4) (v := nI 10) dX8_strong_2 rfl (by decide) ?_
  refine g_idiv (pc' := 5) dX8_strong_4 rfl (by decide) ?_
  refine g_topi (v := nI j1) (e1) ?_
  refine g_callV (pc' := 8) (c_lawOfS l xg hc h1 hC (hRl _ h1)) xg.s0 (by decide) wX8_lawOf lX8_124 rfl rfl (Nat.le_of_ble_eq_true rfl) ⟨Nat.le_of_ble_eq_true rfl, Nat.le_of_ble_eq_true rfl⟩ ⟨Nat.le_of_ble_eq_true rfl, Nat.le_of_ble_eq_true rfl⟩ dX8_strong_5 rfl (kRp ?_)
  refine g_ast4 (pc' := 10) rfl (by decide) dX8_strong_8 rfl ?_
  refine g_ald0 (pc' := 11) dX8_strong_10 rfl ?_
  refine g_ild1 (pc' := 12) dX8_strong_11 rfl ?_
  refine g_bipush (pc' := 14) (v := nI 10) dX8_strong_12 rfl (by decide) ?_
  refine g_irem (pc' := 15) dX8_strong_14 rfl (by decide) ?_
  refine g_callV (pc' := 18) (c_lawOfN l xg hc h2) xg.s0 (by decide) wX8_lawOf lX8_124 rfl rfl (Nat.le_of_ble_eq_true rfl) ⟨Nat.le_of_ble_eq_true rfl, Nat.le_of_ble_eq_true rfl⟩ ⟨Nat.le_of_ble_eq_true rfl, Nat.le_of_ble_eq_true rfl⟩ dX8_strong_15 rfl (kRp ?_)
  refine g_ast5 (pc' := 20) rfl (by decide) dX8_strong_18 rfl ?_
  refine g_ald4 (pc' := 22) dX8_strong_20 rfl ?_
  refine g_ifnullF (pc' := 25) dX8_strong_22 rfl ?_
  refine g_ald5 (pc' := 27) dX8_strong_25 rfl ?_
  refine g_ifnullT (tgt := 49) dX8_strong_27 (by decide) ?_
  refine g_ldcw (pc' := 52) dX8_strong_49 rfl kX8_262 ?_
  refine g_iret rfl dX8_strong_52 ?_
  exact eIp rfl

theorem c_strongE (l : Launch) {S : Shp} {I : MI} {L : ML} {R : MR} (xg : XG S R) {c : Nat} (hc : I (0, 0) 3 = nI c) (hC : c ≤ 6) (hRl : ∀ k, k < c → R (6, 0) k = some (7, k)) {x : Int32} {j1 : Nat} (e1 : x / nI 10 = nI j1) (h1 : j1 < c) {j2 : Nat} (e2 : x - x / nI 10 * nI 10 = nI j2) (h2 : j2 < c) {len1 len2 : Nat} (lg1 : LG j1 len1 S R) (lg2 : LG j2 len2 S R) (he : j1 = j2) (y z : Int32) : Ct l mX8_strong 2 0 0 [.inr (.inr (some (0, 0))), .inl x, .inl y, .inl z] S I L R (PIp S I L R (-2000000000)) := by
  refine Ct.of [some (.inr (.inr (some (0, 0)))), some (.inl x), some (.inl y), some (.inl z), none, none] (by decide) rfl (Nat.le_of_ble_eq_true rfl) ?_
  refine g_ald0 (pc' := 1) dX8_strong_0 rfl ?_
  refine g_ild1 (pc' := 2) dX8_strong_1 rfl ?_
  refine g_bipush (pc' := 4) (v := nI 10) dX8_strong_2 rfl (by decide) ?_
  refine g_idiv (pc' := 5) dX8_strong_4 rfl (by decide) ?_
  refine g_topi (v := nI j1) (e1) ?_
  refine g_callV (pc' := 8) (c_lawOfS l xg hc h1 hC (hRl _ h1)) xg.s0 (by decide) wX8_lawOf lX8_124 rfl rfl (Nat.le_of_ble_eq_true rfl) ⟨Nat.le_of_ble_eq_true rfl, Nat.le_of_ble_eq_true rfl⟩ ⟨Nat.le_of_ble_eq_true rfl, Nat.le_of_ble_eq_true rfl⟩ dX8_strong_5 rfl (kRp ?_)
  refine g_ast4 (pc' := 10) rfl (by decide) dX8_strong_8 rfl ?_
  refine g_ald0 (pc' := 11) dX8_strong_10 rfl ?_
  refine g_ild1 (pc' := 12) dX8_strong_11 rfl ?_
  refine g_bipush (pc' := 14) (v := nI 10) dX8_strong_12 rfl (by decide) ?_
  refine g_irem (pc' := 15) dX8_strong_14 rfl (by decide) ?_
  refine g_topi (v := nI j2) (e2) ?_
  refine g_callV (pc' := 18) (c_lawOfS l xg hc h2 hC (hRl _ h2)) xg.s0 (by decide) wX8_lawOf lX8_124 rfl rfl (Nat.le_of_ble_eq_true rfl) ⟨Nat.le_of_ble_eq_true rfl, Nat.le_of_ble_eq_true rfl⟩ ⟨Nat.le_of_ble_eq_true rfl, Nat.le_of_ble_eq_true rfl⟩ dX8_strong_15 rfl (kRp ?_)
  refine g_ast5 (pc' := 20) rfl (by decide) dX8_strong_18 rfl ?_
  refine g_ald4 (pc' := 22) dX8_strong_20 rfl ?_
  refine g_ifnullF (pc' := 25) dX8_strong_22 rfl ?_
  refine g_ald5 (pc' := 27) dX8_strong_25 rfl ?_
  refine g_ifnullF (pc' := 30) dX8_strong_27 rfl ?_
  refine g_ald4 (pc' := 32) dX8_strong_30 rfl ?_
  refine g_ald5 (pc' := 34) dX8_strong_32 rfl ?_
  refine g_acmpeq (pc' := 37) (wr12 lg1.s7) (wr12 lg2.s7) (tgt := 49) dX8_strong_34 (by decide) rfl (fun h34 => ?_) (fun h34 => ?_)
  · refine g_ldcw (pc' := 52) dX8_strong_49 rfl kX8_262 ?_
    refine g_iret rfl dX8_strong_52 ?_
    exact eIp rfl
  · exact absurd (by rw [he]) h34

theorem c_strongB (l : Launch) {S : Shp} {I : MI} {L : ML} {R : MR} (xg : XG S R) {c : Nat} (hc : I (0, 0) 3 = nI c) (hC : c ≤ 6) (hRl : ∀ k, k < c → R (6, 0) k = some (7, k)) {x : Int32} {j1 : Nat} (e1 : x / nI 10 = nI j1) (h1 : j1 < c) {j2 : Nat} (e2 : x - x / nI 10 * nI 10 = nI j2) (h2 : j2 < c) {len1 len2 : Nat} (lg1 : LG j1 len1 S R) (lg2 : LG j2 len2 S R) {y : Int32} (hb : y < nI 1 ∨ nI 400 < y) (z : Int32) : Ct l mX8_strong 2 0 0 [.inr (.inr (some (0, 0))), .inl x, .inl y, .inl z] S I L R (PIp S I L R (-2000000000)) := by
  refine Ct.of [some (.inr (.inr (some (0, 0)))), some (.inl x), some (.inl y), some (.inl z), none, none] (by decide) rfl (Nat.le_of_ble_eq_true rfl) ?_
  refine g_ald0 (pc' := 1) dX8_strong_0 rfl ?_
  refine g_ild1 (pc' := 2) dX8_strong_1 rfl ?_
  refine g_bipush (pc' := 4) (v := nI 10) dX8_strong_2 rfl (by decide) ?_
  refine g_idiv (pc' := 5) dX8_strong_4 rfl (by decide) ?_
  refine g_topi (v := nI j1) (e1) ?_
  refine g_callV (pc' := 8) (c_lawOfS l xg hc h1 hC (hRl _ h1)) xg.s0 (by decide) wX8_lawOf lX8_124 rfl rfl (Nat.le_of_ble_eq_true rfl) ⟨Nat.le_of_ble_eq_true rfl, Nat.le_of_ble_eq_true rfl⟩ ⟨Nat.le_of_ble_eq_true rfl, Nat.le_of_ble_eq_true rfl⟩ dX8_strong_5 rfl (kRp ?_)
  refine g_ast4 (pc' := 10) rfl (by decide) dX8_strong_8 rfl ?_
  refine g_ald0 (pc' := 11) dX8_strong_10 rfl ?_
  refine g_ild1 (pc' := 12) dX8_strong_11 rfl ?_
  refine g_bipush (pc' := 14) (v := nI 10) dX8_strong_12 rfl (by decide) ?_
  refine g_irem (pc' := 15) dX8_strong_14 rfl (by decide) ?_
  refine g_topi (v := nI j2) (e2) ?_
  refine g_callV (pc' := 18) (c_lawOfS l xg hc h2 hC (hRl _ h2)) xg.s0 (by decide) wX8_lawOf lX8_124 rfl rfl (Nat.le_of_ble_eq_true rfl) ⟨Nat.le_of_ble_eq_true rfl, Nat.le_of_ble_eq_true rfl⟩ ⟨Nat.le_of_ble_eq_true rfl, Nat.le_of_ble_eq_true rfl⟩ dX8_strong_15 rfl (kRp ?_)
  refine g_ast5 (pc' := 20) rfl (by decide) dX8_strong_18 rfl ?_
  refine g_ald4 (pc' := 22) dX8_strong_20 rfl ?_
  refine g_ifnullF (pc' := 25) dX8_strong_22 rfl ?_
  refine g_ald5 (pc' := 27) dX8_strong_25 rfl ?_
  refine g_ifnullF (pc' := 30) dX8_strong_27 rfl ?_
  refine g_ald4 (pc' := 32) dX8_strong_30 rfl ?_
  refine g_ald5 (pc' := 34) dX8_strong_32 rfl ?_
  refine g_acmpeq (pc' := 37) (wr12 lg1.s7) (wr12 lg2.s7) (tgt := 49) dX8_strong_34 (by decide) rfl (fun h34 => ?_) (fun h34 => ?_)
  · refine g_ldcw (pc' := 52) dX8_strong_49 rfl kX8_262 ?_
    refine g_iret rfl dX8_strong_52 ?_
    exact eIp rfl
  · refine g_ild2 (pc' := 38) dX8_strong_37 rfl ?_
    refine g_iconst (pc' := 39) (v := nI 1) dX8_strong_38 rfl (by decide) ?_
    refine g_icmplt (pc' := 42) (tgt := 49) dX8_strong_39 (by decide) rfl (fun h39 => ?_) (fun h39 => ?_)
    · refine g_ldcw (pc' := 52) dX8_strong_49 rfl kX8_262 ?_
      refine g_iret rfl dX8_strong_52 ?_
      exact eIp rfl
    · refine g_ild2 (pc' := 43) dX8_strong_42 rfl ?_
      refine g_sipush (pc' := 46) (v := nI 400) dX8_strong_43 rfl (by decide) ?_
      refine g_icmple (pc' := 49) (tgt := 53) dX8_strong_46 (by decide) rfl (fun h46 => ?_) (fun h46 => ?_)
      · exfalso
        rcases hb with h | h
        · exact h39 h
        · exact absurd h46 (Int32.not_le.mpr h)
      · refine g_ldcw (pc' := 52) dX8_strong_49 rfl kX8_262 ?_
        refine g_iret rfl dX8_strong_52 ?_
        exact eIp rfl

theorem c_strongS (l : Launch) {S : Shp} {I : MI} {L : ML} {R : MR} (xg : XG S R) (sg : SG S R) {n : Nat} (hn : I (1, 0) 1 = nI n) (hN : n ≤ 12) (wg9 : WG 9 S R) (wg10 : WG 10 S R) {c : Nat} (hc : I (0, 0) 3 = nI c) (hC : c ≤ 6) (hRl : ∀ k, k < c → R (6, 0) k = some (7, k)) {x : Int32} {j1 : Nat} (e1 : x / nI 10 = nI j1) (h1 : j1 < c) {j2 : Nat} (e2 : x - x / nI 10 * nI 10 = nI j2) (h2 : j2 < c) {len1 len2 : Nat} {cd1 cd2 : Nat → Nat × Nat} (lg1 : LG j1 len1 S R) (lg2 : LG j2 len2 S R) (hv1 : LV I j1 len1 cd1) (hv2 : LV I j2 len2 cd2) (hne : ¬ j1 = j2) {a : Nat} (ha1 : 1 ≤ a) (ha : a ≤ 400) (z : Int32) : Ct l mX8_strong 8 0 0 [.inr (.inr (some (0, 0))), .inl x, .inl (nI a), .inl z] S I L R (fun r S' J L' R' => ∃ v, r = some (.inl v) ∧ S' = S ∧ L' = L ∧ R' = R2 (R2 R j1) j2 ∧ ∃ v1 v2 J1, aiT I cd1 len1 n a j1 z v1 J1 ∧ aiT J1 cd2 len2 n a j2 z v2 J ∧ v = v1 - v2) := by
  refine Ct.of [some (.inr (.inr (some (0, 0)))), some (.inl x), some (.inl (nI a)), some (.inl z), none, none] (by decide) rfl (Nat.le_of_ble_eq_true rfl) ?_
  refine g_ald0 (pc' := 1) dX8_strong_0 rfl ?_
  refine g_ild1 (pc' := 2) dX8_strong_1 rfl ?_
  refine g_bipush (pc' := 4) (v := nI 10) dX8_strong_2 rfl (by decide) ?_
  refine g_idiv (pc' := 5) dX8_strong_4 rfl (by decide) ?_
  refine g_topi (v := nI j1) (e1) ?_
  refine g_callV (pc' := 8) (c_lawOfS l xg hc h1 hC (hRl _ h1)) xg.s0 (by decide) wX8_lawOf lX8_124 rfl rfl (Nat.le_of_ble_eq_true rfl) ⟨Nat.le_of_ble_eq_true rfl, Nat.le_of_ble_eq_true rfl⟩ ⟨Nat.le_of_ble_eq_true rfl, Nat.le_of_ble_eq_true rfl⟩ dX8_strong_5 rfl (kRp ?_)
  refine g_ast4 (pc' := 10) rfl (by decide) dX8_strong_8 rfl ?_
  refine g_ald0 (pc' := 11) dX8_strong_10 rfl ?_
  refine g_ild1 (pc' := 12) dX8_strong_11 rfl ?_
  refine g_bipush (pc' := 14) (v := nI 10) dX8_strong_12 rfl (by decide) ?_
  refine g_irem (pc' := 15) dX8_strong_14 rfl (by decide) ?_
  refine g_topi (v := nI j2) (e2) ?_
  refine g_callV (pc' := 18) (c_lawOfS l xg hc h2 hC (hRl _ h2)) xg.s0 (by decide) wX8_lawOf lX8_124 rfl rfl (Nat.le_of_ble_eq_true rfl) ⟨Nat.le_of_ble_eq_true rfl, Nat.le_of_ble_eq_true rfl⟩ ⟨Nat.le_of_ble_eq_true rfl, Nat.le_of_ble_eq_true rfl⟩ dX8_strong_15 rfl (kRp ?_)
  refine g_ast5 (pc' := 20) rfl (by decide) dX8_strong_18 rfl ?_
  refine g_ald4 (pc' := 22) dX8_strong_20 rfl ?_
  refine g_ifnullF (pc' := 25) dX8_strong_22 rfl ?_
  refine g_ald5 (pc' := 27) dX8_strong_25 rfl ?_
  refine g_ifnullF (pc' := 30) dX8_strong_27 rfl ?_
  refine g_ald4 (pc' := 32) dX8_strong_30 rfl ?_
  refine g_ald5 (pc' := 34) dX8_strong_32 rfl ?_
  refine g_acmpeq (pc' := 37) (wr12 lg1.s7) (wr12 lg2.s7) (tgt := 49) dX8_strong_34 (by decide) rfl (fun h34 => ?_) (fun h34 => ?_)
  · exact absurd (by injection h34 with e; injection e) hne
  · refine g_ild2 (pc' := 38) dX8_strong_37 rfl ?_
    refine g_iconst (pc' := 39) (v := nI 1) dX8_strong_38 rfl (by decide) ?_
    refine g_icmpltN (pc' := 42) (by omega) (by omega) (tgt := 49) dX8_strong_39 (by decide) rfl (fun h39 => ?_) (fun h39 => ?_)
    · exact absurd h39 (by omega)
    · refine g_ild2 (pc' := 43) dX8_strong_42 rfl ?_
      refine g_sipush (pc' := 46) (v := nI 400) dX8_strong_43 rfl (by decide) ?_
      refine g_icmpleN (pc' := 49) (by omega) (by omega) (tgt := 53) dX8_strong_46 (by decide) rfl (fun h46 => ?_) (fun h46 => ?_)
      · refine g_ald0 (pc' := 54) dX8_strong_53 rfl ?_
        refine g_ald4 (pc' := 56) dX8_strong_54 rfl ?_
        refine g_ild2 (pc' := 57) dX8_strong_56 rfl ?_
        refine g_ild3 (pc' := 58) dX8_strong_57 rfl ?_
        refine g_callV (pc' := 61) (c_ait l xg sg hn hN wg9 wg10 lg1 hv1 ha z) xg.s0 (by decide) wX8_apartInThought lX8_294 rfl rfl (Nat.le_of_ble_eq_true rfl) ⟨Nat.le_of_ble_eq_true rfl, Nat.le_of_ble_eq_true rfl⟩ ⟨Nat.le_of_ble_eq_true rfl, Nat.le_of_ble_eq_true rfl⟩ dX8_strong_58 rfl ?_
        rintro r S' J L' R' ⟨v1, rfl, rfl, rfl, rfl, hq1⟩ _
        have hfr1 := hq1.fr
        have hnJ : J (1, 0) 1 = nI n := (hfr1 _ _ (by simp [aiP, begP, mcP, wldP, scW])).trans hn
        have hv2J : LV J j2 len2 cd2 := hv2.to (fun i => hfr1 _ _ (by simp [aiP, begP, mcP, wldP, scW]))
        refine g_ald0 (pc' := 62) dX8_strong_61 rfl ?_
        refine g_ald5 (pc' := 64) dX8_strong_62 rfl ?_
        refine g_ild2 (pc' := 65) dX8_strong_64 rfl ?_
        refine g_ild3 (pc' := 66) dX8_strong_65 rfl ?_
        refine g_callV (pc' := 69) (c_ait l (I := J) (R := R2 R j1) xg.upRg.upRg sg.upRg.upRg hnJ hN wg9.upRg.upRg wg10.upRg.upRg lg2.upRg.upRg hv2J ha z) xg.s0 (by decide) wX8_apartInThought lX8_294 rfl rfl (Nat.le_of_ble_eq_true rfl) ⟨Nat.le_of_ble_eq_true rfl, Nat.le_of_ble_eq_true rfl⟩ ⟨Nat.le_of_ble_eq_true rfl, Nat.le_of_ble_eq_true rfl⟩ dX8_strong_66 rfl ?_
        rintro r S'' J' L'' R'' ⟨v2, rfl, rfl, rfl, rfl, hq2⟩ _
        refine g_isub dX8_strong_69 rfl ?_
        refine g_iret rfl dX8_strong_70 ?_
        exact ⟨_, rfl, rfl, rfl, rfl, v1, v2, J, hq1, hq2, rfl⟩
      · exact absurd h46 (by omega)
