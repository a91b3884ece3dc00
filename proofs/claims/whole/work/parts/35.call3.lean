/-! EightWorlds: unlike, luck, right, guesses -/
theorem wr17 {S : Shp} {t : Tok} (h : S t = (17, 0)) : ∀ u, some t = some u → wr (S u) := fun u e => by
  cases e
  exact wrN h ⟨by simp, by simp⟩
def prI (g : Nat → Nat → Int32) (n : Nat) : Nat → Int32 := sumN (fun a => sumN (fun i => g a (a + 1 + i)) (n - a - 1))
def sN (f : Nat → Nat) : Nat → Nat
  | 0 => 0
  | n + 1 => sN f n + f n
def prN (g : Nat → Nat → Nat) (n : Nat) : Nat → Nat := sN (fun a => sN (fun i => g a (a + 1 + i)) (n - a - 1))
theorem sN_le {f : Nat → Nat} {c : Nat} (h : ∀ i, f i ≤ c) : ∀ n, sN f n ≤ c * n
  | 0 => Nat.le_refl _
  | n + 1 => by
    have := sN_le h n
    have := h n
    simp only [sN, Nat.mul_succ]
    omega
theorem prN_le {g : Nat → Nat → Nat} {n c : Nat} (h : ∀ a b, g a b ≤ c) (hn : n ≤ 12) (a : Nat) : prN g n a ≤ c * 12 * a := by
  apply sN_le
  intro a
  have h1 := sN_le (f := fun i => g a (a + 1 + i)) (fun i => h a _) (n - a - 1)
  exact Nat.le_trans h1 (Nat.mul_le_mul_left _ (by omega))

def apI (I : MI) (n j k : Nat) : Int32 := sumN (fun s => absI (shareI (I (12, j)) n s - shareI (I (12, k)) n s)) n / nI 2
theorem c_apart (l : Launch) {S : Shp} {I : MI} {L : ML} {R : MR} (xg : XG S R) (sg : SG S R) {n : Nat} (hn : I (1, 0) 1 = nI n) (hN : n ≤ 12) {j k : Nat} (wg : WG j S R) (wgk : WG k S R) : Ct l mX8_apart 3 0 0 [.inr (.inr (some (0, 0))), .inr (.inr (some (11, j))), .inr (.inr (some (11, k)))] S I L R (PIp S I L R (apI I n j k)) := by
  refine Ct.of [some (.inr (.inr (some (0, 0)))), some (.inr (.inr (some (11, j)))), some (.inr (.inr (some (11, k)))), none, none] (by decide) rfl (Nat.le_of_ble_eq_true rfl) ?_
  refine g_iconst (pc' := 1) (v := nI 0) dX8_apart_0 rfl (by decide) ?_
  refine g_ist3 (pc' := 2) rfl (by decide) dX8_apart_1 rfl ?_
  refine g_iconst (pc' := 3) (v := nI 0) dX8_apart_2 rfl (by decide) ?_
  refine g_ist4 (pc' := 5) rfl (by decide) dX8_apart_3 rfl ?_
  refine g_loop (σ := Unit) (fun _ _ => True) (fun i s => [some (.inr (.inr (some (0, 0)))), some (.inr (.inr (some (11, j)))), some (.inr (.inr (some (11, k)))), some (.inl (sumN (fun s => absI (shareI (I (12, j)) n s - shareI (I (12, k)) n s)) i)), some (.inl (nI i))]) (fun i s => I) (n) (0) (()) (by omega) (trivial) ?_ ?_
  · intro i s hi hP ih
    refine g_ild4 (pc' := 7) dX8_apart_5 rfl ?_
    refine g_ald0 (pc' := 8) dX8_apart_7 rfl ?_
    refine g_getR (pc' := 11) xg.s0 (by decide) fX8_10 xg.r0_0 dX8_apart_8 rfl ?_
    refine g_getI (pc' := 14) sg.s1 (by decide) fX8_88 hn dX8_apart_11 rfl ?_
    refine g_icmpgeN (pc' := 17) (by omega) (by omega) (tgt := 42) dX8_apart_14 (by decide) rfl (fun h14 => ?_) (fun h14 => ?_)
    · exact absurd h14 (by omega)
    · refine g_ild3 (pc' := 18) dX8_apart_17 rfl ?_
      refine g_ald1 (pc' := 19) dX8_apart_18 rfl ?_
      refine g_ild4 (pc' := 21) dX8_apart_19 rfl ?_
      refine g_callV (pc' := 24) (c_share l sg wg hn hN hi) wg.s11 (by decide) wX7_share lX8_177 rfl rfl (Nat.le_of_ble_eq_true rfl) ⟨Nat.le_of_ble_eq_true rfl, Nat.le_of_ble_eq_true rfl⟩ ⟨Nat.le_of_ble_eq_true rfl, Nat.le_of_ble_eq_true rfl⟩ dX8_apart_21 rfl (kIp ?_)
      refine g_ald2 (pc' := 25) dX8_apart_24 rfl ?_
      refine g_ild4 (pc' := 27) dX8_apart_25 rfl ?_
      refine g_callV (pc' := 30) (c_share l sg wgk hn hN hi) wgk.s11 (by decide) wX7_share lX8_177 rfl rfl (Nat.le_of_ble_eq_true rfl) ⟨Nat.le_of_ble_eq_true rfl, Nat.le_of_ble_eq_true rfl⟩ ⟨Nat.le_of_ble_eq_true rfl, Nat.le_of_ble_eq_true rfl⟩ dX8_apart_27 rfl (kIp ?_)
      refine g_isub (pc' := 31) dX8_apart_30 rfl ?_
      refine g_callS (pc' := 34) (c_J9_abs l S _ L R _) wJ9_abs_0f7a4 lX8_211 rfl rfl (Nat.le_of_ble_eq_true rfl) ⟨Nat.le_of_ble_eq_true rfl, Nat.le_of_ble_eq_true rfl⟩ ⟨Nat.le_of_ble_eq_true rfl, Nat.le_of_ble_eq_true rfl⟩ dX8_apart_31 rfl (kIp ?_)
      refine g_iadd (pc' := 35) dX8_apart_34 rfl ?_
      refine g_ist3 (pc' := 36) rfl (by decide) dX8_apart_35 rfl ?_
      refine g_inc4 (pc' := 39) rfl (by decide) (v := nI (i + 1)) (nI_1 _) dX8_apart_36 rfl ?_
      refine g_goto (tgt := 5) dX8_apart_39 (by decide) ?_
      exact ih () trivial
  · intro s hP
    refine g_ild4 (pc' := 7) dX8_apart_5 rfl ?_
    refine g_ald0 (pc' := 8) dX8_apart_7 rfl ?_
    refine g_getR (pc' := 11) xg.s0 (by decide) fX8_10 xg.r0_0 dX8_apart_8 rfl ?_
    refine g_getI (pc' := 14) sg.s1 (by decide) fX8_88 hn dX8_apart_11 rfl ?_
    refine g_icmpgeN (pc' := 17) (by omega) (by omega) (tgt := 42) dX8_apart_14 (by decide) rfl (fun h14 => ?_) (fun h14 => ?_)
    · refine g_ild3 (pc' := 43) dX8_apart_42 rfl ?_
      refine g_iconst (pc' := 44) (v := nI 2) dX8_apart_43 rfl (by decide) ?_
      refine g_idiv (pc' := 45) dX8_apart_44 rfl (by decide) ?_
      refine g_iret rfl dX8_apart_45 ?_
      exact eIp rfl
    · exact absurd h14 (by omega)

theorem c_unlikeNN (l : Launch) {S : Shp} {I : MI} {L : ML} {R : MR} (xg : XG S R) {m : Nat} (hm : I (0, 0) 5 = nI m) (hM : m ≤ 9) (hR : ∀ k, k < m → R (10, 0) k = some (11, k)) (hW : ∀ k, k < m → WG k S R) {x : Int32} (h1 : inb (x / nI 10) m = false) (h2 : inb (x - x / nI 10 * nI 10) m = false) : Ct l mX8_unlike 2 0 0 [.inr (.inr (some (0, 0))), .inl x] S I L R (PIp S I L R (-1)) := by
  refine Ct.of [some (.inr (.inr (some (0, 0)))), some (.inl x), none, none] (by decide) rfl (Nat.le_of_ble_eq_true rfl) ?_
  refine g_ald0 (pc' := 1) dX8_unlike_0 rfl ?_
  refine g_ild1 (pc' := 2) dX8_unlike_1 rfl ?_
  refine g_bipush (pc' := 4) (v := nI 10) dX8_unlike_2 rfl (by decide) ?_
  refine g_idiv (pc' := 5) dX8_unlike_4 rfl (by decide) ?_
  refine g_callV (pc' := 8) (c_worldOfN l xg hm h1) xg.s0 (by decide) wX8_worldOf lX8_147 rfl rfl (Nat.le_of_ble_eq_true rfl) ⟨Nat.le_of_ble_eq_true rfl, Nat.le_of_ble_eq_true rfl⟩ ⟨Nat.le_of_ble_eq_true rfl, Nat.le_of_ble_eq_true rfl⟩ dX8_unlike_5 rfl (kRp ?_)
  refine g_ast2 (pc' := 9) rfl (by decide) dX8_unlike_8 rfl ?_
  refine g_ald0 (pc' := 10) dX8_unlike_9 rfl ?_
  refine g_ild1 (pc' := 11) dX8_unlike_10 rfl ?_
  refine g_bipush (pc' := 13) (v := nI 10) dX8_unlike_11 rfl (by decide) ?_
  refine g_irem (pc' := 14) dX8_unlike_13 rfl (by decide) ?_
  refine g_callV (pc' := 17) (c_worldOfN l xg hm h2) xg.s0 (by decide) wX8_worldOf lX8_147 rfl rfl (Nat.le_of_ble_eq_true rfl) ⟨Nat.le_of_ble_eq_true rfl, Nat.le_of_ble_eq_true rfl⟩ ⟨Nat.le_of_ble_eq_true rfl, Nat.le_of_ble_eq_true rfl⟩ dX8_unlike_14 rfl (kRp ?_)
  refine g_ast3 (pc' := 18) rfl (by decide) dX8_unlike_17 rfl ?_
  refine g_ald2 (pc' := 19) dX8_unlike_18 rfl ?_
  refine g_ifnullT (tgt := 31) dX8_unlike_19 (by decide) ?_
  refine g_iconst (pc' := 32) (v := (-1)) dX8_unlike_31 rfl (by decide) ?_
  refine g_iret rfl dX8_unlike_32 ?_
  exact eIp rfl

theorem c_unlikeNS (l : Launch) {S : Shp} {I : MI} {L : ML} {R : MR} (xg : XG S R) {m : Nat} (hm : I (0, 0) 5 = nI m) (hM : m ≤ 9) (hR : ∀ k, k < m → R (10, 0) k = some (11, k)) (hW : ∀ k, k < m → WG k S R) {x : Int32} (h1 : inb (x / nI 10) m = false) {j2 : Nat} (e2 : x - x / nI 10 * nI 10 = nI j2) (h2 : j2 < m) : Ct l mX8_unlike 2 0 0 [.inr (.inr (some (0, 0))), .inl x] S I L R (PIp S I L R (-1)) := by
  refine Ct.of [some (.inr (.inr (some (0, 0)))), some (.inl x), none, none] (by decide) rfl (Nat.le_of_ble_eq_true rfl) ?_
  refine g_ald0 (pc' := 1) dX8_unlike_0 rfl ?_
  refine g_ild1 (pc' := 2) dX8_unlike_1 rfl ?_
  refine g_bipush (pc' := 4) (v := nI 10) dX8_unlike_2 rfl (by decide) ?_
  refine g_idiv (pc' := 5) dX8_unlike_4 rfl (by decide) ?_
  refine g_callV (pc' := 8) (c_worldOfN l xg hm h1) xg.s0 (by decide) wX8_worldOf lX8_147 rfl rfl (Nat.le_of_ble_eq_true rfl) ⟨Nat.le_of_ble_eq_true rfl, Nat.le_of_ble_eq_true rfl⟩ ⟨Nat.le_of_ble_eq_true rfl, Nat.le_of_ble_eq_true rfl⟩ dX8_unlike_5 rfl (kRp ?_)
  refine g_ast2 (pc' := 9) rfl (by decide) dX8_unlike_8 rfl ?_
  refine g_ald0 (pc' := 10) dX8_unlike_9 rfl ?_
  refine g_ild1 (pc' := 11) dX8_unlike_10 rfl ?_
  refine g_bipush (pc' := 13) (v := nI 10) dX8_unlike_11 rfl (by decide) ?_
  refine g_irem (pc' := 14) dX8_unlike_13 rfl (by decide) ?_
  refine g_topi (v := nI j2) (e2) ?_
  refine g_callV (pc' := 17) (c_worldOfS l xg hm h2 hM (hR _ h2)) xg.s0 (by decide) wX8_worldOf lX8_147 rfl rfl (Nat.le_of_ble_eq_true rfl) ⟨Nat.le_of_ble_eq_true rfl, Nat.le_of_ble_eq_true rfl⟩ ⟨Nat.le_of_ble_eq_true rfl, Nat.le_of_ble_eq_true rfl⟩ dX8_unlike_14 rfl (kRp ?_)
  refine g_ast3 (pc' := 18) rfl (by decide) dX8_unlike_17 rfl ?_
  refine g_ald2 (pc' := 19) dX8_unlike_18 rfl ?_
  refine g_ifnullT (tgt := 31) dX8_unlike_19 (by decide) ?_
  refine g_iconst (pc' := 32) (v := (-1)) dX8_unlike_31 rfl (by decide) ?_
  refine g_iret rfl dX8_unlike_32 ?_
  exact eIp rfl

theorem c_unlikeSN (l : Launch) {S : Shp} {I : MI} {L : ML} {R : MR} (xg : XG S R) {m : Nat} (hm : I (0, 0) 5 = nI m) (hM : m ≤ 9) (hR : ∀ k, k < m → R (10, 0) k = some (11, k)) (hW : ∀ k, k < m → WG k S R) {x : Int32} {j1 : Nat} (e1 : x / nI 10 = nI j1) (h1 : j1 < m) (h2 : inb (x - x / nI 10 * nI 10) m = false) : Ct l mX8_unlike 2 0 0 [.inr (.inr (some (0, 0))), .inl x] S I L R (PIp S I L R (-1)) := by
  refine Ct.of [some (.inr (.inr (some (0, 0)))), some (.inl x), none, none] (by decide) rfl (Nat.le_of_ble_eq_true rfl) ?_
  refine g_ald0 (pc' := 1) dX8_unlike_0 rfl ?_
  refine g_ild1 (pc' := 2) dX8_unlike_1 rfl ?_
  refine g_bipush (pc' := 4) (v := nI 10) dX8_unlike_2 rfl (by decide) ?_
  refine g_idiv (pc' := 5) dX8_unlike_4 rfl (by decide) ?_
  refine g_topi (v := nI j1) (e1) ?_
  refine g_callV (pc' := 8) (c_worldOfS l xg hm h1 hM (hR _ h1)) xg.s0 (by decide) wX8_worldOf lX8_147 rfl rfl (Nat.le_of_ble_eq_true rfl) ⟨Nat.le_of_ble_eq_true rfl, Nat.le_of_ble_eq_true rfl⟩ ⟨Nat.le_of_ble_eq_true rfl, Nat.le_of_ble_eq_true rfl⟩ dX8_unlike_5 rfl (kRp ?_)
  refine g_ast2 (pc' := 9) rfl (by decide) dX8_unlike_8 rfl ?_
  refine g_ald0 (pc' := 10) dX8_unlike_9 rfl ?_
  refine g_ild1 (pc' := 11) dX8_unlike_10 rfl ?_
  refine g_bipush (pc' := 13) (v := nI 10) dX8_unlike_11 rfl (by decide) ?_
  refine g_irem (pc' := 14) dX8_unlike_13 rfl (by decide) ?_
  refine g_callV (pc' := 17) (c_worldOfN l xg hm h2) xg.s0 (by decide) wX8_worldOf lX8_147 rfl rfl (Nat.le_of_ble_eq_true rfl) ⟨Nat.le_of_ble_eq_true rfl, Nat.le_of_ble_eq_true rfl⟩ ⟨Nat.le_of_ble_eq_true rfl, Nat.le_of_ble_eq_true rfl⟩ dX8_unlike_14 rfl (kRp ?_)
  refine g_ast3 (pc' := 18) rfl (by decide) dX8_unlike_17 rfl ?_
  refine g_ald2 (pc' := 19) dX8_unlike_18 rfl ?_
  refine g_ifnullF (pc' := 22) dX8_unlike_19 rfl ?_
  refine g_ald3 (pc' := 23) dX8_unlike_22 rfl ?_
  refine g_ifnullT (tgt := 31) dX8_unlike_23 (by decide) ?_
  refine g_iconst (pc' := 32) (v := (-1)) dX8_unlike_31 rfl (by decide) ?_
  refine g_iret rfl dX8_unlike_32 ?_
  exact eIp rfl

theorem c_unlikeE (l : Launch) {S : Shp} {I : MI} {L : ML} {R : MR} (xg : XG S R) {m : Nat} (hm : I (0, 0) 5 = nI m) (hM : m ≤ 9) (hR : ∀ k, k < m → R (10, 0) k = some (11, k)) (hW : ∀ k, k < m → WG k S R) {x : Int32} {j1 : Nat} (e1 : x / nI 10 = nI j1) (h1 : j1 < m) {j2 : Nat} (e2 : x - x / nI 10 * nI 10 = nI j2) (h2 : j2 < m) (he : j1 = j2) : Ct l mX8_unlike 2 0 0 [.inr (.inr (some (0, 0))), .inl x] S I L R (PIp S I L R (-1)) := by
  refine Ct.of [some (.inr (.inr (some (0, 0)))), some (.inl x), none, none] (by decide) rfl (Nat.le_of_ble_eq_true rfl) ?_
  refine g_ald0 (pc' := 1) dX8_unlike_0 rfl ?_
  refine g_ild1 (pc' := 2) dX8_unlike_1 rfl ?_
  refine g_bipush (pc' := 4) (v := nI 10) dX8_unlike_2 rfl (by decide) ?_
  refine g_idiv (pc' := 5) dX8_unlike_4 rfl (by decide) ?_
  refine g_topi (v := nI j1) (e1) ?_
  refine g_callV (pc' := 8) (c_worldOfS l xg hm h1 hM (hR _ h1)) xg.s0 (by decide) wX8_worldOf lX8_147 rfl rfl (Nat.le_of_ble_eq_true rfl) ⟨Nat.le_of_ble_eq_true rfl, Nat.le_of_ble_eq_true rfl⟩ ⟨Nat.le_of_ble_eq_true rfl, Nat.le_of_ble_eq_true rfl⟩ dX8_unlike_5 rfl (kRp ?_)
  refine g_ast2 (pc' := 9) rfl (by decide) dX8_unlike_8 rfl ?_
  refine g_ald0 (pc' := 10) dX8_unlike_9 rfl ?_
  refine g_ild1 (pc' := 11) dX8_unlike_10 rfl ?_
  refine g_bipush (pc' := 13) (v := nI 10) dX8_unlike_11 rfl (by decide) ?_
  refine g_irem (pc' := 14) dX8_unlike_13 rfl (by decide) ?_
  refine g_topi (v := nI j2) (e2) ?_
  refine g_callV (pc' := 17) (c_worldOfS l xg hm h2 hM (hR _ h2)) xg.s0 (by decide) wX8_worldOf lX8_147 rfl rfl (Nat.le_of_ble_eq_true rfl) ⟨Nat.le_of_ble_eq_true rfl, Nat.le_of_ble_eq_true rfl⟩ ⟨Nat.le_of_ble_eq_true rfl, Nat.le_of_ble_eq_true rfl⟩ dX8_unlike_14 rfl (kRp ?_)
  refine g_ast3 (pc' := 18) rfl (by decide) dX8_unlike_17 rfl ?_
  refine g_ald2 (pc' := 19) dX8_unlike_18 rfl ?_
  refine g_ifnullF (pc' := 22) dX8_unlike_19 rfl ?_
  refine g_ald3 (pc' := 23) dX8_unlike_22 rfl ?_
  refine g_ifnullF (pc' := 26) dX8_unlike_23 rfl ?_
  refine g_ald2 (pc' := 27) dX8_unlike_26 rfl ?_
  refine g_ald3 (pc' := 28) dX8_unlike_27 rfl ?_
  refine g_acmpne (pc' := 31) (wr17 (hW _ h1).s11) (wr17 (hW _ h2).s11) (tgt := 33) dX8_unlike_28 (by decide) rfl (fun h28 => ?_) (fun h28 => ?_)
  · exact absurd (by rw [he]) h28
  · refine g_iconst (pc' := 32) (v := (-1)) dX8_unlike_31 rfl (by decide) ?_
    refine g_iret rfl dX8_unlike_32 ?_
    exact eIp rfl

theorem c_unlikeS (l : Launch) {S : Shp} {I : MI} {L : ML} {R : MR} (xg : XG S R) (sg : SG S R) {n : Nat} (hn : I (1, 0) 1 = nI n) (hN : n ≤ 12) {m : Nat} (hm : I (0, 0) 5 = nI m) (hM : m ≤ 9) (hR : ∀ k, k < m → R (10, 0) k = some (11, k)) (hW : ∀ k, k < m → WG k S R) {x : Int32} {j1 : Nat} (e1 : x / nI 10 = nI j1) (h1 : j1 < m) {j2 : Nat} (e2 : x - x / nI 10 * nI 10 = nI j2) (h2 : j2 < m) (hne : ¬ j1 = j2) : Ct l mX8_unlike 4 0 0 [.inr (.inr (some (0, 0))), .inl x] S I L R (PIp S I L R (apI I n j1 j2)) := by
  refine Ct.of [some (.inr (.inr (some (0, 0)))), some (.inl x), none, none] (by decide) rfl (Nat.le_of_ble_eq_true rfl) ?_
  refine g_ald0 (pc' := 1) dX8_unlike_0 rfl ?_
  refine g_ild1 (pc' := 2) dX8_unlike_1 rfl ?_
  refine g_bipush (pc' := 4) (v := nI 10) dX8_unlike_2 rfl (by decide) ?_
  refine g_idiv (pc' := 5) dX8_unlike_4 rfl (by decide) ?_
  refine g_topi (v := nI j1) (e1) ?_
  refine g_callV (pc' := 8) (c_worldOfS l xg hm h1 hM (hR _ h1)) xg.s0 (by decide) wX8_worldOf lX8_147 rfl rfl (Nat.le_of_ble_eq_true rfl) ⟨Nat.le_of_ble_eq_true rfl, Nat.le_of_ble_eq_true rfl⟩ ⟨Nat.le_of_ble_eq_true rfl, Nat.le_of_ble_eq_true rfl⟩ dX8_unlike_5 rfl (kRp ?_)
  refine g_ast2 (pc' := 9) rfl (by decide) dX8_unlike_8 rfl ?_
  refine g_ald0 (pc' := 10) dX8_unlike_9 rfl ?_
  refine g_ild1 (pc' := 11) dX8_unlike_10 rfl ?_
  refine g_bipush (pc' := 13) (v := nI 10) dX8_unlike_11 rfl (by decide) ?_
  refine g_irem (pc' := 14) dX8_unlike_13 rfl (by decide) ?_
  refine g_topi (v := nI j2) (e2) ?_
  refine g_callV (pc' := 17) (c_worldOfS l xg hm h2 hM (hR _ h2)) xg.s0 (by decide) wX8_worldOf lX8_147 rfl rfl (Nat.le_of_ble_eq_true rfl) ⟨Nat.le_of_ble_eq_true rfl, Nat.le_of_ble_eq_true rfl⟩ ⟨Nat.le_of_ble_eq_true rfl, Nat.le_of_ble_eq_true rfl⟩ dX8_unlike_14 rfl (kRp ?_)
  refine g_ast3 (pc' := 18) rfl (by decide) dX8_unlike_17 rfl ?_
  refine g_ald2 (pc' := 19) dX8_unlike_18 rfl ?_
  refine g_ifnullF (pc' := 22) dX8_unlike_19 rfl ?_
  refine g_ald3 (pc' := 23) dX8_unlike_22 rfl ?_
  refine g_ifnullF (pc' := 26) dX8_unlike_23 rfl ?_
  refine g_ald2 (pc' := 27) dX8_unlike_26 rfl ?_
  refine g_ald3 (pc' := 28) dX8_unlike_27 rfl ?_
  refine g_acmpne (pc' := 31) (wr17 (hW _ h1).s11) (wr17 (hW _ h2).s11) (tgt := 33) dX8_unlike_28 (by decide) rfl (fun h28 => ?_) (fun h28 => ?_)
  · refine g_ald0 (pc' := 34) dX8_unlike_33 rfl ?_
    refine g_ald2 (pc' := 35) dX8_unlike_34 rfl ?_
    refine g_ald3 (pc' := 36) dX8_unlike_35 rfl ?_
    refine g_callV (pc' := 39) (c_apart l xg sg hn hN (hW _ h1) (hW _ h2)) xg.s0 (by decide) wX8_apart lX8_216 rfl rfl (Nat.le_of_ble_eq_true rfl) ⟨Nat.le_of_ble_eq_true rfl, Nat.le_of_ble_eq_true rfl⟩ ⟨Nat.le_of_ble_eq_true rfl, Nat.le_of_ble_eq_true rfl⟩ dX8_unlike_36 rfl (kIp ?_)
    refine g_iret rfl dX8_unlike_39 ?_
    exact eIp rfl
  · exact absurd (by injection h28 with e; injection e) hne

def ueI (I : MI) (n j : Nat) : Int32 := prI (fun a b => absI (shareI (I (12, j)) n a - shareI (I (12, j)) n b)) n n
theorem c_unequalN (l : Launch) {S : Shp} {I : MI} {L : ML} {R : MR} (xg : XG S R) {m : Nat} {x : Int32} (hm : I (0, 0) 5 = nI m) (hx : inb x m = false) : Ct l mX8_unequal 2 0 0 [.inr (.inr (some (0, 0))), .inl x] S I L R (PIp S I L R (-1)) := by
  refine Ct.of [some (.inr (.inr (some (0, 0)))), some (.inl x), none, none, none, none] (by decide) rfl (Nat.le_of_ble_eq_true rfl) ?_
  refine g_ald0 (pc' := 1) dX8_unequal_0 rfl ?_
  refine g_ild1 (pc' := 2) dX8_unequal_1 rfl ?_
  refine g_callV (pc' := 5) (c_worldOfN l xg hm hx) xg.s0 (by decide) wX8_worldOf lX8_147 rfl rfl (Nat.le_of_ble_eq_true rfl) ⟨Nat.le_of_ble_eq_true rfl, Nat.le_of_ble_eq_true rfl⟩ ⟨Nat.le_of_ble_eq_true rfl, Nat.le_of_ble_eq_true rfl⟩ dX8_unequal_2 rfl (kRp ?_)
  refine g_ast2 (pc' := 6) rfl (by decide) dX8_unequal_5 rfl ?_
  refine g_ald2 (pc' := 7) dX8_unequal_6 rfl ?_
  refine g_ifnonnullF (pc' := 10) dX8_unequal_7 rfl ?_
  refine g_iconst (pc' := 11) (v := (-1)) dX8_unequal_10 rfl (by decide) ?_
  refine g_iret rfl dX8_unequal_11 ?_
  exact eIp rfl

theorem c_unequalS (l : Launch) {S : Shp} {I : MI} {L : ML} {R : MR} (xg : XG S R) (sg : SG S R) {n : Nat} (hn : I (1, 0) 1 = nI n) (hN : n ≤ 12) {m j : Nat} (hm : I (0, 0) 5 = nI m) (hj : j < m) (hM : m ≤ 9) (hR : R (10, 0) j = some (11, j)) (wg : WG j S R) : Ct l mX8_unequal 3 0 0 [.inr (.inr (some (0, 0))), .inl (nI j)] S I L R (PIp S I L R (if n = 0 then 0 else ueI I n j / nI n)) := by
  refine Ct.of [some (.inr (.inr (some (0, 0)))), some (.inl (nI j)), none, none, none, none] (by decide) rfl (Nat.le_of_ble_eq_true rfl) ?_
  refine g_ald0 (pc' := 1) dX8_unequal_0 rfl ?_
  refine g_ild1 (pc' := 2) dX8_unequal_1 rfl ?_
  refine g_callV (pc' := 5) (c_worldOfS l xg hm hj hM hR) xg.s0 (by decide) wX8_worldOf lX8_147 rfl rfl (Nat.le_of_ble_eq_true rfl) ⟨Nat.le_of_ble_eq_true rfl, Nat.le_of_ble_eq_true rfl⟩ ⟨Nat.le_of_ble_eq_true rfl, Nat.le_of_ble_eq_true rfl⟩ dX8_unequal_2 rfl (kRp ?_)
  refine g_ast2 (pc' := 6) rfl (by decide) dX8_unequal_5 rfl ?_
  refine g_ald2 (pc' := 7) dX8_unequal_6 rfl ?_
  refine g_ifnonnullT (tgt := 12) dX8_unequal_7 (by decide) ?_
  refine g_ald0 (pc' := 13) dX8_unequal_12 rfl ?_
  refine g_getR (pc' := 16) xg.s0 (by decide) fX8_10 xg.r0_0 dX8_unequal_13 rfl ?_
  refine g_getI (pc' := 19) sg.s1 (by decide) fX8_88 hn dX8_unequal_16 rfl ?_
  refine g_ifneN (pc' := 22) (by omega) (tgt := 24) dX8_unequal_19 (by decide) rfl (fun h19 => ?_) (fun h19 => ?_)
  · refine g_iconst (pc' := 25) (v := nI 0) dX8_unequal_24 rfl (by decide) ?_
    refine g_ist3 (pc' := 26) rfl (by decide) dX8_unequal_25 rfl ?_
    refine g_iconst (pc' := 27) (v := nI 0) dX8_unequal_26 rfl (by decide) ?_
    refine g_ist4 (pc' := 29) rfl (by decide) dX8_unequal_27 rfl ?_
    refine g_loop (σ := Unit) (fun _ _ => True) (fun a s => [some (.inr (.inr (some (0, 0)))), some (.inl (nI j)), some (.inr (.inr (some (11, j)))), some (.inl (prI (fun a b => absI (shareI (I (12, j)) n a - shareI (I (12, j)) n b)) n a)), some (.inl (nI a)), none]) (fun a s => I) n 0 () (by omega) trivial ?_ ?_
    · intro a s ha hP ihA
      refine g_ild4 (pc' := 31) dX8_unequal_29 rfl ?_
      refine g_ald0 (pc' := 32) dX8_unequal_31 rfl ?_
      refine g_getR (pc' := 35) xg.s0 (by decide) fX8_10 xg.r0_0 dX8_unequal_32 rfl ?_
      refine g_getI (pc' := 38) sg.s1 (by decide) fX8_88 hn dX8_unequal_35 rfl ?_
      refine g_icmpgeN (pc' := 41) (by omega) (by omega) (tgt := 90) dX8_unequal_38 (by decide) rfl (fun h38 => ?_) (fun h38 => ?_)
      · exact absurd h38 (by omega)
      · refine g_ild4 (pc' := 43) dX8_unequal_41 rfl ?_
        refine g_iconst (pc' := 44) (v := nI 1) dX8_unequal_43 rfl (by decide) ?_
        refine g_iaddN (pc' := 45) dX8_unequal_44 rfl ?_
        refine g_ist5 (pc' := 47) rfl (by decide) dX8_unequal_45 rfl ?_
        have e0 : prI (fun a b => absI (shareI (I (12, j)) n a - shareI (I (12, j)) n b)) n a = prI (fun a b => absI (shareI (I (12, j)) n a - shareI (I (12, j)) n b)) n a + sumN (fun i => absI (shareI (I (12, j)) n a - shareI (I (12, j)) n (a + 1 + i))) 0 := (Int32.add_zero _).symm
        rw [e0]
        refine g_loop (σ := Unit) (fun _ _ => True) (fun i s => [some (.inr (.inr (some (0, 0)))), some (.inl (nI j)), some (.inr (.inr (some (11, j)))), some (.inl (prI (fun a b => absI (shareI (I (12, j)) n a - shareI (I (12, j)) n b)) n a + sumN (fun i => absI (shareI (I (12, j)) n a - shareI (I (12, j)) n (a + 1 + i))) i)), some (.inl (nI a)), some (.inl (nI (a + 1 + i)))]) (fun i s => I) (n - a - 1) 0 () (by omega) trivial ?_ ?_
        · intro i s hi hP ih
          refine g_ild5 (pc' := 49) dX8_unequal_47 rfl ?_
          refine g_ald0 (pc' := 50) dX8_unequal_49 rfl ?_
          refine g_getR (pc' := 53) xg.s0 (by decide) fX8_10 xg.r0_0 dX8_unequal_50 rfl ?_
          refine g_getI (pc' := 56) sg.s1 (by decide) fX8_88 hn dX8_unequal_53 rfl ?_
          refine g_icmpgeN (pc' := 59) (by omega) (by omega) (tgt := 84) dX8_unequal_56 (by decide) rfl (fun h56 => ?_) (fun h56 => ?_)
          · exact absurd h56 (by omega)
          · refine g_ild3 (pc' := 60) dX8_unequal_59 rfl ?_
            refine g_ald2 (pc' := 61) dX8_unequal_60 rfl ?_
            refine g_ild4 (pc' := 63) dX8_unequal_61 rfl ?_
            refine g_callV (pc' := 66) (c_share l sg wg hn hN (j := a) (by omega)) wg.s11 (by decide) wX7_share lX8_177 rfl rfl (Nat.le_of_ble_eq_true rfl) ⟨Nat.le_of_ble_eq_true rfl, Nat.le_of_ble_eq_true rfl⟩ ⟨Nat.le_of_ble_eq_true rfl, Nat.le_of_ble_eq_true rfl⟩ dX8_unequal_63 rfl (kIp ?_)
            refine g_ald2 (pc' := 67) dX8_unequal_66 rfl ?_
            refine g_ild5 (pc' := 69) dX8_unequal_67 rfl ?_
            refine g_callV (pc' := 72) (c_share l sg wg hn hN (j := a + 1 + i) (by omega)) wg.s11 (by decide) wX7_share lX8_177 rfl rfl (Nat.le_of_ble_eq_true rfl) ⟨Nat.le_of_ble_eq_true rfl, Nat.le_of_ble_eq_true rfl⟩ ⟨Nat.le_of_ble_eq_true rfl, Nat.le_of_ble_eq_true rfl⟩ dX8_unequal_69 rfl (kIp ?_)
            refine g_isub (pc' := 73) dX8_unequal_72 rfl ?_
            refine g_callS (pc' := 76) (c_J9_abs l S _ L R _) wJ9_abs_0f7a4 lX8_211 rfl rfl (Nat.le_of_ble_eq_true rfl) ⟨Nat.le_of_ble_eq_true rfl, Nat.le_of_ble_eq_true rfl⟩ ⟨Nat.le_of_ble_eq_true rfl, Nat.le_of_ble_eq_true rfl⟩ dX8_unequal_73 rfl (kIp ?_)
            refine g_iadd (pc' := 77) dX8_unequal_76 rfl ?_
            refine g_ist3 (pc' := 78) rfl (by decide) dX8_unequal_77 rfl ?_
            refine g_inc5 (pc' := 81) rfl (by decide) (v := nI (a + 1 + i + 1)) (nI_1 _) dX8_unequal_78 rfl ?_
            refine g_goto (tgt := 47) dX8_unequal_81 (by decide) ?_
            have e : prI (fun a b => absI (shareI (I (12, j)) n a - shareI (I (12, j)) n b)) n a + sumN (fun i => absI (shareI (I (12, j)) n a - shareI (I (12, j)) n (a + 1 + i))) (i + 1) = prI (fun a b => absI (shareI (I (12, j)) n a - shareI (I (12, j)) n b)) n a + sumN (fun i => absI (shareI (I (12, j)) n a - shareI (I (12, j)) n (a + 1 + i))) i + absI (shareI (I (12, j)) n a - shareI (I (12, j)) n (a + 1 + i)) := (Int32.add_assoc _ _ _).symm
            rw [← e]
            exact ih () trivial
        · intro s hP
          refine g_ild5 (pc' := 49) dX8_unequal_47 rfl ?_
          refine g_ald0 (pc' := 50) dX8_unequal_49 rfl ?_
          refine g_getR (pc' := 53) xg.s0 (by decide) fX8_10 xg.r0_0 dX8_unequal_50 rfl ?_
          refine g_getI (pc' := 56) sg.s1 (by decide) fX8_88 hn dX8_unequal_53 rfl ?_
          refine g_icmpgeN (pc' := 59) (by omega) (by omega) (tgt := 84) dX8_unequal_56 (by decide) rfl (fun h56 => ?_) (fun h56 => ?_)
          · refine g_inc4 (pc' := 87) rfl (by decide) (v := nI (a + 1)) (nI_1 _) dX8_unequal_84 rfl ?_
            refine g_goto (tgt := 29) dX8_unequal_87 (by decide) ?_
            refine G.lsub [some (.inr (.inr (some (0, 0)))), some (.inl (nI j)), some (.inr (.inr (some (11, j)))), some (.inl (prI (fun a b => absI (shareI (I (12, j)) n a - shareI (I (12, j)) n b)) n a + sumN (fun i => absI (shareI (I (12, j)) n a - shareI (I (12, j)) n (a + 1 + i))) (n - a - 1))), some (.inl (nI (a + 1))), none] (by intro j v; rcases j with _ | _ | _ | _ | _ | _ | j <;> simp) ?_
            exact ihA () trivial
          · exact absurd h56 (by omega)
    · intro s hP
      refine g_ild4 (pc' := 31) dX8_unequal_29 rfl ?_
      refine g_ald0 (pc' := 32) dX8_unequal_31 rfl ?_
      refine g_getR (pc' := 35) xg.s0 (by decide) fX8_10 xg.r0_0 dX8_unequal_32 rfl ?_
      refine g_getI (pc' := 38) sg.s1 (by decide) fX8_88 hn dX8_unequal_35 rfl ?_
      refine g_icmpgeN (pc' := 41) (by omega) (by omega) (tgt := 90) dX8_unequal_38 (by decide) rfl (fun h38 => ?_) (fun h38 => ?_)
      · refine g_ild3 (pc' := 91) dX8_unequal_90 rfl ?_
        refine g_ald0 (pc' := 92) dX8_unequal_91 rfl ?_
        refine g_getR (pc' := 95) xg.s0 (by decide) fX8_10 xg.r0_0 dX8_unequal_92 rfl ?_
        refine g_getI (pc' := 98) sg.s1 (by decide) fX8_88 hn dX8_unequal_95 rfl ?_
        refine g_idiv (pc' := 99) dX8_unequal_98 rfl (by rw [nI_z (by omega)]; omega) ?_
        refine g_iret rfl dX8_unequal_99 ?_
        exact eIp (by rw [if_neg (by omega)]; rfl)
      · exact absurd h38 (by omega)
  · refine g_iconst (pc' := 23) (v := nI 0) dX8_unequal_22 rfl (by decide) ?_
    refine g_iret rfl dX8_unequal_23 ?_
    exact eIp (by rw [if_pos h19]; rfl)
