/-! the model: small methods -/
def wtB (v a b : Int64) : Bool := decide (a ≤ v) && decide (v ≤ b)
def wi (x a b : Int32) : Bool := decide (a ≤ x) && decide (x ≤ b)
theorem i64_le (a b : Int32) : a.toInt64 ≤ b.toInt64 ↔ a ≤ b := by
  rw [Int64.le_iff_toInt_le, Int32.toInt_toInt64, Int32.toInt_toInt64, Int32.le_iff_toInt_le]
theorem i64_lt (a b : Int32) : a.toInt64 < b.toInt64 ↔ a < b := by
  rw [Int64.lt_iff_toInt_lt, Int32.toInt_toInt64, Int32.toInt_toInt64, Int32.lt_iff_toInt_lt]
theorem wtB_i (x a b : Int32) : wtB x.toInt64 a.toInt64 b.toInt64 = wi x a b := by
  unfold wtB wi
  simp only [i64_le]
theorem nI_m1' : nI 0 - nI 1 = -1 := by decide
theorem wi_inb (x : Int32) {n : Nat} (hn : n < 2 ^ 31) : wi x (nI 0) (nI n - nI 1) = inb x n := by
  unfold wi inb
  have z0 : nI 0 = (0 : Int32) := by decide
  rw [z0]
  by_cases h0 : (0 : Int32) ≤ x
  · congr 1
    rw [decide_eq_decide]
    by_cases h : n = 0
    · subst h
      rw [nI_m1', z0]
      exact ⟨fun q => absurd (Int32.le_trans h0 q) (by decide), fun q => absurd q (Int32.not_lt.mpr h0)⟩
    · rw [pk_sub (by omega)]
      obtain ⟨j, hj, rfl⟩ := nI_of (Int32.not_lt.mpr h0)
      rw [nI_leI hj (by omega), nI_ltI hj hn]
      omega
  · rw [decide_eq_false h0, Bool.false_and, Bool.false_and]
theorem c_mWithin (l : Launch) {S : Shp} {I : MI} {L : ML} {R : MR} (v a b : Int64) : Ct l mX9_within 1 0 0 [.inr (.inl v), .inr (.inl a), .inr (.inl b)] S I L R (PIp S I L R (bI (wtB v a b))) := by
  refine Ct.of [some (.inr (.inl v)), none, some (.inr (.inl a)), none, some (.inr (.inl b)), none] (by decide) rfl (Nat.le_of_ble_eq_true rfl) ?_
  refine g_lld0 (pc' := 1) dX9_within_0 rfl ?_
  refine g_lld2 (pc' := 2) dX9_within_1 rfl ?_
  refine g_lcmp (pc' := 3) dX9_within_2 rfl ?_
  refine g_iflt (pc' := 6) (tgt := 17) dX9_within_3 (by decide) rfl (fun h3 => ?_) (fun h3 => ?_)
  · refine g_iconst (pc' := 18) (v := nI 0) dX9_within_17 rfl (by decide) ?_
    refine g_zret (ty := .boolean) rfl (by decide) dX9_within_18 ?_
    refine eIp ?_
    unfold wtB
    have e1 : decide (a ≤ v) = !decide (lg_cmp v a < 0) := by rw [← decide_not, decide_eq_decide, lg_cmp_lt, Int64.not_lt]
    have e2 : decide (v ≤ b) = !decide (0 < lg_cmp v b) := by rw [← decide_not, decide_eq_decide, lg_cmp_gt, Int64.not_lt]
    rw [e1, e2]
    first | (rw [decide_eq_false h3, decide_eq_false h10]; done) | (rw [decide_eq_false h3, decide_eq_false h10]; rfl) | (rw [decide_eq_true h3]; rfl) | (rw [decide_eq_true h10, Bool.not_true, Bool.and_false]; rfl)
  · refine g_lld0 (pc' := 7) dX9_within_6 rfl ?_
    refine g_lld4 (pc' := 9) dX9_within_7 rfl ?_
    refine g_lcmp (pc' := 10) dX9_within_9 rfl ?_
    refine g_ifgt (pc' := 13) (tgt := 17) dX9_within_10 (by decide) rfl (fun h10 => ?_) (fun h10 => ?_)
    · refine g_iconst (pc' := 18) (v := nI 0) dX9_within_17 rfl (by decide) ?_
      refine g_zret (ty := .boolean) rfl (by decide) dX9_within_18 ?_
      refine eIp ?_
      unfold wtB
      have e1 : decide (a ≤ v) = !decide (lg_cmp v a < 0) := by rw [← decide_not, decide_eq_decide, lg_cmp_lt, Int64.not_lt]
      have e2 : decide (v ≤ b) = !decide (0 < lg_cmp v b) := by rw [← decide_not, decide_eq_decide, lg_cmp_gt, Int64.not_lt]
      rw [e1, e2]
      first | (rw [decide_eq_false h3, decide_eq_false h10]; done) | (rw [decide_eq_false h3, decide_eq_false h10]; rfl) | (rw [decide_eq_true h3]; rfl) | (rw [decide_eq_true h10, Bool.not_true, Bool.and_false]; rfl)
    · refine g_iconst (pc' := 14) (v := nI 1) dX9_within_13 rfl (by decide) ?_
      refine g_goto (tgt := 18) dX9_within_14 (by decide) ?_
      refine g_zret (ty := .boolean) rfl (by decide) dX9_within_18 ?_
      refine eIp ?_
      unfold wtB
      have e1 : decide (a ≤ v) = !decide (lg_cmp v a < 0) := by rw [← decide_not, decide_eq_decide, lg_cmp_lt, Int64.not_lt]
      have e2 : decide (v ≤ b) = !decide (0 < lg_cmp v b) := by rw [← decide_not, decide_eq_decide, lg_cmp_gt, Int64.not_lt]
      rw [e1, e2]
      first | (rw [decide_eq_false h3, decide_eq_false h10]; done) | (rw [decide_eq_false h3, decide_eq_false h10]; rfl) | (rw [decide_eq_true h3]; rfl) | (rw [decide_eq_true h10, Bool.not_true, Bool.and_false]; rfl)

theorem c_mWI (l : Launch) {S : Shp} {I : MI} {L : ML} {R : MR} (x a b : Int32) {A B : Int64} (hA : A = a.toInt64) (hB : B = b.toInt64) : Ct l mX9_within 1 0 0 [.inr (.inl x.toInt64), .inr (.inl A), .inr (.inl B)] S I L R (PIp S I L R (bI (wi x a b))) := by
  subst hA; subst hB
  rw [← wtB_i]
  exact c_mWithin l _ _ _
theorem c_mSize (l : Launch) {S : Shp} {I : MI} {L : ML} {R : MR} (x : Int32) : Ct l mX9_size 1 0 0 [.inl x] S I L R (PIp S I L R (absI x)) := by
  refine Ct.of [some (.inl x)] (by decide) rfl (Nat.le_of_ble_eq_true rfl) ?_
  refine g_ild0 (pc' := 1) dX9_size_0 rfl ?_
  refine g_ifge (pc' := 4) (tgt := 9) dX9_size_1 (by decide) rfl (fun h1 => ?_) (fun h1 => ?_)
  · refine g_ild0 (pc' := 10) dX9_size_9 rfl ?_
    refine g_iret rfl dX9_size_10 ?_
    exact eIp (by unfold absI; first | rw [if_pos h1] | rw [if_neg h1])
  · refine g_ild0 (pc' := 5) dX9_size_4 rfl ?_
    refine g_ineg (pc' := 6) dX9_size_5 rfl ?_
    refine g_goto (tgt := 10) dX9_size_6 (by decide) ?_
    refine g_iret rfl dX9_size_10 ?_
    exact eIp (by unfold absI; first | rw [if_pos h1] | rw [if_neg h1])

theorem c_misSong (l : Launch) {S : Shp} {I : MI} {L : ML} {R : MR} (mg : MG S R) {n : Nat} (hn : I (40, 0) 6 = nI n) (hN : n ≤ 12) (x : Int32) : Ct l mX9_isSong 2 0 0 [.inr (.inr (some (40, 0))), .inl x] S I L R (PIp S I L R (bI (inb x n))) := by
  refine Ct.of [some (.inr (.inr (some (40, 0)))), some (.inl x)] (by decide) rfl (Nat.le_of_ble_eq_true rfl) ?_
  refine g_ild1 (pc' := 1) dX9_isSong_0 rfl ?_
  refine g_i2l (pc' := 2) dX9_isSong_1 rfl ?_
  refine g_lconst (pc' := 3) (v := 0) dX9_isSong_2 rfl (by decide) ?_
  refine g_ald0 (pc' := 4) dX9_isSong_3 rfl ?_
  refine g_getI (pc' := 7) mg.s40 (by decide) fX9_99 hn dX9_isSong_4 rfl ?_
  refine g_iconst (pc' := 8) (v := nI 1) dX9_isSong_7 rfl (by decide) ?_
  refine g_isub (pc' := 9) dX9_isSong_8 rfl ?_
  refine g_i2l (pc' := 10) dX9_isSong_9 rfl ?_
  refine g_callS (pc' := 13) (c_mWI l x (nI 0) (nI n - nI 1) (A := 0) (by decide) rfl) wX9_within lX9_102 rfl rfl (Nat.le_of_ble_eq_true rfl) ⟨Nat.le_of_ble_eq_true rfl, Nat.le_of_ble_eq_true rfl⟩ ⟨Nat.le_of_ble_eq_true rfl, Nat.le_of_ble_eq_true rfl⟩ dX9_isSong_10 rfl (kIp ?_)
  refine g_topi (v := bI (inb x n)) (by rw [wi_inb x (by omega)]) ?_
  refine g_zret (ty := .boolean) rfl (narB _) dX9_isSong_13 ?_
  exact eIp rfl

theorem c_misLaw (l : Launch) {S : Shp} {I : MI} {L : ML} {R : MR} (mg : MG S R) {n : Nat} (hn : I (40, 0) 9 = nI n) (hN : n ≤ 6) (x : Int32) : Ct l mX9_isLaw 2 0 0 [.inr (.inr (some (40, 0))), .inl x] S I L R (PIp S I L R (bI (inb x n))) := by
  refine Ct.of [some (.inr (.inr (some (40, 0)))), some (.inl x)] (by decide) rfl (Nat.le_of_ble_eq_true rfl) ?_
  refine g_ild1 (pc' := 1) dX9_isLaw_0 rfl ?_
  refine g_i2l (pc' := 2) dX9_isLaw_1 rfl ?_
  refine g_lconst (pc' := 3) (v := 0) dX9_isLaw_2 rfl (by decide) ?_
  refine g_ald0 (pc' := 4) dX9_isLaw_3 rfl ?_
  refine g_getI (pc' := 7) mg.s40 (by decide) fX9_106 hn dX9_isLaw_4 rfl ?_
  refine g_iconst (pc' := 8) (v := nI 1) dX9_isLaw_7 rfl (by decide) ?_
  refine g_isub (pc' := 9) dX9_isLaw_8 rfl ?_
  refine g_i2l (pc' := 10) dX9_isLaw_9 rfl ?_
  refine g_callS (pc' := 13) (c_mWI l x (nI 0) (nI n - nI 1) (A := 0) (by decide) rfl) wX9_within lX9_102 rfl rfl (Nat.le_of_ble_eq_true rfl) ⟨Nat.le_of_ble_eq_true rfl, Nat.le_of_ble_eq_true rfl⟩ ⟨Nat.le_of_ble_eq_true rfl, Nat.le_of_ble_eq_true rfl⟩ dX9_isLaw_10 rfl (kIp ?_)
  refine g_topi (v := bI (inb x n)) (by rw [wi_inb x (by omega)]) ?_
  refine g_zret (ty := .boolean) rfl (narB _) dX9_isLaw_13 ?_
  exact eIp rfl

theorem c_misWorld (l : Launch) {S : Shp} {I : MI} {L : ML} {R : MR} (mg : MG S R) {n : Nat} (hn : I (40, 0) 18 = nI n) (hN : n ≤ 9) (x : Int32) : Ct l mX9_isWorld 2 0 0 [.inr (.inr (some (40, 0))), .inl x] S I L R (PIp S I L R (bI (inb x n))) := by
  refine Ct.of [some (.inr (.inr (some (40, 0)))), some (.inl x)] (by decide) rfl (Nat.le_of_ble_eq_true rfl) ?_
  refine g_ild1 (pc' := 1) dX9_isWorld_0 rfl ?_
  refine g_i2l (pc' := 2) dX9_isWorld_1 rfl ?_
  refine g_lconst (pc' := 3) (v := 0) dX9_isWorld_2 rfl (by decide) ?_
  refine g_ald0 (pc' := 4) dX9_isWorld_3 rfl ?_
  refine g_getI (pc' := 7) mg.s40 (by decide) fX9_174 hn dX9_isWorld_4 rfl ?_
  refine g_iconst (pc' := 8) (v := nI 1) dX9_isWorld_7 rfl (by decide) ?_
  refine g_isub (pc' := 9) dX9_isWorld_8 rfl ?_
  refine g_i2l (pc' := 10) dX9_isWorld_9 rfl ?_
  refine g_callS (pc' := 13) (c_mWI l x (nI 0) (nI n - nI 1) (A := 0) (by decide) rfl) wX9_within lX9_102 rfl rfl (Nat.le_of_ble_eq_true rfl) ⟨Nat.le_of_ble_eq_true rfl, Nat.le_of_ble_eq_true rfl⟩ ⟨Nat.le_of_ble_eq_true rfl, Nat.le_of_ble_eq_true rfl⟩ dX9_isWorld_10 rfl (kIp ?_)
  refine g_topi (v := bI (inb x n)) (by rw [wi_inb x (by omega)]) ?_
  refine g_zret (ty := .boolean) rfl (narB _) dX9_isWorld_13 ?_
  exact eIp rfl

theorem c_misBody (l : Launch) {S : Shp} {I : MI} {L : ML} {R : MR} (mg : MG S R) {n : Nat} (hn : I (40, 0) 35 = nI n) (hN : n ≤ 50) (x : Int32) : Ct l mX9_isBody 2 0 0 [.inr (.inr (some (40, 0))), .inl x] S I L R (PIp S I L R (bI (inb x n))) := by
  refine Ct.of [some (.inr (.inr (some (40, 0)))), some (.inl x)] (by decide) rfl (Nat.le_of_ble_eq_true rfl) ?_
  refine g_ild1 (pc' := 1) dX9_isBody_0 rfl ?_
  refine g_i2l (pc' := 2) dX9_isBody_1 rfl ?_
  refine g_lconst (pc' := 3) (v := 0) dX9_isBody_2 rfl (by decide) ?_
  refine g_ald0 (pc' := 4) dX9_isBody_3 rfl ?_
  refine g_getI (pc' := 7) mg.s40 (by decide) fX9_316 hn dX9_isBody_4 rfl ?_
  refine g_iconst (pc' := 8) (v := nI 1) dX9_isBody_7 rfl (by decide) ?_
  refine g_isub (pc' := 9) dX9_isBody_8 rfl ?_
  refine g_i2l (pc' := 10) dX9_isBody_9 rfl ?_
  refine g_callS (pc' := 13) (c_mWI l x (nI 0) (nI n - nI 1) (A := 0) (by decide) rfl) wX9_within lX9_102 rfl rfl (Nat.le_of_ble_eq_true rfl) ⟨Nat.le_of_ble_eq_true rfl, Nat.le_of_ble_eq_true rfl⟩ ⟨Nat.le_of_ble_eq_true rfl, Nat.le_of_ble_eq_true rfl⟩ dX9_isBody_10 rfl (kIp ?_)
  refine g_topi (v := bI (inb x n)) (by rw [wi_inb x (by omega)]) ?_
  refine g_zret (ty := .boolean) rfl (narB _) dX9_isBody_13 ?_
  exact eIp rfl

theorem c_mIsShelf (l : Launch) {S : Shp} {I : MI} {L : ML} {R : MR} (x : Int32) : Ct l mX9_isShelf 2 0 0 [.inl x] S I L R (PIp S I L R (bI (inb x 6))) := by
  refine Ct.of [some (.inl x)] (by decide) rfl (Nat.le_of_ble_eq_true rfl) ?_
  refine g_ild0 (pc' := 1) dX9_isShelf_0 rfl ?_
  refine g_i2l (pc' := 2) dX9_isShelf_1 rfl ?_
  refine g_lconst (pc' := 3) (v := 0) dX9_isShelf_2 rfl (by decide) ?_
  refine g_ldc2 (pc' := 6) dX9_isShelf_3 rfl kX9_348 ?_
  refine g_callS (pc' := 9) (c_mWI l x (nI 0) (nI 5) (A := 0) (B := 5) (by decide) (by decide)) wX9_within lX9_102 rfl rfl (Nat.le_of_ble_eq_true rfl) ⟨Nat.le_of_ble_eq_true rfl, Nat.le_of_ble_eq_true rfl⟩ ⟨Nat.le_of_ble_eq_true rfl, Nat.le_of_ble_eq_true rfl⟩ dX9_isShelf_6 rfl (kIp ?_)
  refine g_topi (v := bI (inb x 6)) (by rw [← wi_inb x (by decide)]; rfl) ?_
  refine g_zret (ty := .boolean) rfl (narB _) dX9_isShelf_9 ?_
  exact eIp rfl

theorem c_mCount (l : Launch) {S : Shp} {I : MI} {L : ML} {R : MR} (mg : MG S R) {w : Nat} (hw : w < 11) {s : Nat} (hs : s < 12) {x : Int32} (hx : I (50, 0) (23 + 12 * w + s) = x) : Ct l mX9_countOf 1 0 0 [.inr (.inr (some (40, 0))), .inl (nI w), .inl (nI s)] S I L R (PIp S I L R x) := by
  refine Ct.of [some (.inr (.inr (some (40, 0)))), some (.inl (nI w)), some (.inl (nI s))] (by decide) rfl (Nat.le_of_ble_eq_true rfl) ?_
  refine g_ald0 (pc' := 1) dX9_countOf_0 rfl ?_
  refine g_getR (pc' := 4) mg.s40 (by decide) fX9_9 mg.r40_0 dX9_countOf_1 rfl ?_
  refine g_bipush (pc' := 6) (v := nI 23) dX9_countOf_4 rfl (by decide) ?_
  refine g_bipush (pc' := 8) (v := nI 12) dX9_countOf_6 rfl (by decide) ?_
  refine g_ild1 (pc' := 9) dX9_countOf_8 rfl ?_
  refine g_imulN (pc' := 10) dX9_countOf_9 rfl ?_
  refine g_iaddN (pc' := 11) dX9_countOf_10 rfl ?_
  refine g_ild2 (pc' := 12) dX9_countOf_11 rfl ?_
  refine g_iaddN (pc' := 13) dX9_countOf_12 rfl ?_
  refine g_iald (pc' := 14) (j := (23 + (12 * w)) + s) mg.s50 rfl (by omega) (by decide) (v := x) (hx) dX9_countOf_13 rfl ?_
  refine g_iret rfl dX9_countOf_14 ?_
  exact eIp rfl

theorem c_mPlace (l : Launch) {S : Shp} {I : MI} {L : ML} {R : MR} (mg : MG S R) {n : Nat} (hn : I (40, 0) 6 = nI n) (hN : n ≤ 12) {w : Nat} (hw : w < 11) {f : Nat → Int32} (hf : ∀ o, o < n → I (50, 0) (23 + 12 * w + o) = f o) {s : Nat} (hs : s < n) : Ct l mX9_place 2 0 0 [.inr (.inr (some (40, 0))), .inl (nI w), .inl (nI s)] S I L R (PIp S I L R (nI (plc f n s))) := by
  refine Ct.of [some (.inr (.inr (some (40, 0)))), some (.inl (nI w)), some (.inl (nI s)), none, none] (by decide) rfl (Nat.le_of_ble_eq_true rfl) ?_
  refine g_iconst (pc' := 1) (v := nI 0) dX9_place_0 rfl (by decide) ?_
  refine g_ist3 (pc' := 2) rfl (by decide) dX9_place_1 rfl ?_
  refine g_iconst (pc' := 3) (v := nI 0) dX9_place_2 rfl (by decide) ?_
  refine g_ist4 (pc' := 5) rfl (by decide) dX9_place_3 rfl ?_
  refine g_loop (σ := Unit) (fun _ _ => True) (fun i _ => [some (.inr (.inr (some (40, 0)))), some (.inl (nI w)), some (.inl (nI s)), some (.inl (nI (ctN (fun q => bf f q s) i))), some (.inl (nI i))]) (fun _ _ => I) n 0 () (by omega) trivial ?_ ?_
  · intro i _ hi hP ih
    have hcl := ctN_le (fun q => bf f q s) i
    refine g_ild4 (pc' := 7) dX9_place_5 rfl ?_
    refine g_ald0 (pc' := 8) dX9_place_7 rfl ?_
    refine g_getI (pc' := 11) mg.s40 (by decide) fX9_99 hn dX9_place_8 rfl ?_
    refine g_icmpgeN (pc' := 14) (by omega) (by omega) (tgt := 66) dX9_place_11 (by decide) rfl (fun h11 => ?_) (fun h11 => ?_)
    · exact absurd h11 (by omega)
    · refine g_ild3 (pc' := 15) dX9_place_14 rfl ?_
      refine g_ald0 (pc' := 16) dX9_place_15 rfl ?_
      refine g_ild1 (pc' := 17) dX9_place_16 rfl ?_
      refine g_ild4 (pc' := 19) dX9_place_17 rfl ?_
      refine g_callV (pc' := 22) (c_mCount l mg hw (s := i) (by omega) (hf _ hi)) mg.s40 (by decide) wX9_countOf lX9_191 rfl rfl (Nat.le_of_ble_eq_true rfl) ⟨Nat.le_of_ble_eq_true rfl, Nat.le_of_ble_eq_true rfl⟩ ⟨Nat.le_of_ble_eq_true rfl, Nat.le_of_ble_eq_true rfl⟩ dX9_place_19 rfl (kIp ?_)
      refine g_ald0 (pc' := 23) dX9_place_22 rfl ?_
      refine g_ild1 (pc' := 24) dX9_place_23 rfl ?_
      refine g_ild2 (pc' := 25) dX9_place_24 rfl ?_
      refine g_callV (pc' := 28) (c_mCount l mg hw (s := s) (by omega) (hf _ hs)) mg.s40 (by decide) wX9_countOf lX9_191 rfl rfl (Nat.le_of_ble_eq_true rfl) ⟨Nat.le_of_ble_eq_true rfl, Nat.le_of_ble_eq_true rfl⟩ ⟨Nat.le_of_ble_eq_true rfl, Nat.le_of_ble_eq_true rfl⟩ dX9_place_25 rfl (kIp ?_)
      refine g_icmpgt (pc' := 31) (tgt := 53) dX9_place_28 (by decide) rfl (fun h28 => ?_) (fun h28 => ?_)
      · refine g_iconst (pc' := 54) (v := nI 1) dX9_place_53 rfl (by decide) ?_
        refine g_goto (tgt := 58) dX9_place_54 (by decide) ?_
        refine g_iaddN (pc' := 59) dX9_place_58 rfl ?_
        refine g_ist3 (pc' := 60) rfl (by decide) dX9_place_59 rfl ?_
        refine g_inc4 (pc' := 63) rfl (by decide) (v := nI (i + 1)) (nI_1 _) dX9_place_60 rfl ?_
        refine g_goto (tgt := 5) dX9_place_63 (by decide) ?_
        have hcl := ctN_le (fun q => bf f q s) i
        have e : bf f i s = true := by
          unfold bf
          first | (rw [decide_eq_true h28]; rfl) | (rw [decide_eq_true h44, decide_eq_true (show i < s by omega)]; simp)
        have hI := ih () trivial
        rw [show ctN (fun q => bf f q s) (i + 1) = ctN (fun q => bf f q s) i + (if bf f i s = true then 1 else 0) from rfl, e] at hI
        exact hI
      · refine g_ald0 (pc' := 32) dX9_place_31 rfl ?_
        refine g_ild1 (pc' := 33) dX9_place_32 rfl ?_
        refine g_ild4 (pc' := 35) dX9_place_33 rfl ?_
        refine g_callV (pc' := 38) (c_mCount l mg hw (s := i) (by omega) (hf _ hi)) mg.s40 (by decide) wX9_countOf lX9_191 rfl rfl (Nat.le_of_ble_eq_true rfl) ⟨Nat.le_of_ble_eq_true rfl, Nat.le_of_ble_eq_true rfl⟩ ⟨Nat.le_of_ble_eq_true rfl, Nat.le_of_ble_eq_true rfl⟩ dX9_place_35 rfl (kIp ?_)
        refine g_ald0 (pc' := 39) dX9_place_38 rfl ?_
        refine g_ild1 (pc' := 40) dX9_place_39 rfl ?_
        refine g_ild2 (pc' := 41) dX9_place_40 rfl ?_
        refine g_callV (pc' := 44) (c_mCount l mg hw (s := s) (by omega) (hf _ hs)) mg.s40 (by decide) wX9_countOf lX9_191 rfl rfl (Nat.le_of_ble_eq_true rfl) ⟨Nat.le_of_ble_eq_true rfl, Nat.le_of_ble_eq_true rfl⟩ ⟨Nat.le_of_ble_eq_true rfl, Nat.le_of_ble_eq_true rfl⟩ dX9_place_41 rfl (kIp ?_)
        refine g_icmpne (pc' := 47) (tgt := 57) dX9_place_44 (by decide) rfl (fun h44 => ?_) (fun h44 => ?_)
        · refine g_iconst (pc' := 58) (v := nI 0) dX9_place_57 rfl (by decide) ?_
          refine g_iaddN (pc' := 59) dX9_place_58 rfl ?_
          refine g_ist3 (pc' := 60) rfl (by decide) dX9_place_59 rfl ?_
          refine g_inc4 (pc' := 63) rfl (by decide) (v := nI (i + 1)) (nI_1 _) dX9_place_60 rfl ?_
          refine g_goto (tgt := 5) dX9_place_63 (by decide) ?_
          have hcl := ctN_le (fun q => bf f q s) i
          have e : bf f i s = false := by
            unfold bf
            first | (rw [decide_eq_false h28, decide_eq_false h44]; rfl) | (rw [decide_eq_false h28, decide_eq_false (show ¬ i < s by omega)]; simp)
          have hI := ih () trivial
          rw [show ctN (fun q => bf f q s) (i + 1) = ctN (fun q => bf f q s) i + (if bf f i s = true then 1 else 0) from rfl, e] at hI
          exact hI
        · refine g_ild4 (pc' := 49) dX9_place_47 rfl ?_
          refine g_ild2 (pc' := 50) dX9_place_49 rfl ?_
          refine g_icmpgeN (pc' := 53) (by omega) (by omega) (tgt := 57) dX9_place_50 (by decide) rfl (fun h50 => ?_) (fun h50 => ?_)
          · refine g_iconst (pc' := 58) (v := nI 0) dX9_place_57 rfl (by decide) ?_
            refine g_iaddN (pc' := 59) dX9_place_58 rfl ?_
            refine g_ist3 (pc' := 60) rfl (by decide) dX9_place_59 rfl ?_
            refine g_inc4 (pc' := 63) rfl (by decide) (v := nI (i + 1)) (nI_1 _) dX9_place_60 rfl ?_
            refine g_goto (tgt := 5) dX9_place_63 (by decide) ?_
            have hcl := ctN_le (fun q => bf f q s) i
            have e : bf f i s = false := by
              unfold bf
              first | (rw [decide_eq_false h28, decide_eq_false h44]; rfl) | (rw [decide_eq_false h28, decide_eq_false (show ¬ i < s by omega)]; simp)
            have hI := ih () trivial
            rw [show ctN (fun q => bf f q s) (i + 1) = ctN (fun q => bf f q s) i + (if bf f i s = true then 1 else 0) from rfl, e] at hI
            exact hI
          · refine g_iconst (pc' := 54) (v := nI 1) dX9_place_53 rfl (by decide) ?_
            refine g_goto (tgt := 58) dX9_place_54 (by decide) ?_
            refine g_iaddN (pc' := 59) dX9_place_58 rfl ?_
            refine g_ist3 (pc' := 60) rfl (by decide) dX9_place_59 rfl ?_
            refine g_inc4 (pc' := 63) rfl (by decide) (v := nI (i + 1)) (nI_1 _) dX9_place_60 rfl ?_
            refine g_goto (tgt := 5) dX9_place_63 (by decide) ?_
            have hcl := ctN_le (fun q => bf f q s) i
            have e : bf f i s = true := by
              unfold bf
              first | (rw [decide_eq_true h28]; rfl) | (rw [decide_eq_true h44, decide_eq_true (show i < s by omega)]; simp)
            have hI := ih () trivial
            rw [show ctN (fun q => bf f q s) (i + 1) = ctN (fun q => bf f q s) i + (if bf f i s = true then 1 else 0) from rfl, e] at hI
            exact hI
  · intro _ hP
    refine g_ild4 (pc' := 7) dX9_place_5 rfl ?_
    refine g_ald0 (pc' := 8) dX9_place_7 rfl ?_
    refine g_getI (pc' := 11) mg.s40 (by decide) fX9_99 hn dX9_place_8 rfl ?_
    refine g_icmpgeN (pc' := 14) (by omega) (by omega) (tgt := 66) dX9_place_11 (by decide) rfl (fun h11 => ?_) (fun h11 => ?_)
    · refine g_ild3 (pc' := 67) dX9_place_66 rfl ?_
      refine g_iret rfl dX9_place_67 ?_
      exact eIp rfl
    · exact absurd h11 (by omega)

theorem c_mSeen (l : Launch) {S : Shp} {I : MI} {L : ML} {R : MR} (mg : MG S R) {n : Nat} (hn : I (40, 0) 6 = nI n) (hN : n ≤ 12) {w : Nat} (hw : w < 11) {f : Nat → Int32} (hf : ∀ o, o < n → I (50, 0) (23 + 12 * w + o) = f o) {s : Nat} (hs : s < n) {sh ca un : Int32} (hsh : I (70, 0) w = sh) (hca : I (73, 0) w = ca) (hun : I (71, 0) w = un) : Ct l mX9_seenPlace 3 0 0 [.inr (.inr (some (40, 0))), .inl (nI w), .inl (nI s)] S I L R (PIp S I L R (psI sh ca un n (nI (plc f n s)))) := by
  refine Ct.of [some (.inr (.inr (some (40, 0)))), some (.inl (nI w)), some (.inl (nI s))] (by decide) rfl (Nat.le_of_ble_eq_true rfl) ?_
  refine g_ald0 (pc' := 1) dX9_seenPlace_0 rfl ?_
  refine g_getR (pc' := 4) mg.s40 (by decide) fX9_37 mg.r40_20 dX9_seenPlace_1 rfl ?_
  refine g_ild1 (pc' := 5) dX9_seenPlace_4 rfl ?_
  refine g_iald (pc' := 6) (j := w) mg.s70 rfl (by omega) (by decide) hsh dX9_seenPlace_5 rfl ?_
  refine g_ifne (pc' := 9) (tgt := 11) dX9_seenPlace_6 (by decide) rfl (fun h6 => ?_) (fun h6 => ?_)
  · refine g_ald0 (pc' := 12) dX9_seenPlace_11 rfl ?_
    refine g_getR (pc' := 15) mg.s40 (by decide) fX9_37 mg.r40_20 dX9_seenPlace_12 rfl ?_
    refine g_ild1 (pc' := 16) dX9_seenPlace_15 rfl ?_
    refine g_iald (pc' := 17) (j := w) mg.s70 rfl (by omega) (by decide) hsh dX9_seenPlace_16 rfl ?_
    refine g_iconst (pc' := 18) (v := nI 2) dX9_seenPlace_17 rfl (by decide) ?_
    refine g_icmpne (pc' := 21) (tgt := 52) dX9_seenPlace_18 (by decide) rfl (fun h18 => ?_) (fun h18 => ?_)
    · refine g_ald0 (pc' := 53) dX9_seenPlace_52 rfl ?_
      refine g_ild1 (pc' := 54) dX9_seenPlace_53 rfl ?_
      refine g_ild2 (pc' := 55) dX9_seenPlace_54 rfl ?_
      refine g_callV (pc' := 58) (c_mPlace l mg hn hN hw hf hs) mg.s40 (by decide) wX9_place lX9_194 rfl rfl (Nat.le_of_ble_eq_true rfl) ⟨Nat.le_of_ble_eq_true rfl, Nat.le_of_ble_eq_true rfl⟩ ⟨Nat.le_of_ble_eq_true rfl, Nat.le_of_ble_eq_true rfl⟩ dX9_seenPlace_55 rfl (kIp ?_)
      refine g_iret rfl dX9_seenPlace_58 ?_
      exact eIp (by unfold psI; (repeat' split) <;> first | rfl | (exfalso; rename_i q; exact absurd q.2 (Int32.not_lt.mpr h33)) | (exfalso; simp_all; done))
    · refine g_ald0 (pc' := 22) dX9_seenPlace_21 rfl ?_
      refine g_getR (pc' := 25) mg.s40 (by decide) fX9_46 mg.r40_23 dX9_seenPlace_22 rfl ?_
      refine g_ild1 (pc' := 26) dX9_seenPlace_25 rfl ?_
      refine g_iald (pc' := 27) (j := w) mg.s73 rfl (by omega) (by decide) hca dX9_seenPlace_26 rfl ?_
      refine g_ald0 (pc' := 28) dX9_seenPlace_27 rfl ?_
      refine g_getR (pc' := 31) mg.s40 (by decide) fX9_40 mg.r40_21 dX9_seenPlace_28 rfl ?_
      refine g_ild1 (pc' := 32) dX9_seenPlace_31 rfl ?_
      refine g_iald (pc' := 33) (j := w) mg.s71 rfl (by omega) (by decide) hun dX9_seenPlace_32 rfl ?_
      refine g_icmpge (pc' := 36) (tgt := 52) dX9_seenPlace_33 (by decide) rfl (fun h33 => ?_) (fun h33 => ?_)
      · refine g_ald0 (pc' := 53) dX9_seenPlace_52 rfl ?_
        refine g_ild1 (pc' := 54) dX9_seenPlace_53 rfl ?_
        refine g_ild2 (pc' := 55) dX9_seenPlace_54 rfl ?_
        refine g_callV (pc' := 58) (c_mPlace l mg hn hN hw hf hs) mg.s40 (by decide) wX9_place lX9_194 rfl rfl (Nat.le_of_ble_eq_true rfl) ⟨Nat.le_of_ble_eq_true rfl, Nat.le_of_ble_eq_true rfl⟩ ⟨Nat.le_of_ble_eq_true rfl, Nat.le_of_ble_eq_true rfl⟩ dX9_seenPlace_55 rfl (kIp ?_)
        refine g_iret rfl dX9_seenPlace_58 ?_
        exact eIp (by unfold psI; (repeat' split) <;> first | rfl | (exfalso; rename_i q; exact absurd q.2 (Int32.not_lt.mpr h33)) | (exfalso; simp_all; done))
      · refine g_ald0 (pc' := 37) dX9_seenPlace_36 rfl ?_
        refine g_getI (pc' := 40) mg.s40 (by decide) fX9_99 hn dX9_seenPlace_37 rfl ?_
        refine g_iconst (pc' := 41) (v := nI 1) dX9_seenPlace_40 rfl (by decide) ?_
        refine g_isub (pc' := 42) dX9_seenPlace_41 rfl ?_
        refine g_topi (v := nI (n - 1)) (pk_sub (by omega)) ?_
        refine g_ald0 (pc' := 43) dX9_seenPlace_42 rfl ?_
        refine g_ild1 (pc' := 44) dX9_seenPlace_43 rfl ?_
        refine g_ild2 (pc' := 45) dX9_seenPlace_44 rfl ?_
        refine g_callV (pc' := 48) (c_mPlace l mg hn hN hw hf hs) mg.s40 (by decide) wX9_place lX9_194 rfl rfl (Nat.le_of_ble_eq_true rfl) ⟨Nat.le_of_ble_eq_true rfl, Nat.le_of_ble_eq_true rfl⟩ ⟨Nat.le_of_ble_eq_true rfl, Nat.le_of_ble_eq_true rfl⟩ dX9_seenPlace_45 rfl (kIp ?_)
        refine g_isub (pc' := 49) dX9_seenPlace_48 rfl ?_
        refine g_goto (tgt := 58) dX9_seenPlace_49 (by decide) ?_
        refine g_iret rfl dX9_seenPlace_58 ?_
        exact eIp (by unfold psI; (repeat' split) <;> first | rfl | (exfalso; rename_i q; exact absurd q.2 (Int32.not_lt.mpr h33)) | (exfalso; simp_all; done))
  · refine g_iconst (pc' := 10) (v := nI 0) dX9_seenPlace_9 rfl (by decide) ?_
    refine g_iret rfl dX9_seenPlace_10 ?_
    exact eIp (by unfold psI; (repeat' split) <;> first | rfl | (exfalso; rename_i q; exact absurd q.2 (Int32.not_lt.mpr h33)) | (exfalso; simp_all; done))

theorem c_mSongAt (l : Launch) {S : Shp} {I : MI} {L : ML} {R : MR} (mg : MG S R) {n : Nat} (hn : I (40, 0) 6 = nI n) (hN : n ≤ 12) {w : Nat} (hw : w < 11) {f : Nat → Int32} (hf : ∀ o, o < n → I (50, 0) (23 + 12 * w + o) = f o) {p : Nat} (hp : p < n) : Ct l mX9_songAt 3 0 0 [.inr (.inr (some (40, 0))), .inl (nI w), .inl (nI p)] S I L R (PIp S I L R (nI (rkO f n p))) := by
  refine Ct.of [some (.inr (.inr (some (40, 0)))), some (.inl (nI w)), some (.inl (nI p)), none] (by decide) rfl (Nat.le_of_ble_eq_true rfl) ?_
  refine g_iconst (pc' := 1) (v := nI 0) dX9_songAt_0 rfl (by decide) ?_
  refine g_ist3 (pc' := 2) rfl (by decide) dX9_songAt_1 rfl ?_
  have hr : rkO f n p < n := rkO_lt _ _ _ hp
  refine g_loop (σ := Unit) (fun _ _ => True) (fun i _ => [some (.inr (.inr (some (40, 0)))), some (.inl (nI w)), some (.inl (nI p)), some (.inl (nI i))]) (fun _ _ => I) (rkO f n p) 0 () (by omega) trivial ?_ ?_
  · intro i _ hi hP ih
    refine g_ald0 (pc' := 3) dX9_songAt_2 rfl ?_
    refine g_ild1 (pc' := 4) dX9_songAt_3 rfl ?_
    refine g_ild3 (pc' := 5) dX9_songAt_4 rfl ?_
    refine g_callV (pc' := 8) (c_mPlace l mg hn hN hw hf (s := i) (by omega)) mg.s40 (by decide) wX9_place lX9_194 rfl rfl (Nat.le_of_ble_eq_true rfl) ⟨Nat.le_of_ble_eq_true rfl, Nat.le_of_ble_eq_true rfl⟩ ⟨Nat.le_of_ble_eq_true rfl, Nat.le_of_ble_eq_true rfl⟩ dX9_songAt_5 rfl (kIp ?_)
    have hpl := (rk_plc (f := f) (n := n) (s := i) (by omega)).1
    refine g_ild2 (pc' := 9) dX9_songAt_8 rfl ?_
    refine g_icmpeqN (pc' := 12) (by omega) (by omega) (tgt := 18) dX9_songAt_9 (by decide) rfl (fun h9 => ?_) (fun h9 => ?_)
    · exact absurd h9 (fun e => by have := (rk_plc (f := f) (n := n) (s := i) (by omega)).2; rw [e] at this; omega)
    · refine g_inc3 (pc' := 15) rfl (by decide) (v := nI (i + 1)) (nI_1 _) dX9_songAt_12 rfl ?_
      refine g_goto (tgt := 2) dX9_songAt_15 (by decide) ?_
      exact ih () trivial
  · intro _ hP
    refine g_ald0 (pc' := 3) dX9_songAt_2 rfl ?_
    refine g_ild1 (pc' := 4) dX9_songAt_3 rfl ?_
    refine g_ild3 (pc' := 5) dX9_songAt_4 rfl ?_
    refine g_callV (pc' := 8) (c_mPlace l mg hn hN hw hf (s := (rkO f n p)) hr) mg.s40 (by decide) wX9_place lX9_194 rfl rfl (Nat.le_of_ble_eq_true rfl) ⟨Nat.le_of_ble_eq_true rfl, Nat.le_of_ble_eq_true rfl⟩ ⟨Nat.le_of_ble_eq_true rfl, Nat.le_of_ble_eq_true rfl⟩ dX9_songAt_5 rfl (kIp ?_)
    refine g_topi (v := nI p) (by rw [plc_rk hp]) ?_
    refine g_ild2 (pc' := 9) dX9_songAt_8 rfl ?_
    refine g_icmpeqN (pc' := 12) (by omega) (by omega) (tgt := 18) dX9_songAt_9 (by decide) rfl (fun h9 => ?_) (fun h9 => ?_)
    · refine g_ild3 (pc' := 19) dX9_songAt_18 rfl ?_
      refine g_iret rfl dX9_songAt_19 ?_
      exact eIp rfl
    · exact absurd h9 (by omega)

theorem c_mAll (l : Launch) {S : Shp} {I : MI} {L : ML} {R : MR} (mg : MG S R) {n : Nat} (hn : I (40, 0) 6 = nI n) (hN : n ≤ 12) {w : Nat} (hw : w < 11) {f : Nat → Int32} (hf : ∀ o, o < n → I (50, 0) (23 + 12 * w + o) = f o) : Ct l mX9_allCounts 2 0 0 [.inr (.inr (some (40, 0))), .inl (nI w)] S I L R (PIp S I L R (sumN f n)) := by
  refine Ct.of [some (.inr (.inr (some (40, 0)))), some (.inl (nI w)), none, none] (by decide) rfl (Nat.le_of_ble_eq_true rfl) ?_
  refine g_iconst (pc' := 1) (v := nI 0) dX9_allCounts_0 rfl (by decide) ?_
  refine g_ist2 (pc' := 2) rfl (by decide) dX9_allCounts_1 rfl ?_
  refine g_iconst (pc' := 3) (v := nI 0) dX9_allCounts_2 rfl (by decide) ?_
  refine g_ist3 (pc' := 4) rfl (by decide) dX9_allCounts_3 rfl ?_
  refine g_loop (σ := Unit) (fun _ _ => True) (fun i s => [some (.inr (.inr (some (40, 0)))), some (.inl (nI w)), some (.inl (sumN f i)), some (.inl (nI i))]) (fun i s => I) (n) (0) (()) (by omega) (trivial) ?_ ?_
  · intro i s hi hP ih
    refine g_ild3 (pc' := 5) dX9_allCounts_4 rfl ?_
    refine g_ald0 (pc' := 6) dX9_allCounts_5 rfl ?_
    refine g_getI (pc' := 9) mg.s40 (by decide) fX9_99 hn dX9_allCounts_6 rfl ?_
    refine g_icmpgeN (pc' := 12) (by omega) (by omega) (tgt := 27) dX9_allCounts_9 (by decide) rfl (fun h9 => ?_) (fun h9 => ?_)
    · exact absurd h9 (by omega)
    · refine g_ild2 (pc' := 13) dX9_allCounts_12 rfl ?_
      refine g_ald0 (pc' := 14) dX9_allCounts_13 rfl ?_
      refine g_ild1 (pc' := 15) dX9_allCounts_14 rfl ?_
      refine g_ild3 (pc' := 16) dX9_allCounts_15 rfl ?_
      refine g_callV (pc' := 19) (c_mCount l mg hw (s := i) (by omega) (hf _ hi)) mg.s40 (by decide) wX9_countOf lX9_191 rfl rfl (Nat.le_of_ble_eq_true rfl) ⟨Nat.le_of_ble_eq_true rfl, Nat.le_of_ble_eq_true rfl⟩ ⟨Nat.le_of_ble_eq_true rfl, Nat.le_of_ble_eq_true rfl⟩ dX9_allCounts_16 rfl (kIp ?_)
      refine g_iadd (pc' := 20) dX9_allCounts_19 rfl ?_
      refine g_ist2 (pc' := 21) rfl (by decide) dX9_allCounts_20 rfl ?_
      refine g_inc3 (pc' := 24) rfl (by decide) (v := nI (i + 1)) (nI_1 _) dX9_allCounts_21 rfl ?_
      refine g_goto (tgt := 4) dX9_allCounts_24 (by decide) ?_
      exact ih () trivial
  · intro s hP
    refine g_ild3 (pc' := 5) dX9_allCounts_4 rfl ?_
    refine g_ald0 (pc' := 6) dX9_allCounts_5 rfl ?_
    refine g_getI (pc' := 9) mg.s40 (by decide) fX9_99 hn dX9_allCounts_6 rfl ?_
    refine g_icmpgeN (pc' := 12) (by omega) (by omega) (tgt := 27) dX9_allCounts_9 (by decide) rfl (fun h9 => ?_) (fun h9 => ?_)
    · refine g_ild2 (pc' := 28) dX9_allCounts_27 rfl ?_
      refine g_iret rfl dX9_allCounts_28 ?_
      exact eIp rfl
    · exact absurd h9 (by omega)

def bdN (f : Nat → Int32) (n : Nat) : Prop := ∀ o, o < n → ∃ q, q ≤ 99999 ∧ f o = nI q
theorem sum_bd {f : Nat → Int32} : ∀ {n : Nat}, bdN f n → ∃ q, q ≤ 99999 * n ∧ sumN f n = nI q
  | 0, _ => ⟨0, Nat.le_refl _, rfl⟩
  | n + 1, h => by
    obtain ⟨a, ha, ea⟩ := sum_bd (n := n) (fun o ho => h o (by omega))
    obtain ⟨b, hb, eb⟩ := h n (by omega)
    exact ⟨a + b, by omega, by rw [sumN_s, ea, eb, nI_add]⟩
theorem share_l {f : Nat → Int32} {n s : Nat} (hN : n ≤ 12) (hb : bdN f n) (hs : s < n) (h0 : ¬ sumN f n = 0) : ((1000 : Int64) * (f s).toInt64 / (sumN f n).toInt64).toInt32 = shareI f n s := by
  unfold shareI
  obtain ⟨a, ha, ea⟩ := sum_bd hb
  obtain ⟨b, hb, eb⟩ := hb s hs
  have h00 : ¬ a = 0 := fun e => h0 (by rw [ea, e]; rfl)
  rw [if_neg h0, ea, eb, nI_l (by omega), nI_l (by omega), show (1000 : Int64) = lN 1000 from rfl, lN_mul, pk_lDiv (by omega) (by omega) (by omega), lN_i, pk_mul, pk_div (by omega) (by omega) (by omega), Nat.mul_comm 1000 b]
theorem c_mShare (l : Launch) {S : Shp} {I : MI} {L : ML} {R : MR} (mg : MG S R) {n : Nat} (hn : I (40, 0) 6 = nI n) (hN : n ≤ 12) {w : Nat} (hw : w < 11) {f : Nat → Int32} (hf : ∀ o, o < n → I (50, 0) (23 + 12 * w + o) = f o) (hb : bdN f n) {s : Nat} (hs : s < n) : Ct l mX9_share 3 0 0 [.inr (.inr (some (40, 0))), .inl (nI w), .inl (nI s)] S I L R (PIp S I L R (shareI f n s)) := by
  refine Ct.of [some (.inr (.inr (some (40, 0)))), some (.inl (nI w)), some (.inl (nI s)), none] (by decide) rfl (Nat.le_of_ble_eq_true rfl) ?_
  refine g_ald0 (pc' := 1) dX9_share_0 rfl ?_
  refine g_ild1 (pc' := 2) dX9_share_1 rfl ?_
  refine g_callV (pc' := 5) (c_mAll l mg hn hN hw hf) mg.s40 (by decide) wX9_allCounts lX9_204 rfl rfl (Nat.le_of_ble_eq_true rfl) ⟨Nat.le_of_ble_eq_true rfl, Nat.le_of_ble_eq_true rfl⟩ ⟨Nat.le_of_ble_eq_true rfl, Nat.le_of_ble_eq_true rfl⟩ dX9_share_2 rfl (kIp ?_)
  refine g_ist3 (pc' := 6) rfl (by decide) dX9_share_5 rfl ?_
  refine g_ild3 (pc' := 7) dX9_share_6 rfl ?_
  refine g_ifne (pc' := 10) (tgt := 14) dX9_share_7 (by decide) rfl (fun h7 => ?_) (fun h7 => ?_)
  · refine g_ldc2 (pc' := 17) dX9_share_14 rfl kX9_207 ?_
    refine g_ald0 (pc' := 18) dX9_share_17 rfl ?_
    refine g_ild1 (pc' := 19) dX9_share_18 rfl ?_
    refine g_ild2 (pc' := 20) dX9_share_19 rfl ?_
    refine g_callV (pc' := 23) (c_mCount l mg hw (s := s) (by omega) (hf _ hs)) mg.s40 (by decide) wX9_countOf lX9_191 rfl rfl (Nat.le_of_ble_eq_true rfl) ⟨Nat.le_of_ble_eq_true rfl, Nat.le_of_ble_eq_true rfl⟩ ⟨Nat.le_of_ble_eq_true rfl, Nat.le_of_ble_eq_true rfl⟩ dX9_share_20 rfl (kIp ?_)
    refine g_i2l (pc' := 24) dX9_share_23 rfl ?_
    refine g_lmul (pc' := 25) dX9_share_24 rfl ?_
    refine g_ild3 (pc' := 26) dX9_share_25 rfl ?_
    refine g_i2l (pc' := 27) dX9_share_26 rfl ?_
    refine g_ldiv (pc' := 28) dX9_share_27 rfl (ne64 h7) ?_
    refine g_l2i (pc' := 29) dX9_share_28 rfl ?_
    refine g_iret rfl dX9_share_29 ?_
    exact eIp (by first | exact share_l hN hb hs h7 | (unfold shareI; rw [if_pos h7]))
  · refine g_iconst (pc' := 11) (v := nI 0) dX9_share_10 rfl (by decide) ?_
    refine g_goto (tgt := 29) dX9_share_11 (by decide) ?_
    refine g_iret rfl dX9_share_29 ?_
    exact eIp (by first | exact share_l hN hb hs h7 | (unfold shareI; rw [if_pos h7]))
