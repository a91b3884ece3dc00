/-! the model: strong -/
def bgP (w : Nat) (t : Tok) (i : Nat) : Prop := ((t = (69, 0) ∨ t = (70, 0) ∨ t = (71, 0) ∨ t = (72, 0) ∨ t = (73, 0) ∨ t = (74, 0)) ∧ i = w) ∨ (t = (50, 0) ∧ (i = 12 + w ∨ (23 + 12 * w ≤ i ∧ i < 23 + 12 * w + 12)))
theorem bgA_w {I : MI} {w : Nat} {a b c d e : Int32} : Fr (bgP w) I (bgA I w a b c d e) := by
  unfold bgA
  refine Fr.up (Fr.up (Fr.up (Fr.up (Fr.up (Fr.up (Fr.up Fr.rf ?_) ?_) ?_) ?_) ?_) ?_) ?_ <;> simp [bgP]
theorem zc_at {I : MI} {w o : Nat} (h : o < 12) : zc I w 12 (50, 0) (23 + 12 * w + o) = nI 0 := by
  unfold zc
  rw [upT_s]
  exact if_pos (by omega)
theorem zc_no {I : MI} {w i : Nat} (h : ¬ (23 + 12 * w ≤ i ∧ i < 23 + 12 * w + 12)) : zc I w 12 (50, 0) i = I (50, 0) i := by
  unfold zc
  rw [upT_s]
  exact if_neg h
theorem zc_n {I : MI} {w k : Nat} {t : Tok} (h : t ≠ (50, 0)) : zc I w k t = I t := by unfold zc; rw [upT_n _ h]
theorem zc_w {I : MI} {w : Nat} : Fr (bgP w) I (zc I w 12) := fun t i q => by
  by_cases h : t = (50, 0)
  · subst h
    exact zc_no (fun z => q (by simp [bgP]; omega))
  · rw [zc_n h]
theorem bgnI_w {I : MI} {w : Nat} {a b c d e : Int32} : Fr (bgP w) I (bgnI I w a b c d e) := bgA_w.tr zc_w
theorem bgnI_69 {I : MI} {w : Nat} {a b c d e : Int32} : bgnI I w a b c d e (69, 0) w = a := by
  unfold bgnI; rw [zc_n (by simp)]; simp [bgA, upM]
theorem bgnI_70 {I : MI} {w : Nat} {a b c d e : Int32} : bgnI I w a b c d e (70, 0) w = b := by
  unfold bgnI; rw [zc_n (by simp)]; simp [bgA, upM]
theorem bgnI_71 {I : MI} {w : Nat} {a b c d e : Int32} : bgnI I w a b c d e (71, 0) w = c := by
  unfold bgnI; rw [zc_n (by simp)]; simp [bgA, upM]
theorem bgnI_72 {I : MI} {w : Nat} {a b c d e : Int32} : bgnI I w a b c d e (72, 0) w = e := by
  unfold bgnI; rw [zc_n (by simp)]; simp [bgA, upM]
theorem bgnI_73 {I : MI} {w : Nat} {a b c d e : Int32} : bgnI I w a b c d e (73, 0) w = nI 0 := by
  unfold bgnI; rw [zc_n (by simp)]; simp [bgA, upM]
theorem bgnI_74 {I : MI} {w : Nat} {a b c d e : Int32} : bgnI I w a b c d e (74, 0) w = nI 0 := by
  unfold bgnI; rw [zc_n (by simp)]; simp [bgA, upM]
theorem bgnI_no {I : MI} {w : Nat} {a b c d e : Int32} : bgnI I w a b c d e (50, 0) (12 + w) = d := by
  unfold bgnI; rw [zc_no (by omega)]; simp [bgA, upM]
theorem bgnI_ct {I : MI} {w o : Nat} {a b c d e : Int32} (h : o < 12) : bgnI I w a b c d e (50, 0) (23 + 12 * w + o) = nI 0 := zc_at h
theorem bgnI_bd {I : MI} {w n : Nat} {a b c d e : Int32} (hN : n ≤ 12) : bdW (bgnI I w a b c d e) w n := fun o ho => ⟨0, by omega, bgnI_ct (by omega)⟩
def apM (I : MI) (n v w : Nat) : Int32 := sumN (fun s => absI (shareI (cnM I v) n s - shareI (cnM I w) n s)) n / nI 2
def aiM (I : MI) (B : Nat → Nat) (len n a lj : Nat) (z v : Int32) (J : MI) : Prop := ∃ J2, Fr fwP (manyMi B len 9 n a (bgnI I 9 (nI lj) (nI 1) (nI 0) (nI 0) z) 0).1 J2 ∧ Fr fwP (manyMi B len 10 n a (bgnI J2 10 (nI lj) (nI 1) (nI 0) (nI 0) (z + nI 1)) 0).1 J ∧ v = apM J n 9 10
def auP (t : Tok) (i : Nat) : Prop := fwP t i ∨ bgP 9 t i ∨ owP 9 t i ∨ bgP 10 t i ∨ owP 10 t i
theorem aiM_fr {I J : MI} {B : Nat → Nat} {len n a lj : Nat} {z v : Int32} (hN : n ≤ 12) (h : aiM I B len n a lj z v J) : Fr auP I J := by
  obtain ⟨J2, h1, h2, -⟩ := h
  have a1 := (manyMi_w (B := B) (len := len) hN bgnI_74 (bgnI_bd (I := I) (w := 9) (a := nI lj) (b := nI 1) (c := nI 0) (d := nI 0) (e := z) hN) a).1
  have a2 := (manyMi_w (B := B) (len := len) hN bgnI_74 (bgnI_bd (I := J2) (w := 10) (a := nI lj) (b := nI 1) (c := nI 0) (d := nI 0) (e := z + nI 1) hN) a).1
  refine Fr.tr (Fr.tr (Fr.tr (Fr.tr (Fr.tr (bgnI_w.le ?_) (a1.le ?_)) (h1.le ?_)) (bgnI_w.le ?_)) (a2.le ?_)) (h2.le ?_) <;> intro t i q <;> simp only [auP, q, true_or, or_true]
theorem c_mUnlikeBy (l : Launch) {S : Shp} {I : MI} {L : ML} {R : MR} (mg : MG S R) {n : Nat} (hn : I (40, 0) 6 = nI n) (hN : n ≤ 12) {B : Nat → Nat} {len lj : Nat} (tl : TL B len lj I) {a : Nat} (ha : a ≤ 400) (z : Int32) : Ct l mX9_unlikeBy 52 0 0 [.inr (.inr (some (40, 0))), .inl (nI lj), .inl (nI a), .inl z] S I L R (PIm S L R (fun v J => aiM I B len n a lj z v J)) := by
  refine Ct.of [some (.inr (.inr (some (40, 0)))), some (.inl (nI lj)), some (.inl (nI a)), some (.inl z), none, none] (by decide) rfl (Nat.le_of_ble_eq_true rfl) ?_
  refine g_iconst (pc' := 1) (v := nI 0) dX9_unlikeBy_0 rfl (by decide) ?_
  refine g_ist4 (pc' := 3) rfl (by decide) dX9_unlikeBy_1 rfl ?_
  refine g_ild4 (pc' := 5) dX9_unlikeBy_3 rfl ?_
  refine g_iconst (pc' := 6) (v := nI 2) dX9_unlikeBy_5 rfl (by decide) ?_
  refine g_icmpgeN (pc' := 9) (by omega) (by omega) (tgt := 44) dX9_unlikeBy_6 (by decide) rfl (fun h6 => ?_) (fun h6 => ?_)
  · exact absurd h6 (by omega)
  · refine g_ald0 (pc' := 10) dX9_unlikeBy_9 rfl ?_
    refine g_bipush (pc' := 12) (v := nI 9) dX9_unlikeBy_10 rfl (by decide) ?_
    refine g_ild4 (pc' := 14) dX9_unlikeBy_12 rfl ?_
    refine g_iadd (pc' := 15) dX9_unlikeBy_14 rfl ?_
    refine g_topi (v := nI 9) (rfl) ?_
    refine g_ild1 (pc' := 16) dX9_unlikeBy_15 rfl ?_
    refine g_iconst (pc' := 17) (v := nI 1) dX9_unlikeBy_16 rfl (by decide) ?_
    refine g_iconst (pc' := 18) (v := nI 0) dX9_unlikeBy_17 rfl (by decide) ?_
    refine g_iconst (pc' := 19) (v := nI 0) dX9_unlikeBy_18 rfl (by decide) ?_
    refine g_ild3 (pc' := 20) dX9_unlikeBy_19 rfl ?_
    refine g_ild4 (pc' := 22) dX9_unlikeBy_20 rfl ?_
    refine g_iadd (pc' := 23) dX9_unlikeBy_22 rfl ?_
    refine g_topi (v := z) (Int32.add_zero z) ?_
    refine g_callV (pc' := 26) (c_mBegins l mg (w := 9) (by omega) (nI lj) (nI 1) (nI 0) (nI 0) z) mg.s40 (by decide) wX9_begins lX9_182 rfl rfl (Nat.le_of_ble_eq_true rfl) ⟨Nat.le_of_ble_eq_true rfl, Nat.le_of_ble_eq_true rfl⟩ ⟨Nat.le_of_ble_eq_true rfl, Nat.le_of_ble_eq_true rfl⟩ dX9_unlikeBy_23 rfl (kV (fun K hK => ?_))
    have gK1 : ∀ t i, ¬ auP t i → K t i = I t i := fun t i q => by
      rw [hK]
      exact bgnI_w _ _ (fun q2 => q (by simp only [auP, q2, true_or, or_true]))
    have w9 := manyMi_w (B := B) (len := len) hN bgnI_74 (bgnI_bd (I := I) (w := 9) (a := nI lj) (b := nI 1) (c := nI 0) (d := nI 0) (e := z) hN) a
    refine g_ald0 (pc' := 27) dX9_unlikeBy_26 rfl ?_
    refine g_bipush (pc' := 29) (v := nI 9) dX9_unlikeBy_27 rfl (by decide) ?_
    refine g_ild4 (pc' := 31) dX9_unlikeBy_29 rfl ?_
    refine g_iadd (pc' := 32) dX9_unlikeBy_31 rfl ?_
    refine g_topi (v := nI 9) (rfl) ?_
    refine g_ild2 (pc' := 33) dX9_unlikeBy_32 rfl ?_
    refine g_callV (pc' := 36) (c_mComesA l (I := K) mg ((gK1 _ _ (by simp [auP, owP, mwP, bgP, fwP, wgP, woP])).trans hn) hN (w := 9) (by omega) (tl.to (fun i => gK1 _ _ (by simp [auP, owP, mwP, bgP, fwP, wgP, woP])) (fun i => gK1 _ _ (by simp [auP, owP, mwP, bgP, fwP, wgP, woP]))) (by rw [hK]; exact bgnI_69) (no := 0) (by rw [hK]; exact bgnI_no) (by omega) (ke := 0) (by rw [hK]; exact bgnI_74) (a := a) (by omega) (by rw [hK]; exact bgnI_bd hN)) mg.s40 (by decide) wX9_comesAll lX9_236 rfl rfl (Nat.le_of_ble_eq_true rfl) ⟨Nat.le_of_ble_eq_true rfl, Nat.le_of_ble_eq_true rfl⟩ ⟨Nat.le_of_ble_eq_true rfl, Nat.le_of_ble_eq_true rfl⟩ dX9_unlikeBy_33 rfl (kI (fun v2 J2 hq2 => ?_))
    rw [hK] at hq2
    have gJ2 : ∀ t i, ¬ auP t i → J2 t i = I t i := fun t i q => (hq2.2 _ _ (fun q2 => q (by simp only [auP, q2, true_or, or_true]))).trans ((w9.1 _ _ (fun q2 => q (by simp only [auP, q2, true_or, or_true]))).trans (bgnI_w _ _ (fun q2 => q (by simp only [auP, q2, true_or, or_true]))))
    refine g_ist5 (pc' := 38) rfl (by decide) dX9_unlikeBy_36 rfl ?_
    refine g_inc4 (pc' := 41) rfl (by decide) (v := nI (0 + 1)) (nI_1 _) dX9_unlikeBy_38 rfl ?_
    refine g_goto (tgt := 3) dX9_unlikeBy_41 (by decide) ?_
    refine g_ild4 (pc' := 5) dX9_unlikeBy_3 rfl ?_
    refine g_iconst (pc' := 6) (v := nI 2) dX9_unlikeBy_5 rfl (by decide) ?_
    refine g_icmpgeN (pc' := 9) (by omega) (by omega) (tgt := 44) dX9_unlikeBy_6 (by decide) rfl (fun h6 => ?_) (fun h6 => ?_)
    · exact absurd h6 (by omega)
    · refine g_ald0 (pc' := 10) dX9_unlikeBy_9 rfl ?_
      refine g_bipush (pc' := 12) (v := nI 9) dX9_unlikeBy_10 rfl (by decide) ?_
      refine g_ild4 (pc' := 14) dX9_unlikeBy_12 rfl ?_
      refine g_iadd (pc' := 15) dX9_unlikeBy_14 rfl ?_
      refine g_topi (v := nI 10) (rfl) ?_
      refine g_ild1 (pc' := 16) dX9_unlikeBy_15 rfl ?_
      refine g_iconst (pc' := 17) (v := nI 1) dX9_unlikeBy_16 rfl (by decide) ?_
      refine g_iconst (pc' := 18) (v := nI 0) dX9_unlikeBy_17 rfl (by decide) ?_
      refine g_iconst (pc' := 19) (v := nI 0) dX9_unlikeBy_18 rfl (by decide) ?_
      refine g_ild3 (pc' := 20) dX9_unlikeBy_19 rfl ?_
      refine g_ild4 (pc' := 22) dX9_unlikeBy_20 rfl ?_
      refine g_iadd (pc' := 23) dX9_unlikeBy_22 rfl ?_
      refine g_topi (v := z + nI 1) (rfl) ?_
      refine g_callV (pc' := 26) (c_mBegins l mg (w := 10) (by omega) (nI lj) (nI 1) (nI 0) (nI 0) (z + nI 1)) mg.s40 (by decide) wX9_begins lX9_182 rfl rfl (Nat.le_of_ble_eq_true rfl) ⟨Nat.le_of_ble_eq_true rfl, Nat.le_of_ble_eq_true rfl⟩ ⟨Nat.le_of_ble_eq_true rfl, Nat.le_of_ble_eq_true rfl⟩ dX9_unlikeBy_23 rfl (kV (fun K hK => ?_))
      have gK : ∀ t i, ¬ auP t i → K t i = I t i := fun t i q => by
        rw [hK]
        exact (bgnI_w _ _ (fun q2 => q (by simp only [auP, q2, true_or, or_true]))).trans (gJ2 t i q)
      have w10 := manyMi_w (B := B) (len := len) hN bgnI_74 (bgnI_bd (I := J2) (w := 10) (a := nI lj) (b := nI 1) (c := nI 0) (d := nI 0) (e := z + nI 1) hN) a
      refine g_ald0 (pc' := 27) dX9_unlikeBy_26 rfl ?_
      refine g_bipush (pc' := 29) (v := nI 9) dX9_unlikeBy_27 rfl (by decide) ?_
      refine g_ild4 (pc' := 31) dX9_unlikeBy_29 rfl ?_
      refine g_iadd (pc' := 32) dX9_unlikeBy_31 rfl ?_
      refine g_topi (v := nI 10) (rfl) ?_
      refine g_ild2 (pc' := 33) dX9_unlikeBy_32 rfl ?_
      refine g_callV (pc' := 36) (c_mComesA l (I := K) mg ((gK _ _ (by simp [auP, owP, mwP, bgP, fwP, wgP, woP])).trans hn) hN (w := 10) (by omega) (tl.to (fun i => gK _ _ (by simp [auP, owP, mwP, bgP, fwP, wgP, woP])) (fun i => gK _ _ (by simp [auP, owP, mwP, bgP, fwP, wgP, woP]))) (by rw [hK]; exact bgnI_69) (no := 0) (by rw [hK]; exact bgnI_no) (by omega) (ke := 0) (by rw [hK]; exact bgnI_74) (a := a) (by omega) (by rw [hK]; exact bgnI_bd hN)) mg.s40 (by decide) wX9_comesAll lX9_236 rfl rfl (Nat.le_of_ble_eq_true rfl) ⟨Nat.le_of_ble_eq_true rfl, Nat.le_of_ble_eq_true rfl⟩ ⟨Nat.le_of_ble_eq_true rfl, Nat.le_of_ble_eq_true rfl⟩ dX9_unlikeBy_33 rfl (kI (fun v3 J3 hq3 => ?_))
      rw [hK] at hq3
      refine g_ist5 (pc' := 38) rfl (by decide) dX9_unlikeBy_36 rfl ?_
      refine g_inc4 (pc' := 41) rfl (by decide) (v := nI (0 + 1 + 1)) (nI_1 _) dX9_unlikeBy_38 rfl ?_
      refine g_goto (tgt := 3) dX9_unlikeBy_41 (by decide) ?_
      have hai : aiM I B len n a lj z (apM J3 n 9 10) J3 := ⟨J2, hq2.2, hq3.2, rfl⟩
      have hn3 : J3 (40, 0) 6 = nI n := (aiM_fr hN hai _ _ (by simp [auP, owP, mwP, bgP, fwP, wgP, woP])).trans hn
      have hb10 : bdN (cnM J3 10) n := fun o ho => by
        obtain ⟨q, hq, e⟩ := w10.2.2.1 o ho
        exact ⟨q, hq, (hq3.2 _ _ (by simp [fwP, wgP, woP])).trans e⟩
      have hb9 : bdN (cnM J3 9) n := fun o ho => by
        obtain ⟨q, hq, e⟩ := w9.2.2.1 o ho
        exact ⟨q, hq, (hq3.2 _ _ (by simp [fwP, wgP, woP])).trans ((w10.1 _ _ (by simp [owP, mwP]; omega)).trans ((bgnI_w _ _ (by simp [bgP]; omega)).trans ((hq2.2 _ _ (by simp [fwP, wgP, woP])).trans e)))⟩
      refine g_ild4 (pc' := 5) dX9_unlikeBy_3 rfl ?_
      refine g_iconst (pc' := 6) (v := nI 2) dX9_unlikeBy_5 rfl (by decide) ?_
      refine g_icmpgeN (pc' := 9) (by omega) (by omega) (tgt := 44) dX9_unlikeBy_6 (by decide) rfl (fun h6 => ?_) (fun h6 => ?_)
      · refine g_ald0 (pc' := 45) dX9_unlikeBy_44 rfl ?_
        refine g_bipush (pc' := 47) (v := nI 9) dX9_unlikeBy_45 rfl (by decide) ?_
        refine g_bipush (pc' := 49) (v := nI 10) dX9_unlikeBy_47 rfl (by decide) ?_
        refine g_callV (pc' := 52) (c_mUnlikeOf l (I := J3) mg hn3 hN (v := 9) (w := 10) (by omega) (by omega) (f := cnM J3 9) (g := cnM J3 10) (fun _ _ => rfl) hb9 (fun _ _ => rfl) hb10) mg.s40 (by decide) wX9_unlikeOf lX9_254 rfl rfl (Nat.le_of_ble_eq_true rfl) ⟨Nat.le_of_ble_eq_true rfl, Nat.le_of_ble_eq_true rfl⟩ ⟨Nat.le_of_ble_eq_true rfl, Nat.le_of_ble_eq_true rfl⟩ dX9_unlikeBy_49 rfl (kIp ?_)
        refine g_iret rfl dX9_unlikeBy_52 ?_
        exact eI hai
      · exact absurd h6 (by omega)

theorem c_mStrongN (l : Launch) {S : Shp} {I : MI} {L : ML} {R : MR} (mg : MG S R) {c : Nat} (hc : I (40, 0) 9 = nI c) (hC : c ≤ 6) {x y : Int32} (hb : x < 0 ∨ inb (x / nI 10) c = false ∨ inb (x - x / nI 10 * nI 10) c = false ∨ x / nI 10 = x - x / nI 10 * nI 10 ∨ y < nI 1 ∨ nI 400 < y) (z : Int32) : Ct l mX9_strong 3 0 0 [.inr (.inr (some (40, 0))), .inl x, .inl y, .inl z] S I L R (PIp S I L R (-2000000000)) := by
  refine Ct.of [some (.inr (.inr (some (40, 0)))), some (.inl x), some (.inl y), some (.inl z)] (by decide) rfl (Nat.le_of_ble_eq_true rfl) ?_
  refine g_ild1 (pc' := 1) dX9_strong_0 rfl ?_
  refine g_iflt (pc' := 4) (tgt := 49) dX9_strong_1 (by decide) rfl (fun h1 => ?_) (fun h1 => ?_)
  · refine g_ldcw (pc' := 52) dX9_strong_49 rfl kX9_291 ?_
    refine g_iret rfl dX9_strong_52 ?_
    exact eIp rfl
  · refine g_ald0 (pc' := 5) dX9_strong_4 rfl ?_
    refine g_ild1 (pc' := 6) dX9_strong_5 rfl ?_
    refine g_bipush (pc' := 8) (v := nI 10) dX9_strong_6 rfl (by decide) ?_
    refine g_idiv (pc' := 9) dX9_strong_8 rfl (by decide) ?_
    refine g_callV (pc' := 12) (c_misLaw l mg hc hC (x / nI 10)) mg.s40 (by decide) wX9_isLaw lX9_177 rfl rfl (Nat.le_of_ble_eq_true rfl) ⟨Nat.le_of_ble_eq_true rfl, Nat.le_of_ble_eq_true rfl⟩ ⟨Nat.le_of_ble_eq_true rfl, Nat.le_of_ble_eq_true rfl⟩ dX9_strong_9 rfl (kIp ?_)
    refine g_ifeqB (pc' := 15) (tgt := 49) dX9_strong_12 (by decide) rfl (fun h12 => ?_) (fun h12 => ?_)
    · refine g_ldcw (pc' := 52) dX9_strong_49 rfl kX9_291 ?_
      refine g_iret rfl dX9_strong_52 ?_
      exact eIp rfl
    · refine g_ald0 (pc' := 16) dX9_strong_15 rfl ?_
      refine g_ild1 (pc' := 17) dX9_strong_16 rfl ?_
      refine g_bipush (pc' := 19) (v := nI 10) dX9_strong_17 rfl (by decide) ?_
      refine g_irem (pc' := 20) dX9_strong_19 rfl (by decide) ?_
      refine g_callV (pc' := 23) (c_misLaw l mg hc hC (x - x / nI 10 * nI 10)) mg.s40 (by decide) wX9_isLaw lX9_177 rfl rfl (Nat.le_of_ble_eq_true rfl) ⟨Nat.le_of_ble_eq_true rfl, Nat.le_of_ble_eq_true rfl⟩ ⟨Nat.le_of_ble_eq_true rfl, Nat.le_of_ble_eq_true rfl⟩ dX9_strong_20 rfl (kIp ?_)
      refine g_ifeqB (pc' := 26) (tgt := 49) dX9_strong_23 (by decide) rfl (fun h23 => ?_) (fun h23 => ?_)
      · refine g_ldcw (pc' := 52) dX9_strong_49 rfl kX9_291 ?_
        refine g_iret rfl dX9_strong_52 ?_
        exact eIp rfl
      · refine g_ild1 (pc' := 27) dX9_strong_26 rfl ?_
        refine g_bipush (pc' := 29) (v := nI 10) dX9_strong_27 rfl (by decide) ?_
        refine g_idiv (pc' := 30) dX9_strong_29 rfl (by decide) ?_
        refine g_ild1 (pc' := 31) dX9_strong_30 rfl ?_
        refine g_bipush (pc' := 33) (v := nI 10) dX9_strong_31 rfl (by decide) ?_
        refine g_irem (pc' := 34) dX9_strong_33 rfl (by decide) ?_
        refine g_icmpeq (pc' := 37) (tgt := 49) dX9_strong_34 (by decide) rfl (fun h34 => ?_) (fun h34 => ?_)
        · refine g_ldcw (pc' := 52) dX9_strong_49 rfl kX9_291 ?_
          refine g_iret rfl dX9_strong_52 ?_
          exact eIp rfl
        · refine g_ild2 (pc' := 38) dX9_strong_37 rfl ?_
          refine g_i2l (pc' := 39) dX9_strong_38 rfl ?_
          refine g_lconst (pc' := 40) (v := 1) dX9_strong_39 rfl (by decide) ?_
          refine g_ldc2 (pc' := 43) dX9_strong_40 rfl kX9_303 ?_
          refine g_callS (pc' := 46) (c_mWI l y (nI 1) (nI 400) (A := 1) (B := 400) (by decide) (by decide)) wX9_within lX9_102 rfl rfl (Nat.le_of_ble_eq_true rfl) ⟨Nat.le_of_ble_eq_true rfl, Nat.le_of_ble_eq_true rfl⟩ ⟨Nat.le_of_ble_eq_true rfl, Nat.le_of_ble_eq_true rfl⟩ dX9_strong_43 rfl (kIp ?_)
          refine g_ifneB (pc' := 49) (tgt := 53) dX9_strong_46 (by decide) rfl (fun h46 => ?_) (fun h46 => ?_)
          · exfalso
            rcases hb with h | h | h | h | h | h
            · exact h1 h
            · rw [h] at h12; cases h12
            · rw [h] at h23; cases h23
            · exact h34 h
            · exact wi_no (Or.inl h) h46
            · exact wi_no (Or.inr h) h46
          · refine g_ldcw (pc' := 52) dX9_strong_49 rfl kX9_291 ?_
            refine g_iret rfl dX9_strong_52 ?_
            exact eIp rfl

theorem c_mStrongS (l : Launch) {S : Shp} {I : MI} {L : ML} {R : MR} (mg : MG S R) {n : Nat} (hn : I (40, 0) 6 = nI n) (hN : n ≤ 12) {c : Nat} (hc : I (40, 0) 9 = nI c) (hC : c ≤ 6) {x : Nat} (hx : x < 2 ^ 31) {B1 B2 : Nat → Nat} {len1 len2 : Nat} (tl1 : TL B1 len1 (x / 10) I) (tl2 : TL B2 len2 (x % 10) I) (h1c : x / 10 < c) (h2c : x % 10 < c) (hne : ¬ x / 10 = x % 10) {a : Nat} (ha : 1 ≤ a ∧ a ≤ 400) (z : Int32) : Ct l mX9_strong 53 0 0 [.inr (.inr (some (40, 0))), .inl (nI x), .inl (nI a), .inl z] S I L R (PIm S L R (fun v J => ∃ v1 v2 J1, aiM I B1 len1 n a (x / 10) z v1 J1 ∧ aiM J1 B2 len2 n a (x % 10) z v2 J ∧ v = v1 - v2)) := by
  refine Ct.of [some (.inr (.inr (some (40, 0)))), some (.inl (nI x)), some (.inl (nI a)), some (.inl z)] (by decide) rfl (Nat.le_of_ble_eq_true rfl) ?_
  refine g_ild1 (pc' := 1) dX9_strong_0 rfl ?_
  refine g_ifltN (pc' := 4) (by omega) dX9_strong_1 rfl ?_
  refine g_ald0 (pc' := 5) dX9_strong_4 rfl ?_
  refine g_ild1 (pc' := 6) dX9_strong_5 rfl ?_
  refine g_bipush (pc' := 8) (v := nI 10) dX9_strong_6 rfl (by decide) ?_
  refine g_idivN (pc' := 9) (by omega) dX9_strong_8 rfl ?_
  refine g_callV (pc' := 12) (c_misLaw l mg hc hC (nI (x / 10))) mg.s40 (by decide) wX9_isLaw lX9_177 rfl rfl (Nat.le_of_ble_eq_true rfl) ⟨Nat.le_of_ble_eq_true rfl, Nat.le_of_ble_eq_true rfl⟩ ⟨Nat.le_of_ble_eq_true rfl, Nat.le_of_ble_eq_true rfl⟩ dX9_strong_9 rfl (kIp ?_)
  refine g_ifeqB (pc' := 15) (tgt := 49) dX9_strong_12 (by decide) rfl (fun h12 => (by first | exact absurd h12 (by rw [inb_nI (by omega) (by omega)]; simp [h1c]) | exact absurd (by rw [inb_nI (by omega) (by omega)]; simp [h1c]) h12)) (fun h12 => ?_)
  refine g_ald0 (pc' := 16) dX9_strong_15 rfl ?_
  refine g_ild1 (pc' := 17) dX9_strong_16 rfl ?_
  refine g_bipush (pc' := 19) (v := nI 10) dX9_strong_17 rfl (by decide) ?_
  refine g_iremN (pc' := 20) (by omega) dX9_strong_19 rfl ?_
  refine g_callV (pc' := 23) (c_misLaw l mg hc hC (nI (x % 10))) mg.s40 (by decide) wX9_isLaw lX9_177 rfl rfl (Nat.le_of_ble_eq_true rfl) ⟨Nat.le_of_ble_eq_true rfl, Nat.le_of_ble_eq_true rfl⟩ ⟨Nat.le_of_ble_eq_true rfl, Nat.le_of_ble_eq_true rfl⟩ dX9_strong_20 rfl (kIp ?_)
  refine g_ifeqB (pc' := 26) (tgt := 49) dX9_strong_23 (by decide) rfl (fun h23 => (by first | exact absurd h23 (by rw [inb_nI (by omega) (by omega)]; simp [h2c]) | exact absurd (by rw [inb_nI (by omega) (by omega)]; simp [h2c]) h23)) (fun h23 => ?_)
  refine g_ild1 (pc' := 27) dX9_strong_26 rfl ?_
  refine g_bipush (pc' := 29) (v := nI 10) dX9_strong_27 rfl (by decide) ?_
  refine g_idivN (pc' := 30) (by omega) dX9_strong_29 rfl ?_
  refine g_ild1 (pc' := 31) dX9_strong_30 rfl ?_
  refine g_bipush (pc' := 33) (v := nI 10) dX9_strong_31 rfl (by decide) ?_
  refine g_iremN (pc' := 34) (by omega) dX9_strong_33 rfl ?_
  refine g_icmpeqN (pc' := 37) (by omega) (by omega) (tgt := 49) dX9_strong_34 (by decide) rfl (fun h34 => ?_) (fun h34 => ?_)
  · exact absurd h34 (by omega)
  · refine g_ild2 (pc' := 38) dX9_strong_37 rfl ?_
    refine g_i2l (pc' := 39) dX9_strong_38 rfl ?_
    refine g_lconst (pc' := 40) (v := 1) dX9_strong_39 rfl (by decide) ?_
    refine g_ldc2 (pc' := 43) dX9_strong_40 rfl kX9_303 ?_
    refine g_callS (pc' := 46) (c_mWI l (nI a) (nI 1) (nI 400) (A := 1) (B := 400) (by decide) (by decide)) wX9_within lX9_102 rfl rfl (Nat.le_of_ble_eq_true rfl) ⟨Nat.le_of_ble_eq_true rfl, Nat.le_of_ble_eq_true rfl⟩ ⟨Nat.le_of_ble_eq_true rfl, Nat.le_of_ble_eq_true rfl⟩ dX9_strong_43 rfl (kIp ?_)
    refine g_ifneB (pc' := 49) (tgt := 53) dX9_strong_46 (by decide) rfl (fun h46 => ?_) (fun h46 => (by first | exact absurd h46 (wi_yesN (by omega) (by decide)) | exact absurd (wi_yesN (by omega) (by decide)) h46))
    refine g_ald0 (pc' := 54) dX9_strong_53 rfl ?_
    refine g_ild1 (pc' := 55) dX9_strong_54 rfl ?_
    refine g_bipush (pc' := 57) (v := nI 10) dX9_strong_55 rfl (by decide) ?_
    refine g_idivN (pc' := 58) (by omega) dX9_strong_57 rfl ?_
    refine g_ild2 (pc' := 59) dX9_strong_58 rfl ?_
    refine g_ild3 (pc' := 60) dX9_strong_59 rfl ?_
    refine g_callV (pc' := 63) (c_mUnlikeBy l mg hn hN tl1 ha.2 z) mg.s40 (by decide) wX9_unlikeBy lX9_305 rfl rfl (Nat.le_of_ble_eq_true rfl) ⟨Nat.le_of_ble_eq_true rfl, Nat.le_of_ble_eq_true rfl⟩ ⟨Nat.le_of_ble_eq_true rfl, Nat.le_of_ble_eq_true rfl⟩ dX9_strong_60 rfl (kI (fun v1 J hq1 => ?_))
    have gJ := aiM_fr hN hq1
    have tl2J : TL B2 len2 (x % 10) J := tl2.to (fun i => gJ _ _ (by simp [auP, owP, mwP, bgP, fwP, wgP, woP])) (fun i => gJ _ _ (by simp [auP, owP, mwP, bgP, fwP, wgP, woP]))
    have hnJ : J (40, 0) 6 = nI n := (gJ _ _ (by simp [auP, owP, mwP, bgP, fwP, wgP, woP])).trans hn
    refine g_ald0 (pc' := 64) dX9_strong_63 rfl ?_
    refine g_ild1 (pc' := 65) dX9_strong_64 rfl ?_
    refine g_bipush (pc' := 67) (v := nI 10) dX9_strong_65 rfl (by decide) ?_
    refine g_iremN (pc' := 68) (by omega) dX9_strong_67 rfl ?_
    refine g_ild2 (pc' := 69) dX9_strong_68 rfl ?_
    refine g_ild3 (pc' := 70) dX9_strong_69 rfl ?_
    refine g_callV (pc' := 73) (c_mUnlikeBy l (I := J) mg hnJ hN tl2J ha.2 z) mg.s40 (by decide) wX9_unlikeBy lX9_305 rfl rfl (Nat.le_of_ble_eq_true rfl) ⟨Nat.le_of_ble_eq_true rfl, Nat.le_of_ble_eq_true rfl⟩ ⟨Nat.le_of_ble_eq_true rfl, Nat.le_of_ble_eq_true rfl⟩ dX9_strong_70 rfl (kI (fun v2 J2 hq2 => ?_))
    refine g_isub (pc' := 74) dX9_strong_73 rfl ?_
    refine g_iret rfl dX9_strong_74 ?_
    exact eI ⟨v1, v2, J, hq1, hq2, rfl⟩
