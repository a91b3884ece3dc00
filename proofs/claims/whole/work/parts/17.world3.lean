/-! World: coming -/
def bitsN (o : Nat → Nat) : Nat → Int32
  | 0 => nI 0
  | p + 1 => bitsN o p ||| (nI 1 <<< (nI (o p) &&& 31))
/-- a LAW's program in its row, and that it always ends -/
def LV (I : MI) (j len : Nat) (cd : Nat → Nat × Nat) : Prop := len ≤ 121 ∧ (∀ i, i < len → (cd i).1 < 16 ∧ (cd i).2 < 10000 ∧ ((cd i).1 = 1 → (cd i).2 < 7) ∧ ((cd i).1 = 4 → 1 ≤ (cd i).2)) ∧ (∀ i, i < len → I (8, j) i = nI ((cd i).1 + 256 * (cd i).2)) ∧ ∀ seen, ∃ v, wR seen cd len (len + 1) 0 [] = some v
def evalL (cd : Nat → Nat × Nat) (len : Nat) (seen : Nat → Int32) : Int32 := (wR seen cd len (len + 1) 0 []).getD 0
theorem wR_congr {f g : Nat → Int32} {cd : Nat → Nat × Nat} {len : Nat} (h : ∀ i, i < 7 → f i = g i) (hok : ∀ i, i < len → (cd i).1 = 1 → (cd i).2 < 7) : ∀ (m a : Nat) (st : List Int32), wR f cd len m a st = wR g cd len m a st
  | 0, _, _ => rfl
  | m + 1, a, st => by
    have ih := wR_congr h hok m
    by_cases hl : len ≤ a
    · simp only [wR, if_pos hl]
    · have h1 : (cd a).1 = 1 → f (cd a).2 = g (cd a).2 := fun e => h _ (hok a (by omega) e)
      simp only [wR]
      rw [if_neg hl, if_neg hl]
      by_cases hs : 62 ≤ st.length
      · rw [if_pos hs, if_pos hs]
      · rw [if_neg hs, if_neg hs]
        generalize cd a = c at *
        obtain ⟨q, x⟩ := c
        simp only at h1 ⊢
        match q, st with
        | 0, st => exact ih _ _
        | 1, st => simp only []; rw [h1 rfl]; exact ih _ _
        | 2, t :: r => exact ih _ _
        | 2, [] => rfl
        | 3, t :: r => exact ih _ _
        | 3, [] => rfl
        | 4, t :: r => exact ih _ _
        | 4, [] => rfl
        | 5, t :: r => rfl
        | 5, [] => rfl
        | m' + 6, b :: a' :: r => exact ih _ _
        | m' + 6, [b] => rfl
        | m' + 6, [] => rfl
theorem LV.run {I : MI} {j len : Nat} {cd : Nat → Nat × Nat} (h : LV I j len cd) {f g : Nat → Int32} (he : ∀ i, i < 7 → f i = g i) : wR f cd len (len + 1) 0 [] = some (evalL cd len g) := by
  rw [wR_congr he (fun i hi => (h.2.1 i hi).2.2.1)]
  obtain ⟨v, hv⟩ := h.2.2.2 g
  unfold evalL
  rw [hv]
  rfl
theorem LV.to {I J : MI} {j len : Nat} {cd : Nat → Nat × Nat} (h : LV I j len cd) (he : ∀ i, J (8, j) i = I (8, j) i) : LV J j len cd := ⟨h.1, h.2.1, fun i hi => (he i).trans (h.2.2.1 i hi), h.2.2.2⟩
def seenV (w c p : Int32) (n : Nat) (t ke : Int32) (j : Nat) : Nat → Int32
  | 0 => w
  | 1 => c
  | 2 => p
  | 3 => nI n
  | 4 => t
  | 5 => ke
  | _ => nI j
/-- WEIGHT of a SONG in a WORLD, with these places -/
def weightI (cd : Nat → Nat × Nat) (len : Nat) (I : MI) (k n j : Nat) (p : Int32) : Int32 := evalL cd len (seenV (I (2, 0) j) (if I (11, k) 3 = 0 then nI 0 else I (12, k) j) (psI (I (11, k) 3) (I (11, k) 7) (I (11, k) 4) n p) n (I (11, k) 7) (I (11, k) 8) j)
theorem c_arrange (l : Launch) {S : Shp} {I : MI} {L : ML} {R : MR} (sg : SG S R) {k n : Nat} (wg : WG k S R) (hn : I (1, 0) 1 = nI n) (hN : n ≤ 12) : Ct l mX7_arrange 2 0 0 [.inr (.inr (some (11, k)))] S I L R (PVm S L R (fun J => Fr (fun t _ => t = (13, k) ∨ t = (14, k)) I J ∧ (∀ p, p < n → J (13, k) p = nI (rkO (I (12, k)) n p)) ∧ ∀ s, s < n → J (14, k) s = nI (plc (I (12, k)) n s))) := by
  refine Ct.of [some (.inr (.inr (some (11, k)))), none] (by decide) rfl (Nat.le_of_ble_eq_true rfl) ?_
  refine g_ald0 (pc' := 1) dX7_arrange_0 rfl ?_
  refine g_getR (pc' := 4) wg.s11 (by decide) fX7_9 wg.r11_10 dX7_arrange_1 rfl ?_
  refine g_ald0 (pc' := 5) dX7_arrange_4 rfl ?_
  refine g_getR (pc' := 8) wg.s11 (by decide) fX7_33 wg.r11_0 dX7_arrange_5 rfl ?_
  refine g_getI (pc' := 11) sg.s1 (by decide) fX7_67 hn dX7_arrange_8 rfl ?_
  refine g_ald0 (pc' := 12) dX7_arrange_11 rfl ?_
  refine g_getR (pc' := 15) wg.s11 (by decide) fX7_15 wg.r11_11 dX7_arrange_12 rfl ?_
  refine g_callS (pc' := 18) (c_rank l wg.s12 wg.s13 (by simp) hN) wX7_rank lX7_72 rfl rfl (Nat.le_of_ble_eq_true rfl) ⟨Nat.le_of_ble_eq_true rfl, Nat.le_of_ble_eq_true rfl⟩ ⟨Nat.le_of_ble_eq_true rfl, Nat.le_of_ble_eq_true rfl⟩ dX7_arrange_15 rfl (kV (fun J1 hq1 => ?_))
  refine g_iconst (pc' := 19) (v := nI 0) dX7_arrange_18 rfl (by decide) ?_
  refine g_ist1 (pc' := 20) rfl (by decide) dX7_arrange_19 rfl ?_
  have hn1 : J1 (1, 0) 1 = nI n := (hq1.1 _ _ (by simp)).trans hn
  refine g_loop (σ := MI) (fun i J => Fr (fun t _ => t = (14, k)) J1 J ∧ ∀ p, p < i → J (14, k) (rkO (I (12, k)) n p) = nI p) (fun i s => [some (.inr (.inr (some (11, k)))), some (.inl (nI i))]) (fun i s => s) n 0 J1 (by omega) ⟨Fr.rf, fun p h => absurd h (by omega)⟩ ?_ ?_
  · intro i s hi hP ih
    have hn2 : s (1, 0) 1 = nI n := (hP.1 _ _ (by simp)).trans hn1
    refine g_ild1 (pc' := 21) dX7_arrange_20 rfl ?_
    refine g_ald0 (pc' := 22) dX7_arrange_21 rfl ?_
    refine g_getR (pc' := 25) wg.s11 (by decide) fX7_33 wg.r11_0 dX7_arrange_22 rfl ?_
    refine g_getI (pc' := 28) sg.s1 (by decide) fX7_67 hn2 dX7_arrange_25 rfl ?_
    refine g_icmpgeN (pc' := 31) (by omega) (by omega) (tgt := 49) dX7_arrange_28 (by decide) rfl (fun h28 => ?_) (fun h28 => ?_)
    · exact absurd h28 (by omega)
    · refine g_ald0 (pc' := 32) dX7_arrange_31 rfl ?_
      refine g_getR (pc' := 35) wg.s11 (by decide) fX7_18 wg.r11_12 dX7_arrange_32 rfl ?_
      refine g_ald0 (pc' := 36) dX7_arrange_35 rfl ?_
      refine g_getR (pc' := 39) wg.s11 (by decide) fX7_15 wg.r11_11 dX7_arrange_36 rfl ?_
      refine g_ild1 (pc' := 40) dX7_arrange_39 rfl ?_
      refine g_iald (pc' := 41) (j := i) wg.s13 rfl (by omega) (by decide) ((hP.1 _ _ (by simp)).trans (hq1.2 i (by omega))) dX7_arrange_40 rfl ?_
      refine g_ild1 (pc' := 42) dX7_arrange_41 rfl ?_
      refine g_iast (pc' := 43) (j := rkO (I (12, k)) n i) wg.s14 rfl (Nat.lt_of_lt_of_le (rkO_lt _ n i (by omega)) hN) (by decide) dX7_arrange_42 rfl ?_
      refine g_inc1 (pc' := 46) rfl (by decide) (v := nI (i + 1)) (nI_1 _) dX7_arrange_43 rfl ?_
      refine g_goto (tgt := 20) dX7_arrange_46 (by decide) ?_
      refine ih _ ⟨hP.1.up rfl, fun p hp => ?_⟩
      by_cases e : p = i
      · subst e; rw [upM_s]
      · rw [upM_k _ _ (fun z => e (by rw [← plc_rk (f := I (12, k)) (n := n) (p := p) (by omega), z, plc_rk (by omega)]))]
        exact hP.2 p (by omega)
  · intro s hP
    have hn2 : s (1, 0) 1 = nI n := (hP.1 _ _ (by simp)).trans hn1
    refine g_ild1 (pc' := 21) dX7_arrange_20 rfl ?_
    refine g_ald0 (pc' := 22) dX7_arrange_21 rfl ?_
    refine g_getR (pc' := 25) wg.s11 (by decide) fX7_33 wg.r11_0 dX7_arrange_22 rfl ?_
    refine g_getI (pc' := 28) sg.s1 (by decide) fX7_67 hn2 dX7_arrange_25 rfl ?_
    refine g_icmpgeN (pc' := 31) (by omega) (by omega) (tgt := 49) dX7_arrange_28 (by decide) rfl (fun h28 => ?_) (fun h28 => ?_)
    · refine g_vret rfl dX7_arrange_49 ?_
      refine eV ⟨(hq1.1.le (fun _ _ h => Or.inl h)).tr (hP.1.le (fun _ _ h => Or.inr h)), fun p hp => (hP.1 _ _ (by simp)).trans (hq1.2 p hp), fun s' hs' => ?_⟩
      have h := rk_plc (f := I (12, k)) hs'
      have h2 := hP.2 _ h.1
      rw [h.2] at h2
      exact h2
    · exact absurd h28 (by omega)

theorem c_firstOnes (l : Launch) {S : Shp} {I : MI} {L : ML} {R : MR} (sg : SG S R) {k n : Nat} (wg : WG k S R) (hn : I (1, 0) 1 = nI n) (hN : n ≤ 12) {h : Nat} (hh : h ≤ n) : Ct l mX7_firstOnes 3 0 0 [.inr (.inr (some (11, k))), .inl (nI h)] S I L R (PIm S L R (fun v J => v = bitsN (rkO (I (12, k)) n) h ∧ Fr (fun t _ => t = (13, k) ∨ t = (14, k)) I J)) := by
  refine Ct.of [some (.inr (.inr (some (11, k)))), some (.inl (nI h)), none, none] (by decide) rfl (Nat.le_of_ble_eq_true rfl) ?_
  refine g_ald0 (pc' := 1) dX7_firstOnes_0 rfl ?_
  refine g_callV (pc' := 4) (c_arrange l sg wg hn hN) wg.s11 (by decide) wX7_arrange lX7_80 rfl rfl (Nat.le_of_ble_eq_true rfl) ⟨Nat.le_of_ble_eq_true rfl, Nat.le_of_ble_eq_true rfl⟩ ⟨Nat.le_of_ble_eq_true rfl, Nat.le_of_ble_eq_true rfl⟩ dX7_firstOnes_1 rfl (kV (fun J1 hq1 => ?_))
  refine g_iconst (pc' := 5) (v := nI 0) dX7_firstOnes_4 rfl (by decide) ?_
  refine g_ist2 (pc' := 6) rfl (by decide) dX7_firstOnes_5 rfl ?_
  refine g_iconst (pc' := 7) (v := nI 0) dX7_firstOnes_6 rfl (by decide) ?_
  refine g_ist3 (pc' := 8) rfl (by decide) dX7_firstOnes_7 rfl ?_
  have hn1 : J1 (1, 0) 1 = nI n := (hq1.1 _ _ (by simp)).trans hn
  refine g_loop (σ := Unit) (fun i J => True) (fun i s => [some (.inr (.inr (some (11, k)))), some (.inl (nI h)), some (.inl (bitsN (rkO (I (12, k)) n) i)), some (.inl (nI i))]) (fun i s => J1) h 0 () (by omega) trivial ?_ ?_
  · intro i s hi hP ih
    refine g_ild3 (pc' := 9) dX7_firstOnes_8 rfl ?_
    refine g_ild1 (pc' := 10) dX7_firstOnes_9 rfl ?_
    refine g_icmpgeN (pc' := 13) (by omega) (by omega) (tgt := 41) dX7_firstOnes_10 (by decide) rfl (fun h10 => ?_) (fun h10 => ?_)
    · exact absurd h10 (by omega)
    · refine g_ild3 (pc' := 14) dX7_firstOnes_13 rfl ?_
      refine g_ald0 (pc' := 15) dX7_firstOnes_14 rfl ?_
      refine g_getR (pc' := 18) wg.s11 (by decide) fX7_33 wg.r11_0 dX7_firstOnes_15 rfl ?_
      refine g_getI (pc' := 21) sg.s1 (by decide) fX7_67 hn1 dX7_firstOnes_18 rfl ?_
      refine g_icmpgeN (pc' := 24) (by omega) (by omega) (tgt := 41) dX7_firstOnes_21 (by decide) rfl (fun h21 => ?_) (fun h21 => ?_)
      · exact absurd h21 (by omega)
      · refine g_ild2 (pc' := 25) dX7_firstOnes_24 rfl ?_
        refine g_iconst (pc' := 26) (v := nI 1) dX7_firstOnes_25 rfl (by decide) ?_
        refine g_ald0 (pc' := 27) dX7_firstOnes_26 rfl ?_
        refine g_getR (pc' := 30) wg.s11 (by decide) fX7_15 wg.r11_11 dX7_firstOnes_27 rfl ?_
        refine g_ild3 (pc' := 31) dX7_firstOnes_30 rfl ?_
        refine g_iald (pc' := 32) (j := i) wg.s13 rfl (by omega) (by decide) (hq1.2.1 i (by omega)) dX7_firstOnes_31 rfl ?_
        refine g_ishl (pc' := 33) dX7_firstOnes_32 rfl ?_
        refine g_ior (pc' := 34) dX7_firstOnes_33 rfl ?_
        refine g_ist2 (pc' := 35) rfl (by decide) dX7_firstOnes_34 rfl ?_
        refine g_inc3 (pc' := 38) rfl (by decide) (v := nI (i + 1)) (nI_1 _) dX7_firstOnes_35 rfl ?_
        refine g_goto (tgt := 8) dX7_firstOnes_38 (by decide) ?_
        exact ih () trivial
  · intro s hP
    refine g_ild3 (pc' := 9) dX7_firstOnes_8 rfl ?_
    refine g_ild1 (pc' := 10) dX7_firstOnes_9 rfl ?_
    refine g_icmpgeN (pc' := 13) (by omega) (by omega) (tgt := 41) dX7_firstOnes_10 (by decide) rfl (fun h10 => ?_) (fun h10 => ?_)
    · refine g_ild2 (pc' := 42) dX7_firstOnes_41 rfl ?_
      refine g_iret rfl dX7_firstOnes_42 ?_
      exact eI ⟨rfl, hq1.1⟩
    · exact absurd h10 (by omega)

def wayI (I : MI) (k a b : Nat) : Int32 := cmpI (I (2, 0) a) (I (2, 0) b) * cmpI (I (12, k) a) (I (12, k) b)
theorem c_way (l : Launch) {S : Shp} {I : MI} {L : ML} {R : MR} (sg : SG S R) {k n : Nat} (wg : WG k S R) (hn : I (1, 0) 1 = nI n) (hN : n ≤ 12) {a b : Nat} (ha : a < n) (hb : b < n) : Ct l mX7_way 2 0 0 [.inr (.inr (some (11, k))), .inl (nI a), .inl (nI b)] S I L R (PIp S I L R (wayI I k a b)) := by
  refine Ct.of [some (.inr (.inr (some (11, k)))), some (.inl (nI a)), some (.inl (nI b))] (by decide) rfl (Nat.le_of_ble_eq_true rfl) ?_
  refine g_ald0 (pc' := 1) dX7_way_0 rfl ?_
  refine g_getR (pc' := 4) wg.s11 (by decide) fX7_33 wg.r11_0 dX7_way_1 rfl ?_
  refine g_getR (pc' := 7) sg.s1 (by decide) fX7_83 sg.r1_0 dX7_way_4 rfl ?_
  refine g_ild1 (pc' := 8) dX7_way_7 rfl ?_
  refine g_iald (pc' := 9) (j := a) sg.s2 rfl (by omega) (by decide) rfl dX7_way_8 rfl ?_
  refine g_ald0 (pc' := 10) dX7_way_9 rfl ?_
  refine g_getR (pc' := 13) wg.s11 (by decide) fX7_33 wg.r11_0 dX7_way_10 rfl ?_
  refine g_getR (pc' := 16) sg.s1 (by decide) fX7_83 sg.r1_0 dX7_way_13 rfl ?_
  refine g_ild2 (pc' := 17) dX7_way_16 rfl ?_
  refine g_iald (pc' := 18) (j := b) sg.s2 rfl (by omega) (by decide) rfl dX7_way_17 rfl ?_
  refine g_callS (pc' := 21) (c_J6_compare l S _ L R _ _) wJ6_compare_7cf53 lX7_123 rfl rfl (Nat.le_of_ble_eq_true rfl) ⟨Nat.le_of_ble_eq_true rfl, Nat.le_of_ble_eq_true rfl⟩ ⟨Nat.le_of_ble_eq_true rfl, Nat.le_of_ble_eq_true rfl⟩ dX7_way_18 rfl (kIp ?_)
  refine g_ald0 (pc' := 22) dX7_way_21 rfl ?_
  refine g_getR (pc' := 25) wg.s11 (by decide) fX7_9 wg.r11_10 dX7_way_22 rfl ?_
  refine g_ild1 (pc' := 26) dX7_way_25 rfl ?_
  refine g_iald (pc' := 27) (j := a) wg.s12 rfl (by omega) (by decide) rfl dX7_way_26 rfl ?_
  refine g_ald0 (pc' := 28) dX7_way_27 rfl ?_
  refine g_getR (pc' := 31) wg.s11 (by decide) fX7_9 wg.r11_10 dX7_way_28 rfl ?_
  refine g_ild2 (pc' := 32) dX7_way_31 rfl ?_
  refine g_iald (pc' := 33) (j := b) wg.s12 rfl (by omega) (by decide) rfl dX7_way_32 rfl ?_
  refine g_callS (pc' := 36) (c_J6_compare l S _ L R _ _) wJ6_compare_7cf53 lX7_123 rfl rfl (Nat.le_of_ble_eq_true rfl) ⟨Nat.le_of_ble_eq_true rfl, Nat.le_of_ble_eq_true rfl⟩ ⟨Nat.le_of_ble_eq_true rfl, Nat.le_of_ble_eq_true rfl⟩ dX7_way_33 rfl (kIp ?_)
  refine g_imul (pc' := 37) dX7_way_36 rfl ?_
  refine g_iret rfl dX7_way_37 ?_
  exact eIp rfl

theorem c_logged (l : Launch) {S : Shp} {I : MI} {L : ML} {R : MR} {k ke : Nat} (wg : WG k S R) (hke : I (11, k) 8 = nI ke) (hk : ke < 2 ^ 30) : Ct l mX7_logged 2 0 0 [.inr (.inr (some (11, k)))] S I L R (PIp S I L R (nI (min ke 200))) := by
  refine Ct.of [some (.inr (.inr (some (11, k))))] (by decide) rfl (Nat.le_of_ble_eq_true rfl) ?_
  refine g_ald0 (pc' := 1) dX7_logged_0 rfl ?_
  refine g_getI (pc' := 4) wg.s11 (by decide) fX7_55 hke dX7_logged_1 rfl ?_
  refine g_sipush (pc' := 7) (v := nI 200) dX7_logged_4 rfl (by decide) ?_
  refine g_callS (pc' := 10) (c_J9_min l S _ L R _ _) wJ9_min_7cf53 lX7_114 rfl rfl (Nat.le_of_ble_eq_true rfl) ⟨Nat.le_of_ble_eq_true rfl, Nat.le_of_ble_eq_true rfl⟩ ⟨Nat.le_of_ble_eq_true rfl, Nat.le_of_ble_eq_true rfl⟩ dX7_logged_7 rfl (kIp ?_)
  refine g_iret rfl dX7_logged_10 ?_
  exact eIp (minN (by omega) (by omega))

theorem c_worldWeigh (l : Launch) {S : Shp} {I : MI} {L : ML} {R : MR} (sg : SG S R) {k n : Nat} (wg : WG k S R) (hn : I (1, 0) 1 = nI n) (hN : n ≤ 12) {lj len : Nat} {cd : Nat → Nat × Nat} (lg : LG lj len S R) (hL : R (11, k) 1 = some (7, lj)) (hv : LV I lj len cd) {j : Nat} (hj : j < n) : Ct l mX7_weigh 3 0 0 [.inr (.inr (some (11, k))), .inl (nI j)] S I L R (PIm S L R (fun v J => v = weightI cd len I k n j (I (14, k) j) ∧ Fr (fun t _ => t = (17, k) ∨ t = (9, lj)) I J)) := by
  refine Ct.of [some (.inr (.inr (some (11, k)))), some (.inl (nI j))] (by decide) rfl (Nat.le_of_ble_eq_true rfl) ?_
  refine g_ald0 (pc' := 1) dX7_weigh_0 rfl ?_
  refine g_getR (pc' := 4) wg.s11 (by decide) fX7_38 hL dX7_weigh_1 rfl ?_
  refine g_ifnonnullT (tgt := 9) dX7_weigh_4 (by decide) ?_
  refine g_ald0 (pc' := 10) dX7_weigh_9 rfl ?_
  refine g_getR (pc' := 13) wg.s11 (by decide) fX7_30 wg.r11_15 dX7_weigh_10 rfl ?_
  refine g_iconst (pc' := 14) (v := nI 0) dX7_weigh_13 rfl (by decide) ?_
  refine g_ald0 (pc' := 15) dX7_weigh_14 rfl ?_
  refine g_getR (pc' := 18) wg.s11 (by decide) fX7_33 wg.r11_0 dX7_weigh_15 rfl ?_
  refine g_getR (pc' := 21) sg.s1 (by decide) fX7_83 sg.r1_0 dX7_weigh_18 rfl ?_
  refine g_ild1 (pc' := 22) dX7_weigh_21 rfl ?_
  refine g_iald (pc' := 23) (j := j) sg.s2 rfl (by omega) (by decide) rfl dX7_weigh_22 rfl ?_
  refine g_iast (pc' := 24) (j := 0) wg.s17 rfl (by omega) (by decide) dX7_weigh_23 rfl ?_
  refine g_ald0 (pc' := 25) dX7_weigh_24 rfl ?_
  refine g_getR (pc' := 28) wg.s11 (by decide) fX7_30 wg.r11_15 dX7_weigh_25 rfl ?_
  refine g_iconst (pc' := 29) (v := nI 1) dX7_weigh_28 rfl (by decide) ?_
  refine g_ald0 (pc' := 30) dX7_weigh_29 rfl ?_
  refine g_getI (pc' := 33) wg.s11 (by decide) fX7_46 (v := I (11, k) 3) (by simp [upM]) dX7_weigh_30 rfl ?_
  refine g_ifne (pc' := 36) (tgt := 40) dX7_weigh_33 (by decide) rfl (fun h33 => ?_) (fun h33 => ?_)
  · refine g_ald0 (pc' := 41) dX7_weigh_40 rfl ?_
    refine g_getR (pc' := 44) wg.s11 (by decide) fX7_9 wg.r11_10 dX7_weigh_41 rfl ?_
    refine g_ild1 (pc' := 45) dX7_weigh_44 rfl ?_
    refine g_iald (pc' := 46) (j := j) wg.s12 rfl (by omega) (by decide) (v := I (12, k) j) (by simp [upM]) dX7_weigh_45 rfl ?_
    refine g_iast (pc' := 47) (j := 1) wg.s17 rfl (by omega) (by decide) dX7_weigh_46 rfl ?_
    refine g_ald0 (pc' := 48) dX7_weigh_47 rfl ?_
    refine g_getR (pc' := 51) wg.s11 (by decide) fX7_30 wg.r11_15 dX7_weigh_48 rfl ?_
    refine g_iconst (pc' := 52) (v := nI 2) dX7_weigh_51 rfl (by decide) ?_
    refine g_ald0 (pc' := 53) dX7_weigh_52 rfl ?_
    refine g_ild1 (pc' := 54) dX7_weigh_53 rfl ?_
    refine g_callV (pc' := 57) (c_placeSeen l sg wg (by simp [upM, hn]) hN hj) wg.s11 (by decide) wX7_placeSeen lX7_86 rfl rfl (Nat.le_of_ble_eq_true rfl) ⟨Nat.le_of_ble_eq_true rfl, Nat.le_of_ble_eq_true rfl⟩ ⟨Nat.le_of_ble_eq_true rfl, Nat.le_of_ble_eq_true rfl⟩ dX7_weigh_54 rfl (kIp ?_)
    refine g_topi (v := psI (I (11, k) 3) (I (11, k) 7) (I (11, k) 4) n (I (14, k) j)) (by simp [upM]) ?_
    refine g_iast (pc' := 58) (j := 2) wg.s17 rfl (by omega) (by decide) dX7_weigh_57 rfl ?_
    refine g_ald0 (pc' := 59) dX7_weigh_58 rfl ?_
    refine g_getR (pc' := 62) wg.s11 (by decide) fX7_30 wg.r11_15 dX7_weigh_59 rfl ?_
    refine g_iconst (pc' := 63) (v := nI 3) dX7_weigh_62 rfl (by decide) ?_
    refine g_ald0 (pc' := 64) dX7_weigh_63 rfl ?_
    refine g_getR (pc' := 67) wg.s11 (by decide) fX7_33 wg.r11_0 dX7_weigh_64 rfl ?_
    refine g_getI (pc' := 70) sg.s1 (by decide) fX7_67 (v := nI n) (by simp [upM, hn]) dX7_weigh_67 rfl ?_
    refine g_iast (pc' := 71) (j := 3) wg.s17 rfl (by omega) (by decide) dX7_weigh_70 rfl ?_
    refine g_ald0 (pc' := 72) dX7_weigh_71 rfl ?_
    refine g_getR (pc' := 75) wg.s11 (by decide) fX7_30 wg.r11_15 dX7_weigh_72 rfl ?_
    refine g_iconst (pc' := 76) (v := nI 4) dX7_weigh_75 rfl (by decide) ?_
    refine g_ald0 (pc' := 77) dX7_weigh_76 rfl ?_
    refine g_getI (pc' := 80) wg.s11 (by decide) fX7_52 (v := I (11, k) 7) (by simp [upM]) dX7_weigh_77 rfl ?_
    refine g_iast (pc' := 81) (j := 4) wg.s17 rfl (by omega) (by decide) dX7_weigh_80 rfl ?_
    refine g_ald0 (pc' := 82) dX7_weigh_81 rfl ?_
    refine g_getR (pc' := 85) wg.s11 (by decide) fX7_30 wg.r11_15 dX7_weigh_82 rfl ?_
    refine g_iconst (pc' := 86) (v := nI 5) dX7_weigh_85 rfl (by decide) ?_
    refine g_ald0 (pc' := 87) dX7_weigh_86 rfl ?_
    refine g_getI (pc' := 90) wg.s11 (by decide) fX7_55 (v := I (11, k) 8) (by simp [upM]) dX7_weigh_87 rfl ?_
    refine g_iast (pc' := 91) (j := 5) wg.s17 rfl (by omega) (by decide) dX7_weigh_90 rfl ?_
    refine g_ald0 (pc' := 92) dX7_weigh_91 rfl ?_
    refine g_getR (pc' := 95) wg.s11 (by decide) fX7_30 wg.r11_15 dX7_weigh_92 rfl ?_
    refine g_bipush (pc' := 97) (v := nI 6) dX7_weigh_95 rfl (by decide) ?_
    refine g_ild1 (pc' := 98) dX7_weigh_97 rfl ?_
    refine g_iast (pc' := 99) (j := 6) wg.s17 rfl (by omega) (by decide) dX7_weigh_98 rfl ?_
    refine g_ald0 (pc' := 100) dX7_weigh_99 rfl ?_
    refine g_getR (pc' := 103) wg.s11 (by decide) fX7_38 hL dX7_weigh_100 rfl ?_
    refine g_ald0 (pc' := 104) dX7_weigh_103 rfl ?_
    refine g_getR (pc' := 107) wg.s11 (by decide) fX7_30 wg.r11_15 dX7_weigh_104 rfl ?_
    refine g_callV (pc' := 110) (c_lawWeigh l lg wg.s17 (by simp) (by have := hv.1; omega) hv.2.1 (fun i hi => by simp [upM]; exact hv.2.2.1 i hi) (hv.run (g := seenV (I (2, 0) j) (if I (11, k) 3 = 0 then nI 0 else I (12, k) j) (psI (I (11, k) 3) (I (11, k) 7) (I (11, k) 4) n (I (14, k) j)) n (I (11, k) 7) (I (11, k) 8) j) (fun i hi => by
      rcases (show i = 0 ∨ i = 1 ∨ i = 2 ∨ i = 3 ∨ i = 4 ∨ i = 5 ∨ i = 6 by omega) with rfl | rfl | rfl | rfl | rfl | rfl | rfl <;> simp [upM, seenV, h33]))) lg.s7 (by decide) wX2_weigh lX7_90 rfl rfl (Nat.le_of_ble_eq_true rfl) ⟨Nat.le_of_ble_eq_true rfl, Nat.le_of_ble_eq_true rfl⟩ ⟨Nat.le_of_ble_eq_true rfl, Nat.le_of_ble_eq_true rfl⟩ dX7_weigh_107 rfl (kI (fun v J hq => ?_))
    refine g_iret rfl dX7_weigh_110 ?_
    exact eI ⟨hq.1, ((((((((Fr.rf (P := fun t _ => t = (17, k) ∨ t = (9, lj)) (I := I)).up (Or.inl rfl)).up (Or.inl rfl)).up (Or.inl rfl)).up (Or.inl rfl)).up (Or.inl rfl)).up (Or.inl rfl)).up (Or.inl rfl)).tr (hq.2.le (fun _ _ h => Or.inr h))⟩
  · refine g_iconst (pc' := 37) (v := nI 0) dX7_weigh_36 rfl (by decide) ?_
    refine g_goto (tgt := 46) dX7_weigh_37 (by decide) ?_
    refine g_iast (pc' := 47) (j := 1) wg.s17 rfl (by omega) (by decide) dX7_weigh_46 rfl ?_
    refine g_ald0 (pc' := 48) dX7_weigh_47 rfl ?_
    refine g_getR (pc' := 51) wg.s11 (by decide) fX7_30 wg.r11_15 dX7_weigh_48 rfl ?_
    refine g_iconst (pc' := 52) (v := nI 2) dX7_weigh_51 rfl (by decide) ?_
    refine g_ald0 (pc' := 53) dX7_weigh_52 rfl ?_
    refine g_ild1 (pc' := 54) dX7_weigh_53 rfl ?_
    refine g_callV (pc' := 57) (c_placeSeen l sg wg (by simp [upM, hn]) hN hj) wg.s11 (by decide) wX7_placeSeen lX7_86 rfl rfl (Nat.le_of_ble_eq_true rfl) ⟨Nat.le_of_ble_eq_true rfl, Nat.le_of_ble_eq_true rfl⟩ ⟨Nat.le_of_ble_eq_true rfl, Nat.le_of_ble_eq_true rfl⟩ dX7_weigh_54 rfl (kIp ?_)
    refine g_topi (v := psI (I (11, k) 3) (I (11, k) 7) (I (11, k) 4) n (I (14, k) j)) (by simp [upM]) ?_
    refine g_iast (pc' := 58) (j := 2) wg.s17 rfl (by omega) (by decide) dX7_weigh_57 rfl ?_
    refine g_ald0 (pc' := 59) dX7_weigh_58 rfl ?_
    refine g_getR (pc' := 62) wg.s11 (by decide) fX7_30 wg.r11_15 dX7_weigh_59 rfl ?_
    refine g_iconst (pc' := 63) (v := nI 3) dX7_weigh_62 rfl (by decide) ?_
    refine g_ald0 (pc' := 64) dX7_weigh_63 rfl ?_
    refine g_getR (pc' := 67) wg.s11 (by decide) fX7_33 wg.r11_0 dX7_weigh_64 rfl ?_
    refine g_getI (pc' := 70) sg.s1 (by decide) fX7_67 (v := nI n) (by simp [upM, hn]) dX7_weigh_67 rfl ?_
    refine g_iast (pc' := 71) (j := 3) wg.s17 rfl (by omega) (by decide) dX7_weigh_70 rfl ?_
    refine g_ald0 (pc' := 72) dX7_weigh_71 rfl ?_
    refine g_getR (pc' := 75) wg.s11 (by decide) fX7_30 wg.r11_15 dX7_weigh_72 rfl ?_
    refine g_iconst (pc' := 76) (v := nI 4) dX7_weigh_75 rfl (by decide) ?_
    refine g_ald0 (pc' := 77) dX7_weigh_76 rfl ?_
    refine g_getI (pc' := 80) wg.s11 (by decide) fX7_52 (v := I (11, k) 7) (by simp [upM]) dX7_weigh_77 rfl ?_
    refine g_iast (pc' := 81) (j := 4) wg.s17 rfl (by omega) (by decide) dX7_weigh_80 rfl ?_
    refine g_ald0 (pc' := 82) dX7_weigh_81 rfl ?_
    refine g_getR (pc' := 85) wg.s11 (by decide) fX7_30 wg.r11_15 dX7_weigh_82 rfl ?_
    refine g_iconst (pc' := 86) (v := nI 5) dX7_weigh_85 rfl (by decide) ?_
    refine g_ald0 (pc' := 87) dX7_weigh_86 rfl ?_
    refine g_getI (pc' := 90) wg.s11 (by decide) fX7_55 (v := I (11, k) 8) (by simp [upM]) dX7_weigh_87 rfl ?_
    refine g_iast (pc' := 91) (j := 5) wg.s17 rfl (by omega) (by decide) dX7_weigh_90 rfl ?_
    refine g_ald0 (pc' := 92) dX7_weigh_91 rfl ?_
    refine g_getR (pc' := 95) wg.s11 (by decide) fX7_30 wg.r11_15 dX7_weigh_92 rfl ?_
    refine g_bipush (pc' := 97) (v := nI 6) dX7_weigh_95 rfl (by decide) ?_
    refine g_ild1 (pc' := 98) dX7_weigh_97 rfl ?_
    refine g_iast (pc' := 99) (j := 6) wg.s17 rfl (by omega) (by decide) dX7_weigh_98 rfl ?_
    refine g_ald0 (pc' := 100) dX7_weigh_99 rfl ?_
    refine g_getR (pc' := 103) wg.s11 (by decide) fX7_38 hL dX7_weigh_100 rfl ?_
    refine g_ald0 (pc' := 104) dX7_weigh_103 rfl ?_
    refine g_getR (pc' := 107) wg.s11 (by decide) fX7_30 wg.r11_15 dX7_weigh_104 rfl ?_
    refine g_callV (pc' := 110) (c_lawWeigh l lg wg.s17 (by simp) (by have := hv.1; omega) hv.2.1 (fun i hi => by simp [upM]; exact hv.2.2.1 i hi) (hv.run (g := seenV (I (2, 0) j) (if I (11, k) 3 = 0 then nI 0 else I (12, k) j) (psI (I (11, k) 3) (I (11, k) 7) (I (11, k) 4) n (I (14, k) j)) n (I (11, k) 7) (I (11, k) 8) j) (fun i hi => by
      rcases (show i = 0 ∨ i = 1 ∨ i = 2 ∨ i = 3 ∨ i = 4 ∨ i = 5 ∨ i = 6 by omega) with rfl | rfl | rfl | rfl | rfl | rfl | rfl <;> simp [upM, seenV, h33]))) lg.s7 (by decide) wX2_weigh lX7_90 rfl rfl (Nat.le_of_ble_eq_true rfl) ⟨Nat.le_of_ble_eq_true rfl, Nat.le_of_ble_eq_true rfl⟩ ⟨Nat.le_of_ble_eq_true rfl, Nat.le_of_ble_eq_true rfl⟩ dX7_weigh_107 rfl (kI (fun v J hq => ?_))
    refine g_iret rfl dX7_weigh_110 ?_
    exact eI ⟨hq.1, ((((((((Fr.rf (P := fun t _ => t = (17, k) ∨ t = (9, lj)) (I := I)).up (Or.inl rfl)).up (Or.inl rfl)).up (Or.inl rfl)).up (Or.inl rfl)).up (Or.inl rfl)).up (Or.inl rfl)).up (Or.inl rfl)).tr (hq.2.le (fun _ _ h => Or.inr h))⟩
