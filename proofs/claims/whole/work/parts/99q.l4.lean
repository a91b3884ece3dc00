/-! the law's body: which call, the loop -/

theorem and63 (x : Int32) : ∃ j, j < 64 ∧ x &&& nI 63 = nI j := by
  refine ⟨(x &&& nI 63).toBitVec.toNat, ?_, ?_⟩
  · have e : (x &&& nI 63).toBitVec.toNat = x.toBitVec.toNat &&& 63 := by
      rw [Int32.toBitVec_and, BitVec.toNat_and]
      rfl
    rw [e]
    exact Nat.lt_of_le_of_lt Nat.and_le_right (by decide)
  · rw [← Int32.toBitVec_inj]
    show _ = BitVec.ofNat 32 _
    rw [BitVec.ofNat_toNat, BitVec.setWidth_eq]
theorem l_gt {a b : Nat} (ha : a ≤ 4000) (hb : b ≤ 4000) : nI a - nI 6 < nI b ↔ a < b + 6 := by
  rw [Int32.lt_iff_toInt_lt, pk_sub_toInt (by omega) (by omega), nI_toInt (by omega)]
  omega
theorem Inv.q1 {Ls : Nat} {xs : Nat → Int32} {q : Nat} {S : Shp} {I : MI} {L : ML} {R : MR} (h : Inv Ls xs q S I L R) (hq : q < 600) : Inv Ls xs (q + 1) S I L R := by
  obtain ⟨n, m, c, b, g, k⟩ := h
  exact ⟨n, m, c, b, g, k.q1 hq⟩

theorem l_call (l : Launch) {Ls : Nat} {xs : Nat → Int32} {q : Nat} {S : Shp} {I : MI} {L : ML} {R : MR} {k n : Nat} {v : Int32} (hLs : Ls ≤ 3072) (h6 : 6 * q + 6 ≤ Ls) (iv : Inv Ls xs q S I L R) (hk : k ≤ 80 + 7 * q) (hn : n ≤ 8100 + 308 * q) (ih : LNext l Ls xs q) (hv : ∃ j, j < 64 ∧ v = nI j) : G l mL_law room_1 QL k n 33 [some (.inr (.inr (some (99, 0)))), some (.inr (.inr (some (0, 0)))), some (.inr (.inr (some (40, 0)))), some (.inl (nI (6 * q)))] [.inl v] S I L R := by
  obtain ⟨j, hj, rfl⟩ := hv
  by_cases h38 : 38 < j
  · refine g_tout (tgt := 1532) dL_law_33 (Or.inr (by rw [nI_toInt (by omega)]; omega)) (by decide) ?_
    exact ih _ _ _ _ _ _ (iv.q1 (by omega)) (by omega) (by omega)
  rcases (show j = 0 ∨ j = 1 ∨ j = 2 ∨ j = 3 ∨ j = 4 ∨ j = 5 ∨ j = 6 ∨ j = 7 ∨ j = 8 ∨ j = 9 ∨ j = 10 ∨ j = 11 ∨ j = 12 ∨ j = 13 ∨ j = 14 ∨ j = 15 ∨ j = 16 ∨ j = 17 ∨ j = 18 ∨ j = 19 ∨ j = 20 ∨ j = 21 ∨ j = 22 ∨ j = 23 ∨ j = 24 ∨ j = 25 ∨ j = 26 ∨ j = 27 ∨ j = 28 ∨ j = 29 ∨ j = 30 ∨ j = 31 ∨ j = 32 ∨ j = 33 ∨ j = 34 ∨ j = 35 ∨ j = 36 ∨ j = 37 ∨ j = 38 by omega) with rfl | rfl | rfl | rfl | rfl | rfl | rfl | rfl | rfl | rfl | rfl | rfl | rfl | rfl | rfl | rfl | rfl | rfl | rfl | rfl | rfl | rfl | rfl | rfl | rfl | rfl | rfl | rfl | rfl | rfl | rfl | rfl | rfl | rfl | rfl | rfl | rfl | rfl | rfl
  · exact g_tin (off := 171) (tgt := 204) dL_law_33 (by decide) (by decide) (by decide) (by decide) (lc_song l hLs h6 iv hk hn ih)
  · exact g_tin (off := 194) (tgt := 227) dL_law_33 (by decide) (by decide) (by decide) (by decide) (lc_worth l hLs h6 iv hk hn ih)
  · exact g_tin (off := 227) (tgt := 260) dL_law_33 (by decide) (by decide) (by decide) (by decide) (lc_feed l hLs h6 iv hk hn ih)
  · exact g_tin (off := 260) (tgt := 293) dL_law_33 (by decide) (by decide) (by decide) (by decide) (lc_law l hLs h6 iv hk hn ih)
  · exact g_tin (off := 273) (tgt := 306) dL_law_33 (by decide) (by decide) (by decide) (by decide) (lc_world l hLs h6 iv hk hn ih)
  · exact g_tin (off := 316) (tgt := 349) dL_law_33 (by decide) (by decide) (by decide) (by decide) (lc_nothing l hLs h6 iv hk hn ih)
  · exact g_tin (off := 349) (tgt := 382) dL_law_33 (by decide) (by decide) (by decide) (by decide) (lc_of l hLs h6 iv hk hn ih)
  · exact g_tin (off := 382) (tgt := 415) dL_law_33 (by decide) (by decide) (by decide) (by decide) (lc_weight l hLs h6 iv hk hn ih)
  · exact g_tin (off := 415) (tgt := 448) dL_law_33 (by decide) (by decide) (by decide) (by decide) (lc_come l hLs h6 iv hk hn ih)
  · exact g_tin (off := 448) (tgt := 481) dL_law_33 (by decide) (by decide) (by decide) (by decide) (lc_keepings l hLs h6 iv hk hn ih)
  · exact g_tin (off := 501) (tgt := 534) dL_law_33 (by decide) (by decide) (by decide) (by decide) (lc_led l hLs h6 iv hk hn ih)
  · exact g_tin (off := 534) (tgt := 567) dL_law_33 (by decide) (by decide) (by decide) (by decide) (lc_unequal l hLs h6 iv hk hn ih)
  · exact g_tin (off := 557) (tgt := 590) dL_law_33 (by decide) (by decide) (by decide) (by decide) (lc_unlike l hLs h6 iv hk hn ih)
  · exact g_tin (off := 580) (tgt := 613) dL_law_33 (by decide) (by decide) (by decide) (by decide) (lc_luck l hLs h6 iv hk hn ih)
  · exact g_tin (off := 613) (tgt := 646) dL_law_33 (by decide) (by decide) (by decide) (by decide) (lc_right l hLs h6 iv hk hn ih)
  · exact g_tin (off := 636) (tgt := 669) dL_law_33 (by decide) (by decide) (by decide) (by decide) (lc_guess l hLs h6 iv hk hn ih)
  · exact g_tin (off := 669) (tgt := 702) dL_law_33 (by decide) (by decide) (by decide) (by decide) (lc_odds l hLs h6 iv hk hn ih)
  · exact g_tin (off := 722) (tgt := 755) dL_law_33 (by decide) (by decide) (by decide) (by decide) (lc_after l hLs h6 iv hk hn ih)
  · exact g_tin (off := 745) (tgt := 778) dL_law_33 (by decide) (by decide) (by decide) (by decide) (lc_shop l hLs h6 iv hk hn ih)
  · exact g_tin (off := 778) (tgt := 811) dL_law_33 (by decide) (by decide) (by decide) (by decide) (lc_chart l hLs h6 iv hk hn ih)
  · exact g_tin (off := 811) (tgt := 844) dL_law_33 (by decide) (by decide) (by decide) (by decide) (lc_crate l hLs h6 iv hk hn ih)
  · exact g_tin (off := 854) (tgt := 887) dL_law_33 (by decide) (by decide) (by decide) (by decide) (lc_found l hLs h6 iv hk hn ih)
  · exact g_tin (off := 887) (tgt := 920) dL_law_33 (by decide) (by decide) (by decide) (by decide) (lc_house l hLs h6 iv hk hn ih)
  · exact g_tin (off := 940) (tgt := 973) dL_law_33 (by decide) (by decide) (by decide) (by decide) (lc_said l hLs h6 iv hk hn ih)
  · exact g_tin (off := 973) (tgt := 1006) dL_law_33 (by decide) (by decide) (by decide) (by decide) (lc_strong l hLs h6 iv hk hn ih)
  · exact g_tin (off := 1016) (tgt := 1049) dL_law_33 (by decide) (by decide) (by decide) (by decide) (lc_line l hLs h6 iv hk hn ih)
  · exact g_tin (off := 1039) (tgt := 1072) dL_law_33 (by decide) (by decide) (by decide) (by decide) (lc_against l hLs h6 iv hk hn ih)
  · exact g_tin (off := 1082) (tgt := 1115) dL_law_33 (by decide) (by decide) (by decide) (by decide) (lc_undo l hLs h6 iv hk hn ih)
  · exact g_tin (off := 1095) (tgt := 1128) dL_law_33 (by decide) (by decide) (by decide) (by decide) (lc_redo l hLs h6 iv hk hn ih)
  · exact g_tin (off := 1108) (tgt := 1141) dL_law_33 (by decide) (by decide) (by decide) (by decide) (lc_body l hLs h6 iv hk hn ih)
  · exact g_tin (off := 1131) (tgt := 1164) dL_law_33 (by decide) (by decide) (by decide) (by decide) (lc_act l hLs h6 iv hk hn ih)
  · exact g_tin (off := 1174) (tgt := 1207) dL_law_33 (by decide) (by decide) (by decide) (by decide) (lc_trace l hLs h6 iv hk hn ih)
  · exact g_tin (off := 1197) (tgt := 1230) dL_law_33 (by decide) (by decide) (by decide) (by decide) (lc_keep l hLs h6 iv hk hn ih)
  · exact g_tin (off := 1230) (tgt := 1263) dL_law_33 (by decide) (by decide) (by decide) (by decide) (lc_row l hLs h6 iv hk hn ih)
  · exact g_tin (off := 1273) (tgt := 1306) dL_law_33 (by decide) (by decide) (by decide) (by decide) (lc_put l hLs h6 iv hk hn ih)
  · exact g_tin (off := 1346) (tgt := 1379) dL_law_33 (by decide) (by decide) (by decide) (by decide) (lc_element l hLs h6 iv hk hn ih)
  · exact g_tin (off := 1380) (tgt := 1413) dL_law_33 (by decide) (by decide) (by decide) (by decide) (lc_shift l hLs h6 iv hk hn ih)
  · exact g_tin (off := 1443) (tgt := 1476) dL_law_33 (by decide) (by decide) (by decide) (by decide) (lc_taken l hLs h6 iv hk hn ih)
  · exact g_tin (off := 1476) (tgt := 1509) dL_law_33 (by decide) (by decide) (by decide) (by decide) (lc_count l hLs h6 iv hk hn ih)

theorem law_loop (l : Launch) {Ls : Nat} {xs : Nat → Int32} (hLs : Ls ≤ 3072) : ∀ (f q : Nat) (S : Shp) (I : MI) (L : ML) (R : MR) (k n : Nat), 512 ≤ q + f → q ≤ 512 → Inv Ls xs q S I L R → k ≤ 80 + 7 * q → n ≤ 8100 + 308 * q → G l mL_law room_1 QL k n 18 [some (.inr (.inr (some (99, 0)))), some (.inr (.inr (some (0, 0)))), some (.inr (.inr (some (40, 0)))), some (.inl (nI (6 * q)))] [] S I L R := by
  intro f
  induction f with
  | zero =>
    intro q S I L R k n h1 h2 iv hk hn
    obtain ⟨n', m', c', b', g, kk⟩ := iv
    refine g_ild3 (pc' := 19) dL_law_18 rfl ?_
    refine g_ald0 (pc' := 20) dL_law_19 rfl ?_
    refine g_xlen (pc' := 21) g.s99 dL_law_20 rfl ?_
    refine g_bipush (pc' := 23) (v := nI 6) dL_law_21 rfl (by decide) ?_
    refine g_isub (pc' := 24) dL_law_23 rfl ?_
    refine g_icmpgt (pc' := 27) (tgt := 1538) dL_law_24 (by decide) rfl (fun _ => ?_) (fun z => absurd ((l_gt (by omega) (by omega)).mpr (by omega)) z)
    refine g_iconst (pc' := 1539) (v := nI 1) dL_law_1538 rfl (by decide) ?_
    exact l_end l (by omega) (by omega) dL_law_1539
  | succ f ihf =>
    intro q S I L R k n h1 h2 iv hk hn
    have iv0 := iv
    obtain ⟨n', m', c', b', g, kk⟩ := iv
    refine g_ild3 (pc' := 19) dL_law_18 rfl ?_
    refine g_ald0 (pc' := 20) dL_law_19 rfl ?_
    refine g_xlen (pc' := 21) g.s99 dL_law_20 rfl ?_
    refine g_bipush (pc' := 23) (v := nI 6) dL_law_21 rfl (by decide) ?_
    refine g_isub (pc' := 24) dL_law_23 rfl ?_
    refine g_icmpgt (pc' := 27) (tgt := 1538) dL_law_24 (by decide) rfl (fun _ => ?_) (fun h24 => ?_)
    · refine g_iconst (pc' := 1539) (v := nI 1) dL_law_1538 rfl (by decide) ?_
      exact l_end l (by omega) (by omega) dL_law_1539
    have h6 : 6 * q + 6 ≤ Ls := by
      rw [l_gt (by omega) (by omega)] at h24
      omega
    refine g_ald0 (pc' := 28) dL_law_27 rfl ?_
    refine g_ild3 (pc' := 29) dL_law_28 rfl ?_
    refine g_xald (pc' := 30) (j := 6 * q) g.s99 rfl (by omega) (by omega) rfl dL_law_29 rfl ?_
    refine g_bipush (pc' := 32) (v := nI 63) dL_law_30 rfl (by decide) ?_
    refine g_iand (pc' := 33) dL_law_32 rfl ?_
    refine l_call l hLs h6 iv0 hk hn ?_ (and63 _)
    intro S I L R k n iv hk hn
    refine g_inc3 (pc' := 1535) rfl (by decide) (v := nI (6 * (q + 1))) (by rw [show Int32.ofInt 6 = nI 6 from rfl, nI_add]; rfl) dL_law_1532 rfl ?_
    refine g_goto (tgt := 18) dL_law_1535 (by decide) ?_
    exact ihf (q + 1) S I L R k n (by omega) (by omega) iv hk hn
