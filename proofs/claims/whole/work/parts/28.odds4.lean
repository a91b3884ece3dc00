/-! Odds: foretelling -/
def incV (v : V4) (s : Nat) : V4 := match s with
  | 0 => (v.1 + 1, v.2.1, v.2.2.1, v.2.2.2)
  | 1 => (v.1, v.2.1 + 1, v.2.2.1, v.2.2.2)
  | 2 => (v.1, v.2.1, v.2.2.1 + 1, v.2.2.2)
  | _ => (v.1, v.2.1, v.2.2.1, v.2.2.2 + 1)
theorem incV_cN {v : V4} {s : Nat} (h : s < 4) : cN (incV v s) = cN v + 7 ^ s := by
  rcases (show s = 0 ∨ s = 1 ∨ s = 2 ∨ s = 3 by omega) with rfl | rfl | rfl | rfl <;> simp only [incV, cN] <;> omega
theorem incV_ok {v : V4} {n g s : Nat} (hn : n ≤ 4) (h : OKv n g v) (hs : s < n) : OKv n (g + 1) (incV v s) := by
  obtain ⟨a, b, c, d⟩ := v
  rcases (show s = 0 ∨ s = 1 ∨ s = 2 ∨ s = 3 by omega) with rfl | rfl | rfl | rfl <;> simp only [incV, OKv, sm] at h ⊢ <;> omega
def mixV (no : Int32) (w : Nat → Int32) (F : V4 → Int64) (v : V4) : Nat → Int64
  | 0 => no.toInt64 * F v
  | s + 1 => if w s ≤ 0 then mixV no w F v s else mixV no w F v s + (w s).toInt64 * F (incV v s)
theorem mixFV {no : Int32} {w : Nat → Int32} {C : Nat → Int64} {F : V4 → Int64} {v : V4} (h0 : C (cN v) = F v) : ∀ {n : Nat}, (∀ s, s < n → C (cN v + 7 ^ s) = F (incV v s)) → mixF no w C (cN v) n = mixV no w F v n
  | 0, _ => by simp only [mixF, mixV]; rw [h0]
  | n + 1, h => by
    simp only [mixF, mixV]
    rw [mixFV h0 (n := n) (fun q hq => h q (by omega)), h n (by omega)]
def leafO (n : Nat) (ct : Nat → Int32) (wh : Int32) (j : Nat) (v : V4) : Int64 :=
  if wh = nI 1 then (ctT ct v j).toInt64 * 1000 else if (if n = 0 then (-2) else nI (grN (ctT ct v) n)) = nI j then 1000000 else 0
/-- ODDS when all but t have come, by what is still to come -/
def odF (cd : Nat → Nat × Nat) (len n : Nat) (I : MI) (k m : Nat) (wh : Int32) (j : Nat) : Nat → V4 → Int64
  | 0, v => leafO n (I (12, k)) wh j v
  | t + 1, v => if allT cd len n I k (m - (t + 1)) v ≤ 0 then odF cd len n I k m wh j t v else mixV (I (11, 9) 5) (wT cd len n I k (m - (t + 1)) v) (odF cd len n I k m wh j t) v n / (allT cd len n I k (m - (t + 1)) v).toInt64
theorem stepC_odF {cd : Nat → Nat × Nat} {len n : Nat} {I I' : MI} {k m : Nat} {wh : Int32} {j a : Nat} {C : Nat → Int64} (hn4 : n ≤ 4) (ha : a < m) (hI : ∀ v s, wT cd len n I' k a v s = wT cd len n I k a v s) (h5 : I' (11, 9) 5 = I (11, 9) 5) (hC : ∀ x, OKv n (a + 1) x → C (cN x) = odF cd len n I k m wh j (m - (a + 1)) x) {v : V4} (hv : OKv n a v) : stepC cd len n I' k a C v = odF cd len n I k m wh j (m - a) v := by
  have hv1 : OKv n (a + 1) v := ⟨hv.1, hv.2.1, hv.2.2.1, hv.2.2.2.1, Nat.le_succ_of_le hv.2.2.2.2⟩
  have eA : allT cd len n I' k a v = allT cd len n I k a v := by unfold allT; rw [h5]; exact sumF_congr (fun q _ => hI v q)
  obtain ⟨t, ht⟩ : ∃ t, m - a = t + 1 := ⟨m - a - 1, by omega⟩
  have e1 : m - (a + 1) = t := by omega
  have e2 : m - (t + 1) = a := by omega
  rw [e1] at hC
  rw [ht]
  unfold stepC odF
  rw [e2, eA, hC v hv1, h5]
  split
  · rfl
  · congr 1
    have ew : wT cd len n I' k a v = wT cd len n I k a v := funext (hI v)
    rw [ew]
    exact mixFV (hC v hv1) (fun s hs => by rw [← incV_cN (by omega)]; exact hC _ (incV_ok hn4 hv hs))
theorem OG.upR {S : Shp} {R : MR} {x : Option Tok} (h : OG S R) : OG S (upM R (11, 9) 1 x) := by unfold OG at *; simpa [upM] using h
theorem SG.upR {S : Shp} {R : MR} {x : Option Tok} (h : SG S R) : SG S (upM R (11, 9) 1 x) := by unfold SG at *; simpa [upM] using h
theorem WG.upR {S : Shp} {R : MR} {j : Nat} {x : Option Tok} (h : WG j S R) : WG j S (upM R (11, 9) 1 x) := by unfold WG at *; simpa [upM] using h
theorem LG.upR {S : Shp} {R : MR} {j n : Nat} {x : Option Tok} (h : LG j n S R) : LG j n S (upM R (11, 9) 1 x) := by unfold LG at *; simpa [upM] using h
def foP (lj : Nat) (t : Tok) (i : Nat) : Prop := gbP lj t i ∨ (t = (11, 9) ∧ (i = 3 ∨ i = 4 ∨ i = 5))
theorem folI_fr {I : MI} {k lj : Nat} : Fr (foP lj) I (folI I 9 k) := ((Fr.rf.up (Or.inr ⟨rfl, by simp⟩)).up (Or.inr ⟨rfl, by simp⟩)).up (Or.inr ⟨rfl, by simp⟩)
def PIl (S : Shp) (R : MR) (q : Int32 → MI → ML → Prop) : PO := fun r S' I' L' R' => ∃ v, r = some (.inl v) ∧ S' = S ∧ R' = R ∧ q v I' L'
theorem eIl {S : Shp} {I : MI} {L : ML} {R : MR} {v : Int32} {q : Int32 → MI → ML → Prop} (h : q v I L) : PIl S R q (some (.inl v)) S I L R := ⟨v, rfl, rfl, rfl, h⟩
theorem wT_fr {cd : Nat → Nat × Nat} {len n k lj g : Nat} {I J : MI} (hk9 : ¬ k = 9) (hf : Fr (gbP lj) I J) (v : V4) (s : Nat) : wT cd len n J k g v s = wT cd len n I k g v s := by
  have e12 : J (12, k) = I (12, k) := funext fun i => hf _ _ (by simp [gbP, odP, thP, scW, hk9])
  have e2 : J (2, 0) = I (2, 0) := funext fun i => hf _ _ (by simp [gbP, odP, thP, scW])
  unfold wT
  rw [hf (11, 9) 3 (by simp [gbP, odP, thP, scW]), hf (11, 9) 4 (by simp [gbP, odP, thP, scW]), hf (11, k) 7 (by simp [gbP, odP, thP, scW, hk9]), hf (11, k) 8 (by simp [gbP, odP, thP, scW, hk9]), e12, e2]

theorem lt0 {a : Nat} (h : a < 2 ^ 31) : ¬ nI a < 0 := by
  rw [show (0 : Int32) = nI 0 from rfl, nI_ltI h (by decide)]
  omega
theorem c_foretell (l : Launch) {S : Shp} {I : MI} {L : ML} {R : MR} (og : OG S R) (sg : SG S R) (wg : WG 9 S R) {k n m j : Nat} {wh : Int32} (wgk : WG k S R) (hk9 : ¬ k = 9) (hn : I (1, 0) 1 = nI n) (hn4 : n ≤ 4) (hj : j < n) (hm6 : m ≤ 6) (st : ST I) {lj len : Nat} {cd : Nat → Nat × Nat} (lg : LG lj len S R) (hLk : R (11, k) 1 = some (7, lj)) (hv : LV I lj len cd) : Ct l mX3_foretell 6 0 0 [.inr (.inr (some (29, 0))), .inr (.inr (some (11, k))), .inl (nI j), .inl (nI m), .inl wh] S I L R (PIl S (upM R (11, 9) 1 (some (7, lj))) (fun r J L' => r = (odF cd len n (folI I 9 k) k m wh j m (0, 0, 0, 0)).toInt32 ∧ Fr (foP lj) I J ∧ ∀ t, t ≠ (30, 0) → L' t = L t)) := by
  refine Ct.of [some (.inr (.inr (some (29, 0)))), some (.inr (.inr (some (11, k)))), some (.inl (nI j)), some (.inl (nI m)), some (.inl wh), none] (by decide) rfl (Nat.le_of_ble_eq_true rfl) ?_
  refine g_ald0 (pc' := 1) dX3_foretell_0 rfl ?_
  refine g_getR (pc' := 4) og.s29 (by decide) fX3_23 og.r29_1 dX3_foretell_1 rfl ?_
  refine g_ald1 (pc' := 5) dX3_foretell_4 rfl ?_
  refine g_callV (pc' := 8) (c_followLawOf l hk9 wg wgk hLk) wg.s11 (by decide) wX7_followLawOf lX3_27 rfl rfl (Nat.le_of_ble_eq_true rfl) ⟨Nat.le_of_ble_eq_true rfl, Nat.le_of_ble_eq_true rfl⟩ ⟨Nat.le_of_ble_eq_true rfl, Nat.le_of_ble_eq_true rfl⟩ dX3_foretell_5 rfl (kV (fun I0 hI0 => ?_))
  obtain ⟨R1, hR1⟩ : ∃ R1, R1 = upM R (11, 9) 1 (some (7, lj)) := ⟨_, rfl⟩
  rw [← hR1]
  have og : OG S R1 := by rw [hR1]; exact og.upR
  have sg : SG S R1 := by rw [hR1]; exact sg.upR
  have wg : WG 9 S R1 := by rw [hR1]; exact wg.upR
  have wgk : WG k S R1 := by rw [hR1]; exact wgk.upR
  have lg : LG lj len S R1 := by rw [hR1]; exact lg.upR
  have hLw : R1 (11, 9) 1 = some (7, lj) := by rw [hR1]; exact upM_s _ _ _ _
  have hf0 : Fr (foP lj) I I0 := by rw [hI0]; exact folI_fr
  have hn0 : I0 (1, 0) 1 = nI n := by rw [hI0]; simp [folI, upM, hn]
  have st0 : ST I0 := by rw [hI0]; exact st.fr (folI_fr (lj := lj)) (by simp [foP, gbP, odP, thP, scW])
  have hv0 : LV I0 lj len cd := hv.to (fun i => by rw [hI0]; simp [folI, upM])
  rw [← hI0]
  refine g_ald0 (pc' := 9) dX3_foretell_8 rfl ?_
  refine g_callV (pc' := 12) (c_oStart l og) og.s29 (by decide) wX3_start lX3_33 rfl rfl (Nat.le_of_ble_eq_true rfl) ⟨Nat.le_of_ble_eq_true rfl, Nat.le_of_ble_eq_true rfl⟩ ⟨Nat.le_of_ble_eq_true rfl, Nat.le_of_ble_eq_true rfl⟩ dX3_foretell_9 rfl (kV (fun J0 hq0 => ?_))
  refine g_iconst (pc' := 13) (v := nI 0) dX3_foretell_12 rfl (by decide) ?_
  refine g_ist5 (pc' := 15) rfl (by decide) dX3_foretell_13 rfl ?_
  refine g_loopDL (σ := V4 × Nat × MI × ML) (fun a q => q.2.1 + a = 2401 ∧ OM q.2.2.1 q.1 ∧ OKv n m q.1 ∧ q.2.1 ≤ cN q.1 ∧ Fr (gbP lj) I0 q.2.2.1 ∧ (∀ t, t ≠ (30, 0) → q.2.2.2 t = L t) ∧ (∀ x, OKv n m x → cN x < cN q.1 → q.2.2.2 (30, 0) (cN x) = leafO n (I0 (12, k)) wh j x)) (fun a s => [some (.inr (.inr (some (29, 0)))), some (.inr (.inr (some (11, k)))), some (.inl (nI j)), some (.inl (nI m)), some (.inl wh), some (.inl (nI s.2.1))]) (fun a s => s.2.2.1) (fun a s => s.2.2.2) 2401 ((0, 0, 0, 0), 0, J0, L) ⟨rfl, hq0.1, by simp [OKv, sm], Nat.zero_le _, hq0.2.le (fun t i q => Or.inl q), fun _ _ => rfl, fun x _ hx => absurd hx (by simp [cN])⟩ ?_
  rintro a ⟨v, i, J1, L1⟩ ⟨ha, hO, hok, hi, hfr, hL1, hL3⟩ ihD
  simp only at ha hO hok hi hfr hL1 hL3 ⊢
  have hcv := cN_lt hok
  have hn1 : J1 (1, 0) 1 = nI n := (hfr _ _ (by simp [gbP, odP, thP, scW])).trans hn0
  have st1 := st0
  refine g_ild5 (pc' := 17) dX3_foretell_15 rfl ?_
  refine g_sipush (pc' := 20) (v := nI 2401) dX3_foretell_17 rfl (by decide) ?_
  refine g_icmpgeN (pc' := 23) (by omega) (by omega) (tgt := 96) dX3_foretell_20 (by decide) rfl (fun h20 => absurd h20 (by omega)) (fun h20 => ?_)
  refine g_ald0 (pc' := 24) dX3_foretell_23 rfl ?_
  refine g_ald1 (pc' := 25) dX3_foretell_24 rfl ?_
  refine g_ild3 (pc' := 26) dX3_foretell_25 rfl ?_
  refine g_callV (pc' := 29) (c_think l og sg wg wgk hk9 hn1 hn4 hO) og.s29 (by decide) wX3_think lX3_36 rfl rfl (Nat.le_of_ble_eq_true rfl) ⟨Nat.le_of_ble_eq_true rfl, Nat.le_of_ble_eq_true rfl⟩ ⟨Nat.le_of_ble_eq_true rfl, Nat.le_of_ble_eq_true rfl⟩ dX3_foretell_26 rfl (kV (fun J2 hq2 => ?_))
  obtain ⟨e7, e8, ec, hfr2⟩ := hq2
  have hfr2' : Fr (gbP lj) J1 J2 := hfr2.le (fun t i q => Or.inr (Or.inl q))
  have hn2 : J2 (1, 0) 1 = nI n := ((hfr.tr hfr2') _ _ (by simp [gbP, odP, thP, scW])).trans hn0
  have ec' : ∀ s, s < n → J2 (12, 9) s = ctT (I0 (12, k)) v s := fun s hs => (ec s hs).trans (by rw [hfr (12, k) s (by simp [gbP, odP, thP, scW, hk9])]; rfl)
  have hO2 : OM J2 v := hO.fr hfr2 (by simp [thP]) (by simp [thP]) (by simp [thP])
  have st2 : ST J2 := st0.fr (hfr.tr hfr2') (by simp [gbP, odP, thP, scW])
  refine g_ald0 (pc' := 30) dX3_foretell_29 rfl ?_
  refine g_getR (pc' := 33) og.s29 (by decide) fX3_11 og.r29_2 dX3_foretell_30 rfl ?_
  refine g_ald0 (pc' := 34) dX3_foretell_33 rfl ?_
  refine g_getI (pc' := 37) og.s29 (by decide) fX3_40 hO2.2.2.2.2.2 dX3_foretell_34 rfl ?_
  refine g_ild4 (pc' := 39) dX3_foretell_37 rfl ?_
  refine g_iconst (pc' := 40) (v := nI 1) dX3_foretell_39 rfl (by decide) ?_
  refine g_icmpne (pc' := 43) (tgt := 60) dX3_foretell_40 (by decide) rfl (fun h40 => ?_) (fun h40 => ?_)
  · refine g_ald0 (pc' := 61) dX3_foretell_60 rfl ?_
    refine g_getR (pc' := 64) og.s29 (by decide) fX3_23 og.r29_1 dX3_foretell_61 rfl ?_
    refine g_callV (pc' := 67) (c_first l sg wg hn2 (by omega)) wg.s11 (by decide) wX7_first lX3_49 rfl rfl (Nat.le_of_ble_eq_true rfl) ⟨Nat.le_of_ble_eq_true rfl, Nat.le_of_ble_eq_true rfl⟩ ⟨Nat.le_of_ble_eq_true rfl, Nat.le_of_ble_eq_true rfl⟩ dX3_foretell_64 rfl (kIp ?_)
    refine g_ild2 (pc' := 68) dX3_foretell_67 rfl ?_
    refine g_icmpne (pc' := 71) (tgt := 77) dX3_foretell_68 (by decide) rfl (fun h68 => ?_) (fun h68 => ?_)
    · refine g_lconst (pc' := 78) (v := 0) dX3_foretell_77 rfl (by decide) ?_
      refine g_last (pc' := 79) (j := cN v) og.s30 rfl (by omega) (by decide) dX3_foretell_78 rfl ?_
      have hL5 : (∀ t, t ≠ (30, 0) → (upM L1 (30, 0) (cN v) 0) t = L t) ∧ (∀ x, OKv n m x → cN x ≤ cN v → (upM L1 (30, 0) (cN v) 0) (30, 0) (cN x) = leafO n (I0 (12, k)) wh j x) := by
        refine ⟨fun t ht => by rw [upM_n _ ht]; exact hL1 t ht, fun x hx hxc => ?_⟩
        by_cases q : cN x = cN v
        · rw [cN_inj (m := m) (by omega) hx hok q, upM_s]
          unfold leafO
          rw [if_neg h40, if_neg (fun q => h68 (by rw [← q, grN_congr (fun s hs => (ec' s hs))]))]
        · rw [upM_k _ _ q]
          exact hL3 x hx (by omega)
      generalize (upM L1 (30, 0) (cN v) 0) = L5 at hL5 ⊢
      refine g_ald0 (pc' := 80) dX3_foretell_79 rfl ?_
      refine g_ild3 (pc' := 81) dX3_foretell_80 rfl ?_
      refine g_callV (pc' := 84) (c_turn l og sg hn2 hn4 hm6 st2 hO2 hok) og.s29 (by decide) wX3_turn lX3_55 rfl rfl (Nat.le_of_ble_eq_true rfl) ⟨Nat.le_of_ble_eq_true rfl, Nat.le_of_ble_eq_true rfl⟩ ⟨Nat.le_of_ble_eq_true rfl, Nat.le_of_ble_eq_true rfl⟩ dX3_foretell_81 rfl (kI (fun r4 J4 hq4 => ?_))
      rcases hq4 with ⟨v', rfl, hO4, hok4, hlt4, hmin4, hfr4⟩ | ⟨rfl, hmax4, hfr4⟩
      · refine g_ifneN (pc' := 87) (by omega) (tgt := 90) dX3_foretell_84 (by decide) rfl (fun h84 => ?_) (fun h84 => (by first | exact absurd h84 (by decide) | exact absurd (by decide) h84))
        refine g_inc5 (pc' := 93) rfl (by decide) (v := nI (i + 1)) (nI_1 _) dX3_foretell_90 rfl ?_
        refine g_goto (tgt := 15) dX3_foretell_93 (by decide) ?_
        exact ihD (2401 - (i + 1)) (v', i + 1, J4, L5) (by omega) ⟨show i + 1 + (2401 - (i + 1)) = 2401 by omega, hO4, hok4, show i + 1 ≤ cN v' by omega, (hfr.tr hfr2').tr (hfr4.le (fun t i q => Or.inl q)), hL5.1, fun x hx (hxc : cN x < cN v') => hL5.2 x hx (Nat.le_of_not_lt fun q => by have := hmin4 x hx q; omega)⟩
      · refine g_ifneN (pc' := 87) (by omega) (tgt := 90) dX3_foretell_84 (by decide) rfl (fun h84 => (by first | exact absurd h84 (by decide) | exact absurd (by decide) h84)) (fun h84 => ?_)
        refine g_goto (tgt := 96) dX3_foretell_87 (by decide) ?_
        refine g_ild3 (pc' := 97) dX3_foretell_96 rfl ?_
        refine g_iconst (pc' := 98) (v := nI 1) dX3_foretell_97 rfl (by decide) ?_
        refine g_isub (pc' := 99) dX3_foretell_98 rfl ?_
        refine g_topi (v := nI m - nI 1) (rfl) ?_
        refine g_ist5 (pc' := 101) rfl (by decide) dX3_foretell_99 rfl ?_
        refine g_loopDL (σ := MI × ML) (fun a q => a ≤ m ∧ Fr (gbP lj) I0 q.1 ∧ (∀ t, t ≠ (30, 0) → q.2 t = L t) ∧ ∀ x, OKv n a x → q.2 (30, 0) (cN x) = odF cd len n I0 k m wh j (m - a) x) (fun a s => [some (.inr (.inr (some (29, 0)))), some (.inr (.inr (some (11, k)))), some (.inl (nI j)), some (.inl (nI m)), some (.inl wh), some (.inl (nI a - nI 1))]) (fun a s => s.1) (fun a s => s.2) m (J4, L5) ⟨Nat.le_refl _, (hfr.tr hfr2').tr (hfr4.le (fun t i q => Or.inl q)), hL5.1, fun x hx => (hL5.2 x hx (hmax4 x hx)).trans (by rw [Nat.sub_self]; rfl)⟩ ?_
        clear hfr hL1 hL3 hn1 st1
        rintro a ⟨J1, L1⟩ ⟨ham, hfr, hL1, hL3⟩ ihD
        simp only at hfr hL1 hL3 ⊢
        have hn1 : J1 (1, 0) 1 = nI n := (hfr _ _ (by simp [gbP, odP, thP, scW])).trans hn0
        have st1 : ST J1 := st0.fr hfr (by simp [gbP, odP, thP, scW])
        have hv1 : LV J1 lj len cd := hv0.to (fun i => hfr _ _ (by simp [gbP, odP, thP, scW]))
        cases a with
        | zero =>
          refine g_ild5 (pc' := 103) dX3_foretell_101 rfl ?_
          refine g_iflt (pc' := 106) (tgt := 119) dX3_foretell_103 (by decide) rfl (fun h103 => ?_) (fun h103 => (by first | exact absurd h103 (show (nI 0 - nI 1 : Int32) < 0 by decide) | exact absurd (show (nI 0 - nI 1 : Int32) < 0 by decide) h103))
          refine g_ald0 (pc' := 120) dX3_foretell_119 rfl ?_
          refine g_getR (pc' := 123) og.s29 (by decide) fX3_11 og.r29_2 dX3_foretell_120 rfl ?_
          refine g_iconst (pc' := 124) (v := nI 0) dX3_foretell_123 rfl (by decide) ?_
          refine g_lald (pc' := 125) (j := 0) og.s30 rfl (by omega) (by decide) rfl dX3_foretell_124 rfl ?_
          refine g_l2i (pc' := 126) dX3_foretell_125 rfl ?_
          refine g_iret rfl dX3_foretell_126 ?_
          have e0 : L1 (30, 0) 0 = odF cd len n I0 k m wh j m (0, 0, 0, 0) := (congrArg (L1 (30, 0)) (show 0 = cN (0, 0, 0, 0) by simp [cN])).trans (hL3 (0, 0, 0, 0) (by simp [OKv, sm]))
          exact eIl ⟨by rw [e0], hf0.tr (hfr.le (fun t i q => Or.inl q)), hL1⟩
        | succ a =>
          have ea : nI (a + 1) - nI 1 = nI a := pk_sub (by omega)
          rw [ea]
          refine g_ild5 (pc' := 103) dX3_foretell_101 rfl ?_
          refine g_ifltN (pc' := 106) (by omega) dX3_foretell_103 rfl ?_
          refine g_ald0 (pc' := 107) dX3_foretell_106 rfl ?_
          refine g_ald1 (pc' := 108) dX3_foretell_107 rfl ?_
          refine g_ild5 (pc' := 110) dX3_foretell_108 rfl ?_
          refine g_callV (pc' := 113) (c_goBack l og sg wg wgk hk9 hn1 hn4 (by omega) st1 lg hLw hv1) og.s29 (by decide) wX3_goBack lX3_59 rfl rfl (Nat.le_of_ble_eq_true rfl) ⟨Nat.le_of_ble_eq_true rfl, Nat.le_of_ble_eq_true rfl⟩ ⟨Nat.le_of_ble_eq_true rfl, Nat.le_of_ble_eq_true rfl⟩ dX3_foretell_110 rfl (kVl (fun J2 L2 hq2 => ?_))
          refine g_inc5 (pc' := 116) rfl (by decide) (v := nI a - nI 1) (by rw [show Int32.ofInt (-1) = -(nI 1) from by decide, ← Int32.sub_eq_add_neg]) dX3_foretell_113 rfl ?_
          refine g_goto (tgt := 101) dX3_foretell_116 (by decide) ?_
          obtain ⟨hfr2, hL2, hx2⟩ := hq2
          exact ihD a (J2, L2) (by omega) ⟨by omega, hfr.tr hfr2, fun t ht => (hL2 t ht).trans (hL1 t ht), fun x hx => (hx2 x hx).trans (stepC_odF hn4 (by omega) (fun v s => wT_fr hk9 hfr v s) (hfr _ _ (by simp [gbP, odP, thP, scW])) hL3 hx)⟩
    · refine g_ldc2 (pc' := 74) dX3_foretell_71 rfl kX3_53 ?_
      refine g_goto (tgt := 78) dX3_foretell_74 (by decide) ?_
      refine g_last (pc' := 79) (j := cN v) og.s30 rfl (by omega) (by decide) dX3_foretell_78 rfl ?_
      have hL5 : (∀ t, t ≠ (30, 0) → (upM L1 (30, 0) (cN v) 1000000) t = L t) ∧ (∀ x, OKv n m x → cN x ≤ cN v → (upM L1 (30, 0) (cN v) 1000000) (30, 0) (cN x) = leafO n (I0 (12, k)) wh j x) := by
        refine ⟨fun t ht => by rw [upM_n _ ht]; exact hL1 t ht, fun x hx hxc => ?_⟩
        by_cases q : cN x = cN v
        · rw [cN_inj (m := m) (by omega) hx hok q, upM_s]
          unfold leafO
          rw [if_neg h40, if_pos (by rw [← h68, grN_congr (fun s hs => (ec' s hs))])]
        · rw [upM_k _ _ q]
          exact hL3 x hx (by omega)
      generalize (upM L1 (30, 0) (cN v) 1000000) = L5 at hL5 ⊢
      refine g_ald0 (pc' := 80) dX3_foretell_79 rfl ?_
      refine g_ild3 (pc' := 81) dX3_foretell_80 rfl ?_
      refine g_callV (pc' := 84) (c_turn l og sg hn2 hn4 hm6 st2 hO2 hok) og.s29 (by decide) wX3_turn lX3_55 rfl rfl (Nat.le_of_ble_eq_true rfl) ⟨Nat.le_of_ble_eq_true rfl, Nat.le_of_ble_eq_true rfl⟩ ⟨Nat.le_of_ble_eq_true rfl, Nat.le_of_ble_eq_true rfl⟩ dX3_foretell_81 rfl (kI (fun r4 J4 hq4 => ?_))
      rcases hq4 with ⟨v', rfl, hO4, hok4, hlt4, hmin4, hfr4⟩ | ⟨rfl, hmax4, hfr4⟩
      · refine g_ifneN (pc' := 87) (by omega) (tgt := 90) dX3_foretell_84 (by decide) rfl (fun h84 => ?_) (fun h84 => (by first | exact absurd h84 (by decide) | exact absurd (by decide) h84))
        refine g_inc5 (pc' := 93) rfl (by decide) (v := nI (i + 1)) (nI_1 _) dX3_foretell_90 rfl ?_
        refine g_goto (tgt := 15) dX3_foretell_93 (by decide) ?_
        exact ihD (2401 - (i + 1)) (v', i + 1, J4, L5) (by omega) ⟨show i + 1 + (2401 - (i + 1)) = 2401 by omega, hO4, hok4, show i + 1 ≤ cN v' by omega, (hfr.tr hfr2').tr (hfr4.le (fun t i q => Or.inl q)), hL5.1, fun x hx (hxc : cN x < cN v') => hL5.2 x hx (Nat.le_of_not_lt fun q => by have := hmin4 x hx q; omega)⟩
      · refine g_ifneN (pc' := 87) (by omega) (tgt := 90) dX3_foretell_84 (by decide) rfl (fun h84 => (by first | exact absurd h84 (by decide) | exact absurd (by decide) h84)) (fun h84 => ?_)
        refine g_goto (tgt := 96) dX3_foretell_87 (by decide) ?_
        refine g_ild3 (pc' := 97) dX3_foretell_96 rfl ?_
        refine g_iconst (pc' := 98) (v := nI 1) dX3_foretell_97 rfl (by decide) ?_
        refine g_isub (pc' := 99) dX3_foretell_98 rfl ?_
        refine g_topi (v := nI m - nI 1) (rfl) ?_
        refine g_ist5 (pc' := 101) rfl (by decide) dX3_foretell_99 rfl ?_
        refine g_loopDL (σ := MI × ML) (fun a q => a ≤ m ∧ Fr (gbP lj) I0 q.1 ∧ (∀ t, t ≠ (30, 0) → q.2 t = L t) ∧ ∀ x, OKv n a x → q.2 (30, 0) (cN x) = odF cd len n I0 k m wh j (m - a) x) (fun a s => [some (.inr (.inr (some (29, 0)))), some (.inr (.inr (some (11, k)))), some (.inl (nI j)), some (.inl (nI m)), some (.inl wh), some (.inl (nI a - nI 1))]) (fun a s => s.1) (fun a s => s.2) m (J4, L5) ⟨Nat.le_refl _, (hfr.tr hfr2').tr (hfr4.le (fun t i q => Or.inl q)), hL5.1, fun x hx => (hL5.2 x hx (hmax4 x hx)).trans (by rw [Nat.sub_self]; rfl)⟩ ?_
        clear hfr hL1 hL3 hn1 st1
        rintro a ⟨J1, L1⟩ ⟨ham, hfr, hL1, hL3⟩ ihD
        simp only at hfr hL1 hL3 ⊢
        have hn1 : J1 (1, 0) 1 = nI n := (hfr _ _ (by simp [gbP, odP, thP, scW])).trans hn0
        have st1 : ST J1 := st0.fr hfr (by simp [gbP, odP, thP, scW])
        have hv1 : LV J1 lj len cd := hv0.to (fun i => hfr _ _ (by simp [gbP, odP, thP, scW]))
        cases a with
        | zero =>
          refine g_ild5 (pc' := 103) dX3_foretell_101 rfl ?_
          refine g_iflt (pc' := 106) (tgt := 119) dX3_foretell_103 (by decide) rfl (fun h103 => ?_) (fun h103 => (by first | exact absurd h103 (show (nI 0 - nI 1 : Int32) < 0 by decide) | exact absurd (show (nI 0 - nI 1 : Int32) < 0 by decide) h103))
          refine g_ald0 (pc' := 120) dX3_foretell_119 rfl ?_
          refine g_getR (pc' := 123) og.s29 (by decide) fX3_11 og.r29_2 dX3_foretell_120 rfl ?_
          refine g_iconst (pc' := 124) (v := nI 0) dX3_foretell_123 rfl (by decide) ?_
          refine g_lald (pc' := 125) (j := 0) og.s30 rfl (by omega) (by decide) rfl dX3_foretell_124 rfl ?_
          refine g_l2i (pc' := 126) dX3_foretell_125 rfl ?_
          refine g_iret rfl dX3_foretell_126 ?_
          have e0 : L1 (30, 0) 0 = odF cd len n I0 k m wh j m (0, 0, 0, 0) := (congrArg (L1 (30, 0)) (show 0 = cN (0, 0, 0, 0) by simp [cN])).trans (hL3 (0, 0, 0, 0) (by simp [OKv, sm]))
          exact eIl ⟨by rw [e0], hf0.tr (hfr.le (fun t i q => Or.inl q)), hL1⟩
        | succ a =>
          have ea : nI (a + 1) - nI 1 = nI a := pk_sub (by omega)
          rw [ea]
          refine g_ild5 (pc' := 103) dX3_foretell_101 rfl ?_
          refine g_ifltN (pc' := 106) (by omega) dX3_foretell_103 rfl ?_
          refine g_ald0 (pc' := 107) dX3_foretell_106 rfl ?_
          refine g_ald1 (pc' := 108) dX3_foretell_107 rfl ?_
          refine g_ild5 (pc' := 110) dX3_foretell_108 rfl ?_
          refine g_callV (pc' := 113) (c_goBack l og sg wg wgk hk9 hn1 hn4 (by omega) st1 lg hLw hv1) og.s29 (by decide) wX3_goBack lX3_59 rfl rfl (Nat.le_of_ble_eq_true rfl) ⟨Nat.le_of_ble_eq_true rfl, Nat.le_of_ble_eq_true rfl⟩ ⟨Nat.le_of_ble_eq_true rfl, Nat.le_of_ble_eq_true rfl⟩ dX3_foretell_110 rfl (kVl (fun J2 L2 hq2 => ?_))
          refine g_inc5 (pc' := 116) rfl (by decide) (v := nI a - nI 1) (by rw [show Int32.ofInt (-1) = -(nI 1) from by decide, ← Int32.sub_eq_add_neg]) dX3_foretell_113 rfl ?_
          refine g_goto (tgt := 101) dX3_foretell_116 (by decide) ?_
          obtain ⟨hfr2, hL2, hx2⟩ := hq2
          exact ihD a (J2, L2) (by omega) ⟨by omega, hfr.tr hfr2, fun t ht => (hL2 t ht).trans (hL1 t ht), fun x hx => (hx2 x hx).trans (stepC_odF hn4 (by omega) (fun v s => wT_fr hk9 hfr v s) (hfr _ _ (by simp [gbP, odP, thP, scW])) hL3 hx)⟩
  · refine g_ald0 (pc' := 44) dX3_foretell_43 rfl ?_
    refine g_getR (pc' := 47) og.s29 (by decide) fX3_23 og.r29_1 dX3_foretell_44 rfl ?_
    refine g_getR (pc' := 50) wg.s11 (by decide) fX3_44 wg.r11_10 dX3_foretell_47 rfl ?_
    refine g_ild2 (pc' := 51) dX3_foretell_50 rfl ?_
    refine g_iald (pc' := 52) (j := j) wg.s12 rfl (by omega) (by decide) (v := ctT (I0 (12, k)) v j) (ec' j hj) dX3_foretell_51 rfl ?_
    refine g_i2l (pc' := 53) dX3_foretell_52 rfl ?_
    refine g_ldc2 (pc' := 56) dX3_foretell_53 rfl kX3_47 ?_
    refine g_lmul (pc' := 57) dX3_foretell_56 rfl ?_
    refine g_goto (tgt := 78) dX3_foretell_57 (by decide) ?_
    refine g_last (pc' := 79) (j := cN v) og.s30 rfl (by omega) (by decide) dX3_foretell_78 rfl ?_
    have hL5 : (∀ t, t ≠ (30, 0) → (upM L1 (30, 0) (cN v) ((ctT (I0 (12, k)) v j).toInt64 * 1000)) t = L t) ∧ (∀ x, OKv n m x → cN x ≤ cN v → (upM L1 (30, 0) (cN v) ((ctT (I0 (12, k)) v j).toInt64 * 1000)) (30, 0) (cN x) = leafO n (I0 (12, k)) wh j x) := by
      refine ⟨fun t ht => by rw [upM_n _ ht]; exact hL1 t ht, fun x hx hxc => ?_⟩
      by_cases q : cN x = cN v
      · rw [cN_inj (m := m) (by omega) hx hok q, upM_s]
        unfold leafO
        rw [if_pos h40]
      · rw [upM_k _ _ q]
        exact hL3 x hx (by omega)
    generalize (upM L1 (30, 0) (cN v) ((ctT (I0 (12, k)) v j).toInt64 * 1000)) = L5 at hL5 ⊢
    refine g_ald0 (pc' := 80) dX3_foretell_79 rfl ?_
    refine g_ild3 (pc' := 81) dX3_foretell_80 rfl ?_
    refine g_callV (pc' := 84) (c_turn l og sg hn2 hn4 hm6 st2 hO2 hok) og.s29 (by decide) wX3_turn lX3_55 rfl rfl (Nat.le_of_ble_eq_true rfl) ⟨Nat.le_of_ble_eq_true rfl, Nat.le_of_ble_eq_true rfl⟩ ⟨Nat.le_of_ble_eq_true rfl, Nat.le_of_ble_eq_true rfl⟩ dX3_foretell_81 rfl (kI (fun r4 J4 hq4 => ?_))
    rcases hq4 with ⟨v', rfl, hO4, hok4, hlt4, hmin4, hfr4⟩ | ⟨rfl, hmax4, hfr4⟩
    · refine g_ifneN (pc' := 87) (by omega) (tgt := 90) dX3_foretell_84 (by decide) rfl (fun h84 => ?_) (fun h84 => (by first | exact absurd h84 (by decide) | exact absurd (by decide) h84))
      refine g_inc5 (pc' := 93) rfl (by decide) (v := nI (i + 1)) (nI_1 _) dX3_foretell_90 rfl ?_
      refine g_goto (tgt := 15) dX3_foretell_93 (by decide) ?_
      exact ihD (2401 - (i + 1)) (v', i + 1, J4, L5) (by omega) ⟨show i + 1 + (2401 - (i + 1)) = 2401 by omega, hO4, hok4, show i + 1 ≤ cN v' by omega, (hfr.tr hfr2').tr (hfr4.le (fun t i q => Or.inl q)), hL5.1, fun x hx (hxc : cN x < cN v') => hL5.2 x hx (Nat.le_of_not_lt fun q => by have := hmin4 x hx q; omega)⟩
    · refine g_ifneN (pc' := 87) (by omega) (tgt := 90) dX3_foretell_84 (by decide) rfl (fun h84 => (by first | exact absurd h84 (by decide) | exact absurd (by decide) h84)) (fun h84 => ?_)
      refine g_goto (tgt := 96) dX3_foretell_87 (by decide) ?_
      refine g_ild3 (pc' := 97) dX3_foretell_96 rfl ?_
      refine g_iconst (pc' := 98) (v := nI 1) dX3_foretell_97 rfl (by decide) ?_
      refine g_isub (pc' := 99) dX3_foretell_98 rfl ?_
      refine g_topi (v := nI m - nI 1) (rfl) ?_
      refine g_ist5 (pc' := 101) rfl (by decide) dX3_foretell_99 rfl ?_
      refine g_loopDL (σ := MI × ML) (fun a q => a ≤ m ∧ Fr (gbP lj) I0 q.1 ∧ (∀ t, t ≠ (30, 0) → q.2 t = L t) ∧ ∀ x, OKv n a x → q.2 (30, 0) (cN x) = odF cd len n I0 k m wh j (m - a) x) (fun a s => [some (.inr (.inr (some (29, 0)))), some (.inr (.inr (some (11, k)))), some (.inl (nI j)), some (.inl (nI m)), some (.inl wh), some (.inl (nI a - nI 1))]) (fun a s => s.1) (fun a s => s.2) m (J4, L5) ⟨Nat.le_refl _, (hfr.tr hfr2').tr (hfr4.le (fun t i q => Or.inl q)), hL5.1, fun x hx => (hL5.2 x hx (hmax4 x hx)).trans (by rw [Nat.sub_self]; rfl)⟩ ?_
      clear hfr hL1 hL3 hn1 st1
      rintro a ⟨J1, L1⟩ ⟨ham, hfr, hL1, hL3⟩ ihD
      simp only at hfr hL1 hL3 ⊢
      have hn1 : J1 (1, 0) 1 = nI n := (hfr _ _ (by simp [gbP, odP, thP, scW])).trans hn0
      have st1 : ST J1 := st0.fr hfr (by simp [gbP, odP, thP, scW])
      have hv1 : LV J1 lj len cd := hv0.to (fun i => hfr _ _ (by simp [gbP, odP, thP, scW]))
      cases a with
      | zero =>
        refine g_ild5 (pc' := 103) dX3_foretell_101 rfl ?_
        refine g_iflt (pc' := 106) (tgt := 119) dX3_foretell_103 (by decide) rfl (fun h103 => ?_) (fun h103 => (by first | exact absurd h103 (show (nI 0 - nI 1 : Int32) < 0 by decide) | exact absurd (show (nI 0 - nI 1 : Int32) < 0 by decide) h103))
        refine g_ald0 (pc' := 120) dX3_foretell_119 rfl ?_
        refine g_getR (pc' := 123) og.s29 (by decide) fX3_11 og.r29_2 dX3_foretell_120 rfl ?_
        refine g_iconst (pc' := 124) (v := nI 0) dX3_foretell_123 rfl (by decide) ?_
        refine g_lald (pc' := 125) (j := 0) og.s30 rfl (by omega) (by decide) rfl dX3_foretell_124 rfl ?_
        refine g_l2i (pc' := 126) dX3_foretell_125 rfl ?_
        refine g_iret rfl dX3_foretell_126 ?_
        have e0 : L1 (30, 0) 0 = odF cd len n I0 k m wh j m (0, 0, 0, 0) := (congrArg (L1 (30, 0)) (show 0 = cN (0, 0, 0, 0) by simp [cN])).trans (hL3 (0, 0, 0, 0) (by simp [OKv, sm]))
        exact eIl ⟨by rw [e0], hf0.tr (hfr.le (fun t i q => Or.inl q)), hL1⟩
      | succ a =>
        have ea : nI (a + 1) - nI 1 = nI a := pk_sub (by omega)
        rw [ea]
        refine g_ild5 (pc' := 103) dX3_foretell_101 rfl ?_
        refine g_ifltN (pc' := 106) (by omega) dX3_foretell_103 rfl ?_
        refine g_ald0 (pc' := 107) dX3_foretell_106 rfl ?_
        refine g_ald1 (pc' := 108) dX3_foretell_107 rfl ?_
        refine g_ild5 (pc' := 110) dX3_foretell_108 rfl ?_
        refine g_callV (pc' := 113) (c_goBack l og sg wg wgk hk9 hn1 hn4 (by omega) st1 lg hLw hv1) og.s29 (by decide) wX3_goBack lX3_59 rfl rfl (Nat.le_of_ble_eq_true rfl) ⟨Nat.le_of_ble_eq_true rfl, Nat.le_of_ble_eq_true rfl⟩ ⟨Nat.le_of_ble_eq_true rfl, Nat.le_of_ble_eq_true rfl⟩ dX3_foretell_110 rfl (kVl (fun J2 L2 hq2 => ?_))
        refine g_inc5 (pc' := 116) rfl (by decide) (v := nI a - nI 1) (by rw [show Int32.ofInt (-1) = -(nI 1) from by decide, ← Int32.sub_eq_add_neg]) dX3_foretell_113 rfl ?_
        refine g_goto (tgt := 101) dX3_foretell_116 (by decide) ?_
        obtain ⟨hfr2, hL2, hx2⟩ := hq2
        exact ihD a (J2, L2) (by omega) ⟨by omega, hfr.tr hfr2, fun t ht => (hL2 t ht).trans (hL1 t ht), fun x hx => (hx2 x hx).trans (stepC_odF hn4 (by omega) (fun v s => wT_fr hk9 hfr v s) (hfr _ _ (by simp [gbP, odP, thP, scW])) hL3 hx)⟩
