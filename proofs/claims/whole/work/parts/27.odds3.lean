/-! Odds: going back -/
theorem g_loopDL {l : Launch} {mi : MInf} {Rm : Room} {Qf : QF} {k n pc : Nat} {S : Shp} {R : MR} {st : List PV} {σ : Type} (P : Nat → σ → Prop) (lvf : Nat → σ → List (Option PV)) (If : Nat → σ → MI) (Lf : Nat → σ → ML) (a0 : Nat) (s0 : σ) (h0 : P a0 s0)
    (step : ∀ a s, P a s → (∀ a' s', a' < a → P a' s' → G l mi Rm Qf k n pc (lvf a' s') st S (If a' s') (Lf a' s') R) → G l mi Rm Qf k n pc (lvf a s) st S (If a s) (Lf a s) R) : G l mi Rm Qf k n pc (lvf a0 s0) st S (If a0 s0) (Lf a0 s0) R := by
  have key : ∀ (j a : Nat) (s : σ), a ≤ j → P a s → G l mi Rm Qf k n pc (lvf a s) st S (If a s) (Lf a s) R := by
    intro j
    induction j with
    | zero => exact fun a s ha hP => step a s hP (fun a' s' hlt _ => absurd hlt (by omega))
    | succ j ih => exact fun a s ha hP => step a s hP (fun a' s' hlt h' => ih a' s' (by omega) h')
  exact key a0 a0 s0 (Nat.le_refl _) h0
/-- ints and longs are changed -/
def PVl (S : Shp) (R : MR) (q : MI → ML → Prop) : PO := fun r S' I' L' R' => r = none ∧ S' = S ∧ R' = R ∧ q I' L'
theorem kVl {l : Launch} {mi : MInf} {Rm : Room} {Qf : QF} {k n pc' : Nat} {S : Shp} {R : MR} {lv : List (Option PV)} {st : List PV} {q : MI → ML → Prop} (kk : ∀ I' L', q I' L' → G l mi Rm Qf k n pc' lv st S I' L' R) : ∀ (r : Option PV) (S' : Shp) (I' : MI) (L' : ML) (R' : MR), PVl S R q r S' I' L' R' → (∀ t, (S t).1 ≠ 0 → S' t = S t) → G l mi Rm Qf (k + 0) (n + 0) pc' lv (r.toList ++ st) S' I' L' R' := by
  rintro r S' I' L' R' ⟨rfl, rfl, rfl, h⟩ _
  exact kk I' L' h
theorem eVl {S : Shp} {I : MI} {L : ML} {R : MR} {q : MI → ML → Prop} (h : q I L) : PVl S R q none S I L R := ⟨rfl, rfl, rfl, h⟩
theorem plc_congr {f g : Nat → Int32} {n s : Nat} (h : ∀ q, q < n → f q = g q) (hs : s < n) : plc f n s = plc g n s := ctN_cong (fun q hq => by unfold bf; rw [h q hq, h s hs])
theorem sumF_congr {b : Int32} {f g : Nat → Int32} : ∀ {n : Nat}, (∀ q, q < n → f q = g q) → sumF b f n = sumF b g n
  | 0, _ => rfl
  | n + 1, h => by
    simp only [sumF]
    rw [sumF_congr (n := n) (fun q hq => h q (by omega)), h n (by omega)]
theorem mixF_congr {no : Int32} {w w' : Nat → Int32} {C C' : Nat → Int64} {c : Nat} (h0 : C c = C' c) : ∀ {n : Nat}, (∀ q, q < n → w q = w' q) → (∀ q, q < n → C (c + 7 ^ q) = C' (c + 7 ^ q)) → mixF no w C c n = mixF no w' C' c n
  | 0, _, _ => by simp only [mixF]; rw [h0]
  | n + 1, h, hc => by
    have ih := mixF_congr (no := no) h0 (n := n) (fun q hq => h q (by omega)) (fun q hq => hc q (by omega))
    simp only [mixF]
    rw [ih, h n (by omega), hc n (by omega)]
/-- WEIGHT of a SONG in a WORLD of these numbers -/
def wtV (cd : Nat → Nat × Nat) (len n : Nat) (wo : Nat → Int32) (sh un ca ke : Int32) (ct : Nat → Int32) (j : Nat) : Int32 := evalL cd len (seenV (wo j) (if sh = 0 then nI 0 else ct j) (psI sh ca un n (nI (plc ct n j))) n ca ke j)
def ctT (ct : Nat → Int32) (v : V4) (s : Nat) : Int32 := minI (ct s + nI (vG v s)) 99999
def wT (cd : Nat → Nat × Nat) (len n : Nat) (I : MI) (k g : Nat) (v : V4) (j : Nat) : Int32 := wtV cd len n (I (2, 0)) (I (11, 9) 3) (I (11, 9) 4) (I (11, k) 7 + nI g) (I (11, k) 8 + nI (sm v)) (ctT (I (12, k)) v) j
def allT (cd : Nat → Nat × Nat) (len n : Nat) (I : MI) (k g : Nat) (v : V4) : Int32 := sumF (I (11, 9) 5) (wT cd len n I k g v) n
def stepC (cd : Nat → Nat × Nat) (len n : Nat) (I : MI) (k g : Nat) (C : Nat → Int64) (v : V4) : Int64 :=
  if allT cd len n I k g v ≤ 0 then C (cN v) else mixF (I (11, 9) 5) (wT cd len n I k g v) C (cN v) n / (allT cd len n I k g v).toInt64
def gbP (lj : Nat) (t : Tok) (i : Nat) : Prop := odP t i ∨ thP t i ∨ scW 9 lj t i
theorem cN_inj {n m : Nat} {x y : V4} (hm : m ≤ 6) (hx : OKv n m x) (hy : OKv n m y) (h : cN x = cN y) : x = y := by
  obtain ⟨a, b, c, d⟩ := x
  obtain ⟨a', b', c', d'⟩ := y
  have hx2 := hx.2.2.2.2
  have hy2 := hy.2.2.2.2
  clear hx hy
  simp only [cN, sm] at hx2 hy2 h
  have e1 : a = a' := by omega
  subst e1
  have e2 : b = b' := by omega
  subst e2
  have e3 : c = c' := by omega
  subst e3
  have e4 : d = d' := by omega
  subst e4
  rfl
theorem cN_lt {n m : Nat} {x : V4} (hx : OKv n m x) : cN x ≤ 343 * m := by
  obtain ⟨a, b, c, d⟩ := x
  simp only [OKv, cN, sm] at hx ⊢
  omega
theorem pos64 {v : Int32} (h : ¬ v ≤ 0) : ¬ v.toInt64 = 0 := fun e => h (by
  have h1 := congrArg Int64.toInt e
  rw [Int32.toInt_toInt64] at h1
  have h2 : v.toInt = (0 : Int32).toInt := h1
  rw [Int32.toInt_inj.mp h2]
  decide)
theorem OM.fr {P : Tok → Nat → Prop} {I J : MI} {v : V4} (h : OM I v) (hf : Fr P I J) (h1 : ∀ i, ¬ P (31, 0) i) (h4 : ¬ P (29, 0) 4) (h5 : ¬ P (29, 0) 5) : OM J v := ⟨(hf _ _ (h1 0)).trans h.1, (hf _ _ (h1 1)).trans h.2.1, (hf _ _ (h1 2)).trans h.2.2.1, (hf _ _ (h1 3)).trans h.2.2.2.1, (hf _ _ h4).trans h.2.2.2.2.1, (hf _ _ h5).trans h.2.2.2.2.2⟩
theorem ST.fr {P : Tok → Nat → Prop} {I J : MI} (h : ST I) (hf : Fr P I J) (h1 : ∀ i, ¬ P (36, 0) i) : ST J := ⟨(hf _ _ (h1 0)).trans h.1, (hf _ _ (h1 1)).trans h.2.1, (hf _ _ (h1 2)).trans h.2.2.1, (hf _ _ (h1 3)).trans h.2.2.2⟩
/-- the weights in thought are those of the numbers -/
theorem wt_think {cd : Nat → Nat × Nat} {len n k g lj : Nat} {I J : MI} {v : V4} (hk9 : ¬ k = 9) (hf : Fr (gbP lj) I J) (h7 : J (11, 9) 7 = I (11, k) 7 + nI g) (h8 : J (11, 9) 8 = I (11, k) 8 + nI (sm v)) (hc : ∀ s, s < n → J (12, 9) s = ctT (I (12, k)) v s) {j : Nat} (hj : j < n) : wtI cd len J 9 n j = wT cd len n I k g v j := by
  have e2 : J (2, 0) j = I (2, 0) j := hf _ _ (by simp [gbP, odP, thP, scW])
  have e3 : J (11, 9) 3 = I (11, 9) 3 := hf _ _ (by simp [gbP, odP, thP, scW])
  have e4 : J (11, 9) 4 = I (11, 9) 4 := hf _ _ (by simp [gbP, odP, thP, scW])
  have e5 : plc (J (12, 9)) n j = plc (ctT (I (12, k)) v) n j := plc_congr hc hj
  unfold wtI weightI wT wtV
  rw [e2, e3, e4, h7, h8, hc j hj, e5]

theorem c_goBack (l : Launch) {S : Shp} {I : MI} {L : ML} {R : MR} (og : OG S R) (sg : SG S R) (wg : WG 9 S R) {k n g : Nat} (wgk : WG k S R) (hk9 : ¬ k = 9) (hn : I (1, 0) 1 = nI n) (hn4 : n ≤ 4) (hg : g ≤ 5) (st : ST I) {lj len : Nat} {cd : Nat → Nat × Nat} (lg : LG lj len S R) (hL : R (11, 9) 1 = some (7, lj)) (hv : LV I lj len cd) : Ct l mX3_goBack 5 0 0 [.inr (.inr (some (29, 0))), .inr (.inr (some (11, k))), .inl (nI g)] S I L R (PVl S R (fun J L' => Fr (gbP lj) I J ∧ (∀ t, t ≠ (30, 0) → L' t = L t) ∧ ∀ x, OKv n g x → L' (30, 0) (cN x) = stepC cd len n I k g (L (30, 0)) x)) := by
  have hg6 : g ≤ 6 := by omega
  refine Ct.of [some (.inr (.inr (some (29, 0)))), some (.inr (.inr (some (11, k)))), some (.inl (nI g)), none, none] (by decide) rfl (Nat.le_of_ble_eq_true rfl) ?_
  refine g_ald0 (pc' := 1) dX3_goBack_0 rfl ?_
  refine g_callV (pc' := 4) (c_oStart l og) og.s29 (by decide) wX3_start lX3_33 rfl rfl (Nat.le_of_ble_eq_true rfl) ⟨Nat.le_of_ble_eq_true rfl, Nat.le_of_ble_eq_true rfl⟩ ⟨Nat.le_of_ble_eq_true rfl, Nat.le_of_ble_eq_true rfl⟩ dX3_goBack_1 rfl (kV (fun J0 hq0 => ?_))
  refine g_iconst (pc' := 5) (v := nI 0) dX3_goBack_4 rfl (by decide) ?_
  refine g_ist3 (pc' := 6) rfl (by decide) dX3_goBack_5 rfl ?_
  refine g_loopDL (σ := V4 × Nat × MI × ML) (fun a q => q.2.1 + a = 2401 ∧ OM q.2.2.1 q.1 ∧ OKv n g q.1 ∧ q.2.1 ≤ cN q.1 ∧ Fr (gbP lj) I q.2.2.1 ∧ (∀ t, t ≠ (30, 0) → q.2.2.2 t = L t) ∧ (∀ c, cN q.1 ≤ c → q.2.2.2 (30, 0) c = L (30, 0) c) ∧ (∀ x, OKv n g x → cN x < cN q.1 → q.2.2.2 (30, 0) (cN x) = stepC cd len n I k g (L (30, 0)) x)) (fun a s => [some (.inr (.inr (some (29, 0)))), some (.inr (.inr (some (11, k)))), some (.inl (nI g)), some (.inl (nI s.2.1)), none]) (fun a s => s.2.2.1) (fun a s => s.2.2.2) 2401 ((0, 0, 0, 0), 0, J0, L) ⟨rfl, hq0.1, by simp [OKv, sm], Nat.zero_le _, hq0.2.le (fun t i q => Or.inl q), fun _ _ => rfl, fun _ _ => rfl, fun x _ hx => absurd hx (by simp [cN])⟩ ?_
  rintro a ⟨v, i, J1, L1⟩ ⟨ha, hO, hok, hi, hfr, hL1, hL2, hL3⟩ ihD
  simp only at ha hO hok hi hfr hL1 hL2 hL3 ⊢
  have hcv := cN_lt hok
  have hn1 : J1 (1, 0) 1 = nI n := (hfr _ _ (by simp [gbP, odP, thP, scW])).trans hn
  have hb7 : ∀ s, s < n → cN v + 7 ^ s < 2401 := fun s hs => by
    rcases (show s = 0 ∨ s = 1 ∨ s = 2 ∨ s = 3 by omega) with rfl | rfl | rfl | rfl <;> omega
  refine g_ild3 (pc' := 7) dX3_goBack_6 rfl ?_
  refine g_sipush (pc' := 10) (v := nI 2401) dX3_goBack_7 rfl (by decide) ?_
  refine g_icmpgeN (pc' := 13) (by omega) (by omega) (tgt := 67) dX3_goBack_10 (by decide) rfl (fun h10 => absurd h10 (by omega)) (fun h10 => ?_)
  refine g_ald0 (pc' := 14) dX3_goBack_13 rfl ?_
  refine g_ald1 (pc' := 15) dX3_goBack_14 rfl ?_
  refine g_ild2 (pc' := 16) dX3_goBack_15 rfl ?_
  refine g_callV (pc' := 19) (c_think l og sg wg wgk hk9 hn1 hn4 hO) og.s29 (by decide) wX3_think lX3_36 rfl rfl (Nat.le_of_ble_eq_true rfl) ⟨Nat.le_of_ble_eq_true rfl, Nat.le_of_ble_eq_true rfl⟩ ⟨Nat.le_of_ble_eq_true rfl, Nat.le_of_ble_eq_true rfl⟩ dX3_goBack_16 rfl (kV (fun J2 hq2 => ?_))
  obtain ⟨e7, e8, ec, hfr2⟩ := hq2
  have hfr2' : Fr (gbP lj) I J2 := hfr.tr (hfr2.le (fun t i q => Or.inr (Or.inl q)))
  have hn2 : J2 (1, 0) 1 = nI n := (hfr2' _ _ (by simp [gbP, odP, thP, scW])).trans hn
  have e7' : J2 (11, 9) 7 = I (11, k) 7 + nI g := e7.trans (by rw [hfr (11, k) 7 (by simp [gbP, odP, thP, scW, hk9])])
  have e8' : J2 (11, 9) 8 = I (11, k) 8 + nI (sm v) := e8.trans (by rw [hfr (11, k) 8 (by simp [gbP, odP, thP, scW, hk9])])
  have ec' : ∀ s, s < n → J2 (12, 9) s = ctT (I (12, k)) v s := fun s hs => (ec s hs).trans (by rw [hfr (12, k) s (by simp [gbP, odP, thP, scW, hk9])]; rfl)
  refine g_ald0 (pc' := 20) dX3_goBack_19 rfl ?_
  refine g_getR (pc' := 23) og.s29 (by decide) fX3_23 og.r29_1 dX3_goBack_20 rfl ?_
  refine g_callV (pc' := 26) (c_weighAll l sg wg hn2 (by omega) lg hL (hv.to (fun i => hfr2' _ _ (by simp [gbP, odP, thP, scW])))) wg.s11 (by decide) wX7_weighAll lX3_62 rfl rfl (Nat.le_of_ble_eq_true rfl) ⟨Nat.le_of_ble_eq_true rfl, Nat.le_of_ble_eq_true rfl⟩ ⟨Nat.le_of_ble_eq_true rfl, Nat.le_of_ble_eq_true rfl⟩ dX3_goBack_23 rfl (kI (fun v3 J3 hq3 => ?_))
  obtain ⟨hv3, hfr3, hw3⟩ := hq3
  have hfr23 : Fr (gbP lj) J1 J3 := (hfr2.le (fun t i q => Or.inr (Or.inl q))).tr (hfr3.le (fun t i q => Or.inr (Or.inr q)))
  have hwt : ∀ j, j < n → wtI cd len J2 9 n j = wT cd len n I k g v j := fun j hj => wt_think hk9 hfr2' e7' e8' ec' hj
  have hw3 : ∀ j, j < n → J3 (15, 9) j = wT cd len n I k g v j := fun j hj => (hw3 j hj).trans (hwt j hj)
  have e5 : J3 (11, 9) 5 = I (11, 9) 5 := (hfr.tr hfr23) _ _ (by simp [gbP, odP, thP, scW])
  have hv3 : v3 = allT cd len n I k g v := hv3.trans (by rw [hfr2' (11, 9) 5 (by simp [gbP, odP, thP, scW])]; exact sumF_congr hwt)
  have hO3 : OM J3 v := (hO.fr hfr2 (by simp [thP]) (by simp [thP]) (by simp [thP])).fr hfr3 (by simp [scW]) (by simp [scW]) (by simp [scW])
  have hn3 : J3 (1, 0) 1 = nI n := ((hfr.tr hfr23) _ _ (by simp [gbP, odP, thP, scW])).trans hn
  have st3 : ST J3 := st.fr (hfr.tr hfr23) (by simp [gbP, odP, thP, scW])
  refine g_ist4 (pc' := 28) rfl (by decide) dX3_goBack_26 rfl ?_
  refine g_ild4 (pc' := 30) dX3_goBack_28 rfl ?_
  refine g_ifle (pc' := 33) (tgt := 50) dX3_goBack_30 (by decide) rfl (fun h30 => ?_) (fun h30 => ?_)
  · have hL5 : (∀ t, t ≠ (30, 0) → L1 t = L t) ∧ (∀ c, cN v < c → L1 (30, 0) c = L (30, 0) c) ∧ (∀ x, OKv n g x → cN x ≤ cN v → L1 (30, 0) (cN x) = stepC cd len n I k g (L (30, 0)) x) := by
      refine ⟨hL1, fun c hc => hL2 c (by omega), fun x hx hxc => ?_⟩
      by_cases q : cN x = cN v
      · rw [cN_inj (m := g) (by omega) hx hok q, hL2 _ (Nat.le_refl _)]
        unfold stepC
        rw [if_pos (by rw [← hv3]; exact h30)]
      · exact hL3 x hx (by omega)
    generalize L1 = L5 at hL5 ⊢
    refine g_ald0 (pc' := 51) dX3_goBack_50 rfl ?_
    refine g_ild2 (pc' := 52) dX3_goBack_51 rfl ?_
    refine g_callV (pc' := 55) (c_turn l og sg hn3 hn4 hg6 st3 hO3 hok) og.s29 (by decide) wX3_turn lX3_55 rfl rfl (Nat.le_of_ble_eq_true rfl) ⟨Nat.le_of_ble_eq_true rfl, Nat.le_of_ble_eq_true rfl⟩ ⟨Nat.le_of_ble_eq_true rfl, Nat.le_of_ble_eq_true rfl⟩ dX3_goBack_52 rfl (kI (fun r4 J4 hq4 => ?_))
    rcases hq4 with ⟨v', rfl, hO4, hok4, hlt4, hmin4, hfr4⟩ | ⟨rfl, hmax4, hfr4⟩
    · refine g_ifneN (pc' := 58) (by omega) (tgt := 61) dX3_goBack_55 (by decide) rfl (fun h55 => ?_) (fun h55 => (by first | exact absurd h55 (by decide) | exact absurd (by decide) h55))
      refine g_inc3 (pc' := 64) rfl (by decide) (v := nI (i + 1)) (nI_1 _) dX3_goBack_61 rfl ?_
      refine g_goto (tgt := 6) dX3_goBack_64 (by decide) ?_
      refine G.lsub [some (.inr (.inr (some (29, 0)))), some (.inr (.inr (some (11, k)))), some (.inl (nI g)), some (.inl (nI (i + 1))), none] (by intro j v; rcases j with _ | _ | _ | _ | _ | j <;> simp) ?_
      exact ihD (2401 - (i + 1)) (v', i + 1, J4, L5) (by omega) ⟨show i + 1 + (2401 - (i + 1)) = 2401 by omega, hO4, hok4, show i + 1 ≤ cN v' by omega, (hfr.tr (hfr23)).tr (hfr4.le (fun t i q => Or.inl q)), hL5.1, fun c (hc : cN v' ≤ c) => hL5.2.1 c (by omega), fun x hx (hxc : cN x < cN v') => hL5.2.2 x hx (Nat.le_of_not_lt fun q => by have := hmin4 x hx q; omega)⟩
    · refine g_ifneN (pc' := 58) (by omega) (tgt := 61) dX3_goBack_55 (by decide) rfl (fun h55 => (by first | exact absurd h55 (by decide) | exact absurd (by decide) h55)) (fun h55 => ?_)
      refine g_goto (tgt := 67) dX3_goBack_58 (by decide) ?_
      refine g_vret rfl dX3_goBack_67 ?_
      exact eVl ⟨(hfr.tr hfr23).tr (hfr4.le (fun t i q => Or.inl q)), hL5.1, fun x hx => hL5.2.2 x hx (hmax4 x hx)⟩
  · refine g_ald0 (pc' := 34) dX3_goBack_33 rfl ?_
    refine g_getR (pc' := 37) og.s29 (by decide) fX3_11 og.r29_2 dX3_goBack_34 rfl ?_
    refine g_ald0 (pc' := 38) dX3_goBack_37 rfl ?_
    refine g_getI (pc' := 41) og.s29 (by decide) fX3_40 hO3.2.2.2.2.2 dX3_goBack_38 rfl ?_
    refine g_ald0 (pc' := 42) dX3_goBack_41 rfl ?_
    refine g_callV (pc' := 45) (c_mixed l og sg wg hn3 hn4 st3 hO3.2.2.2.2.2 (by omega) hb7) og.s29 (by decide) wX3_mixed lX3_65 rfl rfl (Nat.le_of_ble_eq_true rfl) ⟨Nat.le_of_ble_eq_true rfl, Nat.le_of_ble_eq_true rfl⟩ ⟨Nat.le_of_ble_eq_true rfl, Nat.le_of_ble_eq_true rfl⟩ dX3_goBack_42 rfl (kJp ?_)
    refine g_ild4 (pc' := 47) dX3_goBack_45 rfl ?_
    refine g_i2l (pc' := 48) dX3_goBack_47 rfl ?_
    refine g_ldiv (pc' := 49) dX3_goBack_48 rfl (pos64 h30) ?_
    refine g_last (pc' := 50) (j := cN v) og.s30 rfl (by omega) (by decide) dX3_goBack_49 rfl ?_
    have hL5 : (∀ t, t ≠ (30, 0) → (upM L1 (30, 0) (cN v) (mixF (J3 (11, 9) 5) (J3 (15, 9)) (L1 (30, 0)) (cN v) n / v3.toInt64)) t = L t) ∧ (∀ c, cN v < c → (upM L1 (30, 0) (cN v) (mixF (J3 (11, 9) 5) (J3 (15, 9)) (L1 (30, 0)) (cN v) n / v3.toInt64)) (30, 0) c = L (30, 0) c) ∧ (∀ x, OKv n g x → cN x ≤ cN v → (upM L1 (30, 0) (cN v) (mixF (J3 (11, 9) 5) (J3 (15, 9)) (L1 (30, 0)) (cN v) n / v3.toInt64)) (30, 0) (cN x) = stepC cd len n I k g (L (30, 0)) x) := by
      refine ⟨fun t ht => by rw [upM_n _ ht]; exact hL1 t ht, fun c hc => by rw [upM_k _ _ (by omega)]; exact hL2 c (by omega), fun x hx hxc => ?_⟩
      by_cases q : cN x = cN v
      · rw [cN_inj (m := g) (by omega) hx hok q, upM_s]
        unfold stepC
        rw [if_neg (by rw [← hv3]; exact h30), ← hv3]
        congr 1
        rw [e5, mixF_congr (hL2 _ (Nat.le_refl _)) (fun q hq => hw3 q hq) (fun q hq => hL2 _ (Nat.le_add_right _ _))]
      · rw [upM_k _ _ q]
        exact hL3 x hx (by omega)
    generalize (upM L1 (30, 0) (cN v) (mixF (J3 (11, 9) 5) (J3 (15, 9)) (L1 (30, 0)) (cN v) n / v3.toInt64)) = L5 at hL5 ⊢
    refine g_ald0 (pc' := 51) dX3_goBack_50 rfl ?_
    refine g_ild2 (pc' := 52) dX3_goBack_51 rfl ?_
    refine g_callV (pc' := 55) (c_turn l og sg hn3 hn4 hg6 st3 hO3 hok) og.s29 (by decide) wX3_turn lX3_55 rfl rfl (Nat.le_of_ble_eq_true rfl) ⟨Nat.le_of_ble_eq_true rfl, Nat.le_of_ble_eq_true rfl⟩ ⟨Nat.le_of_ble_eq_true rfl, Nat.le_of_ble_eq_true rfl⟩ dX3_goBack_52 rfl (kI (fun r4 J4 hq4 => ?_))
    rcases hq4 with ⟨v', rfl, hO4, hok4, hlt4, hmin4, hfr4⟩ | ⟨rfl, hmax4, hfr4⟩
    · refine g_ifneN (pc' := 58) (by omega) (tgt := 61) dX3_goBack_55 (by decide) rfl (fun h55 => ?_) (fun h55 => (by first | exact absurd h55 (by decide) | exact absurd (by decide) h55))
      refine g_inc3 (pc' := 64) rfl (by decide) (v := nI (i + 1)) (nI_1 _) dX3_goBack_61 rfl ?_
      refine g_goto (tgt := 6) dX3_goBack_64 (by decide) ?_
      refine G.lsub [some (.inr (.inr (some (29, 0)))), some (.inr (.inr (some (11, k)))), some (.inl (nI g)), some (.inl (nI (i + 1))), none] (by intro j v; rcases j with _ | _ | _ | _ | _ | j <;> simp) ?_
      exact ihD (2401 - (i + 1)) (v', i + 1, J4, L5) (by omega) ⟨show i + 1 + (2401 - (i + 1)) = 2401 by omega, hO4, hok4, show i + 1 ≤ cN v' by omega, (hfr.tr (hfr23)).tr (hfr4.le (fun t i q => Or.inl q)), hL5.1, fun c (hc : cN v' ≤ c) => hL5.2.1 c (by omega), fun x hx (hxc : cN x < cN v') => hL5.2.2 x hx (Nat.le_of_not_lt fun q => by have := hmin4 x hx q; omega)⟩
    · refine g_ifneN (pc' := 58) (by omega) (tgt := 61) dX3_goBack_55 (by decide) rfl (fun h55 => (by first | exact absurd h55 (by decide) | exact absurd (by decide) h55)) (fun h55 => ?_)
      refine g_goto (tgt := 67) dX3_goBack_58 (by decide) ?_
      refine g_vret rfl dX3_goBack_67 ?_
      exact eVl ⟨(hfr.tr hfr23).tr (hfr4.le (fun t i q => Or.inl q)), hL5.1, fun x hx => hL5.2.2 x hx (hmax4 x hx)⟩
