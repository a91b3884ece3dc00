/-! the model: acts -/
def maP (t : Tok) (i : Nat) : Prop := (t = (40, 0) ∧ i = 38) ∨ t = (87, 0)
def MA (J : MI) (t : List Nat) : Prop := t.length ≤ 60 ∧ J (40, 0) 38 = nI t.length ∧ ∀ i, i < t.length → i < 24 → J (87, 0) i = nI (t.getD i 0)
def t0M (num : Nat) (x : Int32) : Int32 × List Nat := (x + nI num, [1])
def t1M (num : Nat) (x : Int32) : Int32 × List Nat := ((t0M num x).1 + nI 3, 20 :: (t0M num x).2)
def t6M (num : Nat) (x : Int32) : Int32 × List Nat := ((t1M num x).1 * nI 2, 70 :: (t1M num x).2)
def tM (num k : Nat) (x : Int32) : Int32 × List Nat := if k = 6 then t6M num x else if k = 1 then t1M num x else t0M num x
def c0M (num : Nat) (x : Int32) : Int32 × List Nat := (x ^^^ nI num, [11])
def c3M (num : Nat) (x : Int32) : Int32 × List Nat := ((c0M num x).1 * nI 3, 40 :: (c0M num x).2)
def c4M (num kd : Nat) (x : Int32) : Int32 × List Nat := ((c0M num x).1 - (tM num kd (nI 2)).1, 50 :: ((c0M num x).2 ++ (tM num kd (nI 2)).2))
def cM (num kd k : Nat) (x : Int32) : Int32 × List Nat := if k = 3 then c3M num x else if k = 4 then c4M num kd x else c0M num x
def k0M (num kd : Nat) (x : Int32) : Int32 × List Nat := ((tM num kd x).1 * nI 2, 10 :: (tM num kd x).2)
def k2M (num kd : Nat) (x : Int32) : Int32 × List Nat := (-(k0M num kd x).1, 30 :: (k0M num kd x).2)
def k3M (num kd : Nat) (x : Int32) : Int32 × List Nat := ((k2M num kd (x + nI 1)).1, 41 :: (k2M num kd (x + nI 1)).2)
def k7M (num kd : Nat) (x : Int32) : Int32 × List Nat := ((k0M num kd x).1 + (cM num kd kd (nI 2)).1, 80 :: ((k0M num kd x).2 ++ (cM num kd kd (nI 2)).2))
def kM (num kd k : Nat) (x : Int32) : Int32 × List Nat := if k = 3 then k3M num kd x else if k = 2 ∨ k = 5 then k2M num kd x else if k = 7 then k7M num kd x else k0M num kd x
def e0M (num kd : Nat) (x : Int32) : Int32 × List Nat := ((kM num kd kd x).1 - (cM num kd kd (nI 1)).1, 2 :: ((kM num kd kd x).2 ++ (cM num kd kd (nI 1)).2))
def e5M (num kd : Nat) (x : Int32) : Int32 × List Nat := ((e0M num kd x).1 ^^^ nI 5, 60 :: (e0M num kd x).2)
def e7M (num kd : Nat) (x : Int32) : Int32 × List Nat := ((e0M num kd x).1 - nI 1, 81 :: (e0M num kd x).2)
def eM (num kd k : Nat) (x : Int32) : Int32 × List Nat := if k = 5 then e5M num kd x else if k = 7 then e7M num kd x else e0M num kd x
theorem tM_len (num k : Nat) (x : Int32) : (tM num k x).2.length ≤ 3 := by unfold tM; (repeat' split) <;> simp [t6M, t1M, t0M]
theorem cM_len (num kd k : Nat) (x : Int32) : (cM num kd k x).2.length ≤ 5 := by
  have := tM_len num kd (nI 2)
  unfold cM
  (repeat' split) <;> simp [c3M, c4M, c0M] <;> omega
theorem k0M_len (num kd : Nat) (x : Int32) : (k0M num kd x).2.length ≤ 4 := by
  have := tM_len num kd x
  simp [k0M]; omega
theorem kM_len (num kd k : Nat) (x : Int32) : (kM num kd k x).2.length ≤ 10 := by
  have h1 := k0M_len num kd x
  have h2 := k0M_len num kd (x + nI 1)
  have h3 := cM_len num kd kd (nI 2)
  unfold kM
  (repeat' split) <;> simp [k3M, k2M, k7M] <;> omega
theorem MA.to {J : MI} {t t' : List Nat} (h : MA J t) (e : t = t') : MA J t' := e ▸ h
theorem c_mRuns (l : Launch) {S : Shp} {I : MI} {L : ML} {R : MR} (mg : MG S R) {t : List Nat} (hm : MA I t) (hl : t.length + 1 ≤ 60) (b : Nat) : Ct l mX9_runs 1 0 0 [.inr (.inr (some (40, 0))), .inl (nI b)] S I L R (PVm S L R (fun J => MA J (t ++ [b]) ∧ Fr maP I J)) := by
  refine Ct.of [some (.inr (.inr (some (40, 0)))), some (.inl (nI b))] (by decide) rfl (Nat.le_of_ble_eq_true rfl) ?_
  have hl60 := hm.1
  refine g_ald0 (pc' := 1) dX9_runs_0 rfl ?_
  refine g_getI (pc' := 4) mg.s40 (by decide) fX9_321 hm.2.1 dX9_runs_1 rfl ?_
  refine g_bipush (pc' := 6) (v := nI 24) dX9_runs_4 rfl (by decide) ?_
  refine g_icmpgeN (pc' := 9) (by omega) (by omega) (tgt := 19) dX9_runs_6 (by decide) rfl (fun h6 => ?_) (fun h6 => ?_)
  · refine g_ald0 (pc' := 20) dX9_runs_19 rfl ?_
    refine g_dupR (pc' := 21) dX9_runs_20 rfl ?_
    refine g_getI (pc' := 24) mg.s40 (by decide) fX9_321 (v := nI (t.length)) (by first | (rw [upM_n _ (by simp)]; exact hm.2.1) | exact hm.2.1) dX9_runs_21 rfl ?_
    refine g_iconst (pc' := 25) (v := nI 1) dX9_runs_24 rfl (by decide) ?_
    refine g_iaddN (pc' := 26) dX9_runs_25 rfl ?_
    refine g_putI (pc' := 29) mg.s40 (by decide) ⟨fX9_321, rfl, pI⟩ dX9_runs_26 rfl ?_
    refine g_vret rfl dX9_runs_29 ?_
    refine eV ⟨⟨by simp; omega, by rw [upM_s]; simp, fun i hi h24 => ?_⟩, ?_⟩
    · rw [upM_n _ (by simp)]
      simp at hi
      by_cases e : i = t.length
      · subst e
        first | (rw [upM_s]; simp) | (exfalso; omega)
      · first | rw [upM_k _ _ e] | skip
        rw [hm.2.2 i (by omega) h24]
        simp [List.getElem?_append_left (show i < t.length by omega)]
    · first | exact (Fr.rf.up (by simp [maP])).up (by simp [maP]) | exact Fr.rf.up (by simp [maP])
  · refine g_ald0 (pc' := 10) dX9_runs_9 rfl ?_
    refine g_getR (pc' := 13) mg.s40 (by decide) fX9_76 mg.r40_37 dX9_runs_10 rfl ?_
    refine g_ald0 (pc' := 14) dX9_runs_13 rfl ?_
    refine g_getI (pc' := 17) mg.s40 (by decide) fX9_321 hm.2.1 dX9_runs_14 rfl ?_
    refine g_ild1 (pc' := 18) dX9_runs_17 rfl ?_
    refine g_iast (pc' := 19) (j := t.length) mg.s87 rfl (by omega) (by decide) dX9_runs_18 rfl ?_
    refine g_ald0 (pc' := 20) dX9_runs_19 rfl ?_
    refine g_dupR (pc' := 21) dX9_runs_20 rfl ?_
    refine g_getI (pc' := 24) mg.s40 (by decide) fX9_321 (v := nI (t.length)) (by first | (rw [upM_n _ (by simp)]; exact hm.2.1) | exact hm.2.1) dX9_runs_21 rfl ?_
    refine g_iconst (pc' := 25) (v := nI 1) dX9_runs_24 rfl (by decide) ?_
    refine g_iaddN (pc' := 26) dX9_runs_25 rfl ?_
    refine g_putI (pc' := 29) mg.s40 (by decide) ⟨fX9_321, rfl, pI⟩ dX9_runs_26 rfl ?_
    refine g_vret rfl dX9_runs_29 ?_
    refine eV ⟨⟨by simp; omega, by rw [upM_s]; simp, fun i hi h24 => ?_⟩, ?_⟩
    · rw [upM_n _ (by simp)]
      simp at hi
      by_cases e : i = t.length
      · subst e
        first | (rw [upM_s]; simp) | (exfalso; omega)
      · first | rw [upM_k _ _ e] | skip
        rw [hm.2.2 i (by omega) h24]
        simp [List.getElem?_append_left (show i < t.length by omega)]
    · first | exact (Fr.rf.up (by simp [maP])).up (by simp [maP]) | exact Fr.rf.up (by simp [maP])

theorem c_mT0 (l : Launch) {S : Shp} {I : MI} {L : ML} {R : MR} (mg : MG S R) {num kd : Nat} (hk : I (40, 0) 39 = nI kd) (hn : I (40, 0) 40 = nI num) {t : List Nat} (hm : MA I t) (hl : t.length + 1 ≤ 60) {k : Nat} (hk8 : k < 8) (h1k : ¬ k = 1) (h6k : ¬ k = 6) (x : Int32) : Ct l mX9_triesAs 2 0 0 [.inr (.inr (some (40, 0))), .inl (nI k), .inl x] S I L R (PIm S L R (fun v J => v = (t0M num x).1 ∧ MA J (t ++ (t0M num x).2) ∧ Fr maP I J)) := by
  refine Ct.of [some (.inr (.inr (some (40, 0)))), some (.inl (nI k)), some (.inl x)] (by decide) rfl (Nat.le_of_ble_eq_true rfl) ?_
  refine g_ild1 (pc' := 1) dX9_triesAs_0 rfl ?_
  refine g_bipush (pc' := 3) (v := nI 6) dX9_triesAs_1 rfl (by decide) ?_
  refine g_icmpneN (pc' := 6) (by omega) (by omega) (tgt := 21) dX9_triesAs_3 (by decide) rfl (fun h3 => ?_) (fun h3 => ?_)
  · refine g_ild1 (pc' := 22) dX9_triesAs_21 rfl ?_
    refine g_iconst (pc' := 23) (v := nI 1) dX9_triesAs_22 rfl (by decide) ?_
    refine g_icmpneN (pc' := 26) (by omega) (by omega) (tgt := 41) dX9_triesAs_23 (by decide) rfl (fun h23 => ?_) (fun h23 => ?_)
    · refine g_ald0 (pc' := 42) dX9_triesAs_41 rfl ?_
      refine g_iconst (pc' := 43) (v := nI 1) dX9_triesAs_42 rfl (by decide) ?_
      refine g_callV (pc' := 46) (c_mRuns l mg hm (by have := hm.1; simp [List.length_append] at *; omega) 1) mg.s40 (by decide) wX9_runs lX9_324 rfl rfl (Nat.le_of_ble_eq_true rfl) ⟨Nat.le_of_ble_eq_true rfl, Nat.le_of_ble_eq_true rfl⟩ ⟨Nat.le_of_ble_eq_true rfl, Nat.le_of_ble_eq_true rfl⟩ dX9_triesAs_43 rfl (kV (fun J0 hq0 => ?_))
      obtain ⟨hm0, hf0⟩ := hq0
      have hF0 : Fr maP I J0 := Fr.rf.tr hf0
      have hk0 : J0 (40, 0) 39 = nI kd := (hF0 _ _ (by simp [maP])).trans hk
      have hn0 : J0 (40, 0) 40 = nI num := (hF0 _ _ (by simp [maP])).trans hn
      refine g_ild2 (pc' := 47) dX9_triesAs_46 rfl ?_
      refine g_ald0 (pc' := 48) dX9_triesAs_47 rfl ?_
      refine g_getI (pc' := 51) mg.s40 (by decide) fX9_330 hn0 dX9_triesAs_48 rfl ?_
      refine g_iadd (pc' := 52) dX9_triesAs_51 rfl ?_
      refine g_iret rfl dX9_triesAs_52 ?_
      exact eI ⟨by first | rfl | simp [tM, t0M, t1M, t6M, cM, c0M, c3M, c4M, kM, k0M, k2M, k3M, k7M, eM, e0M, e5M, e7M], hm0.to (by simp [tM, t0M, t1M, t6M, cM, c0M, c3M, c4M, kM, k0M, k2M, k3M, k7M, eM, e0M, e5M, e7M]), hF0⟩
    · exact absurd h23 (by omega)
  · exact absurd h3 (by omega)

theorem c_mT0q (l : Launch) {S : Shp} {I : MI} {L : ML} {R : MR} (mg : MG S R) {num kd : Nat} (hk : I (40, 0) 39 = nI kd) (hn : I (40, 0) 40 = nI num) {t : List Nat} (hm : MA I t) (hl : t.length + 1 ≤ 60) {k : Nat} (hk8 : k < 8) (h1k : ¬ k = 1) (h6k : ¬ k = 6) (x : Int32) : Ct l mX9_triesAs 4 0 0 [.inr (.inr (some (40, 0))), .inl (nI k), .inl x] S I L R (PIm S L R (fun v J => v = (t0M num x).1 ∧ MA J (t ++ (t0M num x).2) ∧ Fr maP I J)) := by
  refine Ct.of [some (.inr (.inr (some (40, 0)))), some (.inl (nI k)), some (.inl x)] (by decide) rfl (Nat.le_of_ble_eq_true rfl) ?_
  refine g_ild1 (pc' := 1) dX9_triesAs_0 rfl ?_
  refine g_bipush (pc' := 3) (v := nI 6) dX9_triesAs_1 rfl (by decide) ?_
  refine g_icmpneN (pc' := 6) (by omega) (by omega) (tgt := 21) dX9_triesAs_3 (by decide) rfl (fun h3 => ?_) (fun h3 => ?_)
  · refine g_ild1 (pc' := 22) dX9_triesAs_21 rfl ?_
    refine g_iconst (pc' := 23) (v := nI 1) dX9_triesAs_22 rfl (by decide) ?_
    refine g_icmpneN (pc' := 26) (by omega) (by omega) (tgt := 41) dX9_triesAs_23 (by decide) rfl (fun h23 => ?_) (fun h23 => ?_)
    · refine g_ald0 (pc' := 42) dX9_triesAs_41 rfl ?_
      refine g_iconst (pc' := 43) (v := nI 1) dX9_triesAs_42 rfl (by decide) ?_
      refine g_callV (pc' := 46) (c_mRuns l mg hm (by have := hm.1; simp [List.length_append] at *; omega) 1) mg.s40 (by decide) wX9_runs lX9_324 rfl rfl (Nat.le_of_ble_eq_true rfl) ⟨Nat.le_of_ble_eq_true rfl, Nat.le_of_ble_eq_true rfl⟩ ⟨Nat.le_of_ble_eq_true rfl, Nat.le_of_ble_eq_true rfl⟩ dX9_triesAs_43 rfl (kV (fun J0 hq0 => ?_))
      obtain ⟨hm0, hf0⟩ := hq0
      have hF0 : Fr maP I J0 := Fr.rf.tr hf0
      have hk0 : J0 (40, 0) 39 = nI kd := (hF0 _ _ (by simp [maP])).trans hk
      have hn0 : J0 (40, 0) 40 = nI num := (hF0 _ _ (by simp [maP])).trans hn
      refine g_ild2 (pc' := 47) dX9_triesAs_46 rfl ?_
      refine g_ald0 (pc' := 48) dX9_triesAs_47 rfl ?_
      refine g_getI (pc' := 51) mg.s40 (by decide) fX9_330 hn0 dX9_triesAs_48 rfl ?_
      refine g_iadd (pc' := 52) dX9_triesAs_51 rfl ?_
      refine g_iret rfl dX9_triesAs_52 ?_
      exact eI ⟨by first | rfl | simp [tM, t0M, t1M, t6M, cM, c0M, c3M, c4M, kM, k0M, k2M, k3M, k7M, eM, e0M, e5M, e7M], hm0.to (by simp [tM, t0M, t1M, t6M, cM, c0M, c3M, c4M, kM, k0M, k2M, k3M, k7M, eM, e0M, e5M, e7M]), hF0⟩
    · exact absurd h23 (by omega)
  · exact absurd h3 (by omega)

theorem c_mT1 (l : Launch) {S : Shp} {I : MI} {L : ML} {R : MR} (mg : MG S R) {num kd : Nat} (hk : I (40, 0) 39 = nI kd) (hn : I (40, 0) 40 = nI num) {t : List Nat} (hm : MA I t) (hl : t.length + 2 ≤ 60) (x : Int32) : Ct l mX9_triesAs 3 0 0 [.inr (.inr (some (40, 0))), .inl (nI 1), .inl x] S I L R (PIm S L R (fun v J => v = (t1M num x).1 ∧ MA J (t ++ (t1M num x).2) ∧ Fr maP I J)) := by
  refine Ct.of [some (.inr (.inr (some (40, 0)))), some (.inl (nI 1)), some (.inl x)] (by decide) rfl (Nat.le_of_ble_eq_true rfl) ?_
  refine g_ild1 (pc' := 1) dX9_triesAs_0 rfl ?_
  refine g_bipush (pc' := 3) (v := nI 6) dX9_triesAs_1 rfl (by decide) ?_
  refine g_icmpneN (pc' := 6) (by omega) (by omega) (tgt := 21) dX9_triesAs_3 (by decide) rfl (fun h3 => ?_) (fun h3 => ?_)
  · refine g_ild1 (pc' := 22) dX9_triesAs_21 rfl ?_
    refine g_iconst (pc' := 23) (v := nI 1) dX9_triesAs_22 rfl (by decide) ?_
    refine g_icmpneN (pc' := 26) (by omega) (by omega) (tgt := 41) dX9_triesAs_23 (by decide) rfl (fun h23 => ?_) (fun h23 => ?_)
    · exact absurd h23 (by omega)
    · refine g_ald0 (pc' := 27) dX9_triesAs_26 rfl ?_
      refine g_bipush (pc' := 29) (v := nI 20) dX9_triesAs_27 rfl (by decide) ?_
      refine g_callV (pc' := 32) (c_mRuns l mg hm (by have := hm.1; simp [List.length_append] at *; omega) 20) mg.s40 (by decide) wX9_runs lX9_324 rfl rfl (Nat.le_of_ble_eq_true rfl) ⟨Nat.le_of_ble_eq_true rfl, Nat.le_of_ble_eq_true rfl⟩ ⟨Nat.le_of_ble_eq_true rfl, Nat.le_of_ble_eq_true rfl⟩ dX9_triesAs_29 rfl (kV (fun J0 hq0 => ?_))
      obtain ⟨hm0, hf0⟩ := hq0
      have hF0 : Fr maP I J0 := Fr.rf.tr hf0
      have hk0 : J0 (40, 0) 39 = nI kd := (hF0 _ _ (by simp [maP])).trans hk
      have hn0 : J0 (40, 0) 40 = nI num := (hF0 _ _ (by simp [maP])).trans hn
      refine g_ald0 (pc' := 33) dX9_triesAs_32 rfl ?_
      refine g_iconst (pc' := 34) (v := nI 0) dX9_triesAs_33 rfl (by decide) ?_
      refine g_ild2 (pc' := 35) dX9_triesAs_34 rfl ?_
      refine g_callV (pc' := 38) (c_mT0 l mg hk0 hn0 hm0 (by have q1 := fun k x => tM_len num k x; have q2 := fun k x => cM_len num kd k x; have q3 := fun x => k0M_len num kd x; have q4 := fun k x => kM_len num kd k x; have q5 := q1 kd x; have q6 := q1 kd (nI 2); have q7 := q2 kd (nI 1); have q8 := q2 kd (nI 2); have q9 := q3 x; have q10 := q4 kd x; have q11 : (c0M num x).2.length = 1 := rfl; have q12 : (t0M num x).2.length = 1 := rfl; simp only [List.length_append, List.length_cons, List.length_nil]; omega) (k := 0) (by decide) (by decide) (by decide) x) mg.s40 (by decide) wX9_triesAs lX9_327 rfl rfl (Nat.le_of_ble_eq_true rfl) ⟨Nat.le_of_ble_eq_true rfl, Nat.le_of_ble_eq_true rfl⟩ ⟨Nat.le_of_ble_eq_true rfl, Nat.le_of_ble_eq_true rfl⟩ dX9_triesAs_35 rfl (kI (fun v1 J1 hq1 => ?_))
      obtain ⟨hv1, hm1, hf1⟩ := hq1
      have hF1 : Fr maP I J1 := hF0.tr hf1
      have hk1 : J1 (40, 0) 39 = nI kd := (hF1 _ _ (by simp [maP])).trans hk
      have hn1 : J1 (40, 0) 40 = nI num := (hF1 _ _ (by simp [maP])).trans hn
      rw [hv1]
      refine g_iconst (pc' := 39) (v := nI 3) dX9_triesAs_38 rfl (by decide) ?_
      refine g_iadd (pc' := 40) dX9_triesAs_39 rfl ?_
      refine g_iret rfl dX9_triesAs_40 ?_
      exact eI ⟨by first | rfl | simp [tM, t0M, t1M, t6M, cM, c0M, c3M, c4M, kM, k0M, k2M, k3M, k7M, eM, e0M, e5M, e7M], hm1.to (by simp [tM, t0M, t1M, t6M, cM, c0M, c3M, c4M, kM, k0M, k2M, k3M, k7M, eM, e0M, e5M, e7M]), hF1⟩
  · exact absurd h3 (by omega)

theorem c_mT1q (l : Launch) {S : Shp} {I : MI} {L : ML} {R : MR} (mg : MG S R) {num kd : Nat} (hk : I (40, 0) 39 = nI kd) (hn : I (40, 0) 40 = nI num) {t : List Nat} (hm : MA I t) (hl : t.length + 2 ≤ 60) (x : Int32) : Ct l mX9_triesAs 4 0 0 [.inr (.inr (some (40, 0))), .inl (nI 1), .inl x] S I L R (PIm S L R (fun v J => v = (t1M num x).1 ∧ MA J (t ++ (t1M num x).2) ∧ Fr maP I J)) := by
  refine Ct.of [some (.inr (.inr (some (40, 0)))), some (.inl (nI 1)), some (.inl x)] (by decide) rfl (Nat.le_of_ble_eq_true rfl) ?_
  refine g_ild1 (pc' := 1) dX9_triesAs_0 rfl ?_
  refine g_bipush (pc' := 3) (v := nI 6) dX9_triesAs_1 rfl (by decide) ?_
  refine g_icmpneN (pc' := 6) (by omega) (by omega) (tgt := 21) dX9_triesAs_3 (by decide) rfl (fun h3 => ?_) (fun h3 => ?_)
  · refine g_ild1 (pc' := 22) dX9_triesAs_21 rfl ?_
    refine g_iconst (pc' := 23) (v := nI 1) dX9_triesAs_22 rfl (by decide) ?_
    refine g_icmpneN (pc' := 26) (by omega) (by omega) (tgt := 41) dX9_triesAs_23 (by decide) rfl (fun h23 => ?_) (fun h23 => ?_)
    · exact absurd h23 (by omega)
    · refine g_ald0 (pc' := 27) dX9_triesAs_26 rfl ?_
      refine g_bipush (pc' := 29) (v := nI 20) dX9_triesAs_27 rfl (by decide) ?_
      refine g_callV (pc' := 32) (c_mRuns l mg hm (by have := hm.1; simp [List.length_append] at *; omega) 20) mg.s40 (by decide) wX9_runs lX9_324 rfl rfl (Nat.le_of_ble_eq_true rfl) ⟨Nat.le_of_ble_eq_true rfl, Nat.le_of_ble_eq_true rfl⟩ ⟨Nat.le_of_ble_eq_true rfl, Nat.le_of_ble_eq_true rfl⟩ dX9_triesAs_29 rfl (kV (fun J0 hq0 => ?_))
      obtain ⟨hm0, hf0⟩ := hq0
      have hF0 : Fr maP I J0 := Fr.rf.tr hf0
      have hk0 : J0 (40, 0) 39 = nI kd := (hF0 _ _ (by simp [maP])).trans hk
      have hn0 : J0 (40, 0) 40 = nI num := (hF0 _ _ (by simp [maP])).trans hn
      refine g_ald0 (pc' := 33) dX9_triesAs_32 rfl ?_
      refine g_iconst (pc' := 34) (v := nI 0) dX9_triesAs_33 rfl (by decide) ?_
      refine g_ild2 (pc' := 35) dX9_triesAs_34 rfl ?_
      refine g_callV (pc' := 38) (c_mT0 l mg hk0 hn0 hm0 (by have q1 := fun k x => tM_len num k x; have q2 := fun k x => cM_len num kd k x; have q3 := fun x => k0M_len num kd x; have q4 := fun k x => kM_len num kd k x; have q5 := q1 kd x; have q6 := q1 kd (nI 2); have q7 := q2 kd (nI 1); have q8 := q2 kd (nI 2); have q9 := q3 x; have q10 := q4 kd x; have q11 : (c0M num x).2.length = 1 := rfl; have q12 : (t0M num x).2.length = 1 := rfl; simp only [List.length_append, List.length_cons, List.length_nil]; omega) (k := 0) (by decide) (by decide) (by decide) x) mg.s40 (by decide) wX9_triesAs lX9_327 rfl rfl (Nat.le_of_ble_eq_true rfl) ⟨Nat.le_of_ble_eq_true rfl, Nat.le_of_ble_eq_true rfl⟩ ⟨Nat.le_of_ble_eq_true rfl, Nat.le_of_ble_eq_true rfl⟩ dX9_triesAs_35 rfl (kI (fun v1 J1 hq1 => ?_))
      obtain ⟨hv1, hm1, hf1⟩ := hq1
      have hF1 : Fr maP I J1 := hF0.tr hf1
      have hk1 : J1 (40, 0) 39 = nI kd := (hF1 _ _ (by simp [maP])).trans hk
      have hn1 : J1 (40, 0) 40 = nI num := (hF1 _ _ (by simp [maP])).trans hn
      rw [hv1]
      refine g_iconst (pc' := 39) (v := nI 3) dX9_triesAs_38 rfl (by decide) ?_
      refine g_iadd (pc' := 40) dX9_triesAs_39 rfl ?_
      refine g_iret rfl dX9_triesAs_40 ?_
      exact eI ⟨by first | rfl | simp [tM, t0M, t1M, t6M, cM, c0M, c3M, c4M, kM, k0M, k2M, k3M, k7M, eM, e0M, e5M, e7M], hm1.to (by simp [tM, t0M, t1M, t6M, cM, c0M, c3M, c4M, kM, k0M, k2M, k3M, k7M, eM, e0M, e5M, e7M]), hF1⟩
  · exact absurd h3 (by omega)

theorem c_mT6 (l : Launch) {S : Shp} {I : MI} {L : ML} {R : MR} (mg : MG S R) {num kd : Nat} (hk : I (40, 0) 39 = nI kd) (hn : I (40, 0) 40 = nI num) {t : List Nat} (hm : MA I t) (hl : t.length + 3 ≤ 60) (x : Int32) : Ct l mX9_triesAs 4 0 0 [.inr (.inr (some (40, 0))), .inl (nI 6), .inl x] S I L R (PIm S L R (fun v J => v = (t6M num x).1 ∧ MA J (t ++ (t6M num x).2) ∧ Fr maP I J)) := by
  refine Ct.of [some (.inr (.inr (some (40, 0)))), some (.inl (nI 6)), some (.inl x)] (by decide) rfl (Nat.le_of_ble_eq_true rfl) ?_
  refine g_ild1 (pc' := 1) dX9_triesAs_0 rfl ?_
  refine g_bipush (pc' := 3) (v := nI 6) dX9_triesAs_1 rfl (by decide) ?_
  refine g_icmpneN (pc' := 6) (by omega) (by omega) (tgt := 21) dX9_triesAs_3 (by decide) rfl (fun h3 => ?_) (fun h3 => ?_)
  · exact absurd h3 (by omega)
  · refine g_ald0 (pc' := 7) dX9_triesAs_6 rfl ?_
    refine g_bipush (pc' := 9) (v := nI 70) dX9_triesAs_7 rfl (by decide) ?_
    refine g_callV (pc' := 12) (c_mRuns l mg hm (by have := hm.1; simp [List.length_append] at *; omega) 70) mg.s40 (by decide) wX9_runs lX9_324 rfl rfl (Nat.le_of_ble_eq_true rfl) ⟨Nat.le_of_ble_eq_true rfl, Nat.le_of_ble_eq_true rfl⟩ ⟨Nat.le_of_ble_eq_true rfl, Nat.le_of_ble_eq_true rfl⟩ dX9_triesAs_9 rfl (kV (fun J0 hq0 => ?_))
    obtain ⟨hm0, hf0⟩ := hq0
    have hF0 : Fr maP I J0 := Fr.rf.tr hf0
    have hk0 : J0 (40, 0) 39 = nI kd := (hF0 _ _ (by simp [maP])).trans hk
    have hn0 : J0 (40, 0) 40 = nI num := (hF0 _ _ (by simp [maP])).trans hn
    refine g_ald0 (pc' := 13) dX9_triesAs_12 rfl ?_
    refine g_iconst (pc' := 14) (v := nI 1) dX9_triesAs_13 rfl (by decide) ?_
    refine g_ild2 (pc' := 15) dX9_triesAs_14 rfl ?_
    refine g_callV (pc' := 18) (c_mT1 l mg hk0 hn0 hm0 (by have q1 := fun k x => tM_len num k x; have q2 := fun k x => cM_len num kd k x; have q3 := fun x => k0M_len num kd x; have q4 := fun k x => kM_len num kd k x; have q5 := q1 kd x; have q6 := q1 kd (nI 2); have q7 := q2 kd (nI 1); have q8 := q2 kd (nI 2); have q9 := q3 x; have q10 := q4 kd x; have q11 : (c0M num x).2.length = 1 := rfl; have q12 : (t0M num x).2.length = 1 := rfl; simp only [List.length_append, List.length_cons, List.length_nil]; omega) x) mg.s40 (by decide) wX9_triesAs lX9_327 rfl rfl (Nat.le_of_ble_eq_true rfl) ⟨Nat.le_of_ble_eq_true rfl, Nat.le_of_ble_eq_true rfl⟩ ⟨Nat.le_of_ble_eq_true rfl, Nat.le_of_ble_eq_true rfl⟩ dX9_triesAs_15 rfl (kI (fun v1 J1 hq1 => ?_))
    obtain ⟨hv1, hm1, hf1⟩ := hq1
    have hF1 : Fr maP I J1 := hF0.tr hf1
    have hk1 : J1 (40, 0) 39 = nI kd := (hF1 _ _ (by simp [maP])).trans hk
    have hn1 : J1 (40, 0) 40 = nI num := (hF1 _ _ (by simp [maP])).trans hn
    rw [hv1]
    refine g_iconst (pc' := 19) (v := nI 2) dX9_triesAs_18 rfl (by decide) ?_
    refine g_imul (pc' := 20) dX9_triesAs_19 rfl ?_
    refine g_iret rfl dX9_triesAs_20 ?_
    exact eI ⟨by first | rfl | simp [tM, t0M, t1M, t6M, cM, c0M, c3M, c4M, kM, k0M, k2M, k3M, k7M, eM, e0M, e5M, e7M], hm1.to (by simp [tM, t0M, t1M, t6M, cM, c0M, c3M, c4M, kM, k0M, k2M, k3M, k7M, eM, e0M, e5M, e7M]), hF1⟩

theorem c_mT (l : Launch) {S : Shp} {I : MI} {L : ML} {R : MR} (mg : MG S R) {num kd : Nat} (hk : I (40, 0) 39 = nI kd) (hn : I (40, 0) 40 = nI num) {t : List Nat} (hm : MA I t) (hl : t.length + 3 ≤ 60) {k : Nat} (hk8 : k < 8) (x : Int32) : Ct l mX9_triesAs 4 0 0 [.inr (.inr (some (40, 0))), .inl (nI k), .inl x] S I L R (PIm S L R (fun v J => v = (tM num k x).1 ∧ MA J (t ++ (tM num k x).2) ∧ Fr maP I J)) := by
  unfold tM
  by_cases h6 : k = 6
  · subst h6
    rw [if_pos rfl]
    exact c_mT6 l mg hk hn hm (by omega) x
  · rw [if_neg h6]
    by_cases h1 : k = 1
    · subst h1
      rw [if_pos rfl]
      exact c_mT1q l mg hk hn hm (by omega) x
    · rw [if_neg h1]
      exact c_mT0q l mg hk hn hm (by omega) hk8 h1 h6 x
theorem c_mC0 (l : Launch) {S : Shp} {I : MI} {L : ML} {R : MR} (mg : MG S R) {num kd : Nat} (hk : I (40, 0) 39 = nI kd) (hn : I (40, 0) 40 = nI num) {t : List Nat} (hm : MA I t) (hl : t.length + 1 ≤ 60) {k : Nat} (hk8 : k < 8) (h3k : ¬ k = 3) (h4k : ¬ k = 4) (x : Int32) : Ct l mX9_countsAs 2 0 0 [.inr (.inr (some (40, 0))), .inl (nI k), .inl x] S I L R (PIm S L R (fun v J => v = (c0M num x).1 ∧ MA J (t ++ (c0M num x).2) ∧ Fr maP I J)) := by
  refine Ct.of [some (.inr (.inr (some (40, 0)))), some (.inl (nI k)), some (.inl x), none] (by decide) rfl (Nat.le_of_ble_eq_true rfl) ?_
  refine g_ild1 (pc' := 1) dX9_countsAs_0 rfl ?_
  refine g_iconst (pc' := 2) (v := nI 3) dX9_countsAs_1 rfl (by decide) ?_
  refine g_icmpneN (pc' := 5) (by omega) (by omega) (tgt := 20) dX9_countsAs_2 (by decide) rfl (fun h2 => ?_) (fun h2 => ?_)
  · refine g_ild1 (pc' := 21) dX9_countsAs_20 rfl ?_
    refine g_iconst (pc' := 22) (v := nI 4) dX9_countsAs_21 rfl (by decide) ?_
    refine g_icmpneN (pc' := 25) (by omega) (by omega) (tgt := 50) dX9_countsAs_22 (by decide) rfl (fun h22 => ?_) (fun h22 => ?_)
    · refine g_ald0 (pc' := 51) dX9_countsAs_50 rfl ?_
      refine g_bipush (pc' := 53) (v := nI 11) dX9_countsAs_51 rfl (by decide) ?_
      refine g_callV (pc' := 56) (c_mRuns l mg hm (by have := hm.1; simp [List.length_append] at *; omega) 11) mg.s40 (by decide) wX9_runs lX9_324 rfl rfl (Nat.le_of_ble_eq_true rfl) ⟨Nat.le_of_ble_eq_true rfl, Nat.le_of_ble_eq_true rfl⟩ ⟨Nat.le_of_ble_eq_true rfl, Nat.le_of_ble_eq_true rfl⟩ dX9_countsAs_53 rfl (kV (fun J0 hq0 => ?_))
      obtain ⟨hm0, hf0⟩ := hq0
      have hF0 : Fr maP I J0 := Fr.rf.tr hf0
      have hk0 : J0 (40, 0) 39 = nI kd := (hF0 _ _ (by simp [maP])).trans hk
      have hn0 : J0 (40, 0) 40 = nI num := (hF0 _ _ (by simp [maP])).trans hn
      refine g_ild2 (pc' := 57) dX9_countsAs_56 rfl ?_
      refine g_ald0 (pc' := 58) dX9_countsAs_57 rfl ?_
      refine g_getI (pc' := 61) mg.s40 (by decide) fX9_330 hn0 dX9_countsAs_58 rfl ?_
      refine g_ixor (pc' := 62) dX9_countsAs_61 rfl ?_
      refine g_iret rfl dX9_countsAs_62 ?_
      exact eI ⟨by first | rfl | simp [tM, t0M, t1M, t6M, cM, c0M, c3M, c4M, kM, k0M, k2M, k3M, k7M, eM, e0M, e5M, e7M], hm0.to (by simp [tM, t0M, t1M, t6M, cM, c0M, c3M, c4M, kM, k0M, k2M, k3M, k7M, eM, e0M, e5M, e7M]), hF0⟩
    · exact absurd h22 (by omega)
  · exact absurd h2 (by omega)

theorem c_mC0q (l : Launch) {S : Shp} {I : MI} {L : ML} {R : MR} (mg : MG S R) {num kd : Nat} (hk : I (40, 0) 39 = nI kd) (hn : I (40, 0) 40 = nI num) {t : List Nat} (hm : MA I t) (hl : t.length + 1 ≤ 60) {k : Nat} (hk8 : k < 8) (h3k : ¬ k = 3) (h4k : ¬ k = 4) (x : Int32) : Ct l mX9_countsAs 5 0 0 [.inr (.inr (some (40, 0))), .inl (nI k), .inl x] S I L R (PIm S L R (fun v J => v = (c0M num x).1 ∧ MA J (t ++ (c0M num x).2) ∧ Fr maP I J)) := by
  refine Ct.of [some (.inr (.inr (some (40, 0)))), some (.inl (nI k)), some (.inl x), none] (by decide) rfl (Nat.le_of_ble_eq_true rfl) ?_
  refine g_ild1 (pc' := 1) dX9_countsAs_0 rfl ?_
  refine g_iconst (pc' := 2) (v := nI 3) dX9_countsAs_1 rfl (by decide) ?_
  refine g_icmpneN (pc' := 5) (by omega) (by omega) (tgt := 20) dX9_countsAs_2 (by decide) rfl (fun h2 => ?_) (fun h2 => ?_)
  · refine g_ild1 (pc' := 21) dX9_countsAs_20 rfl ?_
    refine g_iconst (pc' := 22) (v := nI 4) dX9_countsAs_21 rfl (by decide) ?_
    refine g_icmpneN (pc' := 25) (by omega) (by omega) (tgt := 50) dX9_countsAs_22 (by decide) rfl (fun h22 => ?_) (fun h22 => ?_)
    · refine g_ald0 (pc' := 51) dX9_countsAs_50 rfl ?_
      refine g_bipush (pc' := 53) (v := nI 11) dX9_countsAs_51 rfl (by decide) ?_
      refine g_callV (pc' := 56) (c_mRuns l mg hm (by have := hm.1; simp [List.length_append] at *; omega) 11) mg.s40 (by decide) wX9_runs lX9_324 rfl rfl (Nat.le_of_ble_eq_true rfl) ⟨Nat.le_of_ble_eq_true rfl, Nat.le_of_ble_eq_true rfl⟩ ⟨Nat.le_of_ble_eq_true rfl, Nat.le_of_ble_eq_true rfl⟩ dX9_countsAs_53 rfl (kV (fun J0 hq0 => ?_))
      obtain ⟨hm0, hf0⟩ := hq0
      have hF0 : Fr maP I J0 := Fr.rf.tr hf0
      have hk0 : J0 (40, 0) 39 = nI kd := (hF0 _ _ (by simp [maP])).trans hk
      have hn0 : J0 (40, 0) 40 = nI num := (hF0 _ _ (by simp [maP])).trans hn
      refine g_ild2 (pc' := 57) dX9_countsAs_56 rfl ?_
      refine g_ald0 (pc' := 58) dX9_countsAs_57 rfl ?_
      refine g_getI (pc' := 61) mg.s40 (by decide) fX9_330 hn0 dX9_countsAs_58 rfl ?_
      refine g_ixor (pc' := 62) dX9_countsAs_61 rfl ?_
      refine g_iret rfl dX9_countsAs_62 ?_
      exact eI ⟨by first | rfl | simp [tM, t0M, t1M, t6M, cM, c0M, c3M, c4M, kM, k0M, k2M, k3M, k7M, eM, e0M, e5M, e7M], hm0.to (by simp [tM, t0M, t1M, t6M, cM, c0M, c3M, c4M, kM, k0M, k2M, k3M, k7M, eM, e0M, e5M, e7M]), hF0⟩
    · exact absurd h22 (by omega)
  · exact absurd h2 (by omega)

theorem c_mC3 (l : Launch) {S : Shp} {I : MI} {L : ML} {R : MR} (mg : MG S R) {num kd : Nat} (hk : I (40, 0) 39 = nI kd) (hn : I (40, 0) 40 = nI num) {t : List Nat} (hm : MA I t) (hl : t.length + 2 ≤ 60) (x : Int32) : Ct l mX9_countsAs 5 0 0 [.inr (.inr (some (40, 0))), .inl (nI 3), .inl x] S I L R (PIm S L R (fun v J => v = (c3M num x).1 ∧ MA J (t ++ (c3M num x).2) ∧ Fr maP I J)) := by
  refine Ct.of [some (.inr (.inr (some (40, 0)))), some (.inl (nI 3)), some (.inl x), none] (by decide) rfl (Nat.le_of_ble_eq_true rfl) ?_
  refine g_ild1 (pc' := 1) dX9_countsAs_0 rfl ?_
  refine g_iconst (pc' := 2) (v := nI 3) dX9_countsAs_1 rfl (by decide) ?_
  refine g_icmpneN (pc' := 5) (by omega) (by omega) (tgt := 20) dX9_countsAs_2 (by decide) rfl (fun h2 => ?_) (fun h2 => ?_)
  · exact absurd h2 (by omega)
  · refine g_ald0 (pc' := 6) dX9_countsAs_5 rfl ?_
    refine g_bipush (pc' := 8) (v := nI 40) dX9_countsAs_6 rfl (by decide) ?_
    refine g_callV (pc' := 11) (c_mRuns l mg hm (by have := hm.1; simp [List.length_append] at *; omega) 40) mg.s40 (by decide) wX9_runs lX9_324 rfl rfl (Nat.le_of_ble_eq_true rfl) ⟨Nat.le_of_ble_eq_true rfl, Nat.le_of_ble_eq_true rfl⟩ ⟨Nat.le_of_ble_eq_true rfl, Nat.le_of_ble_eq_true rfl⟩ dX9_countsAs_8 rfl (kV (fun J0 hq0 => ?_))
    obtain ⟨hm0, hf0⟩ := hq0
    have hF0 : Fr maP I J0 := Fr.rf.tr hf0
    have hk0 : J0 (40, 0) 39 = nI kd := (hF0 _ _ (by simp [maP])).trans hk
    have hn0 : J0 (40, 0) 40 = nI num := (hF0 _ _ (by simp [maP])).trans hn
    refine g_ald0 (pc' := 12) dX9_countsAs_11 rfl ?_
    refine g_iconst (pc' := 13) (v := nI 2) dX9_countsAs_12 rfl (by decide) ?_
    refine g_ild2 (pc' := 14) dX9_countsAs_13 rfl ?_
    refine g_callV (pc' := 17) (c_mC0 l mg hk0 hn0 hm0 (by have q1 := fun k x => tM_len num k x; have q2 := fun k x => cM_len num kd k x; have q3 := fun x => k0M_len num kd x; have q4 := fun k x => kM_len num kd k x; have q5 := q1 kd x; have q6 := q1 kd (nI 2); have q7 := q2 kd (nI 1); have q8 := q2 kd (nI 2); have q9 := q3 x; have q10 := q4 kd x; have q11 : (c0M num x).2.length = 1 := rfl; have q12 : (t0M num x).2.length = 1 := rfl; simp only [List.length_append, List.length_cons, List.length_nil]; omega) (k := 2) (by decide) (by decide) (by decide) x) mg.s40 (by decide) wX9_countsAs lX9_339 rfl rfl (Nat.le_of_ble_eq_true rfl) ⟨Nat.le_of_ble_eq_true rfl, Nat.le_of_ble_eq_true rfl⟩ ⟨Nat.le_of_ble_eq_true rfl, Nat.le_of_ble_eq_true rfl⟩ dX9_countsAs_14 rfl (kI (fun v1 J1 hq1 => ?_))
    obtain ⟨hv1, hm1, hf1⟩ := hq1
    have hF1 : Fr maP I J1 := hF0.tr hf1
    have hk1 : J1 (40, 0) 39 = nI kd := (hF1 _ _ (by simp [maP])).trans hk
    have hn1 : J1 (40, 0) 40 = nI num := (hF1 _ _ (by simp [maP])).trans hn
    rw [hv1]
    refine g_iconst (pc' := 18) (v := nI 3) dX9_countsAs_17 rfl (by decide) ?_
    refine g_imul (pc' := 19) dX9_countsAs_18 rfl ?_
    refine g_iret rfl dX9_countsAs_19 ?_
    exact eI ⟨by first | rfl | simp [tM, t0M, t1M, t6M, cM, c0M, c3M, c4M, kM, k0M, k2M, k3M, k7M, eM, e0M, e5M, e7M], hm1.to (by simp [tM, t0M, t1M, t6M, cM, c0M, c3M, c4M, kM, k0M, k2M, k3M, k7M, eM, e0M, e5M, e7M]), hF1⟩

theorem c_mC4 (l : Launch) {S : Shp} {I : MI} {L : ML} {R : MR} (mg : MG S R) {num kd : Nat} (hk : I (40, 0) 39 = nI kd) (hn : I (40, 0) 40 = nI num) {t : List Nat} (hm : MA I t) (hl : t.length + 5 ≤ 60) (hkd : kd < 8) (x : Int32) : Ct l mX9_countsAs 5 0 0 [.inr (.inr (some (40, 0))), .inl (nI 4), .inl x] S I L R (PIm S L R (fun v J => v = (c4M num kd x).1 ∧ MA J (t ++ (c4M num kd x).2) ∧ Fr maP I J)) := by
  refine Ct.of [some (.inr (.inr (some (40, 0)))), some (.inl (nI 4)), some (.inl x), none] (by decide) rfl (Nat.le_of_ble_eq_true rfl) ?_
  refine g_ild1 (pc' := 1) dX9_countsAs_0 rfl ?_
  refine g_iconst (pc' := 2) (v := nI 3) dX9_countsAs_1 rfl (by decide) ?_
  refine g_icmpneN (pc' := 5) (by omega) (by omega) (tgt := 20) dX9_countsAs_2 (by decide) rfl (fun h2 => ?_) (fun h2 => ?_)
  · refine g_ild1 (pc' := 21) dX9_countsAs_20 rfl ?_
    refine g_iconst (pc' := 22) (v := nI 4) dX9_countsAs_21 rfl (by decide) ?_
    refine g_icmpneN (pc' := 25) (by omega) (by omega) (tgt := 50) dX9_countsAs_22 (by decide) rfl (fun h22 => ?_) (fun h22 => ?_)
    · exact absurd h22 (by omega)
    · refine g_ald0 (pc' := 26) dX9_countsAs_25 rfl ?_
      refine g_bipush (pc' := 28) (v := nI 50) dX9_countsAs_26 rfl (by decide) ?_
      refine g_callV (pc' := 31) (c_mRuns l mg hm (by have := hm.1; simp [List.length_append] at *; omega) 50) mg.s40 (by decide) wX9_runs lX9_324 rfl rfl (Nat.le_of_ble_eq_true rfl) ⟨Nat.le_of_ble_eq_true rfl, Nat.le_of_ble_eq_true rfl⟩ ⟨Nat.le_of_ble_eq_true rfl, Nat.le_of_ble_eq_true rfl⟩ dX9_countsAs_28 rfl (kV (fun J0 hq0 => ?_))
      obtain ⟨hm0, hf0⟩ := hq0
      have hF0 : Fr maP I J0 := Fr.rf.tr hf0
      have hk0 : J0 (40, 0) 39 = nI kd := (hF0 _ _ (by simp [maP])).trans hk
      have hn0 : J0 (40, 0) 40 = nI num := (hF0 _ _ (by simp [maP])).trans hn
      refine g_ald0 (pc' := 32) dX9_countsAs_31 rfl ?_
      refine g_iconst (pc' := 33) (v := nI 0) dX9_countsAs_32 rfl (by decide) ?_
      refine g_ild2 (pc' := 34) dX9_countsAs_33 rfl ?_
      refine g_callV (pc' := 37) (c_mC0 l mg hk0 hn0 hm0 (by have q1 := fun k x => tM_len num k x; have q2 := fun k x => cM_len num kd k x; have q3 := fun x => k0M_len num kd x; have q4 := fun k x => kM_len num kd k x; have q5 := q1 kd x; have q6 := q1 kd (nI 2); have q7 := q2 kd (nI 1); have q8 := q2 kd (nI 2); have q9 := q3 x; have q10 := q4 kd x; have q11 : (c0M num x).2.length = 1 := rfl; have q12 : (t0M num x).2.length = 1 := rfl; simp only [List.length_append, List.length_cons, List.length_nil]; omega) (k := 0) (by decide) (by decide) (by decide) x) mg.s40 (by decide) wX9_countsAs lX9_339 rfl rfl (Nat.le_of_ble_eq_true rfl) ⟨Nat.le_of_ble_eq_true rfl, Nat.le_of_ble_eq_true rfl⟩ ⟨Nat.le_of_ble_eq_true rfl, Nat.le_of_ble_eq_true rfl⟩ dX9_countsAs_34 rfl (kI (fun v1 J1 hq1 => ?_))
      obtain ⟨hv1, hm1, hf1⟩ := hq1
      have hF1 : Fr maP I J1 := hF0.tr hf1
      have hk1 : J1 (40, 0) 39 = nI kd := (hF1 _ _ (by simp [maP])).trans hk
      have hn1 : J1 (40, 0) 40 = nI num := (hF1 _ _ (by simp [maP])).trans hn
      rw [hv1]
      refine g_ist3 (pc' := 38) rfl (by decide) dX9_countsAs_37 rfl ?_
      refine g_ild3 (pc' := 39) dX9_countsAs_38 rfl ?_
      refine g_ald0 (pc' := 40) dX9_countsAs_39 rfl ?_
      refine g_ald0 (pc' := 41) dX9_countsAs_40 rfl ?_
      refine g_getI (pc' := 44) mg.s40 (by decide) fX9_336 hk1 dX9_countsAs_41 rfl ?_
      refine g_iconst (pc' := 45) (v := nI 2) dX9_countsAs_44 rfl (by decide) ?_
      refine g_callV (pc' := 48) (c_mT l mg hk1 hn1 hm1 (by have q1 := fun k x => tM_len num k x; have q2 := fun k x => cM_len num kd k x; have q3 := fun x => k0M_len num kd x; have q4 := fun k x => kM_len num kd k x; have q5 := q1 kd x; have q6 := q1 kd (nI 2); have q7 := q2 kd (nI 1); have q8 := q2 kd (nI 2); have q9 := q3 x; have q10 := q4 kd x; have q11 : (c0M num x).2.length = 1 := rfl; have q12 : (t0M num x).2.length = 1 := rfl; simp only [List.length_append, List.length_cons, List.length_nil]; omega) (k := kd) hkd (nI 2)) mg.s40 (by decide) wX9_triesAs lX9_327 rfl rfl (Nat.le_of_ble_eq_true rfl) ⟨Nat.le_of_ble_eq_true rfl, Nat.le_of_ble_eq_true rfl⟩ ⟨Nat.le_of_ble_eq_true rfl, Nat.le_of_ble_eq_true rfl⟩ dX9_countsAs_45 rfl (kI (fun v2 J2 hq2 => ?_))
      obtain ⟨hv2, hm2, hf2⟩ := hq2
      have hF2 : Fr maP I J2 := hF1.tr hf2
      have hk2 : J2 (40, 0) 39 = nI kd := (hF2 _ _ (by simp [maP])).trans hk
      have hn2 : J2 (40, 0) 40 = nI num := (hF2 _ _ (by simp [maP])).trans hn
      rw [hv2]
      refine g_isub (pc' := 49) dX9_countsAs_48 rfl ?_
      refine g_iret rfl dX9_countsAs_49 ?_
      exact eI ⟨by first | rfl | simp [tM, t0M, t1M, t6M, cM, c0M, c3M, c4M, kM, k0M, k2M, k3M, k7M, eM, e0M, e5M, e7M], hm2.to (by simp [tM, t0M, t1M, t6M, cM, c0M, c3M, c4M, kM, k0M, k2M, k3M, k7M, eM, e0M, e5M, e7M]), hF2⟩
  · exact absurd h2 (by omega)

theorem c_mC (l : Launch) {S : Shp} {I : MI} {L : ML} {R : MR} (mg : MG S R) {num kd : Nat} (hk : I (40, 0) 39 = nI kd) (hn : I (40, 0) 40 = nI num) {t : List Nat} (hm : MA I t) (hl : t.length + 5 ≤ 60) (hkd : kd < 8) {k : Nat} (hk8 : k < 8) (x : Int32) : Ct l mX9_countsAs 5 0 0 [.inr (.inr (some (40, 0))), .inl (nI k), .inl x] S I L R (PIm S L R (fun v J => v = (cM num kd k x).1 ∧ MA J (t ++ (cM num kd k x).2) ∧ Fr maP I J)) := by
  unfold cM
  by_cases h3 : k = 3
  · subst h3
    rw [if_pos rfl]
    exact c_mC3 l mg hk hn hm (by omega) x
  · rw [if_neg h3]
    by_cases h4 : k = 4
    · subst h4
      rw [if_pos rfl]
      exact c_mC4 l mg hk hn hm (by omega) hkd x
    · rw [if_neg h4]
      exact c_mC0q l mg hk hn hm (by omega) hk8 h3 h4 x
theorem c_mK0 (l : Launch) {S : Shp} {I : MI} {L : ML} {R : MR} (mg : MG S R) {num kd : Nat} (hk : I (40, 0) 39 = nI kd) (hn : I (40, 0) 40 = nI num) {t : List Nat} (hm : MA I t) (hl : t.length + 4 ≤ 60) (hkd : kd < 8) {k : Nat} (hk8 : k < 8) (h3k : ¬ k = 3) (h2k : ¬ k = 2) (h5k : ¬ k = 5) (h7k : ¬ k = 7) (x : Int32) : Ct l mX9_keepsAs 5 0 0 [.inr (.inr (some (40, 0))), .inl (nI k), .inl x] S I L R (PIm S L R (fun v J => v = (k0M num kd x).1 ∧ MA J (t ++ (k0M num kd x).2) ∧ Fr maP I J)) := by
  refine Ct.of [some (.inr (.inr (some (40, 0)))), some (.inl (nI k)), some (.inl x), none] (by decide) rfl (Nat.le_of_ble_eq_true rfl) ?_
  refine g_ild1 (pc' := 1) dX9_keepsAs_0 rfl ?_
  refine g_iconst (pc' := 2) (v := nI 3) dX9_keepsAs_1 rfl (by decide) ?_
  refine g_icmpneN (pc' := 5) (by omega) (by omega) (tgt := 20) dX9_keepsAs_2 (by decide) rfl (fun h2 => ?_) (fun h2 => ?_)
  · refine g_ild1 (pc' := 21) dX9_keepsAs_20 rfl ?_
    refine g_iconst (pc' := 22) (v := nI 2) dX9_keepsAs_21 rfl (by decide) ?_
    refine g_icmpeqN (pc' := 25) (by omega) (by omega) (tgt := 30) dX9_keepsAs_22 (by decide) rfl (fun h22 => ?_) (fun h22 => ?_)
    · exact absurd h22 (by omega)
    · refine g_ild1 (pc' := 26) dX9_keepsAs_25 rfl ?_
      refine g_iconst (pc' := 27) (v := nI 5) dX9_keepsAs_26 rfl (by decide) ?_
      refine g_icmpneN (pc' := 30) (by omega) (by omega) (tgt := 44) dX9_keepsAs_27 (by decide) rfl (fun h27 => ?_) (fun h27 => ?_)
      · refine g_ild1 (pc' := 45) dX9_keepsAs_44 rfl ?_
        refine g_bipush (pc' := 47) (v := nI 7) dX9_keepsAs_45 rfl (by decide) ?_
        refine g_icmpneN (pc' := 50) (by omega) (by omega) (tgt := 75) dX9_keepsAs_47 (by decide) rfl (fun h47 => ?_) (fun h47 => ?_)
        · refine g_ald0 (pc' := 76) dX9_keepsAs_75 rfl ?_
          refine g_bipush (pc' := 78) (v := nI 10) dX9_keepsAs_76 rfl (by decide) ?_
          refine g_callV (pc' := 81) (c_mRuns l mg hm (by have := hm.1; simp [List.length_append] at *; omega) 10) mg.s40 (by decide) wX9_runs lX9_324 rfl rfl (Nat.le_of_ble_eq_true rfl) ⟨Nat.le_of_ble_eq_true rfl, Nat.le_of_ble_eq_true rfl⟩ ⟨Nat.le_of_ble_eq_true rfl, Nat.le_of_ble_eq_true rfl⟩ dX9_keepsAs_78 rfl (kV (fun J0 hq0 => ?_))
          obtain ⟨hm0, hf0⟩ := hq0
          have hF0 : Fr maP I J0 := Fr.rf.tr hf0
          have hk0 : J0 (40, 0) 39 = nI kd := (hF0 _ _ (by simp [maP])).trans hk
          have hn0 : J0 (40, 0) 40 = nI num := (hF0 _ _ (by simp [maP])).trans hn
          refine g_ald0 (pc' := 82) dX9_keepsAs_81 rfl ?_
          refine g_ald0 (pc' := 83) dX9_keepsAs_82 rfl ?_
          refine g_getI (pc' := 86) mg.s40 (by decide) fX9_336 hk0 dX9_keepsAs_83 rfl ?_
          refine g_ild2 (pc' := 87) dX9_keepsAs_86 rfl ?_
          refine g_callV (pc' := 90) (c_mT l mg hk0 hn0 hm0 (by have q1 := fun k x => tM_len num k x; have q2 := fun k x => cM_len num kd k x; have q3 := fun x => k0M_len num kd x; have q4 := fun k x => kM_len num kd k x; have q5 := q1 kd x; have q6 := q1 kd (nI 2); have q7 := q2 kd (nI 1); have q8 := q2 kd (nI 2); have q9 := q3 x; have q10 := q4 kd x; have q11 : (c0M num x).2.length = 1 := rfl; have q12 : (t0M num x).2.length = 1 := rfl; simp only [List.length_append, List.length_cons, List.length_nil]; omega) (k := kd) hkd x) mg.s40 (by decide) wX9_triesAs lX9_327 rfl rfl (Nat.le_of_ble_eq_true rfl) ⟨Nat.le_of_ble_eq_true rfl, Nat.le_of_ble_eq_true rfl⟩ ⟨Nat.le_of_ble_eq_true rfl, Nat.le_of_ble_eq_true rfl⟩ dX9_keepsAs_87 rfl (kI (fun v1 J1 hq1 => ?_))
          obtain ⟨hv1, hm1, hf1⟩ := hq1
          have hF1 : Fr maP I J1 := hF0.tr hf1
          have hk1 : J1 (40, 0) 39 = nI kd := (hF1 _ _ (by simp [maP])).trans hk
          have hn1 : J1 (40, 0) 40 = nI num := (hF1 _ _ (by simp [maP])).trans hn
          rw [hv1]
          refine g_iconst (pc' := 91) (v := nI 2) dX9_keepsAs_90 rfl (by decide) ?_
          refine g_imul (pc' := 92) dX9_keepsAs_91 rfl ?_
          refine g_iret rfl dX9_keepsAs_92 ?_
          exact eI ⟨by first | rfl | simp [tM, t0M, t1M, t6M, cM, c0M, c3M, c4M, kM, k0M, k2M, k3M, k7M, eM, e0M, e5M, e7M], hm1.to (by simp [tM, t0M, t1M, t6M, cM, c0M, c3M, c4M, kM, k0M, k2M, k3M, k7M, eM, e0M, e5M, e7M]), hF1⟩
        · exact absurd h47 (by omega)
      · exact absurd h27 (by omega)
  · exact absurd h2 (by omega)

theorem c_mK0q (l : Launch) {S : Shp} {I : MI} {L : ML} {R : MR} (mg : MG S R) {num kd : Nat} (hk : I (40, 0) 39 = nI kd) (hn : I (40, 0) 40 = nI num) {t : List Nat} (hm : MA I t) (hl : t.length + 4 ≤ 60) (hkd : kd < 8) {k : Nat} (hk8 : k < 8) (h3k : ¬ k = 3) (h2k : ¬ k = 2) (h5k : ¬ k = 5) (h7k : ¬ k = 7) (x : Int32) : Ct l mX9_keepsAs 7 0 0 [.inr (.inr (some (40, 0))), .inl (nI k), .inl x] S I L R (PIm S L R (fun v J => v = (k0M num kd x).1 ∧ MA J (t ++ (k0M num kd x).2) ∧ Fr maP I J)) := by
  refine Ct.of [some (.inr (.inr (some (40, 0)))), some (.inl (nI k)), some (.inl x), none] (by decide) rfl (Nat.le_of_ble_eq_true rfl) ?_
  refine g_ild1 (pc' := 1) dX9_keepsAs_0 rfl ?_
  refine g_iconst (pc' := 2) (v := nI 3) dX9_keepsAs_1 rfl (by decide) ?_
  refine g_icmpneN (pc' := 5) (by omega) (by omega) (tgt := 20) dX9_keepsAs_2 (by decide) rfl (fun h2 => ?_) (fun h2 => ?_)
  · refine g_ild1 (pc' := 21) dX9_keepsAs_20 rfl ?_
    refine g_iconst (pc' := 22) (v := nI 2) dX9_keepsAs_21 rfl (by decide) ?_
    refine g_icmpeqN (pc' := 25) (by omega) (by omega) (tgt := 30) dX9_keepsAs_22 (by decide) rfl (fun h22 => ?_) (fun h22 => ?_)
    · exact absurd h22 (by omega)
    · refine g_ild1 (pc' := 26) dX9_keepsAs_25 rfl ?_
      refine g_iconst (pc' := 27) (v := nI 5) dX9_keepsAs_26 rfl (by decide) ?_
      refine g_icmpneN (pc' := 30) (by omega) (by omega) (tgt := 44) dX9_keepsAs_27 (by decide) rfl (fun h27 => ?_) (fun h27 => ?_)
      · refine g_ild1 (pc' := 45) dX9_keepsAs_44 rfl ?_
        refine g_bipush (pc' := 47) (v := nI 7) dX9_keepsAs_45 rfl (by decide) ?_
        refine g_icmpneN (pc' := 50) (by omega) (by omega) (tgt := 75) dX9_keepsAs_47 (by decide) rfl (fun h47 => ?_) (fun h47 => ?_)
        · refine g_ald0 (pc' := 76) dX9_keepsAs_75 rfl ?_
          refine g_bipush (pc' := 78) (v := nI 10) dX9_keepsAs_76 rfl (by decide) ?_
          refine g_callV (pc' := 81) (c_mRuns l mg hm (by have := hm.1; simp [List.length_append] at *; omega) 10) mg.s40 (by decide) wX9_runs lX9_324 rfl rfl (Nat.le_of_ble_eq_true rfl) ⟨Nat.le_of_ble_eq_true rfl, Nat.le_of_ble_eq_true rfl⟩ ⟨Nat.le_of_ble_eq_true rfl, Nat.le_of_ble_eq_true rfl⟩ dX9_keepsAs_78 rfl (kV (fun J0 hq0 => ?_))
          obtain ⟨hm0, hf0⟩ := hq0
          have hF0 : Fr maP I J0 := Fr.rf.tr hf0
          have hk0 : J0 (40, 0) 39 = nI kd := (hF0 _ _ (by simp [maP])).trans hk
          have hn0 : J0 (40, 0) 40 = nI num := (hF0 _ _ (by simp [maP])).trans hn
          refine g_ald0 (pc' := 82) dX9_keepsAs_81 rfl ?_
          refine g_ald0 (pc' := 83) dX9_keepsAs_82 rfl ?_
          refine g_getI (pc' := 86) mg.s40 (by decide) fX9_336 hk0 dX9_keepsAs_83 rfl ?_
          refine g_ild2 (pc' := 87) dX9_keepsAs_86 rfl ?_
          refine g_callV (pc' := 90) (c_mT l mg hk0 hn0 hm0 (by have q1 := fun k x => tM_len num k x; have q2 := fun k x => cM_len num kd k x; have q3 := fun x => k0M_len num kd x; have q4 := fun k x => kM_len num kd k x; have q5 := q1 kd x; have q6 := q1 kd (nI 2); have q7 := q2 kd (nI 1); have q8 := q2 kd (nI 2); have q9 := q3 x; have q10 := q4 kd x; have q11 : (c0M num x).2.length = 1 := rfl; have q12 : (t0M num x).2.length = 1 := rfl; simp only [List.length_append, List.length_cons, List.length_nil]; omega) (k := kd) hkd x) mg.s40 (by decide) wX9_triesAs lX9_327 rfl rfl (Nat.le_of_ble_eq_true rfl) ⟨Nat.le_of_ble_eq_true rfl, Nat.le_of_ble_eq_true rfl⟩ ⟨Nat.le_of_ble_eq_true rfl, Nat.le_of_ble_eq_true rfl⟩ dX9_keepsAs_87 rfl (kI (fun v1 J1 hq1 => ?_))
          obtain ⟨hv1, hm1, hf1⟩ := hq1
          have hF1 : Fr maP I J1 := hF0.tr hf1
          have hk1 : J1 (40, 0) 39 = nI kd := (hF1 _ _ (by simp [maP])).trans hk
          have hn1 : J1 (40, 0) 40 = nI num := (hF1 _ _ (by simp [maP])).trans hn
          rw [hv1]
          refine g_iconst (pc' := 91) (v := nI 2) dX9_keepsAs_90 rfl (by decide) ?_
          refine g_imul (pc' := 92) dX9_keepsAs_91 rfl ?_
          refine g_iret rfl dX9_keepsAs_92 ?_
          exact eI ⟨by first | rfl | simp [tM, t0M, t1M, t6M, cM, c0M, c3M, c4M, kM, k0M, k2M, k3M, k7M, eM, e0M, e5M, e7M], hm1.to (by simp [tM, t0M, t1M, t6M, cM, c0M, c3M, c4M, kM, k0M, k2M, k3M, k7M, eM, e0M, e5M, e7M]), hF1⟩
        · exact absurd h47 (by omega)
      · exact absurd h27 (by omega)
  · exact absurd h2 (by omega)

theorem c_mK2 (l : Launch) {S : Shp} {I : MI} {L : ML} {R : MR} (mg : MG S R) {num kd : Nat} (hk : I (40, 0) 39 = nI kd) (hn : I (40, 0) 40 = nI num) {t : List Nat} (hm : MA I t) (hl : t.length + 5 ≤ 60) (hkd : kd < 8) (x : Int32) : Ct l mX9_keepsAs 6 0 0 [.inr (.inr (some (40, 0))), .inl (nI 2), .inl x] S I L R (PIm S L R (fun v J => v = (k2M num kd x).1 ∧ MA J (t ++ (k2M num kd x).2) ∧ Fr maP I J)) := by
  refine Ct.of [some (.inr (.inr (some (40, 0)))), some (.inl (nI 2)), some (.inl x), none] (by decide) rfl (Nat.le_of_ble_eq_true rfl) ?_
  refine g_ild1 (pc' := 1) dX9_keepsAs_0 rfl ?_
  refine g_iconst (pc' := 2) (v := nI 3) dX9_keepsAs_1 rfl (by decide) ?_
  refine g_icmpneN (pc' := 5) (by omega) (by omega) (tgt := 20) dX9_keepsAs_2 (by decide) rfl (fun h2 => ?_) (fun h2 => ?_)
  · refine g_ild1 (pc' := 21) dX9_keepsAs_20 rfl ?_
    refine g_iconst (pc' := 22) (v := nI 2) dX9_keepsAs_21 rfl (by decide) ?_
    refine g_icmpeqN (pc' := 25) (by omega) (by omega) (tgt := 30) dX9_keepsAs_22 (by decide) rfl (fun h22 => ?_) (fun h22 => ?_)
    · refine g_ald0 (pc' := 31) dX9_keepsAs_30 rfl ?_
      refine g_bipush (pc' := 33) (v := nI 30) dX9_keepsAs_31 rfl (by decide) ?_
      refine g_callV (pc' := 36) (c_mRuns l mg hm (by have := hm.1; simp [List.length_append] at *; omega) 30) mg.s40 (by decide) wX9_runs lX9_324 rfl rfl (Nat.le_of_ble_eq_true rfl) ⟨Nat.le_of_ble_eq_true rfl, Nat.le_of_ble_eq_true rfl⟩ ⟨Nat.le_of_ble_eq_true rfl, Nat.le_of_ble_eq_true rfl⟩ dX9_keepsAs_33 rfl (kV (fun J0 hq0 => ?_))
      obtain ⟨hm0, hf0⟩ := hq0
      have hF0 : Fr maP I J0 := Fr.rf.tr hf0
      have hk0 : J0 (40, 0) 39 = nI kd := (hF0 _ _ (by simp [maP])).trans hk
      have hn0 : J0 (40, 0) 40 = nI num := (hF0 _ _ (by simp [maP])).trans hn
      refine g_ald0 (pc' := 37) dX9_keepsAs_36 rfl ?_
      refine g_iconst (pc' := 38) (v := nI 0) dX9_keepsAs_37 rfl (by decide) ?_
      refine g_ild2 (pc' := 39) dX9_keepsAs_38 rfl ?_
      refine g_callV (pc' := 42) (c_mK0 l mg hk0 hn0 hm0 (by have q1 := fun k x => tM_len num k x; have q2 := fun k x => cM_len num kd k x; have q3 := fun x => k0M_len num kd x; have q4 := fun k x => kM_len num kd k x; have q5 := q1 kd x; have q6 := q1 kd (nI 2); have q7 := q2 kd (nI 1); have q8 := q2 kd (nI 2); have q9 := q3 x; have q10 := q4 kd x; have q11 : (c0M num x).2.length = 1 := rfl; have q12 : (t0M num x).2.length = 1 := rfl; simp only [List.length_append, List.length_cons, List.length_nil]; omega) hkd (k := 0) (by decide) (by decide) (by decide) (by decide) (by decide) x) mg.s40 (by decide) wX9_keepsAs lX9_333 rfl rfl (Nat.le_of_ble_eq_true rfl) ⟨Nat.le_of_ble_eq_true rfl, Nat.le_of_ble_eq_true rfl⟩ ⟨Nat.le_of_ble_eq_true rfl, Nat.le_of_ble_eq_true rfl⟩ dX9_keepsAs_39 rfl (kI (fun v1 J1 hq1 => ?_))
      obtain ⟨hv1, hm1, hf1⟩ := hq1
      have hF1 : Fr maP I J1 := hF0.tr hf1
      have hk1 : J1 (40, 0) 39 = nI kd := (hF1 _ _ (by simp [maP])).trans hk
      have hn1 : J1 (40, 0) 40 = nI num := (hF1 _ _ (by simp [maP])).trans hn
      rw [hv1]
      refine g_ineg (pc' := 43) dX9_keepsAs_42 rfl ?_
      refine g_iret rfl dX9_keepsAs_43 ?_
      exact eI ⟨by first | rfl | simp [tM, t0M, t1M, t6M, cM, c0M, c3M, c4M, kM, k0M, k2M, k3M, k7M, eM, e0M, e5M, e7M], hm1.to (by simp [tM, t0M, t1M, t6M, cM, c0M, c3M, c4M, kM, k0M, k2M, k3M, k7M, eM, e0M, e5M, e7M]), hF1⟩
    · exact absurd h22 (by omega)
  · exact absurd h2 (by omega)

theorem c_mK2q (l : Launch) {S : Shp} {I : MI} {L : ML} {R : MR} (mg : MG S R) {num kd : Nat} (hk : I (40, 0) 39 = nI kd) (hn : I (40, 0) 40 = nI num) {t : List Nat} (hm : MA I t) (hl : t.length + 5 ≤ 60) (hkd : kd < 8) (x : Int32) : Ct l mX9_keepsAs 7 0 0 [.inr (.inr (some (40, 0))), .inl (nI 2), .inl x] S I L R (PIm S L R (fun v J => v = (k2M num kd x).1 ∧ MA J (t ++ (k2M num kd x).2) ∧ Fr maP I J)) := by
  refine Ct.of [some (.inr (.inr (some (40, 0)))), some (.inl (nI 2)), some (.inl x), none] (by decide) rfl (Nat.le_of_ble_eq_true rfl) ?_
  refine g_ild1 (pc' := 1) dX9_keepsAs_0 rfl ?_
  refine g_iconst (pc' := 2) (v := nI 3) dX9_keepsAs_1 rfl (by decide) ?_
  refine g_icmpneN (pc' := 5) (by omega) (by omega) (tgt := 20) dX9_keepsAs_2 (by decide) rfl (fun h2 => ?_) (fun h2 => ?_)
  · refine g_ild1 (pc' := 21) dX9_keepsAs_20 rfl ?_
    refine g_iconst (pc' := 22) (v := nI 2) dX9_keepsAs_21 rfl (by decide) ?_
    refine g_icmpeqN (pc' := 25) (by omega) (by omega) (tgt := 30) dX9_keepsAs_22 (by decide) rfl (fun h22 => ?_) (fun h22 => ?_)
    · refine g_ald0 (pc' := 31) dX9_keepsAs_30 rfl ?_
      refine g_bipush (pc' := 33) (v := nI 30) dX9_keepsAs_31 rfl (by decide) ?_
      refine g_callV (pc' := 36) (c_mRuns l mg hm (by have := hm.1; simp [List.length_append] at *; omega) 30) mg.s40 (by decide) wX9_runs lX9_324 rfl rfl (Nat.le_of_ble_eq_true rfl) ⟨Nat.le_of_ble_eq_true rfl, Nat.le_of_ble_eq_true rfl⟩ ⟨Nat.le_of_ble_eq_true rfl, Nat.le_of_ble_eq_true rfl⟩ dX9_keepsAs_33 rfl (kV (fun J0 hq0 => ?_))
      obtain ⟨hm0, hf0⟩ := hq0
      have hF0 : Fr maP I J0 := Fr.rf.tr hf0
      have hk0 : J0 (40, 0) 39 = nI kd := (hF0 _ _ (by simp [maP])).trans hk
      have hn0 : J0 (40, 0) 40 = nI num := (hF0 _ _ (by simp [maP])).trans hn
      refine g_ald0 (pc' := 37) dX9_keepsAs_36 rfl ?_
      refine g_iconst (pc' := 38) (v := nI 0) dX9_keepsAs_37 rfl (by decide) ?_
      refine g_ild2 (pc' := 39) dX9_keepsAs_38 rfl ?_
      refine g_callV (pc' := 42) (c_mK0 l mg hk0 hn0 hm0 (by have q1 := fun k x => tM_len num k x; have q2 := fun k x => cM_len num kd k x; have q3 := fun x => k0M_len num kd x; have q4 := fun k x => kM_len num kd k x; have q5 := q1 kd x; have q6 := q1 kd (nI 2); have q7 := q2 kd (nI 1); have q8 := q2 kd (nI 2); have q9 := q3 x; have q10 := q4 kd x; have q11 : (c0M num x).2.length = 1 := rfl; have q12 : (t0M num x).2.length = 1 := rfl; simp only [List.length_append, List.length_cons, List.length_nil]; omega) hkd (k := 0) (by decide) (by decide) (by decide) (by decide) (by decide) x) mg.s40 (by decide) wX9_keepsAs lX9_333 rfl rfl (Nat.le_of_ble_eq_true rfl) ⟨Nat.le_of_ble_eq_true rfl, Nat.le_of_ble_eq_true rfl⟩ ⟨Nat.le_of_ble_eq_true rfl, Nat.le_of_ble_eq_true rfl⟩ dX9_keepsAs_39 rfl (kI (fun v1 J1 hq1 => ?_))
      obtain ⟨hv1, hm1, hf1⟩ := hq1
      have hF1 : Fr maP I J1 := hF0.tr hf1
      have hk1 : J1 (40, 0) 39 = nI kd := (hF1 _ _ (by simp [maP])).trans hk
      have hn1 : J1 (40, 0) 40 = nI num := (hF1 _ _ (by simp [maP])).trans hn
      rw [hv1]
      refine g_ineg (pc' := 43) dX9_keepsAs_42 rfl ?_
      refine g_iret rfl dX9_keepsAs_43 ?_
      exact eI ⟨by first | rfl | simp [tM, t0M, t1M, t6M, cM, c0M, c3M, c4M, kM, k0M, k2M, k3M, k7M, eM, e0M, e5M, e7M], hm1.to (by simp [tM, t0M, t1M, t6M, cM, c0M, c3M, c4M, kM, k0M, k2M, k3M, k7M, eM, e0M, e5M, e7M]), hF1⟩
    · exact absurd h22 (by omega)
  · exact absurd h2 (by omega)

theorem c_mK2r (l : Launch) {S : Shp} {I : MI} {L : ML} {R : MR} (mg : MG S R) {num kd : Nat} (hk : I (40, 0) 39 = nI kd) (hn : I (40, 0) 40 = nI num) {t : List Nat} (hm : MA I t) (hl : t.length + 5 ≤ 60) (hkd : kd < 8) (x : Int32) : Ct l mX9_keepsAs 7 0 0 [.inr (.inr (some (40, 0))), .inl (nI 5), .inl x] S I L R (PIm S L R (fun v J => v = (k2M num kd x).1 ∧ MA J (t ++ (k2M num kd x).2) ∧ Fr maP I J)) := by
  refine Ct.of [some (.inr (.inr (some (40, 0)))), some (.inl (nI 5)), some (.inl x), none] (by decide) rfl (Nat.le_of_ble_eq_true rfl) ?_
  refine g_ild1 (pc' := 1) dX9_keepsAs_0 rfl ?_
  refine g_iconst (pc' := 2) (v := nI 3) dX9_keepsAs_1 rfl (by decide) ?_
  refine g_icmpneN (pc' := 5) (by omega) (by omega) (tgt := 20) dX9_keepsAs_2 (by decide) rfl (fun h2 => ?_) (fun h2 => ?_)
  · refine g_ild1 (pc' := 21) dX9_keepsAs_20 rfl ?_
    refine g_iconst (pc' := 22) (v := nI 2) dX9_keepsAs_21 rfl (by decide) ?_
    refine g_icmpeqN (pc' := 25) (by omega) (by omega) (tgt := 30) dX9_keepsAs_22 (by decide) rfl (fun h22 => ?_) (fun h22 => ?_)
    · exact absurd h22 (by omega)
    · refine g_ild1 (pc' := 26) dX9_keepsAs_25 rfl ?_
      refine g_iconst (pc' := 27) (v := nI 5) dX9_keepsAs_26 rfl (by decide) ?_
      refine g_icmpneN (pc' := 30) (by omega) (by omega) (tgt := 44) dX9_keepsAs_27 (by decide) rfl (fun h27 => ?_) (fun h27 => ?_)
      · exact absurd h27 (by omega)
      · refine g_ald0 (pc' := 31) dX9_keepsAs_30 rfl ?_
        refine g_bipush (pc' := 33) (v := nI 30) dX9_keepsAs_31 rfl (by decide) ?_
        refine g_callV (pc' := 36) (c_mRuns l mg hm (by have := hm.1; simp [List.length_append] at *; omega) 30) mg.s40 (by decide) wX9_runs lX9_324 rfl rfl (Nat.le_of_ble_eq_true rfl) ⟨Nat.le_of_ble_eq_true rfl, Nat.le_of_ble_eq_true rfl⟩ ⟨Nat.le_of_ble_eq_true rfl, Nat.le_of_ble_eq_true rfl⟩ dX9_keepsAs_33 rfl (kV (fun J0 hq0 => ?_))
        obtain ⟨hm0, hf0⟩ := hq0
        have hF0 : Fr maP I J0 := Fr.rf.tr hf0
        have hk0 : J0 (40, 0) 39 = nI kd := (hF0 _ _ (by simp [maP])).trans hk
        have hn0 : J0 (40, 0) 40 = nI num := (hF0 _ _ (by simp [maP])).trans hn
        refine g_ald0 (pc' := 37) dX9_keepsAs_36 rfl ?_
        refine g_iconst (pc' := 38) (v := nI 0) dX9_keepsAs_37 rfl (by decide) ?_
        refine g_ild2 (pc' := 39) dX9_keepsAs_38 rfl ?_
        refine g_callV (pc' := 42) (c_mK0 l mg hk0 hn0 hm0 (by have q1 := fun k x => tM_len num k x; have q2 := fun k x => cM_len num kd k x; have q3 := fun x => k0M_len num kd x; have q4 := fun k x => kM_len num kd k x; have q5 := q1 kd x; have q6 := q1 kd (nI 2); have q7 := q2 kd (nI 1); have q8 := q2 kd (nI 2); have q9 := q3 x; have q10 := q4 kd x; have q11 : (c0M num x).2.length = 1 := rfl; have q12 : (t0M num x).2.length = 1 := rfl; simp only [List.length_append, List.length_cons, List.length_nil]; omega) hkd (k := 0) (by decide) (by decide) (by decide) (by decide) (by decide) x) mg.s40 (by decide) wX9_keepsAs lX9_333 rfl rfl (Nat.le_of_ble_eq_true rfl) ⟨Nat.le_of_ble_eq_true rfl, Nat.le_of_ble_eq_true rfl⟩ ⟨Nat.le_of_ble_eq_true rfl, Nat.le_of_ble_eq_true rfl⟩ dX9_keepsAs_39 rfl (kI (fun v1 J1 hq1 => ?_))
        obtain ⟨hv1, hm1, hf1⟩ := hq1
        have hF1 : Fr maP I J1 := hF0.tr hf1
        have hk1 : J1 (40, 0) 39 = nI kd := (hF1 _ _ (by simp [maP])).trans hk
        have hn1 : J1 (40, 0) 40 = nI num := (hF1 _ _ (by simp [maP])).trans hn
        rw [hv1]
        refine g_ineg (pc' := 43) dX9_keepsAs_42 rfl ?_
        refine g_iret rfl dX9_keepsAs_43 ?_
        exact eI ⟨by first | rfl | simp [tM, t0M, t1M, t6M, cM, c0M, c3M, c4M, kM, k0M, k2M, k3M, k7M, eM, e0M, e5M, e7M], hm1.to (by simp [tM, t0M, t1M, t6M, cM, c0M, c3M, c4M, kM, k0M, k2M, k3M, k7M, eM, e0M, e5M, e7M]), hF1⟩
  · exact absurd h2 (by omega)

theorem c_mK3 (l : Launch) {S : Shp} {I : MI} {L : ML} {R : MR} (mg : MG S R) {num kd : Nat} (hk : I (40, 0) 39 = nI kd) (hn : I (40, 0) 40 = nI num) {t : List Nat} (hm : MA I t) (hl : t.length + 6 ≤ 60) (hkd : kd < 8) (x : Int32) : Ct l mX9_keepsAs 7 0 0 [.inr (.inr (some (40, 0))), .inl (nI 3), .inl x] S I L R (PIm S L R (fun v J => v = (k3M num kd x).1 ∧ MA J (t ++ (k3M num kd x).2) ∧ Fr maP I J)) := by
  refine Ct.of [some (.inr (.inr (some (40, 0)))), some (.inl (nI 3)), some (.inl x), none] (by decide) rfl (Nat.le_of_ble_eq_true rfl) ?_
  refine g_ild1 (pc' := 1) dX9_keepsAs_0 rfl ?_
  refine g_iconst (pc' := 2) (v := nI 3) dX9_keepsAs_1 rfl (by decide) ?_
  refine g_icmpneN (pc' := 5) (by omega) (by omega) (tgt := 20) dX9_keepsAs_2 (by decide) rfl (fun h2 => ?_) (fun h2 => ?_)
  · exact absurd h2 (by omega)
  · refine g_ald0 (pc' := 6) dX9_keepsAs_5 rfl ?_
    refine g_bipush (pc' := 8) (v := nI 41) dX9_keepsAs_6 rfl (by decide) ?_
    refine g_callV (pc' := 11) (c_mRuns l mg hm (by have := hm.1; simp [List.length_append] at *; omega) 41) mg.s40 (by decide) wX9_runs lX9_324 rfl rfl (Nat.le_of_ble_eq_true rfl) ⟨Nat.le_of_ble_eq_true rfl, Nat.le_of_ble_eq_true rfl⟩ ⟨Nat.le_of_ble_eq_true rfl, Nat.le_of_ble_eq_true rfl⟩ dX9_keepsAs_8 rfl (kV (fun J0 hq0 => ?_))
    obtain ⟨hm0, hf0⟩ := hq0
    have hF0 : Fr maP I J0 := Fr.rf.tr hf0
    have hk0 : J0 (40, 0) 39 = nI kd := (hF0 _ _ (by simp [maP])).trans hk
    have hn0 : J0 (40, 0) 40 = nI num := (hF0 _ _ (by simp [maP])).trans hn
    refine g_ald0 (pc' := 12) dX9_keepsAs_11 rfl ?_
    refine g_iconst (pc' := 13) (v := nI 2) dX9_keepsAs_12 rfl (by decide) ?_
    refine g_ild2 (pc' := 14) dX9_keepsAs_13 rfl ?_
    refine g_iconst (pc' := 15) (v := nI 1) dX9_keepsAs_14 rfl (by decide) ?_
    refine g_iadd (pc' := 16) dX9_keepsAs_15 rfl ?_
    refine g_callV (pc' := 19) (c_mK2 l mg hk0 hn0 hm0 (by have q1 := fun k x => tM_len num k x; have q2 := fun k x => cM_len num kd k x; have q3 := fun x => k0M_len num kd x; have q4 := fun k x => kM_len num kd k x; have q5 := q1 kd x; have q6 := q1 kd (nI 2); have q7 := q2 kd (nI 1); have q8 := q2 kd (nI 2); have q9 := q3 x; have q10 := q4 kd x; have q11 : (c0M num x).2.length = 1 := rfl; have q12 : (t0M num x).2.length = 1 := rfl; simp only [List.length_append, List.length_cons, List.length_nil]; omega) hkd (x + nI 1)) mg.s40 (by decide) wX9_keepsAs lX9_333 rfl rfl (Nat.le_of_ble_eq_true rfl) ⟨Nat.le_of_ble_eq_true rfl, Nat.le_of_ble_eq_true rfl⟩ ⟨Nat.le_of_ble_eq_true rfl, Nat.le_of_ble_eq_true rfl⟩ dX9_keepsAs_16 rfl (kI (fun v1 J1 hq1 => ?_))
    obtain ⟨hv1, hm1, hf1⟩ := hq1
    have hF1 : Fr maP I J1 := hF0.tr hf1
    have hk1 : J1 (40, 0) 39 = nI kd := (hF1 _ _ (by simp [maP])).trans hk
    have hn1 : J1 (40, 0) 40 = nI num := (hF1 _ _ (by simp [maP])).trans hn
    rw [hv1]
    refine g_iret rfl dX9_keepsAs_19 ?_
    exact eI ⟨by first | rfl | simp [tM, t0M, t1M, t6M, cM, c0M, c3M, c4M, kM, k0M, k2M, k3M, k7M, eM, e0M, e5M, e7M], hm1.to (by simp [tM, t0M, t1M, t6M, cM, c0M, c3M, c4M, kM, k0M, k2M, k3M, k7M, eM, e0M, e5M, e7M]), hF1⟩

theorem c_mK7 (l : Launch) {S : Shp} {I : MI} {L : ML} {R : MR} (mg : MG S R) {num kd : Nat} (hk : I (40, 0) 39 = nI kd) (hn : I (40, 0) 40 = nI num) {t : List Nat} (hm : MA I t) (hl : t.length + 10 ≤ 60) (hkd : kd < 8) (x : Int32) : Ct l mX9_keepsAs 7 0 0 [.inr (.inr (some (40, 0))), .inl (nI 7), .inl x] S I L R (PIm S L R (fun v J => v = (k7M num kd x).1 ∧ MA J (t ++ (k7M num kd x).2) ∧ Fr maP I J)) := by
  refine Ct.of [some (.inr (.inr (some (40, 0)))), some (.inl (nI 7)), some (.inl x), none] (by decide) rfl (Nat.le_of_ble_eq_true rfl) ?_
  refine g_ild1 (pc' := 1) dX9_keepsAs_0 rfl ?_
  refine g_iconst (pc' := 2) (v := nI 3) dX9_keepsAs_1 rfl (by decide) ?_
  refine g_icmpneN (pc' := 5) (by omega) (by omega) (tgt := 20) dX9_keepsAs_2 (by decide) rfl (fun h2 => ?_) (fun h2 => ?_)
  · refine g_ild1 (pc' := 21) dX9_keepsAs_20 rfl ?_
    refine g_iconst (pc' := 22) (v := nI 2) dX9_keepsAs_21 rfl (by decide) ?_
    refine g_icmpeqN (pc' := 25) (by omega) (by omega) (tgt := 30) dX9_keepsAs_22 (by decide) rfl (fun h22 => ?_) (fun h22 => ?_)
    · exact absurd h22 (by omega)
    · refine g_ild1 (pc' := 26) dX9_keepsAs_25 rfl ?_
      refine g_iconst (pc' := 27) (v := nI 5) dX9_keepsAs_26 rfl (by decide) ?_
      refine g_icmpneN (pc' := 30) (by omega) (by omega) (tgt := 44) dX9_keepsAs_27 (by decide) rfl (fun h27 => ?_) (fun h27 => ?_)
      · refine g_ild1 (pc' := 45) dX9_keepsAs_44 rfl ?_
        refine g_bipush (pc' := 47) (v := nI 7) dX9_keepsAs_45 rfl (by decide) ?_
        refine g_icmpneN (pc' := 50) (by omega) (by omega) (tgt := 75) dX9_keepsAs_47 (by decide) rfl (fun h47 => ?_) (fun h47 => ?_)
        · exact absurd h47 (by omega)
        · refine g_ald0 (pc' := 51) dX9_keepsAs_50 rfl ?_
          refine g_bipush (pc' := 53) (v := nI 80) dX9_keepsAs_51 rfl (by decide) ?_
          refine g_callV (pc' := 56) (c_mRuns l mg hm (by have := hm.1; simp [List.length_append] at *; omega) 80) mg.s40 (by decide) wX9_runs lX9_324 rfl rfl (Nat.le_of_ble_eq_true rfl) ⟨Nat.le_of_ble_eq_true rfl, Nat.le_of_ble_eq_true rfl⟩ ⟨Nat.le_of_ble_eq_true rfl, Nat.le_of_ble_eq_true rfl⟩ dX9_keepsAs_53 rfl (kV (fun J0 hq0 => ?_))
          obtain ⟨hm0, hf0⟩ := hq0
          have hF0 : Fr maP I J0 := Fr.rf.tr hf0
          have hk0 : J0 (40, 0) 39 = nI kd := (hF0 _ _ (by simp [maP])).trans hk
          have hn0 : J0 (40, 0) 40 = nI num := (hF0 _ _ (by simp [maP])).trans hn
          refine g_ald0 (pc' := 57) dX9_keepsAs_56 rfl ?_
          refine g_iconst (pc' := 58) (v := nI 0) dX9_keepsAs_57 rfl (by decide) ?_
          refine g_ild2 (pc' := 59) dX9_keepsAs_58 rfl ?_
          refine g_callV (pc' := 62) (c_mK0 l mg hk0 hn0 hm0 (by have q1 := fun k x => tM_len num k x; have q2 := fun k x => cM_len num kd k x; have q3 := fun x => k0M_len num kd x; have q4 := fun k x => kM_len num kd k x; have q5 := q1 kd x; have q6 := q1 kd (nI 2); have q7 := q2 kd (nI 1); have q8 := q2 kd (nI 2); have q9 := q3 x; have q10 := q4 kd x; have q11 : (c0M num x).2.length = 1 := rfl; have q12 : (t0M num x).2.length = 1 := rfl; simp only [List.length_append, List.length_cons, List.length_nil]; omega) hkd (k := 0) (by decide) (by decide) (by decide) (by decide) (by decide) x) mg.s40 (by decide) wX9_keepsAs lX9_333 rfl rfl (Nat.le_of_ble_eq_true rfl) ⟨Nat.le_of_ble_eq_true rfl, Nat.le_of_ble_eq_true rfl⟩ ⟨Nat.le_of_ble_eq_true rfl, Nat.le_of_ble_eq_true rfl⟩ dX9_keepsAs_59 rfl (kI (fun v1 J1 hq1 => ?_))
          obtain ⟨hv1, hm1, hf1⟩ := hq1
          have hF1 : Fr maP I J1 := hF0.tr hf1
          have hk1 : J1 (40, 0) 39 = nI kd := (hF1 _ _ (by simp [maP])).trans hk
          have hn1 : J1 (40, 0) 40 = nI num := (hF1 _ _ (by simp [maP])).trans hn
          rw [hv1]
          refine g_ist3 (pc' := 63) rfl (by decide) dX9_keepsAs_62 rfl ?_
          refine g_ild3 (pc' := 64) dX9_keepsAs_63 rfl ?_
          refine g_ald0 (pc' := 65) dX9_keepsAs_64 rfl ?_
          refine g_ald0 (pc' := 66) dX9_keepsAs_65 rfl ?_
          refine g_getI (pc' := 69) mg.s40 (by decide) fX9_336 hk1 dX9_keepsAs_66 rfl ?_
          refine g_iconst (pc' := 70) (v := nI 2) dX9_keepsAs_69 rfl (by decide) ?_
          refine g_callV (pc' := 73) (c_mC l mg hk1 hn1 hm1 (by have q1 := fun k x => tM_len num k x; have q2 := fun k x => cM_len num kd k x; have q3 := fun x => k0M_len num kd x; have q4 := fun k x => kM_len num kd k x; have q5 := q1 kd x; have q6 := q1 kd (nI 2); have q7 := q2 kd (nI 1); have q8 := q2 kd (nI 2); have q9 := q3 x; have q10 := q4 kd x; have q11 : (c0M num x).2.length = 1 := rfl; have q12 : (t0M num x).2.length = 1 := rfl; simp only [List.length_append, List.length_cons, List.length_nil]; omega) hkd (k := kd) hkd (nI 2)) mg.s40 (by decide) wX9_countsAs lX9_339 rfl rfl (Nat.le_of_ble_eq_true rfl) ⟨Nat.le_of_ble_eq_true rfl, Nat.le_of_ble_eq_true rfl⟩ ⟨Nat.le_of_ble_eq_true rfl, Nat.le_of_ble_eq_true rfl⟩ dX9_keepsAs_70 rfl (kI (fun v2 J2 hq2 => ?_))
          obtain ⟨hv2, hm2, hf2⟩ := hq2
          have hF2 : Fr maP I J2 := hF1.tr hf2
          have hk2 : J2 (40, 0) 39 = nI kd := (hF2 _ _ (by simp [maP])).trans hk
          have hn2 : J2 (40, 0) 40 = nI num := (hF2 _ _ (by simp [maP])).trans hn
          rw [hv2]
          refine g_iadd (pc' := 74) dX9_keepsAs_73 rfl ?_
          refine g_iret rfl dX9_keepsAs_74 ?_
          exact eI ⟨by first | rfl | simp [tM, t0M, t1M, t6M, cM, c0M, c3M, c4M, kM, k0M, k2M, k3M, k7M, eM, e0M, e5M, e7M], hm2.to (by simp [tM, t0M, t1M, t6M, cM, c0M, c3M, c4M, kM, k0M, k2M, k3M, k7M, eM, e0M, e5M, e7M]), hF2⟩
      · exact absurd h27 (by omega)
  · exact absurd h2 (by omega)

theorem c_mK (l : Launch) {S : Shp} {I : MI} {L : ML} {R : MR} (mg : MG S R) {num kd : Nat} (hk : I (40, 0) 39 = nI kd) (hn : I (40, 0) 40 = nI num) {t : List Nat} (hm : MA I t) (hl : t.length + 10 ≤ 60) (hkd : kd < 8) {k : Nat} (hk8 : k < 8) (x : Int32) : Ct l mX9_keepsAs 7 0 0 [.inr (.inr (some (40, 0))), .inl (nI k), .inl x] S I L R (PIm S L R (fun v J => v = (kM num kd k x).1 ∧ MA J (t ++ (kM num kd k x).2) ∧ Fr maP I J)) := by
  unfold kM
  by_cases h3 : k = 3
  · subst h3
    rw [if_pos rfl]
    exact c_mK3 l mg hk hn hm (by omega) hkd x
  · rw [if_neg h3]
    by_cases h2 : k = 2
    · subst h2
      rw [if_pos (Or.inl rfl)]
      exact c_mK2q l mg hk hn hm (by omega) hkd x
    · by_cases h5 : k = 5
      · subst h5
        rw [if_pos (Or.inr rfl)]
        exact c_mK2r l mg hk hn hm (by omega) hkd x
      · rw [if_neg (fun q => q.elim h2 h5)]
        by_cases h7 : k = 7
        · subst h7
          rw [if_pos rfl]
          exact c_mK7 l mg hk hn hm (by omega) hkd x
        · rw [if_neg h7]
          exact c_mK0q l mg hk hn hm (by omega) hkd hk8 h3 h2 h5 h7 x
theorem c_mE0 (l : Launch) {S : Shp} {I : MI} {L : ML} {R : MR} (mg : MG S R) {num kd : Nat} (hk : I (40, 0) 39 = nI kd) (hn : I (40, 0) 40 = nI num) {t : List Nat} (hm : MA I t) (hl : t.length + 16 ≤ 60) (hkd : kd < 8) {k : Nat} (hk8 : k < 8) (h5k : ¬ k = 5) (h7k : ¬ k = 7) (x : Int32) : Ct l mX9_tellsAs 8 0 0 [.inr (.inr (some (40, 0))), .inl (nI k), .inl x] S I L R (PIm S L R (fun v J => v = (e0M num kd x).1 ∧ MA J (t ++ (e0M num kd x).2) ∧ Fr maP I J)) := by
  refine Ct.of [some (.inr (.inr (some (40, 0)))), some (.inl (nI k)), some (.inl x), none] (by decide) rfl (Nat.le_of_ble_eq_true rfl) ?_
  refine g_ild1 (pc' := 1) dX9_tellsAs_0 rfl ?_
  refine g_iconst (pc' := 2) (v := nI 5) dX9_tellsAs_1 rfl (by decide) ?_
  refine g_icmpneN (pc' := 5) (by omega) (by omega) (tgt := 20) dX9_tellsAs_2 (by decide) rfl (fun h2 => ?_) (fun h2 => ?_)
  · refine g_ild1 (pc' := 21) dX9_tellsAs_20 rfl ?_
    refine g_bipush (pc' := 23) (v := nI 7) dX9_tellsAs_21 rfl (by decide) ?_
    refine g_icmpneN (pc' := 26) (by omega) (by omega) (tgt := 41) dX9_tellsAs_23 (by decide) rfl (fun h23 => ?_) (fun h23 => ?_)
    · refine g_ald0 (pc' := 42) dX9_tellsAs_41 rfl ?_
      refine g_iconst (pc' := 43) (v := nI 2) dX9_tellsAs_42 rfl (by decide) ?_
      refine g_callV (pc' := 46) (c_mRuns l mg hm (by have := hm.1; simp [List.length_append] at *; omega) 2) mg.s40 (by decide) wX9_runs lX9_324 rfl rfl (Nat.le_of_ble_eq_true rfl) ⟨Nat.le_of_ble_eq_true rfl, Nat.le_of_ble_eq_true rfl⟩ ⟨Nat.le_of_ble_eq_true rfl, Nat.le_of_ble_eq_true rfl⟩ dX9_tellsAs_43 rfl (kV (fun J0 hq0 => ?_))
      obtain ⟨hm0, hf0⟩ := hq0
      have hF0 : Fr maP I J0 := Fr.rf.tr hf0
      have hk0 : J0 (40, 0) 39 = nI kd := (hF0 _ _ (by simp [maP])).trans hk
      have hn0 : J0 (40, 0) 40 = nI num := (hF0 _ _ (by simp [maP])).trans hn
      refine g_ald0 (pc' := 47) dX9_tellsAs_46 rfl ?_
      refine g_ald0 (pc' := 48) dX9_tellsAs_47 rfl ?_
      refine g_getI (pc' := 51) mg.s40 (by decide) fX9_336 hk0 dX9_tellsAs_48 rfl ?_
      refine g_ild2 (pc' := 52) dX9_tellsAs_51 rfl ?_
      refine g_callV (pc' := 55) (c_mK l mg hk0 hn0 hm0 (by have q1 := fun k x => tM_len num k x; have q2 := fun k x => cM_len num kd k x; have q3 := fun x => k0M_len num kd x; have q4 := fun k x => kM_len num kd k x; have q5 := q1 kd x; have q6 := q1 kd (nI 2); have q7 := q2 kd (nI 1); have q8 := q2 kd (nI 2); have q9 := q3 x; have q10 := q4 kd x; have q11 : (c0M num x).2.length = 1 := rfl; have q12 : (t0M num x).2.length = 1 := rfl; simp only [List.length_append, List.length_cons, List.length_nil]; omega) hkd (k := kd) hkd x) mg.s40 (by decide) wX9_keepsAs lX9_333 rfl rfl (Nat.le_of_ble_eq_true rfl) ⟨Nat.le_of_ble_eq_true rfl, Nat.le_of_ble_eq_true rfl⟩ ⟨Nat.le_of_ble_eq_true rfl, Nat.le_of_ble_eq_true rfl⟩ dX9_tellsAs_52 rfl (kI (fun v1 J1 hq1 => ?_))
      obtain ⟨hv1, hm1, hf1⟩ := hq1
      have hF1 : Fr maP I J1 := hF0.tr hf1
      have hk1 : J1 (40, 0) 39 = nI kd := (hF1 _ _ (by simp [maP])).trans hk
      have hn1 : J1 (40, 0) 40 = nI num := (hF1 _ _ (by simp [maP])).trans hn
      rw [hv1]
      refine g_ist3 (pc' := 56) rfl (by decide) dX9_tellsAs_55 rfl ?_
      refine g_ild3 (pc' := 57) dX9_tellsAs_56 rfl ?_
      refine g_ald0 (pc' := 58) dX9_tellsAs_57 rfl ?_
      refine g_ald0 (pc' := 59) dX9_tellsAs_58 rfl ?_
      refine g_getI (pc' := 62) mg.s40 (by decide) fX9_336 hk1 dX9_tellsAs_59 rfl ?_
      refine g_iconst (pc' := 63) (v := nI 1) dX9_tellsAs_62 rfl (by decide) ?_
      refine g_callV (pc' := 66) (c_mC l mg hk1 hn1 hm1 (by have q1 := fun k x => tM_len num k x; have q2 := fun k x => cM_len num kd k x; have q3 := fun x => k0M_len num kd x; have q4 := fun k x => kM_len num kd k x; have q5 := q1 kd x; have q6 := q1 kd (nI 2); have q7 := q2 kd (nI 1); have q8 := q2 kd (nI 2); have q9 := q3 x; have q10 := q4 kd x; have q11 : (c0M num x).2.length = 1 := rfl; have q12 : (t0M num x).2.length = 1 := rfl; simp only [List.length_append, List.length_cons, List.length_nil]; omega) hkd (k := kd) hkd (nI 1)) mg.s40 (by decide) wX9_countsAs lX9_339 rfl rfl (Nat.le_of_ble_eq_true rfl) ⟨Nat.le_of_ble_eq_true rfl, Nat.le_of_ble_eq_true rfl⟩ ⟨Nat.le_of_ble_eq_true rfl, Nat.le_of_ble_eq_true rfl⟩ dX9_tellsAs_63 rfl (kI (fun v2 J2 hq2 => ?_))
      obtain ⟨hv2, hm2, hf2⟩ := hq2
      have hF2 : Fr maP I J2 := hF1.tr hf2
      have hk2 : J2 (40, 0) 39 = nI kd := (hF2 _ _ (by simp [maP])).trans hk
      have hn2 : J2 (40, 0) 40 = nI num := (hF2 _ _ (by simp [maP])).trans hn
      rw [hv2]
      refine g_isub (pc' := 67) dX9_tellsAs_66 rfl ?_
      refine g_iret rfl dX9_tellsAs_67 ?_
      exact eI ⟨by first | rfl | simp [tM, t0M, t1M, t6M, cM, c0M, c3M, c4M, kM, k0M, k2M, k3M, k7M, eM, e0M, e5M, e7M], hm2.to (by simp [tM, t0M, t1M, t6M, cM, c0M, c3M, c4M, kM, k0M, k2M, k3M, k7M, eM, e0M, e5M, e7M]), hF2⟩
    · exact absurd h23 (by omega)
  · exact absurd h2 (by omega)

theorem c_mE0q (l : Launch) {S : Shp} {I : MI} {L : ML} {R : MR} (mg : MG S R) {num kd : Nat} (hk : I (40, 0) 39 = nI kd) (hn : I (40, 0) 40 = nI num) {t : List Nat} (hm : MA I t) (hl : t.length + 16 ≤ 60) (hkd : kd < 8) {k : Nat} (hk8 : k < 8) (h5k : ¬ k = 5) (h7k : ¬ k = 7) (x : Int32) : Ct l mX9_tellsAs 9 0 0 [.inr (.inr (some (40, 0))), .inl (nI k), .inl x] S I L R (PIm S L R (fun v J => v = (e0M num kd x).1 ∧ MA J (t ++ (e0M num kd x).2) ∧ Fr maP I J)) := by
  refine Ct.of [some (.inr (.inr (some (40, 0)))), some (.inl (nI k)), some (.inl x), none] (by decide) rfl (Nat.le_of_ble_eq_true rfl) ?_
  refine g_ild1 (pc' := 1) dX9_tellsAs_0 rfl ?_
  refine g_iconst (pc' := 2) (v := nI 5) dX9_tellsAs_1 rfl (by decide) ?_
  refine g_icmpneN (pc' := 5) (by omega) (by omega) (tgt := 20) dX9_tellsAs_2 (by decide) rfl (fun h2 => ?_) (fun h2 => ?_)
  · refine g_ild1 (pc' := 21) dX9_tellsAs_20 rfl ?_
    refine g_bipush (pc' := 23) (v := nI 7) dX9_tellsAs_21 rfl (by decide) ?_
    refine g_icmpneN (pc' := 26) (by omega) (by omega) (tgt := 41) dX9_tellsAs_23 (by decide) rfl (fun h23 => ?_) (fun h23 => ?_)
    · refine g_ald0 (pc' := 42) dX9_tellsAs_41 rfl ?_
      refine g_iconst (pc' := 43) (v := nI 2) dX9_tellsAs_42 rfl (by decide) ?_
      refine g_callV (pc' := 46) (c_mRuns l mg hm (by have := hm.1; simp [List.length_append] at *; omega) 2) mg.s40 (by decide) wX9_runs lX9_324 rfl rfl (Nat.le_of_ble_eq_true rfl) ⟨Nat.le_of_ble_eq_true rfl, Nat.le_of_ble_eq_true rfl⟩ ⟨Nat.le_of_ble_eq_true rfl, Nat.le_of_ble_eq_true rfl⟩ dX9_tellsAs_43 rfl (kV (fun J0 hq0 => ?_))
      obtain ⟨hm0, hf0⟩ := hq0
      have hF0 : Fr maP I J0 := Fr.rf.tr hf0
      have hk0 : J0 (40, 0) 39 = nI kd := (hF0 _ _ (by simp [maP])).trans hk
      have hn0 : J0 (40, 0) 40 = nI num := (hF0 _ _ (by simp [maP])).trans hn
      refine g_ald0 (pc' := 47) dX9_tellsAs_46 rfl ?_
      refine g_ald0 (pc' := 48) dX9_tellsAs_47 rfl ?_
      refine g_getI (pc' := 51) mg.s40 (by decide) fX9_336 hk0 dX9_tellsAs_48 rfl ?_
      refine g_ild2 (pc' := 52) dX9_tellsAs_51 rfl ?_
      refine g_callV (pc' := 55) (c_mK l mg hk0 hn0 hm0 (by have q1 := fun k x => tM_len num k x; have q2 := fun k x => cM_len num kd k x; have q3 := fun x => k0M_len num kd x; have q4 := fun k x => kM_len num kd k x; have q5 := q1 kd x; have q6 := q1 kd (nI 2); have q7 := q2 kd (nI 1); have q8 := q2 kd (nI 2); have q9 := q3 x; have q10 := q4 kd x; have q11 : (c0M num x).2.length = 1 := rfl; have q12 : (t0M num x).2.length = 1 := rfl; simp only [List.length_append, List.length_cons, List.length_nil]; omega) hkd (k := kd) hkd x) mg.s40 (by decide) wX9_keepsAs lX9_333 rfl rfl (Nat.le_of_ble_eq_true rfl) ⟨Nat.le_of_ble_eq_true rfl, Nat.le_of_ble_eq_true rfl⟩ ⟨Nat.le_of_ble_eq_true rfl, Nat.le_of_ble_eq_true rfl⟩ dX9_tellsAs_52 rfl (kI (fun v1 J1 hq1 => ?_))
      obtain ⟨hv1, hm1, hf1⟩ := hq1
      have hF1 : Fr maP I J1 := hF0.tr hf1
      have hk1 : J1 (40, 0) 39 = nI kd := (hF1 _ _ (by simp [maP])).trans hk
      have hn1 : J1 (40, 0) 40 = nI num := (hF1 _ _ (by simp [maP])).trans hn
      rw [hv1]
      refine g_ist3 (pc' := 56) rfl (by decide) dX9_tellsAs_55 rfl ?_
      refine g_ild3 (pc' := 57) dX9_tellsAs_56 rfl ?_
      refine g_ald0 (pc' := 58) dX9_tellsAs_57 rfl ?_
      refine g_ald0 (pc' := 59) dX9_tellsAs_58 rfl ?_
      refine g_getI (pc' := 62) mg.s40 (by decide) fX9_336 hk1 dX9_tellsAs_59 rfl ?_
      refine g_iconst (pc' := 63) (v := nI 1) dX9_tellsAs_62 rfl (by decide) ?_
      refine g_callV (pc' := 66) (c_mC l mg hk1 hn1 hm1 (by have q1 := fun k x => tM_len num k x; have q2 := fun k x => cM_len num kd k x; have q3 := fun x => k0M_len num kd x; have q4 := fun k x => kM_len num kd k x; have q5 := q1 kd x; have q6 := q1 kd (nI 2); have q7 := q2 kd (nI 1); have q8 := q2 kd (nI 2); have q9 := q3 x; have q10 := q4 kd x; have q11 : (c0M num x).2.length = 1 := rfl; have q12 : (t0M num x).2.length = 1 := rfl; simp only [List.length_append, List.length_cons, List.length_nil]; omega) hkd (k := kd) hkd (nI 1)) mg.s40 (by decide) wX9_countsAs lX9_339 rfl rfl (Nat.le_of_ble_eq_true rfl) ⟨Nat.le_of_ble_eq_true rfl, Nat.le_of_ble_eq_true rfl⟩ ⟨Nat.le_of_ble_eq_true rfl, Nat.le_of_ble_eq_true rfl⟩ dX9_tellsAs_63 rfl (kI (fun v2 J2 hq2 => ?_))
      obtain ⟨hv2, hm2, hf2⟩ := hq2
      have hF2 : Fr maP I J2 := hF1.tr hf2
      have hk2 : J2 (40, 0) 39 = nI kd := (hF2 _ _ (by simp [maP])).trans hk
      have hn2 : J2 (40, 0) 40 = nI num := (hF2 _ _ (by simp [maP])).trans hn
      rw [hv2]
      refine g_isub (pc' := 67) dX9_tellsAs_66 rfl ?_
      refine g_iret rfl dX9_tellsAs_67 ?_
      exact eI ⟨by first | rfl | simp [tM, t0M, t1M, t6M, cM, c0M, c3M, c4M, kM, k0M, k2M, k3M, k7M, eM, e0M, e5M, e7M], hm2.to (by simp [tM, t0M, t1M, t6M, cM, c0M, c3M, c4M, kM, k0M, k2M, k3M, k7M, eM, e0M, e5M, e7M]), hF2⟩
    · exact absurd h23 (by omega)
  · exact absurd h2 (by omega)

theorem c_mE5 (l : Launch) {S : Shp} {I : MI} {L : ML} {R : MR} (mg : MG S R) {num kd : Nat} (hk : I (40, 0) 39 = nI kd) (hn : I (40, 0) 40 = nI num) {t : List Nat} (hm : MA I t) (hl : t.length + 17 ≤ 60) (hkd : kd < 8) (x : Int32) : Ct l mX9_tellsAs 9 0 0 [.inr (.inr (some (40, 0))), .inl (nI 5), .inl x] S I L R (PIm S L R (fun v J => v = (e5M num kd x).1 ∧ MA J (t ++ (e5M num kd x).2) ∧ Fr maP I J)) := by
  refine Ct.of [some (.inr (.inr (some (40, 0)))), some (.inl (nI 5)), some (.inl x), none] (by decide) rfl (Nat.le_of_ble_eq_true rfl) ?_
  refine g_ild1 (pc' := 1) dX9_tellsAs_0 rfl ?_
  refine g_iconst (pc' := 2) (v := nI 5) dX9_tellsAs_1 rfl (by decide) ?_
  refine g_icmpneN (pc' := 5) (by omega) (by omega) (tgt := 20) dX9_tellsAs_2 (by decide) rfl (fun h2 => ?_) (fun h2 => ?_)
  · exact absurd h2 (by omega)
  · refine g_ald0 (pc' := 6) dX9_tellsAs_5 rfl ?_
    refine g_bipush (pc' := 8) (v := nI 60) dX9_tellsAs_6 rfl (by decide) ?_
    refine g_callV (pc' := 11) (c_mRuns l mg hm (by have := hm.1; simp [List.length_append] at *; omega) 60) mg.s40 (by decide) wX9_runs lX9_324 rfl rfl (Nat.le_of_ble_eq_true rfl) ⟨Nat.le_of_ble_eq_true rfl, Nat.le_of_ble_eq_true rfl⟩ ⟨Nat.le_of_ble_eq_true rfl, Nat.le_of_ble_eq_true rfl⟩ dX9_tellsAs_8 rfl (kV (fun J0 hq0 => ?_))
    obtain ⟨hm0, hf0⟩ := hq0
    have hF0 : Fr maP I J0 := Fr.rf.tr hf0
    have hk0 : J0 (40, 0) 39 = nI kd := (hF0 _ _ (by simp [maP])).trans hk
    have hn0 : J0 (40, 0) 40 = nI num := (hF0 _ _ (by simp [maP])).trans hn
    refine g_ald0 (pc' := 12) dX9_tellsAs_11 rfl ?_
    refine g_iconst (pc' := 13) (v := nI 2) dX9_tellsAs_12 rfl (by decide) ?_
    refine g_ild2 (pc' := 14) dX9_tellsAs_13 rfl ?_
    refine g_callV (pc' := 17) (c_mE0 l mg hk0 hn0 hm0 (by have q1 := fun k x => tM_len num k x; have q2 := fun k x => cM_len num kd k x; have q3 := fun x => k0M_len num kd x; have q4 := fun k x => kM_len num kd k x; have q5 := q1 kd x; have q6 := q1 kd (nI 2); have q7 := q2 kd (nI 1); have q8 := q2 kd (nI 2); have q9 := q3 x; have q10 := q4 kd x; have q11 : (c0M num x).2.length = 1 := rfl; have q12 : (t0M num x).2.length = 1 := rfl; simp only [List.length_append, List.length_cons, List.length_nil]; omega) hkd (k := 2) (by decide) (by decide) (by decide) x) mg.s40 (by decide) wX9_tellsAs lX9_342 rfl rfl (Nat.le_of_ble_eq_true rfl) ⟨Nat.le_of_ble_eq_true rfl, Nat.le_of_ble_eq_true rfl⟩ ⟨Nat.le_of_ble_eq_true rfl, Nat.le_of_ble_eq_true rfl⟩ dX9_tellsAs_14 rfl (kI (fun v1 J1 hq1 => ?_))
    obtain ⟨hv1, hm1, hf1⟩ := hq1
    have hF1 : Fr maP I J1 := hF0.tr hf1
    have hk1 : J1 (40, 0) 39 = nI kd := (hF1 _ _ (by simp [maP])).trans hk
    have hn1 : J1 (40, 0) 40 = nI num := (hF1 _ _ (by simp [maP])).trans hn
    rw [hv1]
    refine g_iconst (pc' := 18) (v := nI 5) dX9_tellsAs_17 rfl (by decide) ?_
    refine g_ixor (pc' := 19) dX9_tellsAs_18 rfl ?_
    refine g_iret rfl dX9_tellsAs_19 ?_
    exact eI ⟨by first | rfl | simp [tM, t0M, t1M, t6M, cM, c0M, c3M, c4M, kM, k0M, k2M, k3M, k7M, eM, e0M, e5M, e7M], hm1.to (by simp [tM, t0M, t1M, t6M, cM, c0M, c3M, c4M, kM, k0M, k2M, k3M, k7M, eM, e0M, e5M, e7M]), hF1⟩

theorem c_mE7 (l : Launch) {S : Shp} {I : MI} {L : ML} {R : MR} (mg : MG S R) {num kd : Nat} (hk : I (40, 0) 39 = nI kd) (hn : I (40, 0) 40 = nI num) {t : List Nat} (hm : MA I t) (hl : t.length + 17 ≤ 60) (hkd : kd < 8) (x : Int32) : Ct l mX9_tellsAs 9 0 0 [.inr (.inr (some (40, 0))), .inl (nI 7), .inl x] S I L R (PIm S L R (fun v J => v = (e7M num kd x).1 ∧ MA J (t ++ (e7M num kd x).2) ∧ Fr maP I J)) := by
  refine Ct.of [some (.inr (.inr (some (40, 0)))), some (.inl (nI 7)), some (.inl x), none] (by decide) rfl (Nat.le_of_ble_eq_true rfl) ?_
  refine g_ild1 (pc' := 1) dX9_tellsAs_0 rfl ?_
  refine g_iconst (pc' := 2) (v := nI 5) dX9_tellsAs_1 rfl (by decide) ?_
  refine g_icmpneN (pc' := 5) (by omega) (by omega) (tgt := 20) dX9_tellsAs_2 (by decide) rfl (fun h2 => ?_) (fun h2 => ?_)
  · refine g_ild1 (pc' := 21) dX9_tellsAs_20 rfl ?_
    refine g_bipush (pc' := 23) (v := nI 7) dX9_tellsAs_21 rfl (by decide) ?_
    refine g_icmpneN (pc' := 26) (by omega) (by omega) (tgt := 41) dX9_tellsAs_23 (by decide) rfl (fun h23 => ?_) (fun h23 => ?_)
    · exact absurd h23 (by omega)
    · refine g_ald0 (pc' := 27) dX9_tellsAs_26 rfl ?_
      refine g_bipush (pc' := 29) (v := nI 81) dX9_tellsAs_27 rfl (by decide) ?_
      refine g_callV (pc' := 32) (c_mRuns l mg hm (by have := hm.1; simp [List.length_append] at *; omega) 81) mg.s40 (by decide) wX9_runs lX9_324 rfl rfl (Nat.le_of_ble_eq_true rfl) ⟨Nat.le_of_ble_eq_true rfl, Nat.le_of_ble_eq_true rfl⟩ ⟨Nat.le_of_ble_eq_true rfl, Nat.le_of_ble_eq_true rfl⟩ dX9_tellsAs_29 rfl (kV (fun J0 hq0 => ?_))
      obtain ⟨hm0, hf0⟩ := hq0
      have hF0 : Fr maP I J0 := Fr.rf.tr hf0
      have hk0 : J0 (40, 0) 39 = nI kd := (hF0 _ _ (by simp [maP])).trans hk
      have hn0 : J0 (40, 0) 40 = nI num := (hF0 _ _ (by simp [maP])).trans hn
      refine g_ald0 (pc' := 33) dX9_tellsAs_32 rfl ?_
      refine g_iconst (pc' := 34) (v := nI 0) dX9_tellsAs_33 rfl (by decide) ?_
      refine g_ild2 (pc' := 35) dX9_tellsAs_34 rfl ?_
      refine g_callV (pc' := 38) (c_mE0 l mg hk0 hn0 hm0 (by have q1 := fun k x => tM_len num k x; have q2 := fun k x => cM_len num kd k x; have q3 := fun x => k0M_len num kd x; have q4 := fun k x => kM_len num kd k x; have q5 := q1 kd x; have q6 := q1 kd (nI 2); have q7 := q2 kd (nI 1); have q8 := q2 kd (nI 2); have q9 := q3 x; have q10 := q4 kd x; have q11 : (c0M num x).2.length = 1 := rfl; have q12 : (t0M num x).2.length = 1 := rfl; simp only [List.length_append, List.length_cons, List.length_nil]; omega) hkd (k := 0) (by decide) (by decide) (by decide) x) mg.s40 (by decide) wX9_tellsAs lX9_342 rfl rfl (Nat.le_of_ble_eq_true rfl) ⟨Nat.le_of_ble_eq_true rfl, Nat.le_of_ble_eq_true rfl⟩ ⟨Nat.le_of_ble_eq_true rfl, Nat.le_of_ble_eq_true rfl⟩ dX9_tellsAs_35 rfl (kI (fun v1 J1 hq1 => ?_))
      obtain ⟨hv1, hm1, hf1⟩ := hq1
      have hF1 : Fr maP I J1 := hF0.tr hf1
      have hk1 : J1 (40, 0) 39 = nI kd := (hF1 _ _ (by simp [maP])).trans hk
      have hn1 : J1 (40, 0) 40 = nI num := (hF1 _ _ (by simp [maP])).trans hn
      rw [hv1]
      refine g_iconst (pc' := 39) (v := nI 1) dX9_tellsAs_38 rfl (by decide) ?_
      refine g_isub (pc' := 40) dX9_tellsAs_39 rfl ?_
      refine g_iret rfl dX9_tellsAs_40 ?_
      exact eI ⟨by first | rfl | simp [tM, t0M, t1M, t6M, cM, c0M, c3M, c4M, kM, k0M, k2M, k3M, k7M, eM, e0M, e5M, e7M], hm1.to (by simp [tM, t0M, t1M, t6M, cM, c0M, c3M, c4M, kM, k0M, k2M, k3M, k7M, eM, e0M, e5M, e7M]), hF1⟩
  · exact absurd h2 (by omega)

theorem c_mE (l : Launch) {S : Shp} {I : MI} {L : ML} {R : MR} (mg : MG S R) {num kd : Nat} (hk : I (40, 0) 39 = nI kd) (hn : I (40, 0) 40 = nI num) {t : List Nat} (hm : MA I t) (hl : t.length + 17 ≤ 60) (hkd : kd < 8) {k : Nat} (hk8 : k < 8) (x : Int32) : Ct l mX9_tellsAs 9 0 0 [.inr (.inr (some (40, 0))), .inl (nI k), .inl x] S I L R (PIm S L R (fun v J => v = (eM num kd k x).1 ∧ MA J (t ++ (eM num kd k x).2) ∧ Fr maP I J)) := by
  unfold eM
  by_cases h5 : k = 5
  · subst h5
    rw [if_pos rfl]
    exact c_mE5 l mg hk hn hm (by omega) hkd x
  · rw [if_neg h5]
    by_cases h7 : k = 7
    · subst h7
      rw [if_pos rfl]
      exact c_mE7 l mg hk hn hm (by omega) hkd x
    · rw [if_neg h7]
      exact c_mE0q l mg hk hn hm (by omega) hkd hk8 h5 h7 x