/-! the model: charts, finding -/
def tldM (sp : Nat → Int32) (F : Nat → Nat → Int32) (m s : Nat) : Int32 := sumN (fun k => sp k * F k s) m
theorem c_mChartOf (l : Launch) {S : Shp} {I : MI} {L : ML} {R : MR} (mg : MG S R) {n : Nat} (hn : I (40, 0) 6 = nI n) (hN : n ≤ 12) {m : Nat} (hm : I (40, 0) 18 = nI m) (hM : m ≤ 9) {sp : Nat → Int32} {F : Nat → Nat → Int32} (hsp : ∀ k, k < m → I (82, 0) k = sp k) (hF : ∀ k, k < m → ∀ o, o < n → I (50, 0) (23 + 12 * k + o) = F k o) {s : Nat} (hs : s < n) : Ct l mX9_chartOf 2 0 0 [.inr (.inr (some (40, 0))), .inl (nI s)] S I L R (PIp S I L R (tldM sp F m s)) := by
  refine Ct.of [some (.inr (.inr (some (40, 0)))), some (.inl (nI s)), none, none] (by decide) rfl (Nat.le_of_ble_eq_true rfl) ?_
  refine g_iconst (pc' := 1) (v := nI 0) dX9_chartOf_0 rfl (by decide) ?_
  refine g_ist2 (pc' := 2) rfl (by decide) dX9_chartOf_1 rfl ?_
  refine g_iconst (pc' := 3) (v := nI 0) dX9_chartOf_2 rfl (by decide) ?_
  refine g_ist3 (pc' := 4) rfl (by decide) dX9_chartOf_3 rfl ?_
  refine g_loop (σ := Unit) (fun _ _ => True) (fun i _ => [some (.inr (.inr (some (40, 0)))), some (.inl (nI s)), some (.inl (sumN (fun k => sp k * F k s) i)), some (.inl (nI i))]) (fun _ _ => I) m 0 () (by omega) trivial ?_ ?_
  · intro i _ hi hP ih
    refine g_ild3 (pc' := 5) dX9_chartOf_4 rfl ?_
    refine g_ald0 (pc' := 6) dX9_chartOf_5 rfl ?_
    refine g_getI (pc' := 9) mg.s40 (by decide) fX9_174 hm dX9_chartOf_6 rfl ?_
    refine g_icmpgeN (pc' := 12) (by omega) (by omega) (tgt := 34) dX9_chartOf_9 (by decide) rfl (fun h9 => ?_) (fun h9 => ?_)
    · exact absurd h9 (by omega)
    · refine g_ild2 (pc' := 13) dX9_chartOf_12 rfl ?_
      refine g_ald0 (pc' := 14) dX9_chartOf_13 rfl ?_
      refine g_getR (pc' := 17) mg.s40 (by decide) fX9_64 mg.r40_32 dX9_chartOf_14 rfl ?_
      refine g_ild3 (pc' := 18) dX9_chartOf_17 rfl ?_
      refine g_iald (pc' := 19) (j := i) mg.s82 rfl (by omega) (by decide) (v := sp i) (hsp i hi) dX9_chartOf_18 rfl ?_
      refine g_ald0 (pc' := 20) dX9_chartOf_19 rfl ?_
      refine g_ild3 (pc' := 21) dX9_chartOf_20 rfl ?_
      refine g_ild1 (pc' := 22) dX9_chartOf_21 rfl ?_
      refine g_callV (pc' := 25) (c_mCount l mg (w := i) (by omega) (by omega) (hF i hi s hs)) mg.s40 (by decide) wX9_countOf lX9_191 rfl rfl (Nat.le_of_ble_eq_true rfl) ⟨Nat.le_of_ble_eq_true rfl, Nat.le_of_ble_eq_true rfl⟩ ⟨Nat.le_of_ble_eq_true rfl, Nat.le_of_ble_eq_true rfl⟩ dX9_chartOf_22 rfl (kIp ?_)
      refine g_imul (pc' := 26) dX9_chartOf_25 rfl ?_
      refine g_iadd (pc' := 27) dX9_chartOf_26 rfl ?_
      refine g_ist2 (pc' := 28) rfl (by decide) dX9_chartOf_27 rfl ?_
      refine g_inc3 (pc' := 31) rfl (by decide) (v := nI (i + 1)) (nI_1 _) dX9_chartOf_28 rfl ?_
      refine g_goto (tgt := 4) dX9_chartOf_31 (by decide) ?_
      exact ih () trivial
  · intro _ hP
    refine g_ild3 (pc' := 5) dX9_chartOf_4 rfl ?_
    refine g_ald0 (pc' := 6) dX9_chartOf_5 rfl ?_
    refine g_getI (pc' := 9) mg.s40 (by decide) fX9_174 hm dX9_chartOf_6 rfl ?_
    refine g_icmpgeN (pc' := 12) (by omega) (by omega) (tgt := 34) dX9_chartOf_9 (by decide) rfl (fun h9 => ?_) (fun h9 => ?_)
    · refine g_ild2 (pc' := 35) dX9_chartOf_34 rfl ?_
      refine g_iret rfl dX9_chartOf_35 ?_
      exact eIp rfl
    · exact absurd h9 (by omega)

theorem c_mChartB (l : Launch) {S : Shp} {I : MI} {L : ML} {R : MR} (mg : MG S R) {n : Nat} (hn : I (40, 0) 6 = nI n) (hN : n ≤ 12) {x y : Int32} (hb : inb x n = false ∨ y < nI 0 ∨ nI 1 < y) : Ct l mX9_chart 3 0 0 [.inr (.inr (some (40, 0))), .inl x, .inl y] S I L R (PIp S I L R (-1)) := by
  refine Ct.of [some (.inr (.inr (some (40, 0)))), some (.inl x), some (.inl y), none, none, none] (by decide) rfl (Nat.le_of_ble_eq_true rfl) ?_
  refine g_ald0 (pc' := 1) dX9_chart_0 rfl ?_
  refine g_ild1 (pc' := 2) dX9_chart_1 rfl ?_
  refine g_callV (pc' := 5) (c_misSong l mg hn hN x) mg.s40 (by decide) wX9_isSong lX9_111 rfl rfl (Nat.le_of_ble_eq_true rfl) ⟨Nat.le_of_ble_eq_true rfl, Nat.le_of_ble_eq_true rfl⟩ ⟨Nat.le_of_ble_eq_true rfl, Nat.le_of_ble_eq_true rfl⟩ dX9_chart_2 rfl (kIp ?_)
  refine g_ifeqB (pc' := 8) (tgt := 18) dX9_chart_5 (by decide) rfl (fun h5 => ?_) (fun h5 => ?_)
  · refine g_iconst (pc' := 19) (v := (-1)) dX9_chart_18 rfl (by decide) ?_
    refine g_iret rfl dX9_chart_19 ?_
    exact eIp rfl
  · refine g_ild2 (pc' := 9) dX9_chart_8 rfl ?_
    refine g_i2l (pc' := 10) dX9_chart_9 rfl ?_
    refine g_lconst (pc' := 11) (v := 0) dX9_chart_10 rfl (by decide) ?_
    refine g_lconst (pc' := 12) (v := 1) dX9_chart_11 rfl (by decide) ?_
    refine g_callS (pc' := 15) (c_mWI l y (nI 0) (nI 1) (A := 0) (B := 1) (by decide) (by decide)) wX9_within lX9_102 rfl rfl (Nat.le_of_ble_eq_true rfl) ⟨Nat.le_of_ble_eq_true rfl, Nat.le_of_ble_eq_true rfl⟩ ⟨Nat.le_of_ble_eq_true rfl, Nat.le_of_ble_eq_true rfl⟩ dX9_chart_12 rfl (kIp ?_)
    refine g_ifneB (pc' := 18) (tgt := 20) dX9_chart_15 (by decide) rfl (fun h15 => ?_) (fun h15 => ?_)
    · exfalso
      rcases hb with h | h
      · rw [h] at h5; cases h5
      · exact wi_no h h15
    · refine g_iconst (pc' := 19) (v := (-1)) dX9_chart_18 rfl (by decide) ?_
      refine g_iret rfl dX9_chart_19 ?_
      exact eIp rfl

def chVm (sp : Nat → Int32) (F : Nat → Nat → Int32) (n m i q : Nat) : Int32 := if q = 0 then nI (rkO (tldM sp F m) n i) else tldM sp F m (rkO (tldM sp F m) n i)
theorem c_mChartS (l : Launch) {S : Shp} {I : MI} {L : ML} {R : MR} (mg : MG S R) {n : Nat} (hn : I (40, 0) 6 = nI n) (hN : n ≤ 12) {m : Nat} (hm : I (40, 0) 18 = nI m) (hM : m ≤ 9) {sp : Nat → Int32} {F : Nat → Nat → Int32} (hsp : ∀ k, k < m → I (82, 0) k = sp k) (hF : ∀ k, k < m → ∀ o, o < n → I (50, 0) (23 + 12 * k + o) = F k o) {i q : Nat} (hi0 : i < n) (hq : q ≤ 1) : Ct l mX9_chart 3 0 0 [.inr (.inr (some (40, 0))), .inl (nI i), .inl (nI q)] S I L R (PIp S I L R (chVm sp F n m i q)) := by
  refine Ct.of [some (.inr (.inr (some (40, 0)))), some (.inl (nI i)), some (.inl (nI q)), none, none, none] (by decide) rfl (Nat.le_of_ble_eq_true rfl) ?_
  refine g_ald0 (pc' := 1) dX9_chart_0 rfl ?_
  refine g_ild1 (pc' := 2) dX9_chart_1 rfl ?_
  refine g_callV (pc' := 5) (c_misSong l mg hn hN (nI i)) mg.s40 (by decide) wX9_isSong lX9_111 rfl rfl (Nat.le_of_ble_eq_true rfl) ⟨Nat.le_of_ble_eq_true rfl, Nat.le_of_ble_eq_true rfl⟩ ⟨Nat.le_of_ble_eq_true rfl, Nat.le_of_ble_eq_true rfl⟩ dX9_chart_2 rfl (kIp ?_)
  refine g_ifeqB (pc' := 8) (tgt := 18) dX9_chart_5 (by decide) rfl (fun h5 => (by first | exact absurd h5 (by rw [inb_nI (by omega) (by omega)]; simp [hi0]) | exact absurd (by rw [inb_nI (by omega) (by omega)]; simp [hi0]) h5)) (fun h5 => ?_)
  refine g_ild2 (pc' := 9) dX9_chart_8 rfl ?_
  refine g_i2l (pc' := 10) dX9_chart_9 rfl ?_
  refine g_lconst (pc' := 11) (v := 0) dX9_chart_10 rfl (by decide) ?_
  refine g_lconst (pc' := 12) (v := 1) dX9_chart_11 rfl (by decide) ?_
  refine g_callS (pc' := 15) (c_mWI l (nI q) (nI 0) (nI 1) (A := 0) (B := 1) (by decide) (by decide)) wX9_within lX9_102 rfl rfl (Nat.le_of_ble_eq_true rfl) ⟨Nat.le_of_ble_eq_true rfl, Nat.le_of_ble_eq_true rfl⟩ ⟨Nat.le_of_ble_eq_true rfl, Nat.le_of_ble_eq_true rfl⟩ dX9_chart_12 rfl (kIp ?_)
  refine g_ifneB (pc' := 18) (tgt := 20) dX9_chart_15 (by decide) rfl (fun h15 => ?_) (fun h15 => (by first | exact absurd h15 (wi_yesN (by omega) (by decide)) | exact absurd (wi_yesN (by omega) (by decide)) h15))
  refine g_iconst (pc' := 21) (v := nI 0) dX9_chart_20 rfl (by decide) ?_
  refine g_ist3 (pc' := 22) rfl (by decide) dX9_chart_21 rfl ?_
  have hr : (rkO (tldM sp F m) n i) < n := rkO_lt _ _ _ hi0
  refine g_loop (σ := Unit) (fun _ _ => True) (fun s _ => [some (.inr (.inr (some (40, 0)))), some (.inl (nI i)), some (.inl (nI q)), some (.inl (nI s)), none, none]) (fun _ _ => I) (rkO (tldM sp F m) n i) 0 () (by omega) trivial ?_ ?_
  · intro s _ hi hP ih
    refine g_ild3 (pc' := 23) dX9_chart_22 rfl ?_
    refine g_ald0 (pc' := 24) dX9_chart_23 rfl ?_
    refine g_getI (pc' := 27) mg.s40 (by decide) fX9_99 hn dX9_chart_24 rfl ?_
    refine g_icmpgeN (pc' := 30) (by omega) (by omega) (tgt := 121) dX9_chart_27 (by decide) rfl (fun h27 => ?_) (fun h27 => ?_)
    · exact absurd h27 (by omega)
    · refine g_iconst (pc' := 31) (v := nI 0) dX9_chart_30 rfl (by decide) ?_
      refine g_ist4 (pc' := 33) rfl (by decide) dX9_chart_31 rfl ?_
      refine g_iconst (pc' := 34) (v := nI 0) dX9_chart_33 rfl (by decide) ?_
      refine g_ist5 (pc' := 36) rfl (by decide) dX9_chart_34 rfl ?_
      refine g_loop (σ := Unit) (fun _ _ => True) (fun k _ => [some (.inr (.inr (some (40, 0)))), some (.inl (nI i)), some (.inl (nI q)), some (.inl (nI s)), some (.inl (nI (ctN (fun o => bf (tldM sp F m) o s) k))), some (.inl (nI k))]) (fun _ _ => I) n 0 () (by omega) trivial ?_ ?_
      · intro k _ hk hQ ihk
        have hcl := ctN_le (fun o => bf (tldM sp F m) o s) k
        refine g_ild5 (pc' := 38) dX9_chart_36 rfl ?_
        refine g_ald0 (pc' := 39) dX9_chart_38 rfl ?_
        refine g_getI (pc' := 42) mg.s40 (by decide) fX9_99 hn dX9_chart_39 rfl ?_
        refine g_icmpgeN (pc' := 45) (by omega) (by omega) (tgt := 95) dX9_chart_42 (by decide) rfl (fun h42 => ?_) (fun h42 => ?_)
        · exact absurd h42 (by omega)
        · refine g_ild4 (pc' := 47) dX9_chart_45 rfl ?_
          refine g_ald0 (pc' := 48) dX9_chart_47 rfl ?_
          refine g_ild5 (pc' := 50) dX9_chart_48 rfl ?_
          refine g_callV (pc' := 53) (c_mChartOf l mg hn hN hm hM hsp hF (s := k) hk) mg.s40 (by decide) wX9_chartOf lX9_286 rfl rfl (Nat.le_of_ble_eq_true rfl) ⟨Nat.le_of_ble_eq_true rfl, Nat.le_of_ble_eq_true rfl⟩ ⟨Nat.le_of_ble_eq_true rfl, Nat.le_of_ble_eq_true rfl⟩ dX9_chart_50 rfl (kIp ?_)
          refine g_ald0 (pc' := 54) dX9_chart_53 rfl ?_
          refine g_ild3 (pc' := 55) dX9_chart_54 rfl ?_
          refine g_callV (pc' := 58) (c_mChartOf l mg hn hN hm hM hsp hF (s := s) (by omega)) mg.s40 (by decide) wX9_chartOf lX9_286 rfl rfl (Nat.le_of_ble_eq_true rfl) ⟨Nat.le_of_ble_eq_true rfl, Nat.le_of_ble_eq_true rfl⟩ ⟨Nat.le_of_ble_eq_true rfl, Nat.le_of_ble_eq_true rfl⟩ dX9_chart_55 rfl (kIp ?_)
          refine g_icmpgt (pc' := 61) (tgt := 81) dX9_chart_58 (by decide) rfl (fun h58 => ?_) (fun h58 => ?_)
          · refine g_iconst (pc' := 82) (v := nI 1) dX9_chart_81 rfl (by decide) ?_
            refine g_goto (tgt := 86) dX9_chart_82 (by decide) ?_
            refine g_iaddN (pc' := 87) dX9_chart_86 rfl ?_
            refine g_ist4 (pc' := 89) rfl (by decide) dX9_chart_87 rfl ?_
            refine g_inc5 (pc' := 92) rfl (by decide) (v := nI (k + 1)) (nI_1 _) dX9_chart_89 rfl ?_
            refine g_goto (tgt := 36) dX9_chart_92 (by decide) ?_
            have hcl := ctN_le (fun o => bf (tldM sp F m) o s) k
            have e : bf (tldM sp F m) k s = true := by
              unfold bf
              first | (rw [decide_eq_true h58]; rfl) | (rw [decide_eq_true h72, decide_eq_true (show k < s by omega)]; simp)
            have hI := ihk () trivial
            rw [show ctN (fun o => bf (tldM sp F m) o s) (k + 1) = ctN (fun o => bf (tldM sp F m) o s) k + (if bf (tldM sp F m) k s = true then 1 else 0) from rfl, e] at hI
            exact hI
          · refine g_ald0 (pc' := 62) dX9_chart_61 rfl ?_
            refine g_ild5 (pc' := 64) dX9_chart_62 rfl ?_
            refine g_callV (pc' := 67) (c_mChartOf l mg hn hN hm hM hsp hF (s := k) hk) mg.s40 (by decide) wX9_chartOf lX9_286 rfl rfl (Nat.le_of_ble_eq_true rfl) ⟨Nat.le_of_ble_eq_true rfl, Nat.le_of_ble_eq_true rfl⟩ ⟨Nat.le_of_ble_eq_true rfl, Nat.le_of_ble_eq_true rfl⟩ dX9_chart_64 rfl (kIp ?_)
            refine g_ald0 (pc' := 68) dX9_chart_67 rfl ?_
            refine g_ild3 (pc' := 69) dX9_chart_68 rfl ?_
            refine g_callV (pc' := 72) (c_mChartOf l mg hn hN hm hM hsp hF (s := s) (by omega)) mg.s40 (by decide) wX9_chartOf lX9_286 rfl rfl (Nat.le_of_ble_eq_true rfl) ⟨Nat.le_of_ble_eq_true rfl, Nat.le_of_ble_eq_true rfl⟩ ⟨Nat.le_of_ble_eq_true rfl, Nat.le_of_ble_eq_true rfl⟩ dX9_chart_69 rfl (kIp ?_)
            refine g_icmpne (pc' := 75) (tgt := 85) dX9_chart_72 (by decide) rfl (fun h72 => ?_) (fun h72 => ?_)
            · refine g_iconst (pc' := 86) (v := nI 0) dX9_chart_85 rfl (by decide) ?_
              refine g_iaddN (pc' := 87) dX9_chart_86 rfl ?_
              refine g_ist4 (pc' := 89) rfl (by decide) dX9_chart_87 rfl ?_
              refine g_inc5 (pc' := 92) rfl (by decide) (v := nI (k + 1)) (nI_1 _) dX9_chart_89 rfl ?_
              refine g_goto (tgt := 36) dX9_chart_92 (by decide) ?_
              have hcl := ctN_le (fun o => bf (tldM sp F m) o s) k
              have e : bf (tldM sp F m) k s = false := by
                unfold bf
                first | (rw [decide_eq_false h58, decide_eq_false h72]; rfl) | (rw [decide_eq_false h58, decide_eq_false (show ¬ k < s by omega)]; simp)
              have hI := ihk () trivial
              rw [show ctN (fun o => bf (tldM sp F m) o s) (k + 1) = ctN (fun o => bf (tldM sp F m) o s) k + (if bf (tldM sp F m) k s = true then 1 else 0) from rfl, e] at hI
              exact hI
            · refine g_ild5 (pc' := 77) dX9_chart_75 rfl ?_
              refine g_ild3 (pc' := 78) dX9_chart_77 rfl ?_
              refine g_icmpgeN (pc' := 81) (by omega) (by omega) (tgt := 85) dX9_chart_78 (by decide) rfl (fun h78 => ?_) (fun h78 => ?_)
              · refine g_iconst (pc' := 86) (v := nI 0) dX9_chart_85 rfl (by decide) ?_
                refine g_iaddN (pc' := 87) dX9_chart_86 rfl ?_
                refine g_ist4 (pc' := 89) rfl (by decide) dX9_chart_87 rfl ?_
                refine g_inc5 (pc' := 92) rfl (by decide) (v := nI (k + 1)) (nI_1 _) dX9_chart_89 rfl ?_
                refine g_goto (tgt := 36) dX9_chart_92 (by decide) ?_
                have hcl := ctN_le (fun o => bf (tldM sp F m) o s) k
                have e : bf (tldM sp F m) k s = false := by
                  unfold bf
                  first | (rw [decide_eq_false h58, decide_eq_false h72]; rfl) | (rw [decide_eq_false h58, decide_eq_false (show ¬ k < s by omega)]; simp)
                have hI := ihk () trivial
                rw [show ctN (fun o => bf (tldM sp F m) o s) (k + 1) = ctN (fun o => bf (tldM sp F m) o s) k + (if bf (tldM sp F m) k s = true then 1 else 0) from rfl, e] at hI
                exact hI
              · refine g_iconst (pc' := 82) (v := nI 1) dX9_chart_81 rfl (by decide) ?_
                refine g_goto (tgt := 86) dX9_chart_82 (by decide) ?_
                refine g_iaddN (pc' := 87) dX9_chart_86 rfl ?_
                refine g_ist4 (pc' := 89) rfl (by decide) dX9_chart_87 rfl ?_
                refine g_inc5 (pc' := 92) rfl (by decide) (v := nI (k + 1)) (nI_1 _) dX9_chart_89 rfl ?_
                refine g_goto (tgt := 36) dX9_chart_92 (by decide) ?_
                have hcl := ctN_le (fun o => bf (tldM sp F m) o s) k
                have e : bf (tldM sp F m) k s = true := by
                  unfold bf
                  first | (rw [decide_eq_true h58]; rfl) | (rw [decide_eq_true h72, decide_eq_true (show k < s by omega)]; simp)
                have hI := ihk () trivial
                rw [show ctN (fun o => bf (tldM sp F m) o s) (k + 1) = ctN (fun o => bf (tldM sp F m) o s) k + (if bf (tldM sp F m) k s = true then 1 else 0) from rfl, e] at hI
                exact hI
      · intro _ hQ
        refine g_ild5 (pc' := 38) dX9_chart_36 rfl ?_
        refine g_ald0 (pc' := 39) dX9_chart_38 rfl ?_
        refine g_getI (pc' := 42) mg.s40 (by decide) fX9_99 hn dX9_chart_39 rfl ?_
        refine g_icmpgeN (pc' := 45) (by omega) (by omega) (tgt := 95) dX9_chart_42 (by decide) rfl (fun h42 => ?_) (fun h42 => ?_)
        · have hpl := (rk_plc (f := tldM sp F m) (n := n) (s := s) (by omega)).1
          have hps : ctN (fun o => bf (tldM sp F m) o s) n = plc (tldM sp F m) n s := rfl
          rw [hps]
          refine g_ild4 (pc' := 97) dX9_chart_95 rfl ?_
          refine g_ild1 (pc' := 98) dX9_chart_97 rfl ?_
          refine g_icmpneN (pc' := 101) (by omega) (by omega) (tgt := 115) dX9_chart_98 (by decide) rfl (fun h98 => ?_) (fun h98 => ?_)
          · refine g_inc3 (pc' := 118) rfl (by decide) (v := nI (s + 1)) (nI_1 _) dX9_chart_115 rfl ?_
            refine g_goto (tgt := 22) dX9_chart_118 (by decide) ?_
            refine G.lsub [some (.inr (.inr (some (40, 0)))), some (.inl (nI i)), some (.inl (nI q)), some (.inl (nI (s + 1))), none, none] (by intro j v; rcases j with _ | _ | _ | _ | _ | _ | j <;> simp) ?_
            exact ih () trivial
          · exact absurd h98 (fun e => by have h2 := (rk_plc (f := tldM sp F m) (n := n) (s := s) (by omega)).2; rw [e] at h2; omega)
        · exact absurd h42 (by omega)
  · intro _ hP
    refine g_ild3 (pc' := 23) dX9_chart_22 rfl ?_
    refine g_ald0 (pc' := 24) dX9_chart_23 rfl ?_
    refine g_getI (pc' := 27) mg.s40 (by decide) fX9_99 hn dX9_chart_24 rfl ?_
    refine g_icmpgeN (pc' := 30) (by omega) (by omega) (tgt := 121) dX9_chart_27 (by decide) rfl (fun h27 => ?_) (fun h27 => ?_)
    · exact absurd h27 (by omega)
    · refine g_iconst (pc' := 31) (v := nI 0) dX9_chart_30 rfl (by decide) ?_
      refine g_ist4 (pc' := 33) rfl (by decide) dX9_chart_31 rfl ?_
      refine g_iconst (pc' := 34) (v := nI 0) dX9_chart_33 rfl (by decide) ?_
      refine g_ist5 (pc' := 36) rfl (by decide) dX9_chart_34 rfl ?_
      refine g_loop (σ := Unit) (fun _ _ => True) (fun k _ => [some (.inr (.inr (some (40, 0)))), some (.inl (nI i)), some (.inl (nI q)), some (.inl (nI (rkO (tldM sp F m) n i))), some (.inl (nI (ctN (fun o => bf (tldM sp F m) o (rkO (tldM sp F m) n i)) k))), some (.inl (nI k))]) (fun _ _ => I) n 0 () (by omega) trivial ?_ ?_
      · intro k _ hk hQ ihk
        have hcl := ctN_le (fun o => bf (tldM sp F m) o (rkO (tldM sp F m) n i)) k
        refine g_ild5 (pc' := 38) dX9_chart_36 rfl ?_
        refine g_ald0 (pc' := 39) dX9_chart_38 rfl ?_
        refine g_getI (pc' := 42) mg.s40 (by decide) fX9_99 hn dX9_chart_39 rfl ?_
        refine g_icmpgeN (pc' := 45) (by omega) (by omega) (tgt := 95) dX9_chart_42 (by decide) rfl (fun h42 => ?_) (fun h42 => ?_)
        · exact absurd h42 (by omega)
        · refine g_ild4 (pc' := 47) dX9_chart_45 rfl ?_
          refine g_ald0 (pc' := 48) dX9_chart_47 rfl ?_
          refine g_ild5 (pc' := 50) dX9_chart_48 rfl ?_
          refine g_callV (pc' := 53) (c_mChartOf l mg hn hN hm hM hsp hF (s := k) hk) mg.s40 (by decide) wX9_chartOf lX9_286 rfl rfl (Nat.le_of_ble_eq_true rfl) ⟨Nat.le_of_ble_eq_true rfl, Nat.le_of_ble_eq_true rfl⟩ ⟨Nat.le_of_ble_eq_true rfl, Nat.le_of_ble_eq_true rfl⟩ dX9_chart_50 rfl (kIp ?_)
          refine g_ald0 (pc' := 54) dX9_chart_53 rfl ?_
          refine g_ild3 (pc' := 55) dX9_chart_54 rfl ?_
          refine g_callV (pc' := 58) (c_mChartOf l mg hn hN hm hM hsp hF (s := (rkO (tldM sp F m) n i)) hr) mg.s40 (by decide) wX9_chartOf lX9_286 rfl rfl (Nat.le_of_ble_eq_true rfl) ⟨Nat.le_of_ble_eq_true rfl, Nat.le_of_ble_eq_true rfl⟩ ⟨Nat.le_of_ble_eq_true rfl, Nat.le_of_ble_eq_true rfl⟩ dX9_chart_55 rfl (kIp ?_)
          refine g_icmpgt (pc' := 61) (tgt := 81) dX9_chart_58 (by decide) rfl (fun h58 => ?_) (fun h58 => ?_)
          · refine g_iconst (pc' := 82) (v := nI 1) dX9_chart_81 rfl (by decide) ?_
            refine g_goto (tgt := 86) dX9_chart_82 (by decide) ?_
            refine g_iaddN (pc' := 87) dX9_chart_86 rfl ?_
            refine g_ist4 (pc' := 89) rfl (by decide) dX9_chart_87 rfl ?_
            refine g_inc5 (pc' := 92) rfl (by decide) (v := nI (k + 1)) (nI_1 _) dX9_chart_89 rfl ?_
            refine g_goto (tgt := 36) dX9_chart_92 (by decide) ?_
            have hcl := ctN_le (fun o => bf (tldM sp F m) o (rkO (tldM sp F m) n i)) k
            have e : bf (tldM sp F m) k (rkO (tldM sp F m) n i) = true := by
              unfold bf
              first | (rw [decide_eq_true h58]; rfl) | (rw [decide_eq_true h72, decide_eq_true (show k < (rkO (tldM sp F m) n i) by omega)]; simp)
            have hI := ihk () trivial
            rw [show ctN (fun o => bf (tldM sp F m) o (rkO (tldM sp F m) n i)) (k + 1) = ctN (fun o => bf (tldM sp F m) o (rkO (tldM sp F m) n i)) k + (if bf (tldM sp F m) k (rkO (tldM sp F m) n i) = true then 1 else 0) from rfl, e] at hI
            exact hI
          · refine g_ald0 (pc' := 62) dX9_chart_61 rfl ?_
            refine g_ild5 (pc' := 64) dX9_chart_62 rfl ?_
            refine g_callV (pc' := 67) (c_mChartOf l mg hn hN hm hM hsp hF (s := k) hk) mg.s40 (by decide) wX9_chartOf lX9_286 rfl rfl (Nat.le_of_ble_eq_true rfl) ⟨Nat.le_of_ble_eq_true rfl, Nat.le_of_ble_eq_true rfl⟩ ⟨Nat.le_of_ble_eq_true rfl, Nat.le_of_ble_eq_true rfl⟩ dX9_chart_64 rfl (kIp ?_)
            refine g_ald0 (pc' := 68) dX9_chart_67 rfl ?_
            refine g_ild3 (pc' := 69) dX9_chart_68 rfl ?_
            refine g_callV (pc' := 72) (c_mChartOf l mg hn hN hm hM hsp hF (s := (rkO (tldM sp F m) n i)) hr) mg.s40 (by decide) wX9_chartOf lX9_286 rfl rfl (Nat.le_of_ble_eq_true rfl) ⟨Nat.le_of_ble_eq_true rfl, Nat.le_of_ble_eq_true rfl⟩ ⟨Nat.le_of_ble_eq_true rfl, Nat.le_of_ble_eq_true rfl⟩ dX9_chart_69 rfl (kIp ?_)
            refine g_icmpne (pc' := 75) (tgt := 85) dX9_chart_72 (by decide) rfl (fun h72 => ?_) (fun h72 => ?_)
            · refine g_iconst (pc' := 86) (v := nI 0) dX9_chart_85 rfl (by decide) ?_
              refine g_iaddN (pc' := 87) dX9_chart_86 rfl ?_
              refine g_ist4 (pc' := 89) rfl (by decide) dX9_chart_87 rfl ?_
              refine g_inc5 (pc' := 92) rfl (by decide) (v := nI (k + 1)) (nI_1 _) dX9_chart_89 rfl ?_
              refine g_goto (tgt := 36) dX9_chart_92 (by decide) ?_
              have hcl := ctN_le (fun o => bf (tldM sp F m) o (rkO (tldM sp F m) n i)) k
              have e : bf (tldM sp F m) k (rkO (tldM sp F m) n i) = false := by
                unfold bf
                first | (rw [decide_eq_false h58, decide_eq_false h72]; rfl) | (rw [decide_eq_false h58, decide_eq_false (show ¬ k < (rkO (tldM sp F m) n i) by omega)]; simp)
              have hI := ihk () trivial
              rw [show ctN (fun o => bf (tldM sp F m) o (rkO (tldM sp F m) n i)) (k + 1) = ctN (fun o => bf (tldM sp F m) o (rkO (tldM sp F m) n i)) k + (if bf (tldM sp F m) k (rkO (tldM sp F m) n i) = true then 1 else 0) from rfl, e] at hI
              exact hI
            · refine g_ild5 (pc' := 77) dX9_chart_75 rfl ?_
              refine g_ild3 (pc' := 78) dX9_chart_77 rfl ?_
              refine g_icmpgeN (pc' := 81) (by omega) (by omega) (tgt := 85) dX9_chart_78 (by decide) rfl (fun h78 => ?_) (fun h78 => ?_)
              · refine g_iconst (pc' := 86) (v := nI 0) dX9_chart_85 rfl (by decide) ?_
                refine g_iaddN (pc' := 87) dX9_chart_86 rfl ?_
                refine g_ist4 (pc' := 89) rfl (by decide) dX9_chart_87 rfl ?_
                refine g_inc5 (pc' := 92) rfl (by decide) (v := nI (k + 1)) (nI_1 _) dX9_chart_89 rfl ?_
                refine g_goto (tgt := 36) dX9_chart_92 (by decide) ?_
                have hcl := ctN_le (fun o => bf (tldM sp F m) o (rkO (tldM sp F m) n i)) k
                have e : bf (tldM sp F m) k (rkO (tldM sp F m) n i) = false := by
                  unfold bf
                  first | (rw [decide_eq_false h58, decide_eq_false h72]; rfl) | (rw [decide_eq_false h58, decide_eq_false (show ¬ k < (rkO (tldM sp F m) n i) by omega)]; simp)
                have hI := ihk () trivial
                rw [show ctN (fun o => bf (tldM sp F m) o (rkO (tldM sp F m) n i)) (k + 1) = ctN (fun o => bf (tldM sp F m) o (rkO (tldM sp F m) n i)) k + (if bf (tldM sp F m) k (rkO (tldM sp F m) n i) = true then 1 else 0) from rfl, e] at hI
                exact hI
              · refine g_iconst (pc' := 82) (v := nI 1) dX9_chart_81 rfl (by decide) ?_
                refine g_goto (tgt := 86) dX9_chart_82 (by decide) ?_
                refine g_iaddN (pc' := 87) dX9_chart_86 rfl ?_
                refine g_ist4 (pc' := 89) rfl (by decide) dX9_chart_87 rfl ?_
                refine g_inc5 (pc' := 92) rfl (by decide) (v := nI (k + 1)) (nI_1 _) dX9_chart_89 rfl ?_
                refine g_goto (tgt := 36) dX9_chart_92 (by decide) ?_
                have hcl := ctN_le (fun o => bf (tldM sp F m) o (rkO (tldM sp F m) n i)) k
                have e : bf (tldM sp F m) k (rkO (tldM sp F m) n i) = true := by
                  unfold bf
                  first | (rw [decide_eq_true h58]; rfl) | (rw [decide_eq_true h72, decide_eq_true (show k < (rkO (tldM sp F m) n i) by omega)]; simp)
                have hI := ihk () trivial
                rw [show ctN (fun o => bf (tldM sp F m) o (rkO (tldM sp F m) n i)) (k + 1) = ctN (fun o => bf (tldM sp F m) o (rkO (tldM sp F m) n i)) k + (if bf (tldM sp F m) k (rkO (tldM sp F m) n i) = true then 1 else 0) from rfl, e] at hI
                exact hI
      · intro _ hQ
        refine g_ild5 (pc' := 38) dX9_chart_36 rfl ?_
        refine g_ald0 (pc' := 39) dX9_chart_38 rfl ?_
        refine g_getI (pc' := 42) mg.s40 (by decide) fX9_99 hn dX9_chart_39 rfl ?_
        refine g_icmpgeN (pc' := 45) (by omega) (by omega) (tgt := 95) dX9_chart_42 (by decide) rfl (fun h42 => ?_) (fun h42 => ?_)
        · have hps : ctN (fun o => bf (tldM sp F m) o (rkO (tldM sp F m) n i)) n = i := (plc_rk (f := tldM sp F m) hi0)
          rw [hps]
          refine g_ild4 (pc' := 97) dX9_chart_95 rfl ?_
          refine g_ild1 (pc' := 98) dX9_chart_97 rfl ?_
          refine g_icmpneN (pc' := 101) (by omega) (by omega) (tgt := 115) dX9_chart_98 (by decide) rfl (fun h98 => ?_) (fun h98 => ?_)
          · exact absurd h98 (by omega)
          · refine g_ild2 (pc' := 102) dX9_chart_101 rfl ?_
            refine g_ifneN (pc' := 105) (by omega) (tgt := 109) dX9_chart_102 (by decide) rfl (fun h102 => ?_) (fun h102 => ?_)
            · refine g_ald0 (pc' := 110) dX9_chart_109 rfl ?_
              refine g_ild3 (pc' := 111) dX9_chart_110 rfl ?_
              refine g_callV (pc' := 114) (c_mChartOf l mg hn hN hm hM hsp hF (s := (rkO (tldM sp F m) n i)) hr) mg.s40 (by decide) wX9_chartOf lX9_286 rfl rfl (Nat.le_of_ble_eq_true rfl) ⟨Nat.le_of_ble_eq_true rfl, Nat.le_of_ble_eq_true rfl⟩ ⟨Nat.le_of_ble_eq_true rfl, Nat.le_of_ble_eq_true rfl⟩ dX9_chart_111 rfl (kIp ?_)
              refine g_iret rfl dX9_chart_114 ?_
              exact eIp (by unfold chVm; first | rw [if_pos (by omega)] | rw [if_neg (by omega)])
            · refine g_ild3 (pc' := 106) dX9_chart_105 rfl ?_
              refine g_goto (tgt := 114) dX9_chart_106 (by decide) ?_
              refine g_iret rfl dX9_chart_114 ?_
              exact eIp (by unfold chVm; first | rw [if_pos (by omega)] | rw [if_neg (by omega)])
        · exact absurd h42 (by omega)

theorem c_mFoundB (l : Launch) {S : Shp} {I : MI} {L : ML} {R : MR} (mg : MG S R) {m : Nat} (hm : I (40, 0) 18 = nI m) (hM : m ≤ 9) {x y : Int32} (hb : inb x m = false ∨ y < nI 0 ∨ nI 1 < y) : Ct l mX9_found 3 0 0 [.inr (.inr (some (40, 0))), .inl x, .inl y] S I L R (PIp S I L R (-1)) := by
  refine Ct.of [some (.inr (.inr (some (40, 0)))), some (.inl x), some (.inl y), none, none, none, none, none, none, none, none] (by decide) rfl (Nat.le_of_ble_eq_true rfl) ?_
  refine g_ald0 (pc' := 1) dX9_found_0 rfl ?_
  refine g_ild1 (pc' := 2) dX9_found_1 rfl ?_
  refine g_callV (pc' := 5) (c_misWorld l mg hm hM x) mg.s40 (by decide) wX9_isWorld lX9_186 rfl rfl (Nat.le_of_ble_eq_true rfl) ⟨Nat.le_of_ble_eq_true rfl, Nat.le_of_ble_eq_true rfl⟩ ⟨Nat.le_of_ble_eq_true rfl, Nat.le_of_ble_eq_true rfl⟩ dX9_found_2 rfl (kIp ?_)
  refine g_ifeqB (pc' := 8) (tgt := 18) dX9_found_5 (by decide) rfl (fun h5 => ?_) (fun h5 => ?_)
  · refine g_iconst (pc' := 19) (v := (-1)) dX9_found_18 rfl (by decide) ?_
    refine g_iret rfl dX9_found_19 ?_
    exact eIp rfl
  · refine g_ild2 (pc' := 9) dX9_found_8 rfl ?_
    refine g_i2l (pc' := 10) dX9_found_9 rfl ?_
    refine g_lconst (pc' := 11) (v := 0) dX9_found_10 rfl (by decide) ?_
    refine g_lconst (pc' := 12) (v := 1) dX9_found_11 rfl (by decide) ?_
    refine g_callS (pc' := 15) (c_mWI l y (nI 0) (nI 1) (A := 0) (B := 1) (by decide) (by decide)) wX9_within lX9_102 rfl rfl (Nat.le_of_ble_eq_true rfl) ⟨Nat.le_of_ble_eq_true rfl, Nat.le_of_ble_eq_true rfl⟩ ⟨Nat.le_of_ble_eq_true rfl, Nat.le_of_ble_eq_true rfl⟩ dX9_found_12 rfl (kIp ?_)
    refine g_ifneB (pc' := 18) (tgt := 20) dX9_found_15 (by decide) rfl (fun h15 => ?_) (fun h15 => ?_)
    · exfalso
      rcases hb with h | h
      · rw [h] at h5; cases h5
      · exact wi_no h h15
    · refine g_iconst (pc' := 19) (v := (-1)) dX9_found_18 rfl (by decide) ?_
      refine g_iret rfl dX9_found_19 ?_
      exact eIp rfl

theorem sum_l {f : Nat → Int32} {n i : Nat} (hN : n ≤ 12) (hb : bdN f n) (hi : i < n) : (sumN f i).toInt64 + (f i).toInt64 = (sumN f (i + 1)).toInt64 := by
  obtain ⟨a, ha, ea⟩ := sum_bd (n := i) (fun o ho => hb o (by omega))
  obtain ⟨b, hb1, eb⟩ := hb i hi
  rw [sumN_s, ea, eb, nI_add, nI_l (by omega), nI_l (by omega), nI_l (by omega), lN_add]
theorem lg_z {v : Int32} : lg_cmp v.toInt64 0 = 0 ↔ v = 0 := by
  rw [lg_cmp_eq]
  constructor
  · intro h
    have h1 := congrArg Int64.toInt h
    rw [Int32.toInt_toInt64] at h1
    exact Int32.toInt_inj.mp h1
  · intro h
    rw [h]
    rfl
def fdAm (f wo : Nat → Int32) (n s : Nat) : Int32 := f s - ((sumN f n).toInt64 * (wo s).toInt64 / (sumN wo n).toInt64).toInt32
theorem fdAm_eq {f wo : Nat → Int32} {n s : Nat} : f s - ((sumN f n).toInt64 * (wo s).toInt64 / (sumN wo n).toInt64).toInt32 = fdAm f wo n s := rfl
def fdVm (f wo : Nat → Int32) (n q : Nat) : Int32 := if q = 0 then nI (fdN (fdAm f wo n) n).1 else (fdN (fdAm f wo n) n).2
theorem c_mFoundZ (l : Launch) {S : Shp} {I : MI} {L : ML} {R : MR} (mg : MG S R) {n : Nat} (hn : I (40, 0) 6 = nI n) (hN : n ≤ 12) {m : Nat} (hm : I (40, 0) 18 = nI m) (hM : m ≤ 9) {w : Nat} (hwm : w < m) {f wo : Nat → Int32} (hf : ∀ o, o < n → I (50, 0) (23 + 12 * w + o) = f o) (hwo : ∀ o, o < n → I (50, 0) o = wo o) (hbw : bdN wo n) {q : Nat} (hq : q ≤ 1) (hz : sumN f n = 0 ∨ sumN wo n = 0) : Ct l mX9_found 3 0 0 [.inr (.inr (some (40, 0))), .inl (nI w), .inl (nI q)] S I L R (PIp S I L R (-2)) := by
  refine Ct.of [some (.inr (.inr (some (40, 0)))), some (.inl (nI w)), some (.inl (nI q)), none, none, none, none, none, none, none, none] (by decide) rfl (Nat.le_of_ble_eq_true rfl) ?_
  refine g_ald0 (pc' := 1) dX9_found_0 rfl ?_
  refine g_ild1 (pc' := 2) dX9_found_1 rfl ?_
  refine g_callV (pc' := 5) (c_misWorld l mg hm hM (nI w)) mg.s40 (by decide) wX9_isWorld lX9_186 rfl rfl (Nat.le_of_ble_eq_true rfl) ⟨Nat.le_of_ble_eq_true rfl, Nat.le_of_ble_eq_true rfl⟩ ⟨Nat.le_of_ble_eq_true rfl, Nat.le_of_ble_eq_true rfl⟩ dX9_found_2 rfl (kIp ?_)
  refine g_ifeqB (pc' := 8) (tgt := 18) dX9_found_5 (by decide) rfl (fun h5 => (by first | exact absurd h5 (by rw [inb_nI (by omega) (by omega)]; simp [hwm]) | exact absurd (by rw [inb_nI (by omega) (by omega)]; simp [hwm]) h5)) (fun h5 => ?_)
  refine g_ild2 (pc' := 9) dX9_found_8 rfl ?_
  refine g_i2l (pc' := 10) dX9_found_9 rfl ?_
  refine g_lconst (pc' := 11) (v := 0) dX9_found_10 rfl (by decide) ?_
  refine g_lconst (pc' := 12) (v := 1) dX9_found_11 rfl (by decide) ?_
  refine g_callS (pc' := 15) (c_mWI l (nI q) (nI 0) (nI 1) (A := 0) (B := 1) (by decide) (by decide)) wX9_within lX9_102 rfl rfl (Nat.le_of_ble_eq_true rfl) ⟨Nat.le_of_ble_eq_true rfl, Nat.le_of_ble_eq_true rfl⟩ ⟨Nat.le_of_ble_eq_true rfl, Nat.le_of_ble_eq_true rfl⟩ dX9_found_12 rfl (kIp ?_)
  refine g_ifneB (pc' := 18) (tgt := 20) dX9_found_15 (by decide) rfl (fun h15 => ?_) (fun h15 => (by first | exact absurd h15 (wi_yesN (by omega) (by decide)) | exact absurd (wi_yesN (by omega) (by decide)) h15))
  refine g_ald0 (pc' := 21) dX9_found_20 rfl ?_
  refine g_ild1 (pc' := 22) dX9_found_21 rfl ?_
  refine g_callV (pc' := 25) (c_mAll l mg hn hN (by omega) hf) mg.s40 (by decide) wX9_allCounts lX9_204 rfl rfl (Nat.le_of_ble_eq_true rfl) ⟨Nat.le_of_ble_eq_true rfl, Nat.le_of_ble_eq_true rfl⟩ ⟨Nat.le_of_ble_eq_true rfl, Nat.le_of_ble_eq_true rfl⟩ dX9_found_22 rfl (kIp ?_)
  refine g_i2l (pc' := 26) dX9_found_25 rfl ?_
  refine g_lst3 (pc' := 27) rfl (by decide) dX9_found_26 rfl ?_
  refine g_lconst (pc' := 28) (v := 0) dX9_found_27 rfl (by decide) ?_
  refine g_lst5 (pc' := 30) rfl (by decide) dX9_found_28 rfl ?_
  refine g_iconst (pc' := 31) (v := nI 0) dX9_found_30 rfl (by decide) ?_
  refine g_ist7 (pc' := 33) rfl (by decide) dX9_found_31 rfl ?_
  refine G.lsub [some (.inr (.inr (some (40, 0)))), some (.inl (nI w)), some (.inl (nI q)), some (.inr (.inl ((sumN f n).toInt64))), none, some (.inr (.inl (0))), none, some (.inl (nI 0)), none, none, none] (by intro j v; rcases j with _ | _ | _ | _ | _ | _ | _ | _ | _ | _ | _ | j <;> simp) ?_
  have e00 : (0 : Int64) = (sumN wo 0).toInt64 := rfl
  rw [e00]
  refine g_loop (σ := Unit) (fun _ _ => True) (fun i _ => [some (.inr (.inr (some (40, 0)))), some (.inl (nI w)), some (.inl (nI q)), some (.inr (.inl ((sumN f n).toInt64))), none, some (.inr (.inl ((sumN wo i).toInt64))), none, some (.inl (nI i)), none, none, none]) (fun _ _ => I) n 0 () (by omega) trivial ?_ ?_
  · intro i _ hi hP ih
    refine g_ild7 (pc' := 35) dX9_found_33 rfl ?_
    refine g_ald0 (pc' := 36) dX9_found_35 rfl ?_
    refine g_getI (pc' := 39) mg.s40 (by decide) fX9_99 hn dX9_found_36 rfl ?_
    refine g_icmpgeN (pc' := 42) (by omega) (by omega) (tgt := 61) dX9_found_39 (by decide) rfl (fun h39 => ?_) (fun h39 => ?_)
    · exact absurd h39 (by omega)
    · refine g_lld5 (pc' := 44) dX9_found_42 rfl ?_
      refine g_ald0 (pc' := 45) dX9_found_44 rfl ?_
      refine g_getR (pc' := 48) mg.s40 (by decide) fX9_9 mg.r40_0 dX9_found_45 rfl ?_
      refine g_ild7 (pc' := 50) dX9_found_48 rfl ?_
      refine g_iald (pc' := 51) (j := i) mg.s50 rfl (by omega) (by decide) (v := wo i) (hwo i hi) dX9_found_50 rfl ?_
      refine g_i2l (pc' := 52) dX9_found_51 rfl ?_
      refine g_ladd (pc' := 53) dX9_found_52 rfl ?_
      refine g_lst5 (pc' := 55) rfl (by decide) dX9_found_53 rfl ?_
      refine g_inc7 (pc' := 58) rfl (by decide) (v := nI (i + 1)) (nI_1 _) dX9_found_55 rfl ?_
      refine g_goto (tgt := 33) dX9_found_58 (by decide) ?_
      rw [sum_l hN hbw hi]
      exact ih () trivial
  · intro _ hP
    refine g_ild7 (pc' := 35) dX9_found_33 rfl ?_
    refine g_ald0 (pc' := 36) dX9_found_35 rfl ?_
    refine g_getI (pc' := 39) mg.s40 (by decide) fX9_99 hn dX9_found_36 rfl ?_
    refine g_icmpgeN (pc' := 42) (by omega) (by omega) (tgt := 61) dX9_found_39 (by decide) rfl (fun h39 => ?_) (fun h39 => ?_)
    · refine g_lld3 (pc' := 62) dX9_found_61 rfl ?_
      refine g_lconst (pc' := 63) (v := 0) dX9_found_62 rfl (by decide) ?_
      refine g_lcmp (pc' := 64) dX9_found_63 rfl ?_
      refine g_ifeq (pc' := 67) (tgt := 74) dX9_found_64 (by decide) rfl (fun h64 => ?_) (fun h64 => ?_)
      · refine g_bipush (pc' := 76) (v := (-2)) dX9_found_74 rfl (by decide) ?_
        refine g_iret rfl dX9_found_76 ?_
        exact eIp rfl
      · refine g_lld5 (pc' := 69) dX9_found_67 rfl ?_
        refine g_lconst (pc' := 70) (v := 0) dX9_found_69 rfl (by decide) ?_
        refine g_lcmp (pc' := 71) dX9_found_70 rfl ?_
        refine g_ifne (pc' := 74) (tgt := 77) dX9_found_71 (by decide) rfl (fun h71 => ?_) (fun h71 => ?_)
        · exact (hz.elim (fun h => h64 (lg_z.mpr h)) (fun h => h71 (lg_z.mpr h))).elim
        · refine g_bipush (pc' := 76) (v := (-2)) dX9_found_74 rfl (by decide) ?_
          refine g_iret rfl dX9_found_76 ?_
          exact eIp rfl
    · exact absurd h39 (by omega)

theorem c_mFoundS (l : Launch) {S : Shp} {I : MI} {L : ML} {R : MR} (mg : MG S R) {n : Nat} (hn : I (40, 0) 6 = nI n) (hN : n ≤ 12) {m : Nat} (hm : I (40, 0) 18 = nI m) (hM : m ≤ 9) {w : Nat} (hwm : w < m) {f wo : Nat → Int32} (hf : ∀ o, o < n → I (50, 0) (23 + 12 * w + o) = f o) (hwo : ∀ o, o < n → I (50, 0) o = wo o) (hbw : bdN wo n) {q : Nat} (hq : q ≤ 1) (hcz : ¬ sumN f n = 0) (hwz : ¬ sumN wo n = 0) : Ct l mX9_found 3 0 0 [.inr (.inr (some (40, 0))), .inl (nI w), .inl (nI q)] S I L R (PIp S I L R (fdVm f wo n q)) := by
  refine Ct.of [some (.inr (.inr (some (40, 0)))), some (.inl (nI w)), some (.inl (nI q)), none, none, none, none, none, none, none, none] (by decide) rfl (Nat.le_of_ble_eq_true rfl) ?_
  refine g_ald0 (pc' := 1) dX9_found_0 rfl ?_
  refine g_ild1 (pc' := 2) dX9_found_1 rfl ?_
  refine g_callV (pc' := 5) (c_misWorld l mg hm hM (nI w)) mg.s40 (by decide) wX9_isWorld lX9_186 rfl rfl (Nat.le_of_ble_eq_true rfl) ⟨Nat.le_of_ble_eq_true rfl, Nat.le_of_ble_eq_true rfl⟩ ⟨Nat.le_of_ble_eq_true rfl, Nat.le_of_ble_eq_true rfl⟩ dX9_found_2 rfl (kIp ?_)
  refine g_ifeqB (pc' := 8) (tgt := 18) dX9_found_5 (by decide) rfl (fun h5 => (by first | exact absurd h5 (by rw [inb_nI (by omega) (by omega)]; simp [hwm]) | exact absurd (by rw [inb_nI (by omega) (by omega)]; simp [hwm]) h5)) (fun h5 => ?_)
  refine g_ild2 (pc' := 9) dX9_found_8 rfl ?_
  refine g_i2l (pc' := 10) dX9_found_9 rfl ?_
  refine g_lconst (pc' := 11) (v := 0) dX9_found_10 rfl (by decide) ?_
  refine g_lconst (pc' := 12) (v := 1) dX9_found_11 rfl (by decide) ?_
  refine g_callS (pc' := 15) (c_mWI l (nI q) (nI 0) (nI 1) (A := 0) (B := 1) (by decide) (by decide)) wX9_within lX9_102 rfl rfl (Nat.le_of_ble_eq_true rfl) ⟨Nat.le_of_ble_eq_true rfl, Nat.le_of_ble_eq_true rfl⟩ ⟨Nat.le_of_ble_eq_true rfl, Nat.le_of_ble_eq_true rfl⟩ dX9_found_12 rfl (kIp ?_)
  refine g_ifneB (pc' := 18) (tgt := 20) dX9_found_15 (by decide) rfl (fun h15 => ?_) (fun h15 => (by first | exact absurd h15 (wi_yesN (by omega) (by decide)) | exact absurd (wi_yesN (by omega) (by decide)) h15))
  refine g_ald0 (pc' := 21) dX9_found_20 rfl ?_
  refine g_ild1 (pc' := 22) dX9_found_21 rfl ?_
  refine g_callV (pc' := 25) (c_mAll l mg hn hN (by omega) hf) mg.s40 (by decide) wX9_allCounts lX9_204 rfl rfl (Nat.le_of_ble_eq_true rfl) ⟨Nat.le_of_ble_eq_true rfl, Nat.le_of_ble_eq_true rfl⟩ ⟨Nat.le_of_ble_eq_true rfl, Nat.le_of_ble_eq_true rfl⟩ dX9_found_22 rfl (kIp ?_)
  refine g_i2l (pc' := 26) dX9_found_25 rfl ?_
  refine g_lst3 (pc' := 27) rfl (by decide) dX9_found_26 rfl ?_
  refine g_lconst (pc' := 28) (v := 0) dX9_found_27 rfl (by decide) ?_
  refine g_lst5 (pc' := 30) rfl (by decide) dX9_found_28 rfl ?_
  refine g_iconst (pc' := 31) (v := nI 0) dX9_found_30 rfl (by decide) ?_
  refine g_ist7 (pc' := 33) rfl (by decide) dX9_found_31 rfl ?_
  refine G.lsub [some (.inr (.inr (some (40, 0)))), some (.inl (nI w)), some (.inl (nI q)), some (.inr (.inl ((sumN f n).toInt64))), none, some (.inr (.inl (0))), none, some (.inl (nI 0)), none, none, none] (by intro j v; rcases j with _ | _ | _ | _ | _ | _ | _ | _ | _ | _ | _ | j <;> simp) ?_
  have e00 : (0 : Int64) = (sumN wo 0).toInt64 := rfl
  rw [e00]
  refine g_loop (σ := Unit) (fun _ _ => True) (fun i _ => [some (.inr (.inr (some (40, 0)))), some (.inl (nI w)), some (.inl (nI q)), some (.inr (.inl ((sumN f n).toInt64))), none, some (.inr (.inl ((sumN wo i).toInt64))), none, some (.inl (nI i)), none, none, none]) (fun _ _ => I) n 0 () (by omega) trivial ?_ ?_
  · intro i _ hi hP ih
    refine g_ild7 (pc' := 35) dX9_found_33 rfl ?_
    refine g_ald0 (pc' := 36) dX9_found_35 rfl ?_
    refine g_getI (pc' := 39) mg.s40 (by decide) fX9_99 hn dX9_found_36 rfl ?_
    refine g_icmpgeN (pc' := 42) (by omega) (by omega) (tgt := 61) dX9_found_39 (by decide) rfl (fun h39 => ?_) (fun h39 => ?_)
    · exact absurd h39 (by omega)
    · refine g_lld5 (pc' := 44) dX9_found_42 rfl ?_
      refine g_ald0 (pc' := 45) dX9_found_44 rfl ?_
      refine g_getR (pc' := 48) mg.s40 (by decide) fX9_9 mg.r40_0 dX9_found_45 rfl ?_
      refine g_ild7 (pc' := 50) dX9_found_48 rfl ?_
      refine g_iald (pc' := 51) (j := i) mg.s50 rfl (by omega) (by decide) (v := wo i) (hwo i hi) dX9_found_50 rfl ?_
      refine g_i2l (pc' := 52) dX9_found_51 rfl ?_
      refine g_ladd (pc' := 53) dX9_found_52 rfl ?_
      refine g_lst5 (pc' := 55) rfl (by decide) dX9_found_53 rfl ?_
      refine g_inc7 (pc' := 58) rfl (by decide) (v := nI (i + 1)) (nI_1 _) dX9_found_55 rfl ?_
      refine g_goto (tgt := 33) dX9_found_58 (by decide) ?_
      rw [sum_l hN hbw hi]
      exact ih () trivial
  · intro _ hP
    refine g_ild7 (pc' := 35) dX9_found_33 rfl ?_
    refine g_ald0 (pc' := 36) dX9_found_35 rfl ?_
    refine g_getI (pc' := 39) mg.s40 (by decide) fX9_99 hn dX9_found_36 rfl ?_
    refine g_icmpgeN (pc' := 42) (by omega) (by omega) (tgt := 61) dX9_found_39 (by decide) rfl (fun h39 => ?_) (fun h39 => ?_)
    · refine g_lld3 (pc' := 62) dX9_found_61 rfl ?_
      refine g_lconst (pc' := 63) (v := 0) dX9_found_62 rfl (by decide) ?_
      refine g_lcmp (pc' := 64) dX9_found_63 rfl ?_
      refine g_ifeq (pc' := 67) (tgt := 74) dX9_found_64 (by decide) rfl (fun h64 => (by first | exact absurd h64 (fun q => hcz (lg_z.mp q)) | exact absurd (fun q => hcz (lg_z.mp q)) h64)) (fun h64 => ?_)
      refine g_lld5 (pc' := 69) dX9_found_67 rfl ?_
      refine g_lconst (pc' := 70) (v := 0) dX9_found_69 rfl (by decide) ?_
      refine g_lcmp (pc' := 71) dX9_found_70 rfl ?_
      refine g_ifne (pc' := 74) (tgt := 77) dX9_found_71 (by decide) rfl (fun h71 => ?_) (fun h71 => (by first | exact absurd h71 (fun q => hwz (lg_z.mp q)) | exact absurd (fun q => hwz (lg_z.mp q)) h71))
      refine g_iconst (pc' := 78) (v := nI 0) dX9_found_77 rfl (by decide) ?_
      refine g_ist7 (pc' := 80) rfl (by decide) dX9_found_78 rfl ?_
      refine g_iconst (pc' := 81) (v := nI 0) dX9_found_80 rfl (by decide) ?_
      refine g_ist8 (pc' := 83) rfl (by decide) dX9_found_81 rfl ?_
      refine g_iconst (pc' := 84) (v := nI 0) dX9_found_83 rfl (by decide) ?_
      refine g_ist9 (pc' := 86) rfl (by decide) dX9_found_84 rfl ?_
      have e0 : nI 0 = nI (fdN (fdAm f wo n) 0).1 := by rw [fdN_0]
      refine g_loop (σ := Unit) (fun _ _ => True) (fun i _ => [some (.inr (.inr (some (40, 0)))), some (.inl (nI w)), some (.inl (nI q)), some (.inr (.inl ((sumN f n).toInt64))), none, some (.inr (.inl ((sumN wo n).toInt64))), none, some (.inl (nI (fdN (fdAm f wo n) i).1)), some (.inl ((fdN (fdAm f wo n) i).2)), some (.inl (nI i)), none]) (fun _ _ => I) n 0 () (by omega) trivial ?_ ?_
      · intro i _ hi hP ih
        refine g_ild9 (pc' := 88) dX9_found_86 rfl ?_
        refine g_ald0 (pc' := 89) dX9_found_88 rfl ?_
        refine g_getI (pc' := 92) mg.s40 (by decide) fX9_99 hn dX9_found_89 rfl ?_
        refine g_icmpgeN (pc' := 95) (by omega) (by omega) (tgt := 145) dX9_found_92 (by decide) rfl (fun h92 => ?_) (fun h92 => ?_)
        · exact absurd h92 (by omega)
        · refine g_ald0 (pc' := 96) dX9_found_95 rfl ?_
          refine g_ild1 (pc' := 97) dX9_found_96 rfl ?_
          refine g_ild9 (pc' := 99) dX9_found_97 rfl ?_
          refine g_callV (pc' := 102) (c_mCount l mg (by omega) (by omega) (hf i hi)) mg.s40 (by decide) wX9_countOf lX9_191 rfl rfl (Nat.le_of_ble_eq_true rfl) ⟨Nat.le_of_ble_eq_true rfl, Nat.le_of_ble_eq_true rfl⟩ ⟨Nat.le_of_ble_eq_true rfl, Nat.le_of_ble_eq_true rfl⟩ dX9_found_99 rfl (kIp ?_)
          refine g_lld3 (pc' := 103) dX9_found_102 rfl ?_
          refine g_ald0 (pc' := 104) dX9_found_103 rfl ?_
          refine g_getR (pc' := 107) mg.s40 (by decide) fX9_9 mg.r40_0 dX9_found_104 rfl ?_
          refine g_ild9 (pc' := 109) dX9_found_107 rfl ?_
          refine g_iald (pc' := 110) (j := i) mg.s50 rfl (by omega) (by decide) (v := wo i) (hwo i hi) dX9_found_109 rfl ?_
          refine g_i2l (pc' := 111) dX9_found_110 rfl ?_
          refine g_lmul (pc' := 112) dX9_found_111 rfl ?_
          refine g_lld5 (pc' := 114) dX9_found_112 rfl ?_
          refine g_ldiv (pc' := 115) dX9_found_114 rfl (ne64 hwz) ?_
          refine g_l2i (pc' := 116) dX9_found_115 rfl ?_
          refine g_isub (pc' := 117) dX9_found_116 rfl ?_
          refine g_topi (v := (fdAm f wo n i)) (fdAm_eq) ?_
          refine g_ist10 (pc' := 119) rfl (by decide) dX9_found_117 rfl ?_
          refine g_ild9 (pc' := 121) dX9_found_119 rfl ?_
          refine g_ifeqN (pc' := 124) (by omega) (tgt := 131) dX9_found_121 (by decide) rfl (fun h121 => ?_) (fun h121 => ?_)
          · refine g_ild9 (pc' := 133) dX9_found_131 rfl ?_
            refine g_ist7 (pc' := 135) rfl (by decide) dX9_found_133 rfl ?_
            refine g_ild10 (pc' := 137) dX9_found_135 rfl ?_
            refine g_ist8 (pc' := 139) rfl (by decide) dX9_found_137 rfl ?_
            refine g_inc9 (pc' := 142) rfl (by decide) (v := nI (i + 1)) (nI_1 _) dX9_found_139 rfl ?_
            refine g_goto (tgt := 86) dX9_found_142 (by decide) ?_
            have e : fdN (fdAm f wo n) (i + 1) = (i, fdAm f wo n i) := fdN_p (by first | exact Or.inl (by omega) | exact Or.inr (by assumption))
            refine G.lsub [some (.inr (.inr (some (40, 0)))), some (.inl (nI w)), some (.inl (nI q)), some (.inr (.inl ((sumN f n).toInt64))), none, some (.inr (.inl ((sumN wo n).toInt64))), none, some (.inl (nI i)), some (.inl (fdAm f wo n i)), some (.inl (nI (i + 1))), none] (by intro j v; rcases j with _ | _ | _ | _ | _ | _ | _ | _ | _ | _ | _ | j <;> simp) ?_
            have hih := ih () trivial
            rw [e] at hih
            exact hih
          · refine g_ild10 (pc' := 126) dX9_found_124 rfl ?_
            refine g_ild8 (pc' := 128) dX9_found_126 rfl ?_
            refine g_icmple (pc' := 131) (tgt := 139) dX9_found_128 (by decide) rfl (fun h128 => ?_) (fun h128 => ?_)
            · refine g_inc9 (pc' := 142) rfl (by decide) (v := nI (i + 1)) (nI_1 _) dX9_found_139 rfl ?_
              refine g_goto (tgt := 86) dX9_found_142 (by decide) ?_
              have e : fdN (fdAm f wo n) (i + 1) = fdN (fdAm f wo n) i := fdN_n (by omega) (by assumption)
              refine G.lsub [some (.inr (.inr (some (40, 0)))), some (.inl (nI w)), some (.inl (nI q)), some (.inr (.inl ((sumN f n).toInt64))), none, some (.inr (.inl ((sumN wo n).toInt64))), none, some (.inl (nI (fdN (fdAm f wo n) i).1)), some (.inl ((fdN (fdAm f wo n) i).2)), some (.inl (nI (i + 1))), none] (by intro j v; rcases j with _ | _ | _ | _ | _ | _ | _ | _ | _ | _ | _ | j <;> simp) ?_
              have hih := ih () trivial
              rw [e] at hih
              exact hih
            · refine g_ild9 (pc' := 133) dX9_found_131 rfl ?_
              refine g_ist7 (pc' := 135) rfl (by decide) dX9_found_133 rfl ?_
              refine g_ild10 (pc' := 137) dX9_found_135 rfl ?_
              refine g_ist8 (pc' := 139) rfl (by decide) dX9_found_137 rfl ?_
              refine g_inc9 (pc' := 142) rfl (by decide) (v := nI (i + 1)) (nI_1 _) dX9_found_139 rfl ?_
              refine g_goto (tgt := 86) dX9_found_142 (by decide) ?_
              have e : fdN (fdAm f wo n) (i + 1) = (i, fdAm f wo n i) := fdN_p (by first | exact Or.inl (by omega) | exact Or.inr (by assumption))
              refine G.lsub [some (.inr (.inr (some (40, 0)))), some (.inl (nI w)), some (.inl (nI q)), some (.inr (.inl ((sumN f n).toInt64))), none, some (.inr (.inl ((sumN wo n).toInt64))), none, some (.inl (nI i)), some (.inl (fdAm f wo n i)), some (.inl (nI (i + 1))), none] (by intro j v; rcases j with _ | _ | _ | _ | _ | _ | _ | _ | _ | _ | _ | j <;> simp) ?_
              have hih := ih () trivial
              rw [e] at hih
              exact hih
      · intro _ hP
        refine g_ild9 (pc' := 88) dX9_found_86 rfl ?_
        refine g_ald0 (pc' := 89) dX9_found_88 rfl ?_
        refine g_getI (pc' := 92) mg.s40 (by decide) fX9_99 hn dX9_found_89 rfl ?_
        refine g_icmpgeN (pc' := 95) (by omega) (by omega) (tgt := 145) dX9_found_92 (by decide) rfl (fun h92 => ?_) (fun h92 => ?_)
        · refine g_ild2 (pc' := 146) dX9_found_145 rfl ?_
          refine g_ifneN (pc' := 149) (by omega) (tgt := 154) dX9_found_146 (by decide) rfl (fun h146 => ?_) (fun h146 => ?_)
          · refine g_ild8 (pc' := 156) dX9_found_154 rfl ?_
            refine g_iret rfl dX9_found_156 ?_
            exact eIp (by unfold fdVm; first | rw [if_pos (by omega)] | rw [if_neg (by omega)])
          · refine g_ild7 (pc' := 151) dX9_found_149 rfl ?_
            refine g_goto (tgt := 156) dX9_found_151 (by decide) ?_
            refine g_iret rfl dX9_found_156 ?_
            exact eIp (by unfold fdVm; first | rw [if_pos (by omega)] | rw [if_neg (by omega)])
        · exact absurd h92 (by omega)
    · exact absurd h39 (by omega)
