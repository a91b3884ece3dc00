/-! the model: coming -/
def oKi (B : Nat → Nat) (len : Nat) (I : MI) (w n : Nat) : Option Nat := pk (wtMi B len I w n) n 0 (if 0 < sumF (I (50, 0) (12 + w)) (wtMi B len I w n) n then ush (drawnI (I (72, 0) w)) (nI 8) - ush (drawnI (I (72, 0) w)) (nI 8) / sumF (I (50, 0) (12 + w)) (wtMi B len I w n) n * sumF (I (50, 0) (12 + w)) (wtMi B len I w n) n else nI 0)
def rvO (I : MI) (w ke : Nat) : Option Nat → MI
  | none => rvN I w
  | some s => rvS I w ke s
def oneMi (B : Nat → Nat) (len : Nat) (I : MI) (w n ke : Nat) : MI := rvO (upM I (72, 0) w (drawnI (I (72, 0) w))) w ke (oKi B len I w n)
theorem oKi_fr {B : Nat → Nat} {len w n : Nat} {I J : MI} (h : Fr fwP I J) : oKi B len J w n = oKi B len I w n := by
  unfold oKi
  rw [show wtMi B len J w n = wtMi B len I w n from funext fun s => wtMi_fr h, h (50, 0) (12 + w) (by simp [fwP, wgP, woP]), h (72, 0) w (by simp [fwP, wgP, woP])]
theorem rvNm_fr {w : Nat} {I J : MI} (h : Fr fwP I J) : Fr fwP (rvN I w) (rvN J w) := by
  unfold rvN
  rw [h (73, 0) w (by simp [fwP, wgP, woP])]
  exact upM_fr h
theorem kpM_fr {w ke s : Nat} {x : Int32} {I J : MI} (h : Fr fwP I J) : Fr fwP (kpM I w ke s x) (kpM J w ke s x) := by
  unfold kpM
  refine upM_fr (upM_fr ?_)
  split
  · exact upM_fr h
  · exact h
theorem rvSm_fr {w ke s : Nat} {I J : MI} (h : Fr fwP I J) : Fr fwP (rvS I w ke s) (rvS J w ke s) := by
  unfold rvS
  rw [h (50, 0) (23 + 12 * w + s) (by simp [fwP, wgP, woP])]
  exact kpM_fr (rvNm_fr h)
theorem rvO_fr {w ke : Nat} {r : Option Nat} {I J : MI} (h : Fr fwP I J) : Fr fwP (rvO I w ke r) (rvO J w ke r) := by
  cases r with
  | none => exact rvNm_fr h
  | some s => exact rvSm_fr h
theorem oneMi_fr {B : Nat → Nat} {len w n ke : Nat} {I J : MI} (h : Fr fwP I J) : Fr fwP (oneMi B len I w n ke) (oneMi B len J w n ke) := by
  unfold oneMi
  rw [oKi_fr h, h (72, 0) w (by simp [fwP, wgP, woP])]
  exact rvO_fr (upM_fr h)
def owP (w : Nat) (t : Tok) (i : Nat) : Prop := mwP w t i ∨ (t = (72, 0) ∧ i = w)
theorem oKi_lt {B : Nat → Nat} {len w n s : Nat} {I : MI} (h : oKi B len I w n = some s) : s < n := by
  have := pkN_lt _ _ _ _ _ h
  omega
theorem oneMi_w {B : Nat → Nat} {len w n ke : Nat} (hN : n ≤ 12) {I : MI} (hke : I (74, 0) w = nI ke) (hbd : bdW I w n) : Fr (owP w) I (oneMi B len I w n ke) ∧ oneMi B len I w n ke (74, 0) w = nI (ke + if (oKi B len I w n).isSome then 1 else 0) ∧ bdW (oneMi B len I w n ke) w n := by
  have h0 : Fr (owP w) I (upM I (72, 0) w (drawnI (I (72, 0) w))) := Fr.rf.up (by simp [owP])
  have hb0 : bdW (upM I (72, 0) w (drawnI (I (72, 0) w))) w n := fun o ho => by
    obtain ⟨q, hq, e⟩ := hbd o ho
    exact ⟨q, hq, by rw [upM_n _ (by simp)]; exact e⟩
  unfold oneMi
  cases h : oKi B len I w n with
  | none =>
    refine ⟨h0.tr (rvN_w.le (fun t i q => Or.inl q)), ?_, rvN_bd hb0⟩
    show rvN _ w (74, 0) w = _
    rw [rvN_74, upM_n _ (by simp), hke]
    rfl
  | some s =>
    have hs := oKi_lt h
    refine ⟨h0.tr ((rvS_w (by omega)).le (fun t i q => Or.inl q)), ?_, rvS_bd hb0 hs⟩
    show rvS _ w ke s (74, 0) w = _
    rw [rvS_74]
    rfl
theorem sumF_nn {f : Nat → Int32} (hf : ∀ s, ∃ q, q ≤ 9999 ∧ f s = nI q) {no : Nat} (h9 : no ≤ 9999) : ∀ n, ∃ Q, sumF (nI no) f n = nI Q ∧ Q ≤ 9999 * (n + 1) ∧ (Q = 0 → ∀ s, s < n → f s = nI 0)
  | 0 => ⟨no, rfl, by omega, fun _ s hs => absurd hs (by omega)⟩
  | n + 1 => by
    obtain ⟨Q, e, h, hz⟩ := sumF_nn hf h9 n
    obtain ⟨q, hq, e2⟩ := hf n
    refine ⟨Q + q, ?_, by omega, fun h0 s hs => ?_⟩
    · show sumF (nI no) f n + f n = _
      rw [e, e2, nI_add]
    · by_cases h2 : s = n
      · subst h2
        rw [e2, show q = 0 by omega]
      · exact hz (by omega) s (by omega)
theorem pk_zero {w : Nat → Int32} : ∀ {m s n : Nat}, s + m ≤ n → (∀ s, s < n → w s = nI 0) → pk w m s (nI 0) = none
  | 0, _, _, _, _ => rfl
  | m + 1, s, n, h, hz => by
    unfold pk
    rw [hz s (by omega), if_neg (by decide)]
    exact pk_zero (n := n) (by omega) hz
def manyMi (B : Nat → Nat) (len w n : Nat) : Nat → MI → Nat → MI × Nat
  | 0, I, ke => (I, ke)
  | m + 1, I, ke => (oneMi B len (manyMi B len w n m I ke).1 w n (manyMi B len w n m I ke).2, (manyMi B len w n m I ke).2 + if (oKi B len (manyMi B len w n m I ke).1 w n).isSome then 1 else 0)
theorem manyMi_w {B : Nat → Nat} {len w n ke : Nat} (hN : n ≤ 12) {I : MI} (hke : I (74, 0) w = nI ke) (hbd : bdW I w n) : ∀ m, Fr (owP w) I (manyMi B len w n m I ke).1 ∧ (manyMi B len w n m I ke).1 (74, 0) w = nI (manyMi B len w n m I ke).2 ∧ bdW (manyMi B len w n m I ke).1 w n ∧ ke ≤ (manyMi B len w n m I ke).2 ∧ (manyMi B len w n m I ke).2 ≤ ke + m
  | 0 => ⟨Fr.rf, hke, hbd, Nat.le_refl _, Nat.le_refl _⟩
  | m + 1 => by
    obtain ⟨h1, h2, h3, h4, h5⟩ := manyMi_w (B := B) (len := len) hN hke hbd m
    obtain ⟨g1, g2, g3⟩ := oneMi_w (B := B) (len := len) hN h2 h3
    refine ⟨h1.tr g1, g2, g3, ?_, ?_⟩
    · show _ ≤ _ + _
      omega
    · show _ + _ ≤ _
      split <;> omega
theorem c_mComes1 (l : Launch) {S : Shp} {I : MI} {L : ML} {R : MR} (mg : MG S R) {n : Nat} (hn : I (40, 0) 6 = nI n) (hN : n ≤ 12) {w : Nat} (hw : w < 11) {B : Nat → Nat} {len lj : Nat} (tl : TL B len lj I) (hlw : I (69, 0) w = nI lj) {no : Nat} (hno : I (50, 0) (12 + w) = nI no) (hno9 : no ≤ 9999) {ke : Nat} (hke : I (74, 0) w = nI ke) (hk : ke + 1 < 2 ^ 30) (hbd : bdW I w n) : Ct l mX9_comesOne 50 0 0 [.inr (.inr (some (40, 0))), .inl (nI w)] S I L R (PIm S L R (fun v J => v = bI (oKi B len I w n).isSome ∧ Fr fwP (oneMi B len I w n ke) J)) := by
  refine Ct.of [some (.inr (.inr (some (40, 0)))), some (.inl (nI w)), none, none, none] (by decide) rfl (Nat.le_of_ble_eq_true rfl) ?_
  refine g_ald0 (pc' := 1) dX9_comesOne_0 rfl ?_
  refine g_ild1 (pc' := 2) dX9_comesOne_1 rfl ?_
  refine g_callV (pc' := 5) (c_mFindW l mg hn hN hw tl hlw) mg.s40 (by decide) wX9_findWeights lX9_223 rfl rfl (Nat.le_of_ble_eq_true rfl) ⟨Nat.le_of_ble_eq_true rfl, Nat.le_of_ble_eq_true rfl⟩ ⟨Nat.le_of_ble_eq_true rfl, Nat.le_of_ble_eq_true rfl⟩ dX9_comesOne_2 rfl (kI (fun v J hq => ?_))
  have hnJ : J (40, 0) 6 = nI n := (hq.2.1 _ _ (by simp [fwP, wgP, woP])).trans hn
  obtain ⟨Q, hQ, hQb, hQz⟩ := sumF_nn (wtMi_bd B len I w n) hno9 n
  have hvQ : v = nI Q := by rw [hq.1, hno, hQ]
  refine g_ist2 (pc' := 6) rfl (by decide) dX9_comesOne_5 rfl ?_
  refine g_ald0 (pc' := 7) dX9_comesOne_6 rfl ?_
  refine g_getR (pc' := 10) mg.s40 (by decide) fX9_43 mg.r40_22 dX9_comesOne_7 rfl ?_
  refine g_ild1 (pc' := 11) dX9_comesOne_10 rfl ?_
  refine g_ald0 (pc' := 12) dX9_comesOne_11 rfl ?_
  refine g_getR (pc' := 15) mg.s40 (by decide) fX9_43 mg.r40_22 dX9_comesOne_12 rfl ?_
  refine g_ild1 (pc' := 16) dX9_comesOne_15 rfl ?_
  refine g_iald (pc' := 17) (j := w) mg.s72 rfl (by omega) (by decide) (hq.2.1 _ _ (by simp [fwP, wgP, woP])) dX9_comesOne_16 rfl ?_
  refine g_ldc (pc' := 19) dX9_comesOne_17 rfl kX9_226 ?_
  refine g_imul (pc' := 20) dX9_comesOne_19 rfl ?_
  refine g_sipush (pc' := 23) (v := nI 12345) dX9_comesOne_20 rfl (by decide) ?_
  refine g_iadd (pc' := 24) dX9_comesOne_23 rfl ?_
  refine g_topi (v := drawnI (I (72, 0) w)) (rfl) ?_
  refine g_iast (pc' := 25) (j := w) mg.s72 rfl (by omega) (by decide) dX9_comesOne_24 rfl ?_
  refine g_ild2 (pc' := 26) dX9_comesOne_25 rfl ?_
  refine g_ifne (pc' := 29) (tgt := 33) dX9_comesOne_26 (by decide) rfl (fun h26 => ?_) (fun h26 => ?_)
  · refine g_ald0 (pc' := 34) dX9_comesOne_33 rfl ?_
    refine g_getR (pc' := 37) mg.s40 (by decide) fX9_43 mg.r40_22 dX9_comesOne_34 rfl ?_
    refine g_ild1 (pc' := 38) dX9_comesOne_37 rfl ?_
    refine g_iald (pc' := 39) (j := w) mg.s72 rfl (by omega) (by decide) (v := drawnI (I (72, 0) w)) (by simp [upM]) dX9_comesOne_38 rfl ?_
    refine g_bipush (pc' := 41) (v := nI 8) dX9_comesOne_39 rfl (by decide) ?_
    refine g_iushr (pc' := 42) dX9_comesOne_41 rfl ?_
    refine g_topi (v := ush (drawnI (I (72, 0) w)) (nI 8)) (rfl) ?_
    refine g_ild2 (pc' := 43) dX9_comesOne_42 rfl ?_
    refine g_irem (pc' := 44) dX9_comesOne_43 rfl h26 ?_
    refine g_ist3 (pc' := 45) rfl (by decide) dX9_comesOne_44 rfl ?_
    refine g_ald0 (pc' := 46) dX9_comesOne_45 rfl ?_
    refine g_getR (pc' := 49) mg.s40 (by decide) fX9_46 mg.r40_23 dX9_comesOne_46 rfl ?_
    refine g_ild1 (pc' := 50) dX9_comesOne_49 rfl ?_
    refine g_dup2 (pc' := 51) dX9_comesOne_50 rfl ?_
    refine g_iald (pc' := 52) (j := w) mg.s73 rfl (by omega) (by decide) (v := J (73, 0) w) (by simp [upM]) dX9_comesOne_51 rfl ?_
    refine g_iconst (pc' := 53) (v := nI 1) dX9_comesOne_52 rfl (by decide) ?_
    refine g_iadd (pc' := 54) dX9_comesOne_53 rfl ?_
    refine g_iast (pc' := 55) (j := w) mg.s73 rfl (by omega) (by decide) dX9_comesOne_54 rfl ?_
    refine g_iconst (pc' := 56) (v := nI 0) dX9_comesOne_55 rfl (by decide) ?_
    refine g_ist4 (pc' := 58) rfl (by decide) dX9_comesOne_56 rfl ?_
    refine g_mem (I' := rvN (upM J (72, 0) w (drawnI (I (72, 0) w))) w) (by unfold rvN; rw [upM_n _ (by simp)]) ?_
    refine g_name (fun J2 hJ2 => ?_)
    have hfJ2 : Fr fwP (rvN (upM I (72, 0) w (drawnI (I (72, 0) w))) w) J2 := by
      rw [hJ2]
      exact rvNm_fr (upM_fr hq.2.1)
    have hn2 : J2 (40, 0) 6 = nI n := by
      rw [hJ2]; unfold rvN
      rw [upM_n _ (by simp), upM_n _ (by simp)]; exact hnJ
    have hw2 : ∀ s, s < n → J2 (76, 0) s = wtMi B len I w n s := fun s hs => by
      rw [hJ2]; unfold rvN
      rw [upM_n _ (by simp), upM_n _ (by simp)]; exact hq.2.2 s hs
    have hke2 : J2 (74, 0) w = nI ke := by
      rw [hJ2, rvN_74, upM_n _ (by simp)]
      exact (hq.2.1 _ _ (by simp [fwP, wgP, woP])).trans hke
    have hc2 : ∀ s, J2 (50, 0) (23 + 12 * w + s) = I (50, 0) (23 + 12 * w + s) := fun s => by
      rw [hJ2]; unfold rvN
      rw [upM_n _ (by simp), upM_n _ (by simp)]
      exact hq.2.1 _ _ (by simp [fwP, wgP, woP])
    have hQ1 : 1 ≤ Q := by
      rcases Nat.eq_zero_or_pos Q with h | h
      · exact absurd (hvQ.trans (by rw [h]; rfl)) h26
      · exact h
    have hpos : (0 : Int32) < v := by rw [hvQ]; exact (nI_ltI (a := 0) (by omega) (by omega)).mpr hQ1
    have hoK : oKi B len I w n = pk (wtMi B len I w n) n 0 ((ush (drawnI (I (72, 0) w)) (nI 8)) - (ush (drawnI (I (72, 0) w)) (nI 8)) / v * v) := by
      unfold oKi
      rw [← hq.1, if_pos hpos]
    refine g_loop (σ := Int32) (fun s left => oKi B len I w n = pk (wtMi B len I w n) (n - s) s left) (fun s left => [some (.inr (.inr (some (40, 0)))), some (.inl (nI w)), some (.inl v), some (.inl left), some (.inl (nI s))]) (fun s left => J2) n 0 ((ush (drawnI (I (72, 0) w)) (nI 8)) - (ush (drawnI (I (72, 0) w)) (nI 8)) / v * v) (by omega) hoK ?_ ?_
    · intro s left hi hP ih
      refine g_ild4 (pc' := 60) dX9_comesOne_58 rfl ?_
      refine g_ald0 (pc' := 61) dX9_comesOne_60 rfl ?_
      refine g_getI (pc' := 64) mg.s40 (by decide) fX9_99 hn2 dX9_comesOne_61 rfl ?_
      refine g_icmpgeN (pc' := 67) (by omega) (by omega) (tgt := 107) dX9_comesOne_64 (by decide) rfl (fun h64 => ?_) (fun h64 => ?_)
      · exact absurd h64 (by omega)
      · refine g_ild2 (pc' := 68) dX9_comesOne_67 rfl ?_
        refine g_ifle (pc' := 71) (tgt := 107) dX9_comesOne_68 (by decide) rfl (fun h68 => (by first | exact absurd h68 (Int32.not_le.mpr hpos) | exact absurd (Int32.not_le.mpr hpos) h68)) (fun h68 => ?_)
        refine g_ild3 (pc' := 72) dX9_comesOne_71 rfl ?_
        refine g_ald0 (pc' := 73) dX9_comesOne_72 rfl ?_
        refine g_getR (pc' := 76) mg.s40 (by decide) fX9_55 mg.r40_26 dX9_comesOne_73 rfl ?_
        refine g_ild4 (pc' := 78) dX9_comesOne_76 rfl ?_
        refine g_iald (pc' := 79) (j := s) mg.s76 rfl (by omega) (by decide) (v := wtMi B len I w n s) (hw2 s hi) dX9_comesOne_78 rfl ?_
        refine g_icmpge (pc' := 82) (tgt := 91) dX9_comesOne_79 (by decide) rfl (fun h79 => ?_) (fun h79 => ?_)
        · refine g_ild3 (pc' := 92) dX9_comesOne_91 rfl ?_
          refine g_ald0 (pc' := 93) dX9_comesOne_92 rfl ?_
          refine g_getR (pc' := 96) mg.s40 (by decide) fX9_55 mg.r40_26 dX9_comesOne_93 rfl ?_
          refine g_ild4 (pc' := 98) dX9_comesOne_96 rfl ?_
          refine g_iald (pc' := 99) (j := s) mg.s76 rfl (by omega) (by decide) (v := wtMi B len I w n s) (hw2 s hi) dX9_comesOne_98 rfl ?_
          refine g_isub (pc' := 100) dX9_comesOne_99 rfl ?_
          refine g_ist3 (pc' := 101) rfl (by decide) dX9_comesOne_100 rfl ?_
          refine g_inc4 (pc' := 104) rfl (by decide) (v := nI (s + 1)) (nI_1 _) dX9_comesOne_101 rfl ?_
          refine g_goto (tgt := 58) dX9_comesOne_104 (by decide) ?_
          exact ih (left - wtMi B len I w n s) (by rw [hP, show n - s = (n - (s + 1)) + 1 by omega, pk, if_neg (Int32.not_lt.mpr h79)])
        · obtain ⟨qx, hqx, hxq⟩ := hbd s hi
          have hsm : oKi B len I w n = some s := by rw [hP, show n - s = (n - (s + 1)) + 1 by omega, pk, if_pos (Int32.not_le.mp h79)]
          refine g_ald0 (pc' := 83) dX9_comesOne_82 rfl ?_
          refine g_ild1 (pc' := 84) dX9_comesOne_83 rfl ?_
          refine g_ild4 (pc' := 86) dX9_comesOne_84 rfl ?_
          refine g_callV (pc' := 89) (c_mKeeps l mg hw (s := s) (by omega) hke2 (by omega) (x := J2 (50, 0) (23 + 12 * w + s)) (q := qx) rfl hqx ((hc2 s).trans hxq)) mg.s40 (by decide) wX9_keeps lX9_227 rfl rfl (Nat.le_of_ble_eq_true rfl) ⟨Nat.le_of_ble_eq_true rfl, Nat.le_of_ble_eq_true rfl⟩ ⟨Nat.le_of_ble_eq_true rfl, Nat.le_of_ble_eq_true rfl⟩ dX9_comesOne_86 rfl (kV (fun J3 hJ3 => ?_))
          refine g_iconst (pc' := 90) (v := nI 1) dX9_comesOne_89 rfl (by decide) ?_
          refine g_zret (ty := .boolean) rfl (by decide) dX9_comesOne_90 ?_
          refine eI ⟨?_, ?_⟩
          · rw [hsm]; rfl
          · rw [hJ3]
            unfold oneMi
            rw [hsm]
            show Fr fwP (rvS _ w ke s) _
            unfold rvS
            rw [show upM I (72, 0) w (drawnI (I (72, 0) w)) (50, 0) (23 + 12 * w + s) = J2 (50, 0) (23 + 12 * w + s) from by rw [upM_n _ (by simp), hc2 s]]
            exact kpM_fr hfJ2
    · intro left hP
      refine g_ild4 (pc' := 60) dX9_comesOne_58 rfl ?_
      refine g_ald0 (pc' := 61) dX9_comesOne_60 rfl ?_
      refine g_getI (pc' := 64) mg.s40 (by decide) fX9_99 hn2 dX9_comesOne_61 rfl ?_
      refine g_icmpgeN (pc' := 67) (by omega) (by omega) (tgt := 107) dX9_comesOne_64 (by decide) rfl (fun h64 => ?_) (fun h64 => ?_)
      · refine g_iconst (pc' := 108) (v := nI 0) dX9_comesOne_107 rfl (by decide) ?_
        refine g_zret (ty := .boolean) rfl (by decide) dX9_comesOne_108 ?_
        have hnone : oKi B len I w n = none := hP.trans (by rw [Nat.sub_self]; rfl)
        refine eI ⟨?_, ?_⟩
        · rw [hnone]; rfl
        · unfold oneMi; rw [hnone]; exact hfJ2
      · exact absurd h64 (by omega)
  · refine g_iconst (pc' := 30) (v := nI 0) dX9_comesOne_29 rfl (by decide) ?_
    refine g_goto (tgt := 44) dX9_comesOne_30 (by decide) ?_
    refine g_ist3 (pc' := 45) rfl (by decide) dX9_comesOne_44 rfl ?_
    refine g_ald0 (pc' := 46) dX9_comesOne_45 rfl ?_
    refine g_getR (pc' := 49) mg.s40 (by decide) fX9_46 mg.r40_23 dX9_comesOne_46 rfl ?_
    refine g_ild1 (pc' := 50) dX9_comesOne_49 rfl ?_
    refine g_dup2 (pc' := 51) dX9_comesOne_50 rfl ?_
    refine g_iald (pc' := 52) (j := w) mg.s73 rfl (by omega) (by decide) (v := J (73, 0) w) (by simp [upM]) dX9_comesOne_51 rfl ?_
    refine g_iconst (pc' := 53) (v := nI 1) dX9_comesOne_52 rfl (by decide) ?_
    refine g_iadd (pc' := 54) dX9_comesOne_53 rfl ?_
    refine g_iast (pc' := 55) (j := w) mg.s73 rfl (by omega) (by decide) dX9_comesOne_54 rfl ?_
    refine g_iconst (pc' := 56) (v := nI 0) dX9_comesOne_55 rfl (by decide) ?_
    refine g_ist4 (pc' := 58) rfl (by decide) dX9_comesOne_56 rfl ?_
    refine g_mem (I' := rvN (upM J (72, 0) w (drawnI (I (72, 0) w))) w) (by unfold rvN; rw [upM_n _ (by simp)]) ?_
    refine g_name (fun J2 hJ2 => ?_)
    have hfJ2 : Fr fwP (rvN (upM I (72, 0) w (drawnI (I (72, 0) w))) w) J2 := by
      rw [hJ2]
      exact rvNm_fr (upM_fr hq.2.1)
    have hn2 : J2 (40, 0) 6 = nI n := by
      rw [hJ2]; unfold rvN
      rw [upM_n _ (by simp), upM_n _ (by simp)]; exact hnJ
    have hw2 : ∀ s, s < n → J2 (76, 0) s = wtMi B len I w n s := fun s hs => by
      rw [hJ2]; unfold rvN
      rw [upM_n _ (by simp), upM_n _ (by simp)]; exact hq.2.2 s hs
    have hke2 : J2 (74, 0) w = nI ke := by
      rw [hJ2, rvN_74, upM_n _ (by simp)]
      exact (hq.2.1 _ _ (by simp [fwP, wgP, woP])).trans hke
    have hc2 : ∀ s, J2 (50, 0) (23 + 12 * w + s) = I (50, 0) (23 + 12 * w + s) := fun s => by
      rw [hJ2]; unfold rvN
      rw [upM_n _ (by simp), upM_n _ (by simp)]
      exact hq.2.1 _ _ (by simp [fwP, wgP, woP])
    have hQ0 : Q = 0 := by
      have h1 : nI Q = nI 0 := hvQ.symm.trans h26
      exact (nI_eq (by omega) (by omega)).mp h1
    have hnone : oKi B len I w n = none := by
      unfold oKi
      rw [hno, hQ, hQ0, if_neg (by decide)]
      exact pk_zero (n := n) (by omega) (hQz hQ0)
    refine g_ild4 (pc' := 60) dX9_comesOne_58 rfl ?_
    refine g_ald0 (pc' := 61) dX9_comesOne_60 rfl ?_
    refine g_getI (pc' := 64) mg.s40 (by decide) fX9_99 hn2 dX9_comesOne_61 rfl ?_
    refine g_icmpgeN (pc' := 67) (by omega) (by omega) (tgt := 107) dX9_comesOne_64 (by decide) rfl (fun h64 => ?_) (fun h64 => ?_)
    · refine g_iconst (pc' := 108) (v := nI 0) dX9_comesOne_107 rfl (by decide) ?_
      refine g_zret (ty := .boolean) rfl (by decide) dX9_comesOne_108 ?_
      refine eI ⟨?_, ?_⟩
      · rw [hnone]; rfl
      · unfold oneMi; rw [hnone]; exact hfJ2
    · refine g_ild2 (pc' := 68) dX9_comesOne_67 rfl ?_
      refine g_ifle (pc' := 71) (tgt := 107) dX9_comesOne_68 (by decide) rfl (fun h68 => ?_) (fun h68 => (by first | exact absurd h68 (by rw [h26]; exact Int32.le_refl _) | exact absurd (by rw [h26]; exact Int32.le_refl _) h68))
      refine g_iconst (pc' := 108) (v := nI 0) dX9_comesOne_107 rfl (by decide) ?_
      refine g_zret (ty := .boolean) rfl (by decide) dX9_comesOne_108 ?_
      refine eI ⟨?_, ?_⟩
      · rw [hnone]; rfl
      · unfold oneMi; rw [hnone]; exact hfJ2

theorem c_mComesA (l : Launch) {S : Shp} {I : MI} {L : ML} {R : MR} (mg : MG S R) {n : Nat} (hn : I (40, 0) 6 = nI n) (hN : n ≤ 12) {w : Nat} (hw : w < 11) {B : Nat → Nat} {len lj : Nat} (tl : TL B len lj I) (hlw : I (69, 0) w = nI lj) {no : Nat} (hno : I (50, 0) (12 + w) = nI no) (hno9 : no ≤ 9999) {ke a : Nat} (hke : I (74, 0) w = nI ke) (hk : ke + a < 2 ^ 30) (hbd : bdW I w n) : Ct l mX9_comesAll 51 0 0 [.inr (.inr (some (40, 0))), .inl (nI w), .inl (nI a)] S I L R (PIm S L R (fun v J => v = nI ((manyMi B len w n a I ke).2 - ke) ∧ Fr fwP (manyMi B len w n a I ke).1 J)) := by
  refine Ct.of [some (.inr (.inr (some (40, 0)))), some (.inl (nI w)), some (.inl (nI a)), none, none] (by decide) rfl (Nat.le_of_ble_eq_true rfl) ?_
  refine g_iconst (pc' := 1) (v := nI 0) dX9_comesAll_0 rfl (by decide) ?_
  refine g_ist3 (pc' := 2) rfl (by decide) dX9_comesAll_1 rfl ?_
  refine g_iconst (pc' := 3) (v := nI 0) dX9_comesAll_2 rfl (by decide) ?_
  refine g_ist4 (pc' := 5) rfl (by decide) dX9_comesAll_3 rfl ?_
  refine g_loop (σ := MI × Nat) (fun i s => Fr fwP (manyMi B len w n i I ke).1 s.1 ∧ s.2 + ke = (manyMi B len w n i I ke).2) (fun i s => [some (.inr (.inr (some (40, 0)))), some (.inl (nI w)), some (.inl (nI a)), some (.inl (nI s.2)), some (.inl (nI i))]) (fun i s => s.1) a 0 (I, 0) (by omega) ⟨Fr.rf, Nat.zero_add _⟩ ?_ ?_
  · rintro i ⟨J, T⟩ hi ⟨hP, hT⟩ ih
    dsimp only at hP hT
    obtain ⟨g1, g2, g3, g4, g5⟩ := manyMi_w (B := B) (len := len) hN hke hbd i
    have gf : ∀ t k, ¬ owP w t k → ¬ fwP t k → J t k = I t k := fun t k q q2 => (hP _ _ q2).trans (g1 _ _ q)
    refine g_ild4 (pc' := 7) dX9_comesAll_5 rfl ?_
    refine g_ild2 (pc' := 8) dX9_comesAll_7 rfl ?_
    refine g_icmpgeN (pc' := 11) (by omega) (by omega) (tgt := 33) dX9_comesAll_8 (by decide) rfl (fun h8 => ?_) (fun h8 => ?_)
    · exact absurd h8 (by omega)
    · refine g_ild3 (pc' := 12) dX9_comesAll_11 rfl ?_
      refine g_ald0 (pc' := 13) dX9_comesAll_12 rfl ?_
      refine g_ild1 (pc' := 14) dX9_comesAll_13 rfl ?_
      refine g_callV (pc' := 17) (c_mComes1 l mg ((gf _ _ (by simp [owP, mwP]) (by simp [fwP, wgP, woP])).trans hn) hN hw (tl.to (fun k => gf _ _ (by simp [owP, mwP]) (by simp [fwP, wgP, woP])) (fun k => gf _ _ (by simp [owP, mwP]) (by simp [fwP, wgP, woP]))) ((gf _ _ (by simp [owP, mwP]) (by simp [fwP, wgP, woP])).trans hlw) ((gf _ _ (by simp [owP, mwP]; omega) (by simp [fwP, wgP, woP])).trans hno) hno9 (ke := (manyMi B len w n i I ke).2) ((hP _ _ (by simp [fwP, wgP, woP])).trans g2) (by omega) (fun o ho => by obtain ⟨q, hq, e⟩ := g3 o ho ; exact ⟨q, hq, (hP _ _ (by simp [fwP, wgP, woP])).trans e⟩)) mg.s40 (by decide) wX9_comesOne lX9_231 rfl rfl (Nat.le_of_ble_eq_true rfl) ⟨Nat.le_of_ble_eq_true rfl, Nat.le_of_ble_eq_true rfl⟩ ⟨Nat.le_of_ble_eq_true rfl, Nat.le_of_ble_eq_true rfl⟩ dX9_comesAll_14 rfl (kI (fun v J2 hq => ?_))
      obtain ⟨hv0, hf2⟩ := hq
      rw [hv0, oKi_fr hP]
      have hF2 : Fr fwP (manyMi B len w n (i + 1) I ke).1 J2 := (oneMi_fr hP).tr hf2
      refine g_ifeqB (pc' := 20) (tgt := 24) dX9_comesAll_17 (by decide) rfl (fun h17 => ?_) (fun h17 => ?_)
      · refine g_iconst (pc' := 25) (v := nI 0) dX9_comesAll_24 rfl (by decide) ?_
        refine g_iaddN (pc' := 26) dX9_comesAll_25 rfl ?_
        refine g_ist3 (pc' := 27) rfl (by decide) dX9_comesAll_26 rfl ?_
        refine g_inc4 (pc' := 30) rfl (by decide) (v := nI (i + 1)) (nI_1 _) dX9_comesAll_27 rfl ?_
        refine g_goto (tgt := 5) dX9_comesAll_30 (by decide) ?_
        exact ih (J2, T + 0) ⟨hF2, by show T + 0 + ke = _ + (if _ then 1 else 0); rw [h17]; show T + 0 + ke = _ + 0; omega⟩
      · refine g_iconst (pc' := 21) (v := nI 1) dX9_comesAll_20 rfl (by decide) ?_
        refine g_goto (tgt := 25) dX9_comesAll_21 (by decide) ?_
        refine g_iaddN (pc' := 26) dX9_comesAll_25 rfl ?_
        refine g_ist3 (pc' := 27) rfl (by decide) dX9_comesAll_26 rfl ?_
        refine g_inc4 (pc' := 30) rfl (by decide) (v := nI (i + 1)) (nI_1 _) dX9_comesAll_27 rfl ?_
        refine g_goto (tgt := 5) dX9_comesAll_30 (by decide) ?_
        exact ih (J2, T + 1) ⟨hF2, by show T + 1 + ke = _ + (if _ then 1 else 0); rw [h17]; show T + 1 + ke = _ + 1; omega⟩
  · rintro ⟨J, T⟩ ⟨hP, hT⟩
    dsimp only at hP hT
    refine g_ild4 (pc' := 7) dX9_comesAll_5 rfl ?_
    refine g_ild2 (pc' := 8) dX9_comesAll_7 rfl ?_
    refine g_icmpgeN (pc' := 11) (by omega) (by omega) (tgt := 33) dX9_comesAll_8 (by decide) rfl (fun h8 => ?_) (fun h8 => ?_)
    · refine g_ild3 (pc' := 34) dX9_comesAll_33 rfl ?_
      refine g_iret rfl dX9_comesAll_34 ?_
      exact eI ⟨by rw [← hT, Nat.add_sub_cancel], hP⟩
    · exact absurd h8 (by omega)

theorem c_mComeN (l : Launch) {S : Shp} {I : MI} {L : ML} {R : MR} (mg : MG S R) {m : Nat} (hm : I (40, 0) 18 = nI m) (hM : m ≤ 9) {x y : Int32} (hb : inb x m = false ∨ y < nI 1 ∨ nI 200 < y) : Ct l mX9_come 3 0 0 [.inr (.inr (some (40, 0))), .inl x, .inl y] S I L R (PIp S I L R (-1)) := by
  refine Ct.of [some (.inr (.inr (some (40, 0)))), some (.inl x), some (.inl y)] (by decide) rfl (Nat.le_of_ble_eq_true rfl) ?_
  refine g_ald0 (pc' := 1) dX9_come_0 rfl ?_
  refine g_ild1 (pc' := 2) dX9_come_1 rfl ?_
  refine g_callV (pc' := 5) (c_misWorld l mg hm hM x) mg.s40 (by decide) wX9_isWorld lX9_186 rfl rfl (Nat.le_of_ble_eq_true rfl) ⟨Nat.le_of_ble_eq_true rfl, Nat.le_of_ble_eq_true rfl⟩ ⟨Nat.le_of_ble_eq_true rfl, Nat.le_of_ble_eq_true rfl⟩ dX9_come_2 rfl (kIp ?_)
  refine g_ifeqB (pc' := 8) (tgt := 29) dX9_come_5 (by decide) rfl (fun h5 => ?_) (fun h5 => ?_)
  · refine g_iconst (pc' := 30) (v := (-1)) dX9_come_29 rfl (by decide) ?_
    refine g_iret rfl dX9_come_30 ?_
    exact eIp rfl
  · refine g_ild2 (pc' := 9) dX9_come_8 rfl ?_
    refine g_i2l (pc' := 10) dX9_come_9 rfl ?_
    refine g_lconst (pc' := 11) (v := 1) dX9_come_10 rfl (by decide) ?_
    refine g_ldc2 (pc' := 14) dX9_come_11 rfl kX9_234 ?_
    refine g_callS (pc' := 17) (c_mWI l y (nI 1) (nI 200) (A := 1) (B := 200) (by decide) (by decide)) wX9_within lX9_102 rfl rfl (Nat.le_of_ble_eq_true rfl) ⟨Nat.le_of_ble_eq_true rfl, Nat.le_of_ble_eq_true rfl⟩ ⟨Nat.le_of_ble_eq_true rfl, Nat.le_of_ble_eq_true rfl⟩ dX9_come_14 rfl (kIp ?_)
    refine g_ifeqB (pc' := 20) (tgt := 29) dX9_come_17 (by decide) rfl (fun h17 => ?_) (fun h17 => ?_)
    · refine g_iconst (pc' := 30) (v := (-1)) dX9_come_29 rfl (by decide) ?_
      refine g_iret rfl dX9_come_30 ?_
      exact eIp rfl
    · exfalso
      rcases hb with h | h
      · rw [h] at h5; cases h5
      · exact wi_no h h17

theorem c_mComeS (l : Launch) {S : Shp} {I : MI} {L : ML} {R : MR} (mg : MG S R) {n : Nat} (hn : I (40, 0) 6 = nI n) (hN : n ≤ 12) {m : Nat} (hm : I (40, 0) 18 = nI m) (hM : m ≤ 9) {w : Nat} (hwm : w < m) {B : Nat → Nat} {len lj : Nat} (tl : TL B len lj I) (hlw : I (69, 0) w = nI lj) {no : Nat} (hno : I (50, 0) (12 + w) = nI no) (hno9 : no ≤ 9999) {ke a : Nat} (hke : I (74, 0) w = nI ke) (hk : ke + 200 < 2 ^ 30) (hbd : bdW I w n) (ha : 1 ≤ a ∧ a ≤ 200) : Ct l mX9_come 52 0 0 [.inr (.inr (some (40, 0))), .inl (nI w), .inl (nI a)] S I L R (PIm S L R (fun v J => v = nI ((manyMi B len w n a I ke).2 - ke) ∧ Fr fwP (manyMi B len w n a I ke).1 J)) := by
  refine Ct.of [some (.inr (.inr (some (40, 0)))), some (.inl (nI w)), some (.inl (nI a))] (by decide) rfl (Nat.le_of_ble_eq_true rfl) ?_
  refine g_ald0 (pc' := 1) dX9_come_0 rfl ?_
  refine g_ild1 (pc' := 2) dX9_come_1 rfl ?_
  refine g_callV (pc' := 5) (c_misWorld l mg hm hM (nI w)) mg.s40 (by decide) wX9_isWorld lX9_186 rfl rfl (Nat.le_of_ble_eq_true rfl) ⟨Nat.le_of_ble_eq_true rfl, Nat.le_of_ble_eq_true rfl⟩ ⟨Nat.le_of_ble_eq_true rfl, Nat.le_of_ble_eq_true rfl⟩ dX9_come_2 rfl (kIp ?_)
  refine g_ifeqB (pc' := 8) (tgt := 29) dX9_come_5 (by decide) rfl (fun h5 => (by first | exact absurd h5 (by rw [inb_nI (by omega) (by omega)]; simp [hwm]) | exact absurd (by rw [inb_nI (by omega) (by omega)]; simp [hwm]) h5)) (fun h5 => ?_)
  refine g_ild2 (pc' := 9) dX9_come_8 rfl ?_
  refine g_i2l (pc' := 10) dX9_come_9 rfl ?_
  refine g_lconst (pc' := 11) (v := 1) dX9_come_10 rfl (by decide) ?_
  refine g_ldc2 (pc' := 14) dX9_come_11 rfl kX9_234 ?_
  refine g_callS (pc' := 17) (c_mWI l (nI a) (nI 1) (nI 200) (A := 1) (B := 200) (by decide) (by decide)) wX9_within lX9_102 rfl rfl (Nat.le_of_ble_eq_true rfl) ⟨Nat.le_of_ble_eq_true rfl, Nat.le_of_ble_eq_true rfl⟩ ⟨Nat.le_of_ble_eq_true rfl, Nat.le_of_ble_eq_true rfl⟩ dX9_come_14 rfl (kIp ?_)
  refine g_ifeqB (pc' := 20) (tgt := 29) dX9_come_17 (by decide) rfl (fun h17 => (by first | exact absurd h17 (wi_yesN (by omega) (by decide)) | exact absurd (wi_yesN (by omega) (by decide)) h17)) (fun h17 => ?_)
  refine g_ald0 (pc' := 21) dX9_come_20 rfl ?_
  refine g_ild1 (pc' := 22) dX9_come_21 rfl ?_
  refine g_ild2 (pc' := 23) dX9_come_22 rfl ?_
  refine g_callV (pc' := 26) (c_mComesA l mg hn hN (w := w) (by omega) tl hlw hno hno9 hke (by omega) hbd) mg.s40 (by decide) wX9_comesAll lX9_236 rfl rfl (Nat.le_of_ble_eq_true rfl) ⟨Nat.le_of_ble_eq_true rfl, Nat.le_of_ble_eq_true rfl⟩ ⟨Nat.le_of_ble_eq_true rfl, Nat.le_of_ble_eq_true rfl⟩ dX9_come_23 rfl (kI (fun v J hq => ?_))
  refine g_goto (tgt := 30) dX9_come_26 (by decide) ?_
  refine g_iret rfl dX9_come_30 ?_
  exact eI hq

def lwP (t : Tok) (i : Nat) : Prop := woP t i ∨ (t = (40, 0) ∧ i = 8)
def lsP (lj : Nat) (t : Tok) (i : Nat) : Prop := woP t i ∨ (t = (40, 0) ∧ (i = 8 ∨ i = 9)) ∨ (t = (60, 0) ∧ 120 * lj ≤ i ∧ i < 120 * lj + 120) ∨ (t = (61, 0) ∧ i = lj)
theorem c_mLawF (l : Launch) {S : Shp} {I : MI} {L : ML} {R : MR} (mg : MG S R) (h9 : I (40, 0) 9 = nI 6) : Ct l mX9_law 1 0 0 [.inr (.inr (some (40, 0)))] S I L R (PIp S I L R (-3)) := by
  refine Ct.of [some (.inr (.inr (some (40, 0)))), none, none, none] (by decide) rfl (Nat.le_of_ble_eq_true rfl) ?_
  refine g_ald0 (pc' := 1) dX9_law_0 rfl ?_
  refine g_getI (pc' := 4) mg.s40 (by decide) fX9_106 h9 dX9_law_1 rfl ?_
  refine g_bipush (pc' := 6) (v := nI 6) dX9_law_4 rfl (by decide) ?_
  refine g_icmpneN (pc' := 9) (by omega) (by omega) (tgt := 12) dX9_law_6 (by decide) rfl (fun h6 => ?_) (fun h6 => ?_)
  · exact absurd h6 (by omega)
  · refine g_bipush (pc' := 11) (v := (-3)) dX9_law_9 rfl (by decide) ?_
    refine g_iret rfl dX9_law_11 ?_
    exact eIp rfl

theorem c_mLawX (l : Launch) {S : Shp} {I : MI} {L : ML} {R : MR} (mg : MG S R) {c : Nat} (h9 : I (40, 0) 9 = nI c) (hc : c < 6) {B : Nat → Nat} {len : Nat} (h8 : I (40, 0) 8 = nI len) (hlen : len ≤ 120) (hB : ∀ i, i < len → B i < 256) (h57 : ∀ i, i < len → I (57, 0) i = nI (B i)) {p : Nat} (hp : (cText B len).2.1 = some p) (hp9 : p < 2 ^ 30) : Ct l mX9_law 47 0 0 [.inr (.inr (some (40, 0)))] S I L R (PIm S L R (fun v J => v = -100 - nI p ∧ J (40, 0) 8 = nI 0 ∧ Fr lwP I J)) := by
  refine Ct.of [some (.inr (.inr (some (40, 0)))), none, none, none] (by decide) rfl (Nat.le_of_ble_eq_true rfl) ?_
  refine g_ald0 (pc' := 1) dX9_law_0 rfl ?_
  refine g_getI (pc' := 4) mg.s40 (by decide) fX9_106 h9 dX9_law_1 rfl ?_
  refine g_bipush (pc' := 6) (v := nI 6) dX9_law_4 rfl (by decide) ?_
  refine g_icmpneN (pc' := 9) (by omega) (by omega) (tgt := 12) dX9_law_6 (by decide) rfl (fun h6 => ?_) (fun h6 => ?_)
  · refine g_ald0 (pc' := 13) dX9_law_12 rfl ?_
    refine g_iconst (pc' := 14) (v := (-1)) dX9_law_13 rfl (by decide) ?_
    refine g_ald0 (pc' := 15) dX9_law_14 rfl ?_
    refine g_getI (pc' := 18) mg.s40 (by decide) fX9_121 h8 dX9_law_15 rfl ?_
    refine g_callV (pc' := 21) (c_mWork l mg (seen := (fun k => I (67, 0) k)) hlen hB (Or.inl ⟨rfl, h57⟩) (fun k hk => rfl)) mg.s40 (by decide) wX9_workOut lX9_171 rfl rfl (Nat.le_of_ble_eq_true rfl) ⟨Nat.le_of_ble_eq_true rfl, Nat.le_of_ble_eq_true rfl⟩ ⟨Nat.le_of_ble_eq_true rfl, Nat.le_of_ble_eq_true rfl⟩ dX9_law_18 rfl (kI (fun v J hq => ?_))
    have hf15 : J (40, 0) 15 = nI p := by rw [hq.1, hp]; rfl
    refine g_ist1 (pc' := 22) rfl (by decide) dX9_law_21 rfl ?_
    refine g_ald0 (pc' := 23) dX9_law_22 rfl ?_
    refine g_getI (pc' := 26) mg.s40 (by decide) fX9_121 ((hq.2.1 _ _ (by simp [woP])).trans h8) dX9_law_23 rfl ?_
    refine g_ist2 (pc' := 27) rfl (by decide) dX9_law_26 rfl ?_
    refine g_ald0 (pc' := 28) dX9_law_27 rfl ?_
    refine g_iconst (pc' := 29) (v := nI 0) dX9_law_28 rfl (by decide) ?_
    refine g_putI (pc' := 32) mg.s40 (by decide) ⟨fX9_121, rfl, pI⟩ dX9_law_29 rfl ?_
    refine g_ald0 (pc' := 33) dX9_law_32 rfl ?_
    refine g_getI (pc' := 36) mg.s40 (by decide) fX9_133 (v := nI p) (by simp [upM, hf15]) dX9_law_33 rfl ?_
    refine g_ifltN (pc' := 39) (by omega) dX9_law_36 rfl ?_
    refine g_bipush (pc' := 41) (v := (-100)) dX9_law_39 rfl (by decide) ?_
    refine g_ald0 (pc' := 42) dX9_law_41 rfl ?_
    refine g_getI (pc' := 45) mg.s40 (by decide) fX9_133 (v := nI p) (by simp [upM, hf15]) dX9_law_42 rfl ?_
    refine g_isub (pc' := 46) dX9_law_45 rfl ?_
    refine g_iret rfl dX9_law_46 ?_
    exact eI ⟨rfl, upM_s _ _ _ _, (hq.2.1.le (fun t i q => Or.inl q)).up (by simp [lwP])⟩
  · exact absurd h6 (by omega)

theorem c_mLawS (l : Launch) {S : Shp} {I : MI} {L : ML} {R : MR} (mg : MG S R) {c : Nat} (h9 : I (40, 0) 9 = nI c) (hc : c < 6) {B : Nat → Nat} {len : Nat} (h8 : I (40, 0) 8 = nI len) (hlen : len ≤ 120) (hB : ∀ i, i < len → B i < 256) (h57 : ∀ i, i < len → I (57, 0) i = nI (B i)) (hp : (cText B len).2.1 = none) : Ct l mX9_law 47 0 0 [.inr (.inr (some (40, 0)))] S I L R (PIm S L R (fun v J => v = nI c ∧ J (40, 0) 8 = nI 0 ∧ J (40, 0) 9 = nI (c + 1) ∧ TL B len c J ∧ Fr (lsP c) I J)) := by
  refine Ct.of [some (.inr (.inr (some (40, 0)))), none, none, none] (by decide) rfl (Nat.le_of_ble_eq_true rfl) ?_
  refine g_ald0 (pc' := 1) dX9_law_0 rfl ?_
  refine g_getI (pc' := 4) mg.s40 (by decide) fX9_106 h9 dX9_law_1 rfl ?_
  refine g_bipush (pc' := 6) (v := nI 6) dX9_law_4 rfl (by decide) ?_
  refine g_icmpneN (pc' := 9) (by omega) (by omega) (tgt := 12) dX9_law_6 (by decide) rfl (fun h6 => ?_) (fun h6 => ?_)
  · refine g_ald0 (pc' := 13) dX9_law_12 rfl ?_
    refine g_iconst (pc' := 14) (v := (-1)) dX9_law_13 rfl (by decide) ?_
    refine g_ald0 (pc' := 15) dX9_law_14 rfl ?_
    refine g_getI (pc' := 18) mg.s40 (by decide) fX9_121 h8 dX9_law_15 rfl ?_
    refine g_callV (pc' := 21) (c_mWork l mg (seen := (fun k => I (67, 0) k)) hlen hB (Or.inl ⟨rfl, h57⟩) (fun k hk => rfl)) mg.s40 (by decide) wX9_workOut lX9_171 rfl rfl (Nat.le_of_ble_eq_true rfl) ⟨Nat.le_of_ble_eq_true rfl, Nat.le_of_ble_eq_true rfl⟩ ⟨Nat.le_of_ble_eq_true rfl, Nat.le_of_ble_eq_true rfl⟩ dX9_law_18 rfl (kI (fun v J hq => ?_))
    have hf15 : J (40, 0) 15 = -1 := by rw [hq.1, hp]; rfl
    refine g_ist1 (pc' := 22) rfl (by decide) dX9_law_21 rfl ?_
    refine g_ald0 (pc' := 23) dX9_law_22 rfl ?_
    refine g_getI (pc' := 26) mg.s40 (by decide) fX9_121 ((hq.2.1 _ _ (by simp [woP])).trans h8) dX9_law_23 rfl ?_
    refine g_ist2 (pc' := 27) rfl (by decide) dX9_law_26 rfl ?_
    refine g_ald0 (pc' := 28) dX9_law_27 rfl ?_
    refine g_iconst (pc' := 29) (v := nI 0) dX9_law_28 rfl (by decide) ?_
    refine g_putI (pc' := 32) mg.s40 (by decide) ⟨fX9_121, rfl, pI⟩ dX9_law_29 rfl ?_
    refine g_ald0 (pc' := 33) dX9_law_32 rfl ?_
    refine g_getI (pc' := 36) mg.s40 (by decide) fX9_133 (v := (-1)) (by simp [upM, hf15]) dX9_law_33 rfl ?_
    refine g_iflt (pc' := 39) (tgt := 47) dX9_law_36 (by decide) rfl (fun h36 => ?_) (fun h36 => (by first | exact absurd h36 (by decide : (-1 : Int32) < 0) | exact absurd (by decide : (-1 : Int32) < 0) h36))
    refine g_iconst (pc' := 48) (v := nI 0) dX9_law_47 rfl (by decide) ?_
    refine g_ist3 (pc' := 49) rfl (by decide) dX9_law_48 rfl ?_
    refine g_name (fun J2 hJ2 => ?_)
    have hf2 : Fr lwP I J2 := by rw [hJ2]; exact (hq.2.1.le (fun t i q => Or.inl q)).up (by simp [lwP])
    have h82 : J2 (40, 0) 8 = nI 0 := by rw [hJ2]; exact upM_s _ _ _ _
    refine g_loop (σ := MI) (fun i (K : MI) => Fr (lsP c) I K ∧ K (40, 0) 9 = nI c ∧ K (40, 0) 8 = nI 0 ∧ (∀ k, k < i → K (60, 0) (120 * c + k) = nI (B k)) ∧ ∀ k, k < len → K (57, 0) k = nI (B k)) (fun i K => [some (.inr (.inr (some (40, 0)))), some (.inl v), some (.inl (nI len)), some (.inl (nI i))]) (fun i K => K) len 0 J2 (by omega) ⟨hf2.le (fun t i q => by rcases q with q | q; exact Or.inl q; exact Or.inr (Or.inl ⟨q.1, Or.inl q.2⟩)), (hf2 _ _ (by simp [lwP, woP])).trans h9, h82, fun k hk => absurd hk (by omega), fun k hk => (hf2 _ _ (by simp [lwP, woP])).trans (h57 k hk)⟩ ?_ ?_
    · intro i K hi hK ih
      refine g_ild3 (pc' := 50) dX9_law_49 rfl ?_
      refine g_ild2 (pc' := 51) dX9_law_50 rfl ?_
      refine g_icmpgeN (pc' := 54) (by omega) (by omega) (tgt := 80) dX9_law_51 (by decide) rfl (fun h51 => ?_) (fun h51 => ?_)
      · exact absurd h51 (by omega)
      · refine g_ald0 (pc' := 55) dX9_law_54 rfl ?_
        refine g_getR (pc' := 58) mg.s40 (by decide) fX9_25 mg.r40_10 dX9_law_55 rfl ?_
        refine g_bipush (pc' := 60) (v := nI 120) dX9_law_58 rfl (by decide) ?_
        refine g_ald0 (pc' := 61) dX9_law_60 rfl ?_
        refine g_getI (pc' := 64) mg.s40 (by decide) fX9_106 hK.2.1 dX9_law_61 rfl ?_
        refine g_imulN (pc' := 65) dX9_law_64 rfl ?_
        refine g_ild3 (pc' := 66) dX9_law_65 rfl ?_
        refine g_iaddN (pc' := 67) dX9_law_66 rfl ?_
        refine g_ald0 (pc' := 68) dX9_law_67 rfl ?_
        refine g_getR (pc' := 71) mg.s40 (by decide) fX9_22 mg.r40_7 dX9_law_68 rfl ?_
        refine g_ild3 (pc' := 72) dX9_law_71 rfl ?_
        refine g_iald (pc' := 73) (j := i) mg.s57 rfl (by omega) (by decide) (v := nI (B i)) (hK.2.2.2.2 i hi) dX9_law_72 rfl ?_
        refine g_iast (pc' := 74) (j := (120 * c) + i) mg.s60 rfl (by omega) (by decide) dX9_law_73 rfl ?_
        refine g_inc3 (pc' := 77) rfl (by decide) (v := nI (i + 1)) (nI_1 _) dX9_law_74 rfl ?_
        refine g_goto (tgt := 49) dX9_law_77 (by decide) ?_
        refine ih _ ⟨hK.1.up (by simp [lsP]; omega), ?_, ?_, fun k hk => ?_, fun k hk => ?_⟩
        · rw [upM_n _ (by simp)]; exact hK.2.1
        · rw [upM_n _ (by simp)]; exact hK.2.2.1
        · by_cases e : k = i
          · rw [e, upM_s]
          · rw [upM_k _ _ (by omega)]; exact hK.2.2.2.1 k (by omega)
        · rw [upM_n _ (by simp)]; exact hK.2.2.2.2 k hk
    · intro K hK
      refine g_ild3 (pc' := 50) dX9_law_49 rfl ?_
      refine g_ild2 (pc' := 51) dX9_law_50 rfl ?_
      refine g_icmpgeN (pc' := 54) (by omega) (by omega) (tgt := 80) dX9_law_51 (by decide) rfl (fun h51 => ?_) (fun h51 => ?_)
      · refine g_ald0 (pc' := 81) dX9_law_80 rfl ?_
        refine g_getR (pc' := 84) mg.s40 (by decide) fX9_28 mg.r40_11 dX9_law_81 rfl ?_
        refine g_ald0 (pc' := 85) dX9_law_84 rfl ?_
        refine g_getI (pc' := 88) mg.s40 (by decide) fX9_106 hK.2.1 dX9_law_85 rfl ?_
        refine g_ild2 (pc' := 89) dX9_law_88 rfl ?_
        refine g_iast (pc' := 90) (j := c) mg.s61 rfl (by omega) (by decide) dX9_law_89 rfl ?_
        refine g_ald0 (pc' := 91) dX9_law_90 rfl ?_
        refine g_dupR (pc' := 92) dX9_law_91 rfl ?_
        refine g_getI (pc' := 95) mg.s40 (by decide) fX9_106 (v := nI c) (by simp [upM, hK.2.1]) dX9_law_92 rfl ?_
        refine g_iconst (pc' := 96) (v := nI 1) dX9_law_95 rfl (by decide) ?_
        refine g_iaddN (pc' := 97) dX9_law_96 rfl ?_
        refine g_putI (pc' := 100) mg.s40 (by decide) ⟨fX9_106, rfl, pI⟩ dX9_law_97 rfl ?_
        refine g_ald0 (pc' := 101) dX9_law_100 rfl ?_
        refine g_getI (pc' := 104) mg.s40 (by decide) fX9_106 (v := nI (c + 1)) (by simp [upM]) dX9_law_101 rfl ?_
        refine g_iconst (pc' := 105) (v := nI 1) dX9_law_104 rfl (by decide) ?_
        refine g_isub (pc' := 106) dX9_law_105 rfl ?_
        refine g_topi (v := nI c) (by rw [pk_sub (by omega), Nat.add_sub_cancel]) ?_
        refine g_iret rfl dX9_law_106 ?_
        refine eI ⟨rfl, ?_, ?_, ⟨hc, hlen, hB, ?_, fun k hk => ?_, hp⟩, ?_⟩
        · rw [upM_k _ _ (by decide), upM_n _ (by simp)]; exact hK.2.2.1
        · exact upM_s _ _ _ _
        · rw [upM_n _ (by simp), upM_s]
        · rw [upM_n _ (by simp), upM_n _ (by simp)]; exact hK.2.2.2.1 k hk
        · exact (hK.1.up (by simp [lsP])).up (by simp [lsP])
      · exact absurd h51 (by omega)
  · exact absurd h6 (by omega)
