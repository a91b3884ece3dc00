/-! the model: odds -/
def kidI (I : MI) (w s : Nat) : MI := upM (upM I (50, 0) (23 + 12 * w + s) (minI (I (50, 0) (23 + 12 * w + s) + nI 1) 99999)) (74, 0) w (I (74, 0) w + nI 1)
def camI (I : MI) (w : Nat) : MI := upM I (73, 0) w (I (73, 0) w + nI 1)
def odS (W : Nat → Int32) (F : Nat → Int64) (v1 : Int64) : Nat → Int64
  | 0 => v1
  | s + 1 => if W s = 0 then odS W F v1 s else odS W F v1 s + (W s).toInt64 * F s
theorem odS_congr {W W' : Nat → Int32} {F F' : Nat → Int64} {v : Int64} : ∀ {n : Nat}, (∀ s, s < n → W s = W' s) → (∀ s, s < n → F s = F' s) → odS W F v n = odS W' F' v n
  | 0, _, _ => rfl
  | n + 1, h, h2 => by
    unfold odS
    rw [odS_congr (n := n) (fun s hs => h s (by omega)) (fun s hs => h2 s (by omega)), h n (by omega), h2 n (by omega)]
def odM (B : Nat → Nat) (len n w j : Nat) (kd : Int32) : Nat → MI → Int64
  | 0, I => if kd = nI 1 then 1000 * (cnM I w j).toInt64 else if rkO (cnM I w) n 0 = j then 1000000 else 0
  | t + 1, I =>
    if sumF (I (50, 0) (12 + w)) (wtMi B len I w n) n = 0 then odM B len n w j kd t (camI I w)
    else odS (wtMi B len I w n) (fun s => odM B len n w j kd t (kidI (camI I w) w s)) ((if 0 < I (50, 0) (12 + w) then odM B len n w j kd t (camI I w) else 0) * (I (50, 0) (12 + w)).toInt64) n / (sumF (I (50, 0) (12 + w)) (wtMi B len I w n) n).toInt64
theorem odM_z {B : Nat → Nat} {len n w j t : Nat} {kd : Int32} {I : MI} (h : sumF (I (50, 0) (12 + w)) (wtMi B len I w n) n = 0) : odM B len n w j kd (t + 1) I = odM B len n w j kd t (camI I w) := if_pos h
theorem odM_n {B : Nat → Nat} {len n w j t : Nat} {kd : Int32} {I : MI} (h : ¬ sumF (I (50, 0) (12 + w)) (wtMi B len I w n) n = 0) : odM B len n w j kd (t + 1) I = odS (wtMi B len I w n) (fun s => odM B len n w j kd t (kidI (camI I w) w s)) ((if 0 < I (50, 0) (12 + w) then odM B len n w j kd t (camI I w) else 0) * (I (50, 0) (12 + w)).toInt64) n / (sumF (I (50, 0) (12 + w)) (wtMi B len I w n) n).toInt64 := if_neg h
def fvA (t : Tok) (_ : Nat) : Prop := fwP t 0 ∨ t = (80, 0)
def fvP (b : Nat) (t : Tok) (i : Nat) : Prop := fwP t i ∨ (t = (80, 0) ∧ i < b)
def fvQ (t : Tok) (i : Nat) : Prop := fwP t i ∨ t = (80, 0)
theorem cnM_fr {I J : MI} {w : Nat} (h : Fr fvQ I J) : cnM J w = cnM I w := funext fun o => h _ _ (by simp [fvQ, fwP, wgP, woP])
theorem wtQ_fr {B : Nat → Nat} {len : Nat} {I J : MI} {w n s : Nat} (h : Fr fvQ I J) : wtMi B len J w n s = wtMi B len I w n s := by
  have e : cnM J w = cnM I w := cnM_fr h
  unfold wtMi
  rw [e, h (50, 0) s (by simp [fvQ, fwP, wgP, woP]), h (70, 0) w (by simp [fvQ, fwP, wgP, woP]), h (73, 0) w (by simp [fvQ, fwP, wgP, woP]), h (71, 0) w (by simp [fvQ, fwP, wgP, woP]), h (74, 0) w (by simp [fvQ, fwP, wgP, woP])]
theorem camI_fr {I J : MI} {w : Nat} (h : Fr fvQ I J) : Fr fvQ (camI I w) (camI J w) := by
  unfold camI
  rw [h (73, 0) w (by simp [fvQ, fwP, wgP, woP])]
  exact upM_fr h
theorem kidI_fr {I J : MI} {w s : Nat} (h : Fr fvQ I J) : Fr fvQ (kidI I w s) (kidI J w s) := by
  unfold kidI
  rw [h (74, 0) w (by simp [fvQ, fwP, wgP, woP]), h (50, 0) (23 + 12 * w + s) (by simp [fvQ, fwP, wgP, woP])]
  exact upM_fr (upM_fr h)
theorem odM_fr {B : Nat → Nat} {len n w j : Nat} {kd : Int32} : ∀ {t : Nat} {I J : MI}, Fr fvQ I J → odM B len n w j kd t J = odM B len n w j kd t I
  | 0, I, J, h => by
    unfold odM
    rw [cnM_fr h]
  | t + 1, I, J, h => by
    unfold odM
    rw [show wtMi B len J w n = wtMi B len I w n from funext fun s => wtQ_fr h, h (50, 0) (12 + w) (by simp [fvQ, fwP, wgP, woP]), odM_fr (camI_fr h)]
    rw [show (fun s => odM B len n w j kd t (kidI (camI J w) w s)) = fun s => odM B len n w j kd t (kidI (camI I w) w s) from funext fun s => odM_fr (kidI_fr (camI_fr h))]
theorem fvP_le {b c : Nat} (h : b ≤ c) {t : Tok} {i : Nat} (q : fvP b t i) : fvP c t i := by
  rcases q with q | q
  · exact Or.inl q
  · exact Or.inr ⟨q.1, by omega⟩
theorem fvP_Q {b : Nat} {t : Tok} {i : Nat} (q : fvP b t i) : fvQ t i := by
  rcases q with q | q
  · exact Or.inl q
  · exact Or.inr q.1
theorem kid_bd {I : MI} {w n s : Nat} (hb : bdW I w n) (hs : s < n) : bdW (kidI I w s) w n := by
  intro o ho
  obtain ⟨q, hq, e⟩ := hb o ho
  dsimp only at e
  unfold kidI
  dsimp only
  rw [upM_n _ (by simp)]
  by_cases h : o = s
  · subst h
    rw [upM_s]
    exact minI_bd hq e
  · rw [upM_k _ _ (by omega)]
    exact ⟨q, hq, e⟩
theorem le0_nn {v : Int32} {Q : Nat} (h : v = nI Q) (hQ : Q < 2 ^ 31) (hle : v ≤ 0) : v = 0 := by
  subst h
  have := (nI_leI (a := Q) (b := 0) hQ (by omega)).mp hle
  rw [show Q = 0 by omega]
  rfl
theorem c_mFollows (l : Launch) {S : Shp} {L : ML} {R : MR} (mg : MG S R) {n : Nat} (hn4 : n ≤ 4) {w : Nat} (hw : w < 11) {B : Nat → Nat} {len lj : Nat} {no : Nat} (hno9 : no ≤ 9999) {j : Nat} (hj : j < n) {kd : Int32} : ∀ (t : Nat), t ≤ 6 → ∀ (I : MI), I (40, 0) 6 = nI n → TL B len lj I → I (69, 0) w = nI lj → I (50, 0) (12 + w) = nI no → bdW I w n → Ct l mX9_follows (50 + t) 0 0 [.inr (.inr (some (40, 0))), .inl (nI w), .inl (nI j), .inl (nI t), .inl kd] S I L R (PJm S L R (fun v J => v = odM B len n w j kd t I ∧ Fr (fvP (4 * t + 4)) I J)) := by
  have hN : n ≤ 12 := by omega
  intro t
  induction t with
  | zero =>
    intro _ I hn tl hlw hno hbd
    have hrk := rkO_lt (cnM I w) n 0 (by omega)

    refine Ct.of [some (.inr (.inr (some (40, 0)))), some (.inl (nI w)), some (.inl (nI j)), some (.inl (nI 0)), some (.inl kd), none, none, none, none, none, none, none] (by decide) rfl (Nat.le_of_ble_eq_true rfl) ?_
    refine g_ild3 (pc' := 1) dX9_follows_0 rfl ?_
    refine g_ifneN (pc' := 4) (by omega) (tgt := 42) dX9_follows_1 (by decide) rfl (fun h1 => (by first | exact absurd h1 (Nat.lt_irrefl 0) | exact absurd (Nat.lt_irrefl 0) h1)) (fun h1 => ?_)
    refine g_ild4 (pc' := 6) dX9_follows_4 rfl ?_
    refine g_iconst (pc' := 7) (v := nI 1) dX9_follows_6 rfl (by decide) ?_
    refine g_icmpne (pc' := 10) (tgt := 24) dX9_follows_7 (by decide) rfl (fun h7 => ?_) (fun h7 => ?_)
    · refine g_ald0 (pc' := 25) dX9_follows_24 rfl ?_
      refine g_ild1 (pc' := 26) dX9_follows_25 rfl ?_
      refine g_iconst (pc' := 27) (v := nI 0) dX9_follows_26 rfl (by decide) ?_
      refine g_callV (pc' := 30) (c_mSongAt l mg hn hN hw (f := cnM I w) (fun _ _ => rfl) (p := 0) (by omega)) mg.s40 (by decide) wX9_songAt lX9_209 rfl rfl (Nat.le_of_ble_eq_true rfl) ⟨Nat.le_of_ble_eq_true rfl, Nat.le_of_ble_eq_true rfl⟩ ⟨Nat.le_of_ble_eq_true rfl, Nat.le_of_ble_eq_true rfl⟩ dX9_follows_27 rfl (kIp ?_)
      refine g_ild2 (pc' := 31) dX9_follows_30 rfl ?_
      refine g_icmpneN (pc' := 34) (by omega) (by omega) (tgt := 40) dX9_follows_31 (by decide) rfl (fun h31 => ?_) (fun h31 => ?_)
      · refine g_lconst (pc' := 41) (v := 0) dX9_follows_40 rfl (by decide) ?_
        refine g_lret rfl dX9_follows_41 ?_
        refine eJ ⟨?_, Fr.rf⟩
        unfold odM
        first | (rw [if_pos (by assumption)]; rfl) | (rw [if_neg (by assumption), if_pos (by assumption)]; done) | (rw [if_neg (by assumption), if_neg (by assumption)]; done)
      · refine g_ldc2 (pc' := 37) dX9_follows_34 rfl kX9_273 ?_
        refine g_goto (tgt := 41) dX9_follows_37 (by decide) ?_
        refine g_lret rfl dX9_follows_41 ?_
        refine eJ ⟨?_, Fr.rf⟩
        unfold odM
        first | (rw [if_pos (by assumption)]; rfl) | (rw [if_neg (by assumption), if_pos (by assumption)]; done) | (rw [if_neg (by assumption), if_neg (by assumption)]; done)
    · refine g_ldc2 (pc' := 13) dX9_follows_10 rfl kX9_207 ?_
      refine g_ald0 (pc' := 14) dX9_follows_13 rfl ?_
      refine g_ild1 (pc' := 15) dX9_follows_14 rfl ?_
      refine g_ild2 (pc' := 16) dX9_follows_15 rfl ?_
      refine g_callV (pc' := 19) (c_mCount l mg hw (s := j) (by omega) rfl) mg.s40 (by decide) wX9_countOf lX9_191 rfl rfl (Nat.le_of_ble_eq_true rfl) ⟨Nat.le_of_ble_eq_true rfl, Nat.le_of_ble_eq_true rfl⟩ ⟨Nat.le_of_ble_eq_true rfl, Nat.le_of_ble_eq_true rfl⟩ dX9_follows_16 rfl (kIp ?_)
      refine g_i2l (pc' := 20) dX9_follows_19 rfl ?_
      refine g_lmul (pc' := 21) dX9_follows_20 rfl ?_
      refine g_goto (tgt := 41) dX9_follows_21 (by decide) ?_
      refine g_lret rfl dX9_follows_41 ?_
      refine eJ ⟨?_, Fr.rf⟩
      unfold odM
      first | (rw [if_pos (by assumption)]; rfl) | (rw [if_neg (by assumption), if_pos (by assumption)]; done) | (rw [if_neg (by assumption), if_neg (by assumption)]; done)
  | succ t IHt =>
    intro ht6 I hn tl hlw hno hbd
    show Ct l mX9_follows ((50 + t) + 1) 0 0 _ S I L R _
    refine Ct.of [some (.inr (.inr (some (40, 0)))), some (.inl (nI w)), some (.inl (nI j)), some (.inl (nI (t + 1))), some (.inl kd), none, none, none, none, none, none, none] (by decide) rfl (Nat.le_of_ble_eq_true rfl) ?_
    refine g_ild3 (pc' := 1) dX9_follows_0 rfl ?_
    refine g_ifneN (pc' := 4) (by omega) (tgt := 42) dX9_follows_1 (by decide) rfl (fun h1 => ?_) (fun h1 => (by first | exact absurd h1 (Nat.succ_ne_zero t) | exact absurd (Nat.succ_ne_zero t) h1))
    refine g_ald0 (pc' := 43) dX9_follows_42 rfl ?_
    refine g_ild1 (pc' := 44) dX9_follows_43 rfl ?_
    refine g_callV (pc' := 47) (c_mFindW l mg hn hN hw tl hlw) mg.s40 (by decide) wX9_findWeights lX9_223 rfl rfl (Nat.le_of_ble_eq_true rfl) (rOk (by omega) (by decide)) ⟨Nat.le_of_ble_eq_true rfl, Nat.le_of_ble_eq_true rfl⟩ dX9_follows_44 rfl (kI (fun v J hq => ?_))
    have hnJ : J (40, 0) 6 = nI n := (hq.2.1 _ _ (by simp [fwP, wgP, woP])).trans hn
    obtain ⟨Q, hQ, hQb, hQz⟩ := sumF_nn (wtMi_bd B len I w n) hno9 n
    have hvQ : v = nI Q := by rw [hq.1, hno, hQ]
    have hfJ : Fr (fvP (4 * (t + 1) + 4)) I J := hq.2.1.le (fun t i q => Or.inl q)
    refine g_ist5 (pc' := 49) rfl (by decide) dX9_follows_47 rfl ?_
    refine g_iconst (pc' := 50) (v := nI 4) dX9_follows_49 rfl (by decide) ?_
    refine g_ild3 (pc' := 51) dX9_follows_50 rfl ?_
    refine g_imulN (pc' := 52) dX9_follows_51 rfl ?_
    refine g_ist6 (pc' := 54) rfl (by decide) dX9_follows_52 rfl ?_
    refine g_iconst (pc' := 55) (v := nI 0) dX9_follows_54 rfl (by decide) ?_
    refine g_ist7 (pc' := 57) rfl (by decide) dX9_follows_55 rfl ?_
    refine g_loop (σ := MI) (fun i (K : MI) => Fr (fvP (4 * (t + 1) + 4)) I K ∧ (∀ s, s < n → K (76, 0) s = wtMi B len I w n s) ∧ ∀ s, s < i → K (80, 0) (4 * (t + 1) + s) = wtMi B len I w n s) (fun i K => [some (.inr (.inr (some (40, 0)))), some (.inl (nI w)), some (.inl (nI j)), some (.inl (nI (t + 1))), some (.inl kd), some (.inl v), some (.inl (nI (4 * (t + 1)))), some (.inl (nI i)), none, none, none, none]) (fun i K => K) n 0 J (by omega) ⟨hfJ, hq.2.2, fun s hs => absurd hs (by omega)⟩ ?_ ?_
    · intro i K hi hK ih
      have hnK : K (40, 0) 6 = nI n := (hK.1 _ _ (by simp [fvP, fwP, wgP, woP])).trans hn
      refine g_ild7 (pc' := 59) dX9_follows_57 rfl ?_
      refine g_ald0 (pc' := 60) dX9_follows_59 rfl ?_
      refine g_getI (pc' := 63) mg.s40 (by decide) fX9_99 hnK dX9_follows_60 rfl ?_
      refine g_icmpgeN (pc' := 66) (by omega) (by omega) (tgt := 89) dX9_follows_63 (by decide) rfl (fun h63 => ?_) (fun h63 => ?_)
      · exact absurd h63 (by omega)
      · refine g_ald0 (pc' := 67) dX9_follows_66 rfl ?_
        refine g_getR (pc' := 70) mg.s40 (by decide) fX9_58 mg.r40_30 dX9_follows_67 rfl ?_
        refine g_ild6 (pc' := 72) dX9_follows_70 rfl ?_
        refine g_ild7 (pc' := 74) dX9_follows_72 rfl ?_
        refine g_iaddN (pc' := 75) dX9_follows_74 rfl ?_
        refine g_ald0 (pc' := 76) dX9_follows_75 rfl ?_
        refine g_getR (pc' := 79) mg.s40 (by decide) fX9_55 mg.r40_26 dX9_follows_76 rfl ?_
        refine g_ild7 (pc' := 81) dX9_follows_79 rfl ?_
        refine g_iald (pc' := 82) (j := i) mg.s76 rfl (by omega) (by decide) (v := wtMi B len I w n i) (hK.2.1 i hi) dX9_follows_81 rfl ?_
        refine g_iast (pc' := 83) (j := (4 * (t + 1)) + i) mg.s80 rfl (by omega) (by decide) dX9_follows_82 rfl ?_
        refine g_inc7 (pc' := 86) rfl (by decide) (v := nI (i + 1)) (nI_1 _) dX9_follows_83 rfl ?_
        refine g_goto (tgt := 57) dX9_follows_86 (by decide) ?_
        refine ih _ ⟨hK.1.up (by simp [fvP]; omega), fun s hs => ?_, fun s hs => ?_⟩
        · rw [upM_n _ (by simp)]; exact hK.2.1 s hs
        · by_cases e : s = i
          · rw [e, upM_s]
          · rw [upM_k _ _ (by omega)]; exact hK.2.2 s (by omega)
    · intro K hK
      have hnK : K (40, 0) 6 = nI n := (hK.1 _ _ (by simp [fvP, fwP, wgP, woP])).trans hn
      refine g_ild7 (pc' := 59) dX9_follows_57 rfl ?_
      refine g_ald0 (pc' := 60) dX9_follows_59 rfl ?_
      refine g_getI (pc' := 63) mg.s40 (by decide) fX9_99 hnK dX9_follows_60 rfl ?_
      refine g_icmpgeN (pc' := 66) (by omega) (by omega) (tgt := 89) dX9_follows_63 (by decide) rfl (fun h63 => ?_) (fun h63 => ?_)
      · refine g_ald0 (pc' := 90) dX9_follows_89 rfl ?_
        refine g_getR (pc' := 93) mg.s40 (by decide) fX9_46 mg.r40_23 dX9_follows_90 rfl ?_
        refine g_ild1 (pc' := 94) dX9_follows_93 rfl ?_
        refine g_dup2 (pc' := 95) dX9_follows_94 rfl ?_
        refine g_iald (pc' := 96) (j := w) mg.s73 rfl (by omega) (by decide) (hK.1 _ _ (by simp [fvP, fwP, wgP, woP])) dX9_follows_95 rfl ?_
        refine g_iconst (pc' := 97) (v := nI 1) dX9_follows_96 rfl (by decide) ?_
        refine g_iadd (pc' := 98) dX9_follows_97 rfl ?_
        refine g_iast (pc' := 99) (j := w) mg.s73 rfl (by omega) (by decide) dX9_follows_98 rfl ?_
        refine g_name (fun K1 hK1 => ?_)
        have hKc : Fr (fvP (4 * (t + 1) + 4)) (camI I w) K1 := by
          rw [hK1]; unfold camI
          exact upM_fr hK.1
        have hW1 : ∀ q, q < n → K1 (80, 0) (4 * (t + 1) + q) = wtMi B len I w n q := fun q hq => by
          rw [hK1, upM_n _ (by simp)]; exact hK.2.2 q hq
        have hn1 : K1 (40, 0) 6 = nI n := by rw [hK1, upM_n _ (by simp)]; exact hnK
        have h50 : ∀ k, K1 (50, 0) k = I (50, 0) k := fun k => (hKc _ _ (by simp [fvP, fwP, wgP, woP])).trans (by unfold camI; rw [upM_n _ (by simp)])
        have h69 : ∀ tt k, tt ≠ (73, 0) → ¬ fvP (4 * (t + 1) + 4) tt k → K1 tt k = I tt k := fun tt k h q => (hKc _ _ q).trans (by unfold camI; rw [upM_n _ h])
        have tl1 : TL B len lj K1 := tl.to (fun k => h69 _ _ (by simp) (by simp [fvP, fwP, wgP, woP])) (fun k => h69 _ _ (by simp) (by simp [fvP, fwP, wgP, woP]))
        have hlw1 : K1 (69, 0) w = nI lj := (h69 _ _ (by simp) (by simp [fvP, fwP, wgP, woP])).trans hlw
        have hbd1 : bdW K1 w n := fun o ho => by
          obtain ⟨q, hq, e⟩ := hbd o ho
          exact ⟨q, hq, (h50 _).trans e⟩
        refine g_ild5 (pc' := 101) dX9_follows_99 rfl ?_
        refine g_ifeq (pc' := 104) (tgt := 116) dX9_follows_101 (by decide) rfl (fun h101 => ?_) (fun h101 => ?_)
        · refine g_ald0 (pc' := 117) dX9_follows_116 rfl ?_
          refine g_ild1 (pc' := 118) dX9_follows_117 rfl ?_
          refine g_ild2 (pc' := 119) dX9_follows_118 rfl ?_
          refine g_ild3 (pc' := 120) dX9_follows_119 rfl ?_
          refine g_iconst (pc' := 121) (v := nI 1) dX9_follows_120 rfl (by decide) ?_
          refine g_isub (pc' := 122) dX9_follows_121 rfl ?_
          refine g_topi (v := nI t) (by rw [pk_sub (by omega), Nat.add_sub_cancel]) ?_
          refine g_ild4 (pc' := 124) dX9_follows_122 rfl ?_
          refine g_callV (pc' := 127) (IHt (by omega) K1 hn1 tl1 hlw1 ((h50 _).trans hno) hbd1) mg.s40 (by decide) wX9_follows lX9_275 rfl rfl (Nat.le_of_ble_eq_true rfl) (rOk (by omega) (by decide)) ⟨Nat.le_of_ble_eq_true rfl, Nat.le_of_ble_eq_true rfl⟩ dX9_follows_124 rfl (kJ (fun v0 J2 h2 => ?_))
          obtain ⟨hv0', hf2⟩ := h2
          have hv0 : v0 = odM B len n w j kd t (camI I w) := by rw [hv0', odM_fr (hKc.le (fun t i q => fvP_Q q))]
          have hF0 : Fr (fvP (4 * (t + 1) + 4)) (camI I w) J2 := hKc.tr (hf2.le (fun tt i q => fvP_le (by omega) q))
          have hW0 : ∀ q, q < n → J2 (80, 0) (4 * (t + 1) + q) = wtMi B len I w n q := fun q hq => by
            rw [hf2 _ _ (by simp [fvP, fwP, wgP, woP]; omega)]; exact hW1 q hq
          have hn2 : J2 (40, 0) 6 = nI n := ((hF0 _ _ (by simp [fvP, fwP, wgP, woP])).trans (by unfold camI; rw [upM_n _ (by simp)])).trans hn
          refine g_goto (tgt := 131) dX9_follows_127 (by decide) ?_
          refine g_lst7 (pc' := 133) rfl (by decide) dX9_follows_131 rfl ?_
          refine g_ild5 (pc' := 135) dX9_follows_133 rfl ?_
          refine g_ifle (pc' := 138) (tgt := 153) dX9_follows_135 (by decide) rfl (fun h135 => ?_) (fun h135 => (by first | exact absurd h135 (by rw [h101]; exact Int32.le_refl _) | exact absurd (by rw [h101]; exact Int32.le_refl _) h135))
          refine g_iconst (pc' := 154) (v := nI 0) dX9_follows_153 rfl (by decide) ?_
          refine g_ist9 (pc' := 156) rfl (by decide) dX9_follows_154 rfl ?_
          have hs0 := hq.1.symm.trans h101
          refine g_ild9 (pc' := 158) dX9_follows_156 rfl ?_
          refine g_ald0 (pc' := 159) dX9_follows_158 rfl ?_
          refine g_getI (pc' := 162) mg.s40 (by decide) fX9_99 hn2 dX9_follows_159 rfl ?_
          refine g_icmpgeN (pc' := 165) (by omega) (by omega) (tgt := 292) dX9_follows_162 (by decide) rfl (fun h162 => ?_) (fun h162 => ?_)
          · exact absurd h162 (by omega)
          · refine g_ild5 (pc' := 167) dX9_follows_165 rfl ?_
            refine g_ifle (pc' := 170) (tgt := 292) dX9_follows_167 (by decide) rfl (fun h167 => ?_) (fun h167 => (by first | exact absurd h167 (by rw [h101]; exact Int32.le_refl _) | exact absurd (by rw [h101]; exact Int32.le_refl _) h167))
            refine g_ald0 (pc' := 293) dX9_follows_292 rfl ?_
            refine g_getR (pc' := 296) mg.s40 (by decide) fX9_46 mg.r40_23 dX9_follows_293 rfl ?_
            refine g_ild1 (pc' := 297) dX9_follows_296 rfl ?_
            refine g_dup2 (pc' := 298) dX9_follows_297 rfl ?_
            refine g_iald (pc' := 299) (j := w) mg.s73 rfl (by omega) (by decide) ((hF0 _ _ (by simp [fvP, fwP, wgP, woP])).trans (upM_s _ _ _ _)) dX9_follows_298 rfl ?_
            refine g_iconst (pc' := 300) (v := nI 1) dX9_follows_299 rfl (by decide) ?_
            refine g_isub (pc' := 301) dX9_follows_300 rfl ?_
            refine g_topi (v := I (73, 0) w) (Int32.add_sub_cancel _ _) ?_
            refine g_iast (pc' := 302) (j := w) mg.s73 rfl (by omega) (by decide) dX9_follows_301 rfl ?_
            refine g_ild5 (pc' := 304) dX9_follows_302 rfl ?_
            refine g_ifne (pc' := 307) (tgt := 312) dX9_follows_304 (by decide) rfl (fun h304 => (by first | exact absurd h304 h101 | exact absurd h101 h304)) (fun h304 => ?_)
            refine g_lld7 (pc' := 309) dX9_follows_307 rfl ?_
            refine g_goto (tgt := 318) dX9_follows_309 (by decide) ?_
            refine g_lret rfl dX9_follows_318 ?_
            refine eJ ⟨?_, ?_⟩
            · rw [hv0, odM_z hs0]
            · intro tt ii q
              by_cases e : tt = (73, 0) ∧ ii = w
              · rw [e.1, e.2, upM_s]
              · rw [show upM _ (73, 0) w _ tt ii = _ from if_neg e, hF0 tt ii q]
                unfold camI
                exact if_neg e
        · refine g_ald0 (pc' := 105) dX9_follows_104 rfl ?_
          refine g_getR (pc' := 108) mg.s40 (by decide) fX9_9 mg.r40_0 dX9_follows_105 rfl ?_
          refine g_bipush (pc' := 110) (v := nI 12) dX9_follows_108 rfl (by decide) ?_
          refine g_ild1 (pc' := 111) dX9_follows_110 rfl ?_
          refine g_iaddN (pc' := 112) dX9_follows_111 rfl ?_
          refine g_iald (pc' := 113) (j := 12 + w) mg.s50 rfl (by omega) (by decide) (h50 _) dX9_follows_112 rfl ?_
          refine g_ifle (pc' := 116) (tgt := 130) dX9_follows_113 (by decide) rfl (fun h113 => ?_) (fun h113 => ?_)
          · refine g_lconst (pc' := 131) (v := 0) dX9_follows_130 rfl (by decide) ?_
            refine g_lst7 (pc' := 133) rfl (by decide) dX9_follows_131 rfl ?_
            have hpos0 : ¬ v ≤ 0 := fun hle => h101 (le0_nn hvQ (by omega) hle)
            refine g_ild5 (pc' := 135) dX9_follows_133 rfl ?_
            refine g_ifle (pc' := 138) (tgt := 153) dX9_follows_135 (by decide) rfl (fun h135 => (by first | exact absurd h135 hpos0 | exact absurd hpos0 h135)) (fun h135 => ?_)
            refine g_lld7 (pc' := 140) dX9_follows_138 rfl ?_
            refine g_ald0 (pc' := 141) dX9_follows_140 rfl ?_
            refine g_getR (pc' := 144) mg.s40 (by decide) fX9_9 mg.r40_0 dX9_follows_141 rfl ?_
            refine g_bipush (pc' := 146) (v := nI 12) dX9_follows_144 rfl (by decide) ?_
            refine g_ild1 (pc' := 147) dX9_follows_146 rfl ?_
            refine g_iaddN (pc' := 148) dX9_follows_147 rfl ?_
            refine g_iald (pc' := 149) (j := 12 + w) mg.s50 rfl (by omega) (by decide) (h50 _) dX9_follows_148 rfl ?_
            refine g_i2l (pc' := 150) dX9_follows_149 rfl ?_
            refine g_lmul (pc' := 151) dX9_follows_150 rfl ?_
            refine g_lst7 (pc' := 153) rfl (by decide) dX9_follows_151 rfl ?_
            refine g_iconst (pc' := 154) (v := nI 0) dX9_follows_153 rfl (by decide) ?_
            refine g_ist9 (pc' := 156) rfl (by decide) dX9_follows_154 rfl ?_
            have hQ1 : 1 ≤ Q := by
              rcases Nat.eq_zero_or_pos Q with h | h
              · exact absurd (hvQ.trans (by rw [h]; rfl)) h101
              · exact h
            have hpos : (0 : Int32) < v := by rw [hvQ]; exact (nI_ltI (a := 0) (by omega) (by omega)).mpr hQ1
            have hpos64 : ¬ v.toInt64 = 0 := pos64 (Int32.not_le.mpr hpos)
            have hF0 := hKc
            have hW0 := hW1
            refine g_loop (σ := MI × Int64) (fun i s => Fr (fvP (4 * (t + 1) + 4)) (camI I w) s.1 ∧ (∀ q, q < n → s.1 (80, 0) (4 * (t + 1) + q) = wtMi B len I w n q) ∧ s.2 = odS (wtMi B len I w n) (fun s => odM B len n w j kd t (kidI (camI I w) w s)) ((if 0 < I (50, 0) (12 + w) then odM B len n w j kd t (camI I w) else 0) * (I (50, 0) (12 + w)).toInt64) i) (fun i s => [some (.inr (.inr (some (40, 0)))), some (.inl (nI w)), some (.inl (nI j)), some (.inl (nI (t + 1))), some (.inl kd), some (.inl v), some (.inl (nI (4 * (t + 1)))), some (.inr (.inl s.2)), none, some (.inl (nI i)), none, none]) (fun i s => s.1) n 0 (K1, 0 * ((I (50, 0) (12 + w)).toInt64)) (by omega) ⟨hF0, hW0, by show _ = (if _ then _ else _) * _; rw [if_neg (Int32.not_lt.mpr h113)]⟩ ?_ ?_
            · intro i s hi hK ih
              obtain ⟨K, acc⟩ := s
              dsimp only at hK ⊢
              have hnK : K (40, 0) 6 = nI n := ((hK.1 _ _ (by simp [fvP, fwP, wgP, woP])).trans (by unfold camI; rw [upM_n _ (by simp)])).trans hn
              have hx50 : K (50, 0) (23 + 12 * w + i) = I (50, 0) (23 + 12 * w + i) := (hK.1 _ _ (by simp [fvP, fwP, wgP, woP])).trans (by unfold camI; rw [upM_n _ (by simp)])
              have hx74 : K (74, 0) w = I (74, 0) w := (hK.1 _ _ (by simp [fvP, fwP, wgP, woP])).trans (by unfold camI; rw [upM_n _ (by simp)])
              obtain ⟨qx, hqx, hxq⟩ := hbd i hi
              dsimp only at hxq
              have hmin := mi_top hqx hxq
              refine g_ild9 (pc' := 158) dX9_follows_156 rfl ?_
              refine g_ald0 (pc' := 159) dX9_follows_158 rfl ?_
              refine g_getI (pc' := 162) mg.s40 (by decide) fX9_99 hnK dX9_follows_159 rfl ?_
              refine g_icmpgeN (pc' := 165) (by omega) (by omega) (tgt := 292) dX9_follows_162 (by decide) rfl (fun h162 => ?_) (fun h162 => ?_)
              · exact absurd h162 (by omega)
              · refine g_ild5 (pc' := 167) dX9_follows_165 rfl ?_
                refine g_ifle (pc' := 170) (tgt := 292) dX9_follows_167 (by decide) rfl (fun h167 => (by first | exact absurd h167 (Int32.not_le.mpr hpos) | exact absurd (Int32.not_le.mpr hpos) h167)) (fun h167 => ?_)
                refine g_ald0 (pc' := 171) dX9_follows_170 rfl ?_
                refine g_getR (pc' := 174) mg.s40 (by decide) fX9_58 mg.r40_30 dX9_follows_171 rfl ?_
                refine g_ild6 (pc' := 176) dX9_follows_174 rfl ?_
                refine g_ild9 (pc' := 178) dX9_follows_176 rfl ?_
                refine g_iaddN (pc' := 179) dX9_follows_178 rfl ?_
                refine g_iald (pc' := 180) (j := (4 * (t + 1)) + i) mg.s80 rfl (by omega) (by decide) (v := wtMi B len I w n i) (hK.2.1 i hi) dX9_follows_179 rfl ?_
                refine g_ifne (pc' := 183) (tgt := 186) dX9_follows_180 (by decide) rfl (fun h180 => ?_) (fun h180 => ?_)
                · refine g_bipush (pc' := 188) (v := nI 23) dX9_follows_186 rfl (by decide) ?_
                  refine g_bipush (pc' := 190) (v := nI 12) dX9_follows_188 rfl (by decide) ?_
                  refine g_ild1 (pc' := 191) dX9_follows_190 rfl ?_
                  refine g_imulN (pc' := 192) dX9_follows_191 rfl ?_
                  refine g_iaddN (pc' := 193) dX9_follows_192 rfl ?_
                  refine g_ild9 (pc' := 195) dX9_follows_193 rfl ?_
                  refine g_iaddN (pc' := 196) dX9_follows_195 rfl ?_
                  refine g_ist10 (pc' := 198) rfl (by decide) dX9_follows_196 rfl ?_
                  refine g_ald0 (pc' := 199) dX9_follows_198 rfl ?_
                  refine g_getR (pc' := 202) mg.s40 (by decide) fX9_9 mg.r40_0 dX9_follows_199 rfl ?_
                  refine g_ild10 (pc' := 204) dX9_follows_202 rfl ?_
                  refine g_iald (pc' := 205) (j := 23 + 12 * w + i) mg.s50 rfl (by omega) (by decide) (v := I (50, 0) (23 + 12 * w + i)) (hx50) dX9_follows_204 rfl ?_
                  refine g_ist11 (pc' := 207) rfl (by decide) dX9_follows_205 rfl ?_
                  refine g_ald0 (pc' := 208) dX9_follows_207 rfl ?_
                  refine g_getR (pc' := 211) mg.s40 (by decide) fX9_9 mg.r40_0 dX9_follows_208 rfl ?_
                  refine g_ild10 (pc' := 213) dX9_follows_211 rfl ?_
                  refine g_dup2 (pc' := 214) dX9_follows_213 rfl ?_
                  refine g_iald (pc' := 215) (j := 23 + 12 * w + i) mg.s50 rfl (by omega) (by decide) (v := I (50, 0) (23 + 12 * w + i)) (hx50) dX9_follows_214 rfl ?_
                  refine g_ild11 (pc' := 217) dX9_follows_215 rfl ?_
                  refine g_ldc (pc' := 219) dX9_follows_217 rfl kX9_222 ?_
                  refine g_icmpge (pc' := 222) (tgt := 226) dX9_follows_219 (by decide) rfl (fun h219 => ?_) (fun h219 => ?_)
                  · refine g_iconst (pc' := 227) (v := nI 0) dX9_follows_226 rfl (by decide) ?_
                    refine g_iadd (pc' := 228) dX9_follows_227 rfl ?_
                    refine g_topi (v := minI (I (50, 0) (23 + 12 * w + i) + nI 1) 99999) (by first | exact hmin.1 h219 | exact hmin.2 (Int32.not_lt.mp h219) | exact hmin.2 h219 | exact hmin.1 (Int32.not_le.mp h219)) ?_
                    refine g_iast (pc' := 229) (j := 23 + 12 * w + i) mg.s50 rfl (by omega) (by decide) dX9_follows_228 rfl ?_
                    refine g_ald0 (pc' := 230) dX9_follows_229 rfl ?_
                    refine g_getR (pc' := 233) mg.s40 (by decide) fX9_49 mg.r40_24 dX9_follows_230 rfl ?_
                    refine g_ild1 (pc' := 234) dX9_follows_233 rfl ?_
                    refine g_dup2 (pc' := 235) dX9_follows_234 rfl ?_
                    refine g_iald (pc' := 236) (j := w) mg.s74 rfl (by omega) (by decide) (v := I (74, 0) w) (by simp [upM, hx74]) dX9_follows_235 rfl ?_
                    refine g_iconst (pc' := 237) (v := nI 1) dX9_follows_236 rfl (by decide) ?_
                    refine g_iadd (pc' := 238) dX9_follows_237 rfl ?_
                    refine g_iast (pc' := 239) (j := w) mg.s74 rfl (by omega) (by decide) dX9_follows_238 rfl ?_
                    obtain ⟨K2, hK2⟩ : ∃ K2 : MI, K2 = upM (upM K (50, 0) (23 + 12 * w + i) (minI (I (50, 0) (23 + 12 * w + i) + nI 1) 99999)) (74, 0) w (I (74, 0) w + nI 1) := ⟨_, rfl⟩
                    have hKK : Fr fvQ (kidI (camI I w) w i) K2 := by
                      have e : K2 = kidI K w i := by rw [hK2]; unfold kidI; rw [hx50, hx74]
                      rw [e]
                      exact kidI_fr (hK.1.le (fun t i q => fvP_Q q))
                    have hnk : K2 (40, 0) 6 = nI n := by rw [hK2, upM_n _ (by simp), upM_n _ (by simp)]; exact hnK
                    have hgk : ∀ tt ii, tt ≠ (74, 0) → tt ≠ (50, 0) → K2 tt ii = K tt ii := fun tt ii a b => by rw [hK2, upM_n _ a, upM_n _ b]
                    have hgI : ∀ tt ii, tt ≠ (74, 0) → tt ≠ (50, 0) → tt ≠ (73, 0) → ¬ fvP (4 * (t + 1) + 4) tt ii → K2 tt ii = I tt ii := fun tt ii a b d q => (hgk tt ii a b).trans ((hK.1 tt ii q).trans (by unfold camI; rw [upM_n _ d]))
                    have tlk : TL B len lj K2 := tl.to (fun k => hgI _ _ (by simp) (by simp) (by simp) (by simp [fvP, fwP, wgP, woP])) (fun k => hgI _ _ (by simp) (by simp) (by simp) (by simp [fvP, fwP, wgP, woP]))
                    have hlwk : K2 (69, 0) w = nI lj := (hgI _ _ (by simp) (by simp) (by simp) (by simp [fvP, fwP, wgP, woP])).trans hlw
                    have hnok : K2 (50, 0) (12 + w) = nI no := by
                      rw [hK2, upM_n _ (by simp), upM_k _ _ (by omega)]
                      exact ((hK.1 _ _ (by simp [fvP, fwP, wgP, woP])).trans (by unfold camI; rw [upM_n _ (by simp)])).trans hno
                    have hbdk : bdW K2 w n := by
                      have hb1 : bdW (camI I w) w n := fun o ho => by
                        obtain ⟨q, hq, e⟩ := hbd o ho
                        exact ⟨q, hq, by unfold camI; rw [upM_n _ (by simp)]; exact e⟩
                      intro o ho
                      obtain ⟨q, hq, e⟩ := kid_bd hb1 hi o ho
                      exact ⟨q, hq, (hKK _ _ (by simp [fvQ, fwP, wgP, woP])).trans e⟩
                    have hWk : K2 (80, 0) (4 * (t + 1) + i) = wtMi B len I w n i := (hgk _ _ (by simp) (by simp)).trans (hK.2.1 i hi)
                    rw [← hK2]
                    refine g_lld7 (pc' := 241) dX9_follows_239 rfl ?_
                    refine g_ald0 (pc' := 242) dX9_follows_241 rfl ?_
                    refine g_getR (pc' := 245) mg.s40 (by decide) fX9_58 mg.r40_30 dX9_follows_242 rfl ?_
                    refine g_ild6 (pc' := 247) dX9_follows_245 rfl ?_
                    refine g_ild9 (pc' := 249) dX9_follows_247 rfl ?_
                    refine g_iaddN (pc' := 250) dX9_follows_249 rfl ?_
                    refine g_iald (pc' := 251) (j := (4 * (t + 1)) + i) mg.s80 rfl (by omega) (by decide) (v := wtMi B len I w n i) (hWk) dX9_follows_250 rfl ?_
                    refine g_i2l (pc' := 252) dX9_follows_251 rfl ?_
                    refine g_ald0 (pc' := 253) dX9_follows_252 rfl ?_
                    refine g_ild1 (pc' := 254) dX9_follows_253 rfl ?_
                    refine g_ild2 (pc' := 255) dX9_follows_254 rfl ?_
                    refine g_ild3 (pc' := 256) dX9_follows_255 rfl ?_
                    refine g_iconst (pc' := 257) (v := nI 1) dX9_follows_256 rfl (by decide) ?_
                    refine g_isub (pc' := 258) dX9_follows_257 rfl ?_
                    refine g_topi (v := nI t) (by rw [pk_sub (by omega), Nat.add_sub_cancel]) ?_
                    refine g_ild4 (pc' := 260) dX9_follows_258 rfl ?_
                    refine g_callV (pc' := 263) (IHt (by omega) _ hnk tlk hlwk hnok hbdk) mg.s40 (by decide) wX9_follows lX9_275 rfl rfl (Nat.le_of_ble_eq_true rfl) (rOk (by omega) (by decide)) ⟨Nat.le_of_ble_eq_true rfl, Nat.le_of_ble_eq_true rfl⟩ dX9_follows_260 rfl (kJ (fun vk J3 hk => ?_))
                    obtain ⟨hvk, hfk⟩ := hk
                    refine g_lmul (pc' := 264) dX9_follows_263 rfl ?_
                    refine g_ladd (pc' := 265) dX9_follows_264 rfl ?_
                    refine g_lst7 (pc' := 267) rfl (by decide) dX9_follows_265 rfl ?_
                    refine g_ald0 (pc' := 268) dX9_follows_267 rfl ?_
                    refine g_getR (pc' := 271) mg.s40 (by decide) fX9_49 mg.r40_24 dX9_follows_268 rfl ?_
                    refine g_ild1 (pc' := 272) dX9_follows_271 rfl ?_
                    refine g_dup2 (pc' := 273) dX9_follows_272 rfl ?_
                    refine g_iald (pc' := 274) (j := w) mg.s74 rfl (by omega) (by decide) (v := I (74, 0) w + nI 1) (by rw [hfk (74, 0) w (by simp [fvP, fwP, wgP, woP]), hK2]; exact upM_s _ _ _ _) dX9_follows_273 rfl ?_
                    refine g_iconst (pc' := 275) (v := nI 1) dX9_follows_274 rfl (by decide) ?_
                    refine g_isub (pc' := 276) dX9_follows_275 rfl ?_
                    refine g_topi (v := I (74, 0) w) (Int32.add_sub_cancel _ _) ?_
                    refine g_iast (pc' := 277) (j := w) mg.s74 rfl (by omega) (by decide) dX9_follows_276 rfl ?_
                    refine g_ald0 (pc' := 278) dX9_follows_277 rfl ?_
                    refine g_getR (pc' := 281) mg.s40 (by decide) fX9_9 mg.r40_0 dX9_follows_278 rfl ?_
                    refine g_ild10 (pc' := 283) dX9_follows_281 rfl ?_
                    refine g_ild11 (pc' := 285) dX9_follows_283 rfl ?_
                    refine g_iast (pc' := 286) (j := 23 + 12 * w + i) mg.s50 rfl (by omega) (by decide) dX9_follows_285 rfl ?_
                    refine g_inc9 (pc' := 289) rfl (by decide) (v := nI (i + 1)) (nI_1 _) dX9_follows_286 rfl ?_
                    refine g_goto (tgt := 156) dX9_follows_289 (by decide) ?_
                    refine G.lsub [some (.inr (.inr (some (40, 0)))), some (.inl (nI w)), some (.inl (nI j)), some (.inl (nI (t + 1))), some (.inl kd), some (.inl v), some (.inl (nI (4 * (t + 1)))), some (.inr (.inl (acc + (wtMi B len I w n i).toInt64 * vk))), none, some (.inl (nI (i + 1))), none, none] (by intro j v; rcases j with _ | _ | _ | _ | _ | _ | _ | _ | _ | _ | _ | _ | j <;> simp) ?_
                    refine ih (upM (upM J3 (74, 0) w (I (74, 0) w)) (50, 0) (23 + 12 * w + i) (I (50, 0) (23 + 12 * w + i)), acc + (wtMi B len I w n i).toInt64 * vk) ⟨?_, fun s hs => ?_, ?_⟩
                    · intro tt ii q
                      dsimp only
                      by_cases e : tt = (50, 0) ∧ ii = 23 + 12 * w + i
                      · rw [e.1, e.2, upM_s]
                        unfold camI
                        rw [upM_n _ (by simp)]
                      · by_cases e2 : tt = (74, 0) ∧ ii = w
                        · rw [e2.1, e2.2, upM_n _ (by simp), upM_s]
                          unfold camI
                          rw [upM_n _ (by simp)]
                        · rw [show upM _ (50, 0) (23 + 12 * w + i) _ tt ii = _ from if_neg e, show upM _ (74, 0) w _ tt ii = _ from if_neg e2]
                          rw [hfk tt ii (fun q2 => q (fvP_le (by omega) q2)), hK2]
                          rw [show upM _ (74, 0) w _ tt ii = _ from if_neg e2, show upM _ (50, 0) (23 + 12 * w + i) _ tt ii = _ from if_neg e]
                          exact hK.1 tt ii q
                    · dsimp only
                      rw [upM_n _ (by simp), upM_n _ (by simp), hfk _ _ (by simp [fvP, fwP, wgP, woP]; omega), hgk _ _ (by simp) (by simp)]
                      exact hK.2.1 s hs
                    · dsimp only
                      rw [hK.2.2, hvk, odM_fr hKK]
                      show _ = (if _ then _ else _)
                      rw [if_neg h180]
                  · refine g_iconst (pc' := 223) (v := nI 1) dX9_follows_222 rfl (by decide) ?_
                    refine g_goto (tgt := 227) dX9_follows_223 (by decide) ?_
                    refine g_iadd (pc' := 228) dX9_follows_227 rfl ?_
                    refine g_topi (v := minI (I (50, 0) (23 + 12 * w + i) + nI 1) 99999) (by first | exact hmin.1 h219 | exact hmin.2 (Int32.not_lt.mp h219) | exact hmin.2 h219 | exact hmin.1 (Int32.not_le.mp h219)) ?_
                    refine g_iast (pc' := 229) (j := 23 + 12 * w + i) mg.s50 rfl (by omega) (by decide) dX9_follows_228 rfl ?_
                    refine g_ald0 (pc' := 230) dX9_follows_229 rfl ?_
                    refine g_getR (pc' := 233) mg.s40 (by decide) fX9_49 mg.r40_24 dX9_follows_230 rfl ?_
                    refine g_ild1 (pc' := 234) dX9_follows_233 rfl ?_
                    refine g_dup2 (pc' := 235) dX9_follows_234 rfl ?_
                    refine g_iald (pc' := 236) (j := w) mg.s74 rfl (by omega) (by decide) (v := I (74, 0) w) (by simp [upM, hx74]) dX9_follows_235 rfl ?_
                    refine g_iconst (pc' := 237) (v := nI 1) dX9_follows_236 rfl (by decide) ?_
                    refine g_iadd (pc' := 238) dX9_follows_237 rfl ?_
                    refine g_iast (pc' := 239) (j := w) mg.s74 rfl (by omega) (by decide) dX9_follows_238 rfl ?_
                    obtain ⟨K2, hK2⟩ : ∃ K2 : MI, K2 = upM (upM K (50, 0) (23 + 12 * w + i) (minI (I (50, 0) (23 + 12 * w + i) + nI 1) 99999)) (74, 0) w (I (74, 0) w + nI 1) := ⟨_, rfl⟩
                    have hKK : Fr fvQ (kidI (camI I w) w i) K2 := by
                      have e : K2 = kidI K w i := by rw [hK2]; unfold kidI; rw [hx50, hx74]
                      rw [e]
                      exact kidI_fr (hK.1.le (fun t i q => fvP_Q q))
                    have hnk : K2 (40, 0) 6 = nI n := by rw [hK2, upM_n _ (by simp), upM_n _ (by simp)]; exact hnK
                    have hgk : ∀ tt ii, tt ≠ (74, 0) → tt ≠ (50, 0) → K2 tt ii = K tt ii := fun tt ii a b => by rw [hK2, upM_n _ a, upM_n _ b]
                    have hgI : ∀ tt ii, tt ≠ (74, 0) → tt ≠ (50, 0) → tt ≠ (73, 0) → ¬ fvP (4 * (t + 1) + 4) tt ii → K2 tt ii = I tt ii := fun tt ii a b d q => (hgk tt ii a b).trans ((hK.1 tt ii q).trans (by unfold camI; rw [upM_n _ d]))
                    have tlk : TL B len lj K2 := tl.to (fun k => hgI _ _ (by simp) (by simp) (by simp) (by simp [fvP, fwP, wgP, woP])) (fun k => hgI _ _ (by simp) (by simp) (by simp) (by simp [fvP, fwP, wgP, woP]))
                    have hlwk : K2 (69, 0) w = nI lj := (hgI _ _ (by simp) (by simp) (by simp) (by simp [fvP, fwP, wgP, woP])).trans hlw
                    have hnok : K2 (50, 0) (12 + w) = nI no := by
                      rw [hK2, upM_n _ (by simp), upM_k _ _ (by omega)]
                      exact ((hK.1 _ _ (by simp [fvP, fwP, wgP, woP])).trans (by unfold camI; rw [upM_n _ (by simp)])).trans hno
                    have hbdk : bdW K2 w n := by
                      have hb1 : bdW (camI I w) w n := fun o ho => by
                        obtain ⟨q, hq, e⟩ := hbd o ho
                        exact ⟨q, hq, by unfold camI; rw [upM_n _ (by simp)]; exact e⟩
                      intro o ho
                      obtain ⟨q, hq, e⟩ := kid_bd hb1 hi o ho
                      exact ⟨q, hq, (hKK _ _ (by simp [fvQ, fwP, wgP, woP])).trans e⟩
                    have hWk : K2 (80, 0) (4 * (t + 1) + i) = wtMi B len I w n i := (hgk _ _ (by simp) (by simp)).trans (hK.2.1 i hi)
                    rw [← hK2]
                    refine g_lld7 (pc' := 241) dX9_follows_239 rfl ?_
                    refine g_ald0 (pc' := 242) dX9_follows_241 rfl ?_
                    refine g_getR (pc' := 245) mg.s40 (by decide) fX9_58 mg.r40_30 dX9_follows_242 rfl ?_
                    refine g_ild6 (pc' := 247) dX9_follows_245 rfl ?_
                    refine g_ild9 (pc' := 249) dX9_follows_247 rfl ?_
                    refine g_iaddN (pc' := 250) dX9_follows_249 rfl ?_
                    refine g_iald (pc' := 251) (j := (4 * (t + 1)) + i) mg.s80 rfl (by omega) (by decide) (v := wtMi B len I w n i) (hWk) dX9_follows_250 rfl ?_
                    refine g_i2l (pc' := 252) dX9_follows_251 rfl ?_
                    refine g_ald0 (pc' := 253) dX9_follows_252 rfl ?_
                    refine g_ild1 (pc' := 254) dX9_follows_253 rfl ?_
                    refine g_ild2 (pc' := 255) dX9_follows_254 rfl ?_
                    refine g_ild3 (pc' := 256) dX9_follows_255 rfl ?_
                    refine g_iconst (pc' := 257) (v := nI 1) dX9_follows_256 rfl (by decide) ?_
                    refine g_isub (pc' := 258) dX9_follows_257 rfl ?_
                    refine g_topi (v := nI t) (by rw [pk_sub (by omega), Nat.add_sub_cancel]) ?_
                    refine g_ild4 (pc' := 260) dX9_follows_258 rfl ?_
                    refine g_callV (pc' := 263) (IHt (by omega) _ hnk tlk hlwk hnok hbdk) mg.s40 (by decide) wX9_follows lX9_275 rfl rfl (Nat.le_of_ble_eq_true rfl) (rOk (by omega) (by decide)) ⟨Nat.le_of_ble_eq_true rfl, Nat.le_of_ble_eq_true rfl⟩ dX9_follows_260 rfl (kJ (fun vk J3 hk => ?_))
                    obtain ⟨hvk, hfk⟩ := hk
                    refine g_lmul (pc' := 264) dX9_follows_263 rfl ?_
                    refine g_ladd (pc' := 265) dX9_follows_264 rfl ?_
                    refine g_lst7 (pc' := 267) rfl (by decide) dX9_follows_265 rfl ?_
                    refine g_ald0 (pc' := 268) dX9_follows_267 rfl ?_
                    refine g_getR (pc' := 271) mg.s40 (by decide) fX9_49 mg.r40_24 dX9_follows_268 rfl ?_
                    refine g_ild1 (pc' := 272) dX9_follows_271 rfl ?_
                    refine g_dup2 (pc' := 273) dX9_follows_272 rfl ?_
                    refine g_iald (pc' := 274) (j := w) mg.s74 rfl (by omega) (by decide) (v := I (74, 0) w + nI 1) (by rw [hfk (74, 0) w (by simp [fvP, fwP, wgP, woP]), hK2]; exact upM_s _ _ _ _) dX9_follows_273 rfl ?_
                    refine g_iconst (pc' := 275) (v := nI 1) dX9_follows_274 rfl (by decide) ?_
                    refine g_isub (pc' := 276) dX9_follows_275 rfl ?_
                    refine g_topi (v := I (74, 0) w) (Int32.add_sub_cancel _ _) ?_
                    refine g_iast (pc' := 277) (j := w) mg.s74 rfl (by omega) (by decide) dX9_follows_276 rfl ?_
                    refine g_ald0 (pc' := 278) dX9_follows_277 rfl ?_
                    refine g_getR (pc' := 281) mg.s40 (by decide) fX9_9 mg.r40_0 dX9_follows_278 rfl ?_
                    refine g_ild10 (pc' := 283) dX9_follows_281 rfl ?_
                    refine g_ild11 (pc' := 285) dX9_follows_283 rfl ?_
                    refine g_iast (pc' := 286) (j := 23 + 12 * w + i) mg.s50 rfl (by omega) (by decide) dX9_follows_285 rfl ?_
                    refine g_inc9 (pc' := 289) rfl (by decide) (v := nI (i + 1)) (nI_1 _) dX9_follows_286 rfl ?_
                    refine g_goto (tgt := 156) dX9_follows_289 (by decide) ?_
                    refine G.lsub [some (.inr (.inr (some (40, 0)))), some (.inl (nI w)), some (.inl (nI j)), some (.inl (nI (t + 1))), some (.inl kd), some (.inl v), some (.inl (nI (4 * (t + 1)))), some (.inr (.inl (acc + (wtMi B len I w n i).toInt64 * vk))), none, some (.inl (nI (i + 1))), none, none] (by intro j v; rcases j with _ | _ | _ | _ | _ | _ | _ | _ | _ | _ | _ | _ | j <;> simp) ?_
                    refine ih (upM (upM J3 (74, 0) w (I (74, 0) w)) (50, 0) (23 + 12 * w + i) (I (50, 0) (23 + 12 * w + i)), acc + (wtMi B len I w n i).toInt64 * vk) ⟨?_, fun s hs => ?_, ?_⟩
                    · intro tt ii q
                      dsimp only
                      by_cases e : tt = (50, 0) ∧ ii = 23 + 12 * w + i
                      · rw [e.1, e.2, upM_s]
                        unfold camI
                        rw [upM_n _ (by simp)]
                      · by_cases e2 : tt = (74, 0) ∧ ii = w
                        · rw [e2.1, e2.2, upM_n _ (by simp), upM_s]
                          unfold camI
                          rw [upM_n _ (by simp)]
                        · rw [show upM _ (50, 0) (23 + 12 * w + i) _ tt ii = _ from if_neg e, show upM _ (74, 0) w _ tt ii = _ from if_neg e2]
                          rw [hfk tt ii (fun q2 => q (fvP_le (by omega) q2)), hK2]
                          rw [show upM _ (74, 0) w _ tt ii = _ from if_neg e2, show upM _ (50, 0) (23 + 12 * w + i) _ tt ii = _ from if_neg e]
                          exact hK.1 tt ii q
                    · dsimp only
                      rw [upM_n _ (by simp), upM_n _ (by simp), hfk _ _ (by simp [fvP, fwP, wgP, woP]; omega), hgk _ _ (by simp) (by simp)]
                      exact hK.2.1 s hs
                    · dsimp only
                      rw [hK.2.2, hvk, odM_fr hKK]
                      show _ = (if _ then _ else _)
                      rw [if_neg h180]
                · refine g_goto (tgt := 286) dX9_follows_183 (by decide) ?_
                  refine g_inc9 (pc' := 289) rfl (by decide) (v := nI (i + 1)) (nI_1 _) dX9_follows_286 rfl ?_
                  refine g_goto (tgt := 156) dX9_follows_289 (by decide) ?_
                  refine ih (K, acc) ⟨hK.1, hK.2.1, ?_⟩
                  rw [hK.2.2]
                  show _ = (if _ then _ else _)
                  rw [if_pos h180]
            · intro s hK
              obtain ⟨K, acc⟩ := s
              dsimp only at hK ⊢
              have hnK : K (40, 0) 6 = nI n := ((hK.1 _ _ (by simp [fvP, fwP, wgP, woP])).trans (by unfold camI; rw [upM_n _ (by simp)])).trans hn
              refine g_ild9 (pc' := 158) dX9_follows_156 rfl ?_
              refine g_ald0 (pc' := 159) dX9_follows_158 rfl ?_
              refine g_getI (pc' := 162) mg.s40 (by decide) fX9_99 hnK dX9_follows_159 rfl ?_
              refine g_icmpgeN (pc' := 165) (by omega) (by omega) (tgt := 292) dX9_follows_162 (by decide) rfl (fun h162 => ?_) (fun h162 => ?_)
              · refine g_ald0 (pc' := 293) dX9_follows_292 rfl ?_
                refine g_getR (pc' := 296) mg.s40 (by decide) fX9_46 mg.r40_23 dX9_follows_293 rfl ?_
                refine g_ild1 (pc' := 297) dX9_follows_296 rfl ?_
                refine g_dup2 (pc' := 298) dX9_follows_297 rfl ?_
                refine g_iald (pc' := 299) (j := w) mg.s73 rfl (by omega) (by decide) (v := I (73, 0) w + nI 1) ((hK.1 _ _ (by simp [fvP, fwP, wgP, woP])).trans (upM_s _ _ _ _)) dX9_follows_298 rfl ?_
                refine g_iconst (pc' := 300) (v := nI 1) dX9_follows_299 rfl (by decide) ?_
                refine g_isub (pc' := 301) dX9_follows_300 rfl ?_
                refine g_topi (v := I (73, 0) w) (Int32.add_sub_cancel _ _) ?_
                refine g_iast (pc' := 302) (j := w) mg.s73 rfl (by omega) (by decide) dX9_follows_301 rfl ?_
                refine g_ild5 (pc' := 304) dX9_follows_302 rfl ?_
                refine g_ifne (pc' := 307) (tgt := 312) dX9_follows_304 (by decide) rfl (fun h304 => ?_) (fun h304 => (by first | exact absurd h304 (fun e => h101 e) | exact absurd (fun e => h101 e) h304))
                refine g_lld7 (pc' := 314) dX9_follows_312 rfl ?_
                refine g_ild5 (pc' := 316) dX9_follows_314 rfl ?_
                refine g_i2l (pc' := 317) dX9_follows_316 rfl ?_
                refine g_ldiv (pc' := 318) dX9_follows_317 rfl hpos64 ?_
                refine g_lret rfl dX9_follows_318 ?_
                refine eJ ⟨?_, ?_⟩
                · rw [hK.2.2, odM_n (by rw [← hq.1]; exact h101), ← hq.1]
                · intro tt ii q
                  by_cases e : tt = (73, 0) ∧ ii = w
                  · rw [e.1, e.2, upM_s]
                  · rw [show upM _ (73, 0) w _ tt ii = _ from if_neg e, hK.1 tt ii q]
                    unfold camI
                    exact if_neg e
              · exact absurd h162 (by omega)
          · refine g_ald0 (pc' := 117) dX9_follows_116 rfl ?_
            refine g_ild1 (pc' := 118) dX9_follows_117 rfl ?_
            refine g_ild2 (pc' := 119) dX9_follows_118 rfl ?_
            refine g_ild3 (pc' := 120) dX9_follows_119 rfl ?_
            refine g_iconst (pc' := 121) (v := nI 1) dX9_follows_120 rfl (by decide) ?_
            refine g_isub (pc' := 122) dX9_follows_121 rfl ?_
            refine g_topi (v := nI t) (by rw [pk_sub (by omega), Nat.add_sub_cancel]) ?_
            refine g_ild4 (pc' := 124) dX9_follows_122 rfl ?_
            refine g_callV (pc' := 127) (IHt (by omega) K1 hn1 tl1 hlw1 ((h50 _).trans hno) hbd1) mg.s40 (by decide) wX9_follows lX9_275 rfl rfl (Nat.le_of_ble_eq_true rfl) (rOk (by omega) (by decide)) ⟨Nat.le_of_ble_eq_true rfl, Nat.le_of_ble_eq_true rfl⟩ dX9_follows_124 rfl (kJ (fun v0 J2 h2 => ?_))
            obtain ⟨hv0', hf2⟩ := h2
            have hv0 : v0 = odM B len n w j kd t (camI I w) := by rw [hv0', odM_fr (hKc.le (fun t i q => fvP_Q q))]
            have hF0 : Fr (fvP (4 * (t + 1) + 4)) (camI I w) J2 := hKc.tr (hf2.le (fun tt i q => fvP_le (by omega) q))
            have hW0 : ∀ q, q < n → J2 (80, 0) (4 * (t + 1) + q) = wtMi B len I w n q := fun q hq => by
              rw [hf2 _ _ (by simp [fvP, fwP, wgP, woP]; omega)]; exact hW1 q hq
            have hn2 : J2 (40, 0) 6 = nI n := ((hF0 _ _ (by simp [fvP, fwP, wgP, woP])).trans (by unfold camI; rw [upM_n _ (by simp)])).trans hn
            refine g_goto (tgt := 131) dX9_follows_127 (by decide) ?_
            refine g_lst7 (pc' := 133) rfl (by decide) dX9_follows_131 rfl ?_
            have hpos0 : ¬ v ≤ 0 := fun hle => h101 (le0_nn hvQ (by omega) hle)
            refine g_ild5 (pc' := 135) dX9_follows_133 rfl ?_
            refine g_ifle (pc' := 138) (tgt := 153) dX9_follows_135 (by decide) rfl (fun h135 => (by first | exact absurd h135 hpos0 | exact absurd hpos0 h135)) (fun h135 => ?_)
            refine g_lld7 (pc' := 140) dX9_follows_138 rfl ?_
            refine g_ald0 (pc' := 141) dX9_follows_140 rfl ?_
            refine g_getR (pc' := 144) mg.s40 (by decide) fX9_9 mg.r40_0 dX9_follows_141 rfl ?_
            refine g_bipush (pc' := 146) (v := nI 12) dX9_follows_144 rfl (by decide) ?_
            refine g_ild1 (pc' := 147) dX9_follows_146 rfl ?_
            refine g_iaddN (pc' := 148) dX9_follows_147 rfl ?_
            refine g_iald (pc' := 149) (j := 12 + w) mg.s50 rfl (by omega) (by decide) ((hF0 _ _ (by simp [fvP, fwP, wgP, woP])).trans (by unfold camI; rw [upM_n _ (by simp)])) dX9_follows_148 rfl ?_
            refine g_i2l (pc' := 150) dX9_follows_149 rfl ?_
            refine g_lmul (pc' := 151) dX9_follows_150 rfl ?_
            refine g_lst7 (pc' := 153) rfl (by decide) dX9_follows_151 rfl ?_
            refine g_iconst (pc' := 154) (v := nI 0) dX9_follows_153 rfl (by decide) ?_
            refine g_ist9 (pc' := 156) rfl (by decide) dX9_follows_154 rfl ?_
            have hQ1 : 1 ≤ Q := by
              rcases Nat.eq_zero_or_pos Q with h | h
              · exact absurd (hvQ.trans (by rw [h]; rfl)) h101
              · exact h
            have hpos : (0 : Int32) < v := by rw [hvQ]; exact (nI_ltI (a := 0) (by omega) (by omega)).mpr hQ1
            have hpos64 : ¬ v.toInt64 = 0 := pos64 (Int32.not_le.mpr hpos)
            refine g_loop (σ := MI × Int64) (fun i s => Fr (fvP (4 * (t + 1) + 4)) (camI I w) s.1 ∧ (∀ q, q < n → s.1 (80, 0) (4 * (t + 1) + q) = wtMi B len I w n q) ∧ s.2 = odS (wtMi B len I w n) (fun s => odM B len n w j kd t (kidI (camI I w) w s)) ((if 0 < I (50, 0) (12 + w) then odM B len n w j kd t (camI I w) else 0) * (I (50, 0) (12 + w)).toInt64) i) (fun i s => [some (.inr (.inr (some (40, 0)))), some (.inl (nI w)), some (.inl (nI j)), some (.inl (nI (t + 1))), some (.inl kd), some (.inl v), some (.inl (nI (4 * (t + 1)))), some (.inr (.inl s.2)), none, some (.inl (nI i)), none, none]) (fun i s => s.1) n 0 (J2, v0 * ((I (50, 0) (12 + w)).toInt64)) (by omega) ⟨hF0, hW0, by show _ = (if _ then _ else _) * _; rw [if_pos (Int32.not_le.mp h113), hv0]⟩ ?_ ?_
            · intro i s hi hK ih
              obtain ⟨K, acc⟩ := s
              dsimp only at hK ⊢
              have hnK : K (40, 0) 6 = nI n := ((hK.1 _ _ (by simp [fvP, fwP, wgP, woP])).trans (by unfold camI; rw [upM_n _ (by simp)])).trans hn
              have hx50 : K (50, 0) (23 + 12 * w + i) = I (50, 0) (23 + 12 * w + i) := (hK.1 _ _ (by simp [fvP, fwP, wgP, woP])).trans (by unfold camI; rw [upM_n _ (by simp)])
              have hx74 : K (74, 0) w = I (74, 0) w := (hK.1 _ _ (by simp [fvP, fwP, wgP, woP])).trans (by unfold camI; rw [upM_n _ (by simp)])
              obtain ⟨qx, hqx, hxq⟩ := hbd i hi
              dsimp only at hxq
              have hmin := mi_top hqx hxq
              refine g_ild9 (pc' := 158) dX9_follows_156 rfl ?_
              refine g_ald0 (pc' := 159) dX9_follows_158 rfl ?_
              refine g_getI (pc' := 162) mg.s40 (by decide) fX9_99 hnK dX9_follows_159 rfl ?_
              refine g_icmpgeN (pc' := 165) (by omega) (by omega) (tgt := 292) dX9_follows_162 (by decide) rfl (fun h162 => ?_) (fun h162 => ?_)
              · exact absurd h162 (by omega)
              · refine g_ild5 (pc' := 167) dX9_follows_165 rfl ?_
                refine g_ifle (pc' := 170) (tgt := 292) dX9_follows_167 (by decide) rfl (fun h167 => (by first | exact absurd h167 (Int32.not_le.mpr hpos) | exact absurd (Int32.not_le.mpr hpos) h167)) (fun h167 => ?_)
                refine g_ald0 (pc' := 171) dX9_follows_170 rfl ?_
                refine g_getR (pc' := 174) mg.s40 (by decide) fX9_58 mg.r40_30 dX9_follows_171 rfl ?_
                refine g_ild6 (pc' := 176) dX9_follows_174 rfl ?_
                refine g_ild9 (pc' := 178) dX9_follows_176 rfl ?_
                refine g_iaddN (pc' := 179) dX9_follows_178 rfl ?_
                refine g_iald (pc' := 180) (j := (4 * (t + 1)) + i) mg.s80 rfl (by omega) (by decide) (v := wtMi B len I w n i) (hK.2.1 i hi) dX9_follows_179 rfl ?_
                refine g_ifne (pc' := 183) (tgt := 186) dX9_follows_180 (by decide) rfl (fun h180 => ?_) (fun h180 => ?_)
                · refine g_bipush (pc' := 188) (v := nI 23) dX9_follows_186 rfl (by decide) ?_
                  refine g_bipush (pc' := 190) (v := nI 12) dX9_follows_188 rfl (by decide) ?_
                  refine g_ild1 (pc' := 191) dX9_follows_190 rfl ?_
                  refine g_imulN (pc' := 192) dX9_follows_191 rfl ?_
                  refine g_iaddN (pc' := 193) dX9_follows_192 rfl ?_
                  refine g_ild9 (pc' := 195) dX9_follows_193 rfl ?_
                  refine g_iaddN (pc' := 196) dX9_follows_195 rfl ?_
                  refine g_ist10 (pc' := 198) rfl (by decide) dX9_follows_196 rfl ?_
                  refine g_ald0 (pc' := 199) dX9_follows_198 rfl ?_
                  refine g_getR (pc' := 202) mg.s40 (by decide) fX9_9 mg.r40_0 dX9_follows_199 rfl ?_
                  refine g_ild10 (pc' := 204) dX9_follows_202 rfl ?_
                  refine g_iald (pc' := 205) (j := 23 + 12 * w + i) mg.s50 rfl (by omega) (by decide) (v := I (50, 0) (23 + 12 * w + i)) (hx50) dX9_follows_204 rfl ?_
                  refine g_ist11 (pc' := 207) rfl (by decide) dX9_follows_205 rfl ?_
                  refine g_ald0 (pc' := 208) dX9_follows_207 rfl ?_
                  refine g_getR (pc' := 211) mg.s40 (by decide) fX9_9 mg.r40_0 dX9_follows_208 rfl ?_
                  refine g_ild10 (pc' := 213) dX9_follows_211 rfl ?_
                  refine g_dup2 (pc' := 214) dX9_follows_213 rfl ?_
                  refine g_iald (pc' := 215) (j := 23 + 12 * w + i) mg.s50 rfl (by omega) (by decide) (v := I (50, 0) (23 + 12 * w + i)) (hx50) dX9_follows_214 rfl ?_
                  refine g_ild11 (pc' := 217) dX9_follows_215 rfl ?_
                  refine g_ldc (pc' := 219) dX9_follows_217 rfl kX9_222 ?_
                  refine g_icmpge (pc' := 222) (tgt := 226) dX9_follows_219 (by decide) rfl (fun h219 => ?_) (fun h219 => ?_)
                  · refine g_iconst (pc' := 227) (v := nI 0) dX9_follows_226 rfl (by decide) ?_
                    refine g_iadd (pc' := 228) dX9_follows_227 rfl ?_
                    refine g_topi (v := minI (I (50, 0) (23 + 12 * w + i) + nI 1) 99999) (by first | exact hmin.1 h219 | exact hmin.2 (Int32.not_lt.mp h219) | exact hmin.2 h219 | exact hmin.1 (Int32.not_le.mp h219)) ?_
                    refine g_iast (pc' := 229) (j := 23 + 12 * w + i) mg.s50 rfl (by omega) (by decide) dX9_follows_228 rfl ?_
                    refine g_ald0 (pc' := 230) dX9_follows_229 rfl ?_
                    refine g_getR (pc' := 233) mg.s40 (by decide) fX9_49 mg.r40_24 dX9_follows_230 rfl ?_
                    refine g_ild1 (pc' := 234) dX9_follows_233 rfl ?_
                    refine g_dup2 (pc' := 235) dX9_follows_234 rfl ?_
                    refine g_iald (pc' := 236) (j := w) mg.s74 rfl (by omega) (by decide) (v := I (74, 0) w) (by simp [upM, hx74]) dX9_follows_235 rfl ?_
                    refine g_iconst (pc' := 237) (v := nI 1) dX9_follows_236 rfl (by decide) ?_
                    refine g_iadd (pc' := 238) dX9_follows_237 rfl ?_
                    refine g_iast (pc' := 239) (j := w) mg.s74 rfl (by omega) (by decide) dX9_follows_238 rfl ?_
                    obtain ⟨K2, hK2⟩ : ∃ K2 : MI, K2 = upM (upM K (50, 0) (23 + 12 * w + i) (minI (I (50, 0) (23 + 12 * w + i) + nI 1) 99999)) (74, 0) w (I (74, 0) w + nI 1) := ⟨_, rfl⟩
                    have hKK : Fr fvQ (kidI (camI I w) w i) K2 := by
                      have e : K2 = kidI K w i := by rw [hK2]; unfold kidI; rw [hx50, hx74]
                      rw [e]
                      exact kidI_fr (hK.1.le (fun t i q => fvP_Q q))
                    have hnk : K2 (40, 0) 6 = nI n := by rw [hK2, upM_n _ (by simp), upM_n _ (by simp)]; exact hnK
                    have hgk : ∀ tt ii, tt ≠ (74, 0) → tt ≠ (50, 0) → K2 tt ii = K tt ii := fun tt ii a b => by rw [hK2, upM_n _ a, upM_n _ b]
                    have hgI : ∀ tt ii, tt ≠ (74, 0) → tt ≠ (50, 0) → tt ≠ (73, 0) → ¬ fvP (4 * (t + 1) + 4) tt ii → K2 tt ii = I tt ii := fun tt ii a b d q => (hgk tt ii a b).trans ((hK.1 tt ii q).trans (by unfold camI; rw [upM_n _ d]))
                    have tlk : TL B len lj K2 := tl.to (fun k => hgI _ _ (by simp) (by simp) (by simp) (by simp [fvP, fwP, wgP, woP])) (fun k => hgI _ _ (by simp) (by simp) (by simp) (by simp [fvP, fwP, wgP, woP]))
                    have hlwk : K2 (69, 0) w = nI lj := (hgI _ _ (by simp) (by simp) (by simp) (by simp [fvP, fwP, wgP, woP])).trans hlw
                    have hnok : K2 (50, 0) (12 + w) = nI no := by
                      rw [hK2, upM_n _ (by simp), upM_k _ _ (by omega)]
                      exact ((hK.1 _ _ (by simp [fvP, fwP, wgP, woP])).trans (by unfold camI; rw [upM_n _ (by simp)])).trans hno
                    have hbdk : bdW K2 w n := by
                      have hb1 : bdW (camI I w) w n := fun o ho => by
                        obtain ⟨q, hq, e⟩ := hbd o ho
                        exact ⟨q, hq, by unfold camI; rw [upM_n _ (by simp)]; exact e⟩
                      intro o ho
                      obtain ⟨q, hq, e⟩ := kid_bd hb1 hi o ho
                      exact ⟨q, hq, (hKK _ _ (by simp [fvQ, fwP, wgP, woP])).trans e⟩
                    have hWk : K2 (80, 0) (4 * (t + 1) + i) = wtMi B len I w n i := (hgk _ _ (by simp) (by simp)).trans (hK.2.1 i hi)
                    rw [← hK2]
                    refine g_lld7 (pc' := 241) dX9_follows_239 rfl ?_
                    refine g_ald0 (pc' := 242) dX9_follows_241 rfl ?_
                    refine g_getR (pc' := 245) mg.s40 (by decide) fX9_58 mg.r40_30 dX9_follows_242 rfl ?_
                    refine g_ild6 (pc' := 247) dX9_follows_245 rfl ?_
                    refine g_ild9 (pc' := 249) dX9_follows_247 rfl ?_
                    refine g_iaddN (pc' := 250) dX9_follows_249 rfl ?_
                    refine g_iald (pc' := 251) (j := (4 * (t + 1)) + i) mg.s80 rfl (by omega) (by decide) (v := wtMi B len I w n i) (hWk) dX9_follows_250 rfl ?_
                    refine g_i2l (pc' := 252) dX9_follows_251 rfl ?_
                    refine g_ald0 (pc' := 253) dX9_follows_252 rfl ?_
                    refine g_ild1 (pc' := 254) dX9_follows_253 rfl ?_
                    refine g_ild2 (pc' := 255) dX9_follows_254 rfl ?_
                    refine g_ild3 (pc' := 256) dX9_follows_255 rfl ?_
                    refine g_iconst (pc' := 257) (v := nI 1) dX9_follows_256 rfl (by decide) ?_
                    refine g_isub (pc' := 258) dX9_follows_257 rfl ?_
                    refine g_topi (v := nI t) (by rw [pk_sub (by omega), Nat.add_sub_cancel]) ?_
                    refine g_ild4 (pc' := 260) dX9_follows_258 rfl ?_
                    refine g_callV (pc' := 263) (IHt (by omega) _ hnk tlk hlwk hnok hbdk) mg.s40 (by decide) wX9_follows lX9_275 rfl rfl (Nat.le_of_ble_eq_true rfl) (rOk (by omega) (by decide)) ⟨Nat.le_of_ble_eq_true rfl, Nat.le_of_ble_eq_true rfl⟩ dX9_follows_260 rfl (kJ (fun vk J3 hk => ?_))
                    obtain ⟨hvk, hfk⟩ := hk
                    refine g_lmul (pc' := 264) dX9_follows_263 rfl ?_
                    refine g_ladd (pc' := 265) dX9_follows_264 rfl ?_
                    refine g_lst7 (pc' := 267) rfl (by decide) dX9_follows_265 rfl ?_
                    refine g_ald0 (pc' := 268) dX9_follows_267 rfl ?_
                    refine g_getR (pc' := 271) mg.s40 (by decide) fX9_49 mg.r40_24 dX9_follows_268 rfl ?_
                    refine g_ild1 (pc' := 272) dX9_follows_271 rfl ?_
                    refine g_dup2 (pc' := 273) dX9_follows_272 rfl ?_
                    refine g_iald (pc' := 274) (j := w) mg.s74 rfl (by omega) (by decide) (v := I (74, 0) w + nI 1) (by rw [hfk (74, 0) w (by simp [fvP, fwP, wgP, woP]), hK2]; exact upM_s _ _ _ _) dX9_follows_273 rfl ?_
                    refine g_iconst (pc' := 275) (v := nI 1) dX9_follows_274 rfl (by decide) ?_
                    refine g_isub (pc' := 276) dX9_follows_275 rfl ?_
                    refine g_topi (v := I (74, 0) w) (Int32.add_sub_cancel _ _) ?_
                    refine g_iast (pc' := 277) (j := w) mg.s74 rfl (by omega) (by decide) dX9_follows_276 rfl ?_
                    refine g_ald0 (pc' := 278) dX9_follows_277 rfl ?_
                    refine g_getR (pc' := 281) mg.s40 (by decide) fX9_9 mg.r40_0 dX9_follows_278 rfl ?_
                    refine g_ild10 (pc' := 283) dX9_follows_281 rfl ?_
                    refine g_ild11 (pc' := 285) dX9_follows_283 rfl ?_
                    refine g_iast (pc' := 286) (j := 23 + 12 * w + i) mg.s50 rfl (by omega) (by decide) dX9_follows_285 rfl ?_
                    refine g_inc9 (pc' := 289) rfl (by decide) (v := nI (i + 1)) (nI_1 _) dX9_follows_286 rfl ?_
                    refine g_goto (tgt := 156) dX9_follows_289 (by decide) ?_
                    refine G.lsub [some (.inr (.inr (some (40, 0)))), some (.inl (nI w)), some (.inl (nI j)), some (.inl (nI (t + 1))), some (.inl kd), some (.inl v), some (.inl (nI (4 * (t + 1)))), some (.inr (.inl (acc + (wtMi B len I w n i).toInt64 * vk))), none, some (.inl (nI (i + 1))), none, none] (by intro j v; rcases j with _ | _ | _ | _ | _ | _ | _ | _ | _ | _ | _ | _ | j <;> simp) ?_
                    refine ih (upM (upM J3 (74, 0) w (I (74, 0) w)) (50, 0) (23 + 12 * w + i) (I (50, 0) (23 + 12 * w + i)), acc + (wtMi B len I w n i).toInt64 * vk) ⟨?_, fun s hs => ?_, ?_⟩
                    · intro tt ii q
                      dsimp only
                      by_cases e : tt = (50, 0) ∧ ii = 23 + 12 * w + i
                      · rw [e.1, e.2, upM_s]
                        unfold camI
                        rw [upM_n _ (by simp)]
                      · by_cases e2 : tt = (74, 0) ∧ ii = w
                        · rw [e2.1, e2.2, upM_n _ (by simp), upM_s]
                          unfold camI
                          rw [upM_n _ (by simp)]
                        · rw [show upM _ (50, 0) (23 + 12 * w + i) _ tt ii = _ from if_neg e, show upM _ (74, 0) w _ tt ii = _ from if_neg e2]
                          rw [hfk tt ii (fun q2 => q (fvP_le (by omega) q2)), hK2]
                          rw [show upM _ (74, 0) w _ tt ii = _ from if_neg e2, show upM _ (50, 0) (23 + 12 * w + i) _ tt ii = _ from if_neg e]
                          exact hK.1 tt ii q
                    · dsimp only
                      rw [upM_n _ (by simp), upM_n _ (by simp), hfk _ _ (by simp [fvP, fwP, wgP, woP]; omega), hgk _ _ (by simp) (by simp)]
                      exact hK.2.1 s hs
                    · dsimp only
                      rw [hK.2.2, hvk, odM_fr hKK]
                      show _ = (if _ then _ else _)
                      rw [if_neg h180]
                  · refine g_iconst (pc' := 223) (v := nI 1) dX9_follows_222 rfl (by decide) ?_
                    refine g_goto (tgt := 227) dX9_follows_223 (by decide) ?_
                    refine g_iadd (pc' := 228) dX9_follows_227 rfl ?_
                    refine g_topi (v := minI (I (50, 0) (23 + 12 * w + i) + nI 1) 99999) (by first | exact hmin.1 h219 | exact hmin.2 (Int32.not_lt.mp h219) | exact hmin.2 h219 | exact hmin.1 (Int32.not_le.mp h219)) ?_
                    refine g_iast (pc' := 229) (j := 23 + 12 * w + i) mg.s50 rfl (by omega) (by decide) dX9_follows_228 rfl ?_
                    refine g_ald0 (pc' := 230) dX9_follows_229 rfl ?_
                    refine g_getR (pc' := 233) mg.s40 (by decide) fX9_49 mg.r40_24 dX9_follows_230 rfl ?_
                    refine g_ild1 (pc' := 234) dX9_follows_233 rfl ?_
                    refine g_dup2 (pc' := 235) dX9_follows_234 rfl ?_
                    refine g_iald (pc' := 236) (j := w) mg.s74 rfl (by omega) (by decide) (v := I (74, 0) w) (by simp [upM, hx74]) dX9_follows_235 rfl ?_
                    refine g_iconst (pc' := 237) (v := nI 1) dX9_follows_236 rfl (by decide) ?_
                    refine g_iadd (pc' := 238) dX9_follows_237 rfl ?_
                    refine g_iast (pc' := 239) (j := w) mg.s74 rfl (by omega) (by decide) dX9_follows_238 rfl ?_
                    obtain ⟨K2, hK2⟩ : ∃ K2 : MI, K2 = upM (upM K (50, 0) (23 + 12 * w + i) (minI (I (50, 0) (23 + 12 * w + i) + nI 1) 99999)) (74, 0) w (I (74, 0) w + nI 1) := ⟨_, rfl⟩
                    have hKK : Fr fvQ (kidI (camI I w) w i) K2 := by
                      have e : K2 = kidI K w i := by rw [hK2]; unfold kidI; rw [hx50, hx74]
                      rw [e]
                      exact kidI_fr (hK.1.le (fun t i q => fvP_Q q))
                    have hnk : K2 (40, 0) 6 = nI n := by rw [hK2, upM_n _ (by simp), upM_n _ (by simp)]; exact hnK
                    have hgk : ∀ tt ii, tt ≠ (74, 0) → tt ≠ (50, 0) → K2 tt ii = K tt ii := fun tt ii a b => by rw [hK2, upM_n _ a, upM_n _ b]
                    have hgI : ∀ tt ii, tt ≠ (74, 0) → tt ≠ (50, 0) → tt ≠ (73, 0) → ¬ fvP (4 * (t + 1) + 4) tt ii → K2 tt ii = I tt ii := fun tt ii a b d q => (hgk tt ii a b).trans ((hK.1 tt ii q).trans (by unfold camI; rw [upM_n _ d]))
                    have tlk : TL B len lj K2 := tl.to (fun k => hgI _ _ (by simp) (by simp) (by simp) (by simp [fvP, fwP, wgP, woP])) (fun k => hgI _ _ (by simp) (by simp) (by simp) (by simp [fvP, fwP, wgP, woP]))
                    have hlwk : K2 (69, 0) w = nI lj := (hgI _ _ (by simp) (by simp) (by simp) (by simp [fvP, fwP, wgP, woP])).trans hlw
                    have hnok : K2 (50, 0) (12 + w) = nI no := by
                      rw [hK2, upM_n _ (by simp), upM_k _ _ (by omega)]
                      exact ((hK.1 _ _ (by simp [fvP, fwP, wgP, woP])).trans (by unfold camI; rw [upM_n _ (by simp)])).trans hno
                    have hbdk : bdW K2 w n := by
                      have hb1 : bdW (camI I w) w n := fun o ho => by
                        obtain ⟨q, hq, e⟩ := hbd o ho
                        exact ⟨q, hq, by unfold camI; rw [upM_n _ (by simp)]; exact e⟩
                      intro o ho
                      obtain ⟨q, hq, e⟩ := kid_bd hb1 hi o ho
                      exact ⟨q, hq, (hKK _ _ (by simp [fvQ, fwP, wgP, woP])).trans e⟩
                    have hWk : K2 (80, 0) (4 * (t + 1) + i) = wtMi B len I w n i := (hgk _ _ (by simp) (by simp)).trans (hK.2.1 i hi)
                    rw [← hK2]
                    refine g_lld7 (pc' := 241) dX9_follows_239 rfl ?_
                    refine g_ald0 (pc' := 242) dX9_follows_241 rfl ?_
                    refine g_getR (pc' := 245) mg.s40 (by decide) fX9_58 mg.r40_30 dX9_follows_242 rfl ?_
                    refine g_ild6 (pc' := 247) dX9_follows_245 rfl ?_
                    refine g_ild9 (pc' := 249) dX9_follows_247 rfl ?_
                    refine g_iaddN (pc' := 250) dX9_follows_249 rfl ?_
                    refine g_iald (pc' := 251) (j := (4 * (t + 1)) + i) mg.s80 rfl (by omega) (by decide) (v := wtMi B len I w n i) (hWk) dX9_follows_250 rfl ?_
                    refine g_i2l (pc' := 252) dX9_follows_251 rfl ?_
                    refine g_ald0 (pc' := 253) dX9_follows_252 rfl ?_
                    refine g_ild1 (pc' := 254) dX9_follows_253 rfl ?_
                    refine g_ild2 (pc' := 255) dX9_follows_254 rfl ?_
                    refine g_ild3 (pc' := 256) dX9_follows_255 rfl ?_
                    refine g_iconst (pc' := 257) (v := nI 1) dX9_follows_256 rfl (by decide) ?_
                    refine g_isub (pc' := 258) dX9_follows_257 rfl ?_
                    refine g_topi (v := nI t) (by rw [pk_sub (by omega), Nat.add_sub_cancel]) ?_
                    refine g_ild4 (pc' := 260) dX9_follows_258 rfl ?_
                    refine g_callV (pc' := 263) (IHt (by omega) _ hnk tlk hlwk hnok hbdk) mg.s40 (by decide) wX9_follows lX9_275 rfl rfl (Nat.le_of_ble_eq_true rfl) (rOk (by omega) (by decide)) ⟨Nat.le_of_ble_eq_true rfl, Nat.le_of_ble_eq_true rfl⟩ dX9_follows_260 rfl (kJ (fun vk J3 hk => ?_))
                    obtain ⟨hvk, hfk⟩ := hk
                    refine g_lmul (pc' := 264) dX9_follows_263 rfl ?_
                    refine g_ladd (pc' := 265) dX9_follows_264 rfl ?_
                    refine g_lst7 (pc' := 267) rfl (by decide) dX9_follows_265 rfl ?_
                    refine g_ald0 (pc' := 268) dX9_follows_267 rfl ?_
                    refine g_getR (pc' := 271) mg.s40 (by decide) fX9_49 mg.r40_24 dX9_follows_268 rfl ?_
                    refine g_ild1 (pc' := 272) dX9_follows_271 rfl ?_
                    refine g_dup2 (pc' := 273) dX9_follows_272 rfl ?_
                    refine g_iald (pc' := 274) (j := w) mg.s74 rfl (by omega) (by decide) (v := I (74, 0) w + nI 1) (by rw [hfk (74, 0) w (by simp [fvP, fwP, wgP, woP]), hK2]; exact upM_s _ _ _ _) dX9_follows_273 rfl ?_
                    refine g_iconst (pc' := 275) (v := nI 1) dX9_follows_274 rfl (by decide) ?_
                    refine g_isub (pc' := 276) dX9_follows_275 rfl ?_
                    refine g_topi (v := I (74, 0) w) (Int32.add_sub_cancel _ _) ?_
                    refine g_iast (pc' := 277) (j := w) mg.s74 rfl (by omega) (by decide) dX9_follows_276 rfl ?_
                    refine g_ald0 (pc' := 278) dX9_follows_277 rfl ?_
                    refine g_getR (pc' := 281) mg.s40 (by decide) fX9_9 mg.r40_0 dX9_follows_278 rfl ?_
                    refine g_ild10 (pc' := 283) dX9_follows_281 rfl ?_
                    refine g_ild11 (pc' := 285) dX9_follows_283 rfl ?_
                    refine g_iast (pc' := 286) (j := 23 + 12 * w + i) mg.s50 rfl (by omega) (by decide) dX9_follows_285 rfl ?_
                    refine g_inc9 (pc' := 289) rfl (by decide) (v := nI (i + 1)) (nI_1 _) dX9_follows_286 rfl ?_
                    refine g_goto (tgt := 156) dX9_follows_289 (by decide) ?_
                    refine G.lsub [some (.inr (.inr (some (40, 0)))), some (.inl (nI w)), some (.inl (nI j)), some (.inl (nI (t + 1))), some (.inl kd), some (.inl v), some (.inl (nI (4 * (t + 1)))), some (.inr (.inl (acc + (wtMi B len I w n i).toInt64 * vk))), none, some (.inl (nI (i + 1))), none, none] (by intro j v; rcases j with _ | _ | _ | _ | _ | _ | _ | _ | _ | _ | _ | _ | j <;> simp) ?_
                    refine ih (upM (upM J3 (74, 0) w (I (74, 0) w)) (50, 0) (23 + 12 * w + i) (I (50, 0) (23 + 12 * w + i)), acc + (wtMi B len I w n i).toInt64 * vk) ⟨?_, fun s hs => ?_, ?_⟩
                    · intro tt ii q
                      dsimp only
                      by_cases e : tt = (50, 0) ∧ ii = 23 + 12 * w + i
                      · rw [e.1, e.2, upM_s]
                        unfold camI
                        rw [upM_n _ (by simp)]
                      · by_cases e2 : tt = (74, 0) ∧ ii = w
                        · rw [e2.1, e2.2, upM_n _ (by simp), upM_s]
                          unfold camI
                          rw [upM_n _ (by simp)]
                        · rw [show upM _ (50, 0) (23 + 12 * w + i) _ tt ii = _ from if_neg e, show upM _ (74, 0) w _ tt ii = _ from if_neg e2]
                          rw [hfk tt ii (fun q2 => q (fvP_le (by omega) q2)), hK2]
                          rw [show upM _ (74, 0) w _ tt ii = _ from if_neg e2, show upM _ (50, 0) (23 + 12 * w + i) _ tt ii = _ from if_neg e]
                          exact hK.1 tt ii q
                    · dsimp only
                      rw [upM_n _ (by simp), upM_n _ (by simp), hfk _ _ (by simp [fvP, fwP, wgP, woP]; omega), hgk _ _ (by simp) (by simp)]
                      exact hK.2.1 s hs
                    · dsimp only
                      rw [hK.2.2, hvk, odM_fr hKK]
                      show _ = (if _ then _ else _)
                      rw [if_neg h180]
                · refine g_goto (tgt := 286) dX9_follows_183 (by decide) ?_
                  refine g_inc9 (pc' := 289) rfl (by decide) (v := nI (i + 1)) (nI_1 _) dX9_follows_286 rfl ?_
                  refine g_goto (tgt := 156) dX9_follows_289 (by decide) ?_
                  refine ih (K, acc) ⟨hK.1, hK.2.1, ?_⟩
                  rw [hK.2.2]
                  show _ = (if _ then _ else _)
                  rw [if_pos h180]
            · intro s hK
              obtain ⟨K, acc⟩ := s
              dsimp only at hK ⊢
              have hnK : K (40, 0) 6 = nI n := ((hK.1 _ _ (by simp [fvP, fwP, wgP, woP])).trans (by unfold camI; rw [upM_n _ (by simp)])).trans hn
              refine g_ild9 (pc' := 158) dX9_follows_156 rfl ?_
              refine g_ald0 (pc' := 159) dX9_follows_158 rfl ?_
              refine g_getI (pc' := 162) mg.s40 (by decide) fX9_99 hnK dX9_follows_159 rfl ?_
              refine g_icmpgeN (pc' := 165) (by omega) (by omega) (tgt := 292) dX9_follows_162 (by decide) rfl (fun h162 => ?_) (fun h162 => ?_)
              · refine g_ald0 (pc' := 293) dX9_follows_292 rfl ?_
                refine g_getR (pc' := 296) mg.s40 (by decide) fX9_46 mg.r40_23 dX9_follows_293 rfl ?_
                refine g_ild1 (pc' := 297) dX9_follows_296 rfl ?_
                refine g_dup2 (pc' := 298) dX9_follows_297 rfl ?_
                refine g_iald (pc' := 299) (j := w) mg.s73 rfl (by omega) (by decide) (v := I (73, 0) w + nI 1) ((hK.1 _ _ (by simp [fvP, fwP, wgP, woP])).trans (upM_s _ _ _ _)) dX9_follows_298 rfl ?_
                refine g_iconst (pc' := 300) (v := nI 1) dX9_follows_299 rfl (by decide) ?_
                refine g_isub (pc' := 301) dX9_follows_300 rfl ?_
                refine g_topi (v := I (73, 0) w) (Int32.add_sub_cancel _ _) ?_
                refine g_iast (pc' := 302) (j := w) mg.s73 rfl (by omega) (by decide) dX9_follows_301 rfl ?_
                refine g_ild5 (pc' := 304) dX9_follows_302 rfl ?_
                refine g_ifne (pc' := 307) (tgt := 312) dX9_follows_304 (by decide) rfl (fun h304 => ?_) (fun h304 => (by first | exact absurd h304 (fun e => h101 e) | exact absurd (fun e => h101 e) h304))
                refine g_lld7 (pc' := 314) dX9_follows_312 rfl ?_
                refine g_ild5 (pc' := 316) dX9_follows_314 rfl ?_
                refine g_i2l (pc' := 317) dX9_follows_316 rfl ?_
                refine g_ldiv (pc' := 318) dX9_follows_317 rfl hpos64 ?_
                refine g_lret rfl dX9_follows_318 ?_
                refine eJ ⟨?_, ?_⟩
                · rw [hK.2.2, odM_n (by rw [← hq.1]; exact h101), ← hq.1]
                · intro tt ii q
                  by_cases e : tt = (73, 0) ∧ ii = w
                  · rw [e.1, e.2, upM_s]
                  · rw [show upM _ (73, 0) w _ tt ii = _ from if_neg e, hK.1 tt ii q]
                    unfold camI
                    exact if_neg e
              · exact absurd h162 (by omega)
      · exact absurd h63 (by omega)
