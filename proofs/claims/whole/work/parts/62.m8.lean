/-! the model: after, houses -/
theorem c_mFirstC (l : Launch) {S : Shp} {I : MI} {L : ML} {R : MR} (mg : MG S R) {n : Nat} (hn : I (40, 0) 6 = nI n) (hN : n ≤ 12) {g : Nat → Int32} (hg : ∀ s, s < n → I (81, 0) s = g s) : Ct l mX9_firstCounted 1 0 0 [.inr (.inr (some (40, 0)))] S I L R (PIp S I L R (nI (grN g n))) := by
  refine Ct.of [some (.inr (.inr (some (40, 0)))), none, none] (by decide) rfl (Nat.le_of_ble_eq_true rfl) ?_
  refine g_iconst (pc' := 1) (v := nI 0) dX9_firstCounted_0 rfl (by decide) ?_
  refine g_ist1 (pc' := 2) rfl (by decide) dX9_firstCounted_1 rfl ?_
  refine g_iconst (pc' := 3) (v := nI 1) dX9_firstCounted_2 rfl (by decide) ?_
  refine g_ist2 (pc' := 4) rfl (by decide) dX9_firstCounted_3 rfl ?_
  rcases Nat.eq_zero_or_pos n with h0 | h0
  · have hk : True := trivial
    refine g_ild2 (pc' := 5) dX9_firstCounted_4 rfl ?_
    refine g_ald0 (pc' := 6) dX9_firstCounted_5 rfl ?_
    refine g_getI (pc' := 9) mg.s40 (by decide) fX9_99 hn dX9_firstCounted_6 rfl ?_
    refine g_icmpgeN (pc' := 12) (by omega) (by omega) (tgt := 39) dX9_firstCounted_9 (by decide) rfl (fun h9 => ?_) (fun h9 => ?_)
    · refine g_ild1 (pc' := 40) dX9_firstCounted_39 rfl ?_
      refine g_iret rfl dX9_firstCounted_40 ?_
      exact eIp (by rw [h0]; rfl)
    · exact absurd h9 (by omega)
  · refine g_loop (σ := Unit) (fun i _ => 1 ≤ i) (fun i _ => [some (.inr (.inr (some (40, 0)))), some (.inl (nI (grN g i))), some (.inl (nI i))]) (fun _ _ => I) n 1 () (by omega) (by omega) ?_ ?_
    · intro i _ hi hP ih
      have hgl := grN_lt g i (by omega)
      refine g_ild2 (pc' := 5) dX9_firstCounted_4 rfl ?_
      refine g_ald0 (pc' := 6) dX9_firstCounted_5 rfl ?_
      refine g_getI (pc' := 9) mg.s40 (by decide) fX9_99 hn dX9_firstCounted_6 rfl ?_
      refine g_icmpgeN (pc' := 12) (by omega) (by omega) (tgt := 39) dX9_firstCounted_9 (by decide) rfl (fun h9 => ?_) (fun h9 => ?_)
      · exact absurd h9 (by omega)
      · refine g_ald0 (pc' := 13) dX9_firstCounted_12 rfl ?_
        refine g_getR (pc' := 16) mg.s40 (by decide) fX9_61 mg.r40_31 dX9_firstCounted_13 rfl ?_
        refine g_ild2 (pc' := 17) dX9_firstCounted_16 rfl ?_
        refine g_iald (pc' := 18) (j := i) mg.s81 rfl (by omega) (by decide) (v := g i) (hg i hi) dX9_firstCounted_17 rfl ?_
        refine g_ald0 (pc' := 19) dX9_firstCounted_18 rfl ?_
        refine g_getR (pc' := 22) mg.s40 (by decide) fX9_61 mg.r40_31 dX9_firstCounted_19 rfl ?_
        refine g_ild1 (pc' := 23) dX9_firstCounted_22 rfl ?_
        refine g_iald (pc' := 24) (j := grN g i) mg.s81 rfl (by omega) (by decide) (v := g (grN g i)) (hg _ (by omega)) dX9_firstCounted_23 rfl ?_
        refine g_icmple (pc' := 27) (tgt := 31) dX9_firstCounted_24 (by decide) rfl (fun h24 => ?_) (fun h24 => ?_)
        · refine g_ild1 (pc' := 32) dX9_firstCounted_31 rfl ?_
          refine g_ist1 (pc' := 33) rfl (by decide) dX9_firstCounted_32 rfl ?_
          refine g_inc2 (pc' := 36) rfl (by decide) (v := nI (i + 1)) (nI_1 _) dX9_firstCounted_33 rfl ?_
          refine g_goto (tgt := 4) dX9_firstCounted_36 (by decide) ?_
          have hgl := grN_lt g i (by omega)
          have e := grN_s (f := g) (s := i) hP
          first | rw [if_pos (Int32.not_le.mp h24)] at e | rw [if_neg (Int32.not_lt.mpr h24)] at e
          have hI := ih () (by omega)
          rw [e] at hI
          exact hI
        · refine g_ild2 (pc' := 28) dX9_firstCounted_27 rfl ?_
          refine g_goto (tgt := 32) dX9_firstCounted_28 (by decide) ?_
          refine g_ist1 (pc' := 33) rfl (by decide) dX9_firstCounted_32 rfl ?_
          refine g_inc2 (pc' := 36) rfl (by decide) (v := nI (i + 1)) (nI_1 _) dX9_firstCounted_33 rfl ?_
          refine g_goto (tgt := 4) dX9_firstCounted_36 (by decide) ?_
          have hgl := grN_lt g i (by omega)
          have e := grN_s (f := g) (s := i) hP
          first | rw [if_pos (Int32.not_le.mp h24)] at e | rw [if_neg (Int32.not_lt.mpr h24)] at e
          have hI := ih () (by omega)
          rw [e] at hI
          exact hI
    · intro _ hP
      refine g_ild2 (pc' := 5) dX9_firstCounted_4 rfl ?_
      refine g_ald0 (pc' := 6) dX9_firstCounted_5 rfl ?_
      refine g_getI (pc' := 9) mg.s40 (by decide) fX9_99 hn dX9_firstCounted_6 rfl ?_
      refine g_icmpgeN (pc' := 12) (by omega) (by omega) (tgt := 39) dX9_firstCounted_9 (by decide) rfl (fun h9 => ?_) (fun h9 => ?_)
      · refine g_ild1 (pc' := 40) dX9_firstCounted_39 rfl ?_
        refine g_iret rfl dX9_firstCounted_40 ?_
        exact eIp rfl
      · exact absurd h9 (by omega)

def afP (t : Tok) (_ : Nat) : Prop := t = (81, 0)
def frN (g : Nat → Nat) : Nat → Nat
  | 0 => 0
  | k + 1 => if g (k + 1) = g k then frN g k else k + 1
theorem frN_le (g : Nat → Nat) : ∀ k, frN g k ≤ k
  | 0 => Nat.le_refl _
  | k + 1 => by
    unfold frN
    split
    · exact Nat.le_succ_of_le (frN_le g k)
    · exact Nat.le_refl _
theorem grN_le12 (f : Nat → Int32) {n : Nat} (hN : n ≤ 12) : grN f n ≤ 12 := by
  rcases Nat.eq_zero_or_pos n with h0 | h0
  · subst h0; exact Nat.zero_le _
  · exact Nat.le_trans (Nat.le_of_lt (grN_lt f n h0)) hN
theorem tally_s (lg : Nat → Nat) (k s : Nat) : tallyN lg (k + 1) s = if s = lg k then tallyN lg k s + nI 1 else tallyN lg k s := by
  unfold tallyN
  rw [ctN]
  by_cases e : s = lg k
  · rw [if_pos e, if_pos (by simp [e]), nI_add]
  · rw [if_neg e, if_neg (by simp; exact fun q => e q.symm)]
    rfl
theorem c_mAfterN (l : Launch) {S : Shp} {I : MI} {L : ML} {R : MR} (mg : MG S R) {m : Nat} (hm : I (40, 0) 18 = nI m) (hM : m ≤ 9) {x : Int32} (hx : inb x m = false) : Ct l mX9_after 3 0 0 [.inr (.inr (some (40, 0))), .inl x] S I L R (PIp S I L R (-1)) := by
  refine Ct.of [some (.inr (.inr (some (40, 0)))), some (.inl x), none, none, none, none] (by decide) rfl (Nat.le_of_ble_eq_true rfl) ?_
  refine g_ald0 (pc' := 1) dX9_after_0 rfl ?_
  refine g_ild1 (pc' := 2) dX9_after_1 rfl ?_
  refine g_callV (pc' := 5) (c_misWorld l mg hm hM x) mg.s40 (by decide) wX9_isWorld lX9_186 rfl rfl (Nat.le_of_ble_eq_true rfl) ⟨Nat.le_of_ble_eq_true rfl, Nat.le_of_ble_eq_true rfl⟩ ⟨Nat.le_of_ble_eq_true rfl, Nat.le_of_ble_eq_true rfl⟩ dX9_after_2 rfl (kIp ?_)
  refine g_ifneB (pc' := 8) (tgt := 10) dX9_after_5 (by decide) rfl (fun h5 => (by first | exact absurd h5 (Bool.eq_false_iff.mp hx) | exact absurd (Bool.eq_false_iff.mp hx) h5)) (fun h5 => ?_)
  refine g_iconst (pc' := 9) (v := (-1)) dX9_after_8 rfl (by decide) ?_
  refine g_iret rfl dX9_after_9 ?_
  exact eIp rfl

theorem c_mAfterE (l : Launch) {S : Shp} {I : MI} {L : ML} {R : MR} (mg : MG S R) {m : Nat} (hm : I (40, 0) 18 = nI m) (hM : m ≤ 9) {w : Nat} (hwm : w < m) {ke : Nat} (hke : I (74, 0) w = nI ke) (hk : ke < 2 ^ 30) (hb : ke = 0 ∨ 200 < ke) : Ct l mX9_after 3 0 0 [.inr (.inr (some (40, 0))), .inl (nI w)] S I L R (PIp S I L R (if ke = 0 then -2 else -5)) := by
  refine Ct.of [some (.inr (.inr (some (40, 0)))), some (.inl (nI w)), none, none, none, none] (by decide) rfl (Nat.le_of_ble_eq_true rfl) ?_
  refine g_ald0 (pc' := 1) dX9_after_0 rfl ?_
  refine g_ild1 (pc' := 2) dX9_after_1 rfl ?_
  refine g_callV (pc' := 5) (c_misWorld l mg hm hM (nI w)) mg.s40 (by decide) wX9_isWorld lX9_186 rfl rfl (Nat.le_of_ble_eq_true rfl) ⟨Nat.le_of_ble_eq_true rfl, Nat.le_of_ble_eq_true rfl⟩ ⟨Nat.le_of_ble_eq_true rfl, Nat.le_of_ble_eq_true rfl⟩ dX9_after_2 rfl (kIp ?_)
  refine g_ifneB (pc' := 8) (tgt := 10) dX9_after_5 (by decide) rfl (fun h5 => ?_) (fun h5 => (by first | exact absurd h5 (by rw [inb_nI (by omega) (by omega)]; simp [hwm]) | exact absurd (by rw [inb_nI (by omega) (by omega)]; simp [hwm]) h5))
  refine g_ald0 (pc' := 11) dX9_after_10 rfl ?_
  refine g_getR (pc' := 14) mg.s40 (by decide) fX9_49 mg.r40_24 dX9_after_11 rfl ?_
  refine g_ild1 (pc' := 15) dX9_after_14 rfl ?_
  refine g_iald (pc' := 16) (j := w) mg.s74 rfl (by omega) (by decide) hke dX9_after_15 rfl ?_
  refine g_ifneN (pc' := 19) (by omega) (tgt := 22) dX9_after_16 (by decide) rfl (fun h16 => ?_) (fun h16 => ?_)
  · refine g_ald0 (pc' := 23) dX9_after_22 rfl ?_
    refine g_getR (pc' := 26) mg.s40 (by decide) fX9_49 mg.r40_24 dX9_after_23 rfl ?_
    refine g_ild1 (pc' := 27) dX9_after_26 rfl ?_
    refine g_iald (pc' := 28) (j := w) mg.s74 rfl (by omega) (by decide) hke dX9_after_27 rfl ?_
    refine g_sipush (pc' := 31) (v := nI 200) dX9_after_28 rfl (by decide) ?_
    refine g_icmpleN (pc' := 34) (by omega) (by omega) (tgt := 37) dX9_after_31 (by decide) rfl (fun h31 => ?_) (fun h31 => ?_)
    · exact absurd hb (by omega)
    · refine g_bipush (pc' := 36) (v := (-5)) dX9_after_34 rfl (by decide) ?_
      refine g_iret rfl dX9_after_36 ?_
      exact eIp (by rw [if_neg (by omega)])
  · refine g_bipush (pc' := 21) (v := (-2)) dX9_after_19 rfl (by decide) ?_
    refine g_iret rfl dX9_after_21 ?_
    exact eIp (by rw [if_pos (by omega)])

theorem c_mAfterS (l : Launch) {S : Shp} {I : MI} {L : ML} {R : MR} (mg : MG S R) {n : Nat} (hn : I (40, 0) 6 = nI n) (hN : n ≤ 12) {m : Nat} (hm : I (40, 0) 18 = nI m) (hM : m ≤ 9) {w : Nat} (hwm : w < m) {ke : Nat} (hke : I (74, 0) w = nI ke) (hk : ke < 2 ^ 30) (h0 : 0 < ke) (h2 : ke ≤ 200) {lg : Nat → Nat} (hlg : ∀ q, q < ke → I (75, 0) (200 * w + q) = nI (lg q) ∧ lg q < n) : Ct l mX9_after 3 0 0 [.inr (.inr (some (40, 0))), .inl (nI w)] S I L R (PIm S L R (fun v J => v = nI (frN (fun q => grN (tallyN lg q) n) ke) ∧ Fr afP I J)) := by
  refine Ct.of [some (.inr (.inr (some (40, 0)))), some (.inl (nI w)), none, none, none, none] (by decide) rfl (Nat.le_of_ble_eq_true rfl) ?_
  refine g_ald0 (pc' := 1) dX9_after_0 rfl ?_
  refine g_ild1 (pc' := 2) dX9_after_1 rfl ?_
  refine g_callV (pc' := 5) (c_misWorld l mg hm hM (nI w)) mg.s40 (by decide) wX9_isWorld lX9_186 rfl rfl (Nat.le_of_ble_eq_true rfl) ⟨Nat.le_of_ble_eq_true rfl, Nat.le_of_ble_eq_true rfl⟩ ⟨Nat.le_of_ble_eq_true rfl, Nat.le_of_ble_eq_true rfl⟩ dX9_after_2 rfl (kIp ?_)
  refine g_ifneB (pc' := 8) (tgt := 10) dX9_after_5 (by decide) rfl (fun h5 => ?_) (fun h5 => (by first | exact absurd h5 (by rw [inb_nI (by omega) (by omega)]; simp [hwm]) | exact absurd (by rw [inb_nI (by omega) (by omega)]; simp [hwm]) h5))
  refine g_ald0 (pc' := 11) dX9_after_10 rfl ?_
  refine g_getR (pc' := 14) mg.s40 (by decide) fX9_49 mg.r40_24 dX9_after_11 rfl ?_
  refine g_ild1 (pc' := 15) dX9_after_14 rfl ?_
  refine g_iald (pc' := 16) (j := w) mg.s74 rfl (by omega) (by decide) hke dX9_after_15 rfl ?_
  refine g_ifneN (pc' := 19) (by omega) (tgt := 22) dX9_after_16 (by decide) rfl (fun h16 => ?_) (fun h16 => ?_)
  · refine g_ald0 (pc' := 23) dX9_after_22 rfl ?_
    refine g_getR (pc' := 26) mg.s40 (by decide) fX9_49 mg.r40_24 dX9_after_23 rfl ?_
    refine g_ild1 (pc' := 27) dX9_after_26 rfl ?_
    refine g_iald (pc' := 28) (j := w) mg.s74 rfl (by omega) (by decide) hke dX9_after_27 rfl ?_
    refine g_sipush (pc' := 31) (v := nI 200) dX9_after_28 rfl (by decide) ?_
    refine g_icmpleN (pc' := 34) (by omega) (by omega) (tgt := 37) dX9_after_31 (by decide) rfl (fun h31 => ?_) (fun h31 => ?_)
    · refine g_iconst (pc' := 38) (v := nI 0) dX9_after_37 rfl (by decide) ?_
      refine g_ist2 (pc' := 39) rfl (by decide) dX9_after_38 rfl ?_
      refine g_loop (σ := MI) (fun i (J : MI) => Fr afP I J ∧ ∀ s, s < i → J (81, 0) s = nI 0) (fun i J => [some (.inr (.inr (some (40, 0)))), some (.inl (nI w)), some (.inl (nI i)), none, none, none]) (fun i J => J) n 0 I (by omega) ⟨Fr.rf, fun s hs => absurd hs (by omega)⟩ ?_ ?_
      · intro i J hi hP ih
        have hnJ : J (40, 0) 6 = nI n := (hP.1 _ _ (by simp [afP])).trans hn
        have hkJ : J (74, 0) w = nI ke := (hP.1 _ _ (by simp [afP])).trans hke
        refine g_ild2 (pc' := 40) dX9_after_39 rfl ?_
        refine g_ald0 (pc' := 41) dX9_after_40 rfl ?_
        refine g_getI (pc' := 44) mg.s40 (by decide) fX9_99 hnJ dX9_after_41 rfl ?_
        refine g_icmpgeN (pc' := 47) (by omega) (by omega) (tgt := 60) dX9_after_44 (by decide) rfl (fun h44 => ?_) (fun h44 => ?_)
        · exact absurd h44 (by omega)
        · refine g_ald0 (pc' := 48) dX9_after_47 rfl ?_
          refine g_getR (pc' := 51) mg.s40 (by decide) fX9_61 mg.r40_31 dX9_after_48 rfl ?_
          refine g_ild2 (pc' := 52) dX9_after_51 rfl ?_
          refine g_iconst (pc' := 53) (v := nI 0) dX9_after_52 rfl (by decide) ?_
          refine g_iast (pc' := 54) (j := i) mg.s81 rfl (by omega) (by decide) dX9_after_53 rfl ?_
          refine g_inc2 (pc' := 57) rfl (by decide) (v := nI (i + 1)) (nI_1 _) dX9_after_54 rfl ?_
          refine g_goto (tgt := 39) dX9_after_57 (by decide) ?_
          refine ih _ ⟨hP.1.up (by simp [afP]), fun s hs => ?_⟩
          by_cases e : s = i
          · rw [e, upM_s]
          · rw [upM_k _ _ e]; exact hP.2 s (by omega)
      · intro J hP
        have hnJ : J (40, 0) 6 = nI n := (hP.1 _ _ (by simp [afP])).trans hn
        have hkJ : J (74, 0) w = nI ke := (hP.1 _ _ (by simp [afP])).trans hke
        refine g_ild2 (pc' := 40) dX9_after_39 rfl ?_
        refine g_ald0 (pc' := 41) dX9_after_40 rfl ?_
        refine g_getI (pc' := 44) mg.s40 (by decide) fX9_99 hnJ dX9_after_41 rfl ?_
        refine g_icmpgeN (pc' := 47) (by omega) (by omega) (tgt := 60) dX9_after_44 (by decide) rfl (fun h44 => ?_) (fun h44 => ?_)
        · refine g_ald0 (pc' := 61) dX9_after_60 rfl ?_
          refine g_callV (pc' := 64) (c_mFirstC l mg hnJ hN (g := tallyN lg 0) (fun s hs => hP.2 s hs)) mg.s40 (by decide) wX9_firstCounted lX9_281 rfl rfl (Nat.le_of_ble_eq_true rfl) ⟨Nat.le_of_ble_eq_true rfl, Nat.le_of_ble_eq_true rfl⟩ ⟨Nat.le_of_ble_eq_true rfl, Nat.le_of_ble_eq_true rfl⟩ dX9_after_61 rfl (kIp ?_)
          refine g_ist2 (pc' := 65) rfl (by decide) dX9_after_64 rfl ?_
          refine g_iconst (pc' := 66) (v := nI 0) dX9_after_65 rfl (by decide) ?_
          refine g_ist3 (pc' := 67) rfl (by decide) dX9_after_66 rfl ?_
          refine g_iconst (pc' := 68) (v := nI 0) dX9_after_67 rfl (by decide) ?_
          refine g_ist4 (pc' := 70) rfl (by decide) dX9_after_68 rfl ?_
          refine g_loop (σ := MI) (fun k (J : MI) => Fr afP I J ∧ ∀ s, s < n → J (81, 0) s = tallyN lg k s) (fun k J => [some (.inr (.inr (some (40, 0)))), some (.inl (nI w)), some (.inl (nI (grN (tallyN lg k) n))), some (.inl (nI (frN (fun q => grN (tallyN lg q) n) k))), some (.inl (nI k)), none]) (fun k J => J) ke 0 J (by omega) ⟨hP.1, hP.2⟩ ?_ ?_
          · intro k J hi hP ih
            have hnJ : J (40, 0) 6 = nI n := (hP.1 _ _ (by simp [afP])).trans hn
            have hkJ : J (74, 0) w = nI ke := (hP.1 _ _ (by simp [afP])).trans hke
            refine g_ild4 (pc' := 72) dX9_after_70 rfl ?_
            refine g_ald0 (pc' := 73) dX9_after_72 rfl ?_
            refine g_getR (pc' := 76) mg.s40 (by decide) fX9_49 mg.r40_24 dX9_after_73 rfl ?_
            refine g_ild1 (pc' := 77) dX9_after_76 rfl ?_
            refine g_iald (pc' := 78) (j := w) mg.s74 rfl (by omega) (by decide) hkJ dX9_after_77 rfl ?_
            refine g_icmpgeN (pc' := 81) (by omega) (by omega) (tgt := 133) dX9_after_78 (by decide) rfl (fun h78 => ?_) (fun h78 => ?_)
            · exact absurd h78 (by omega)
            · refine g_ald0 (pc' := 82) dX9_after_81 rfl ?_
              refine g_getR (pc' := 85) mg.s40 (by decide) fX9_61 mg.r40_31 dX9_after_82 rfl ?_
              refine g_ald0 (pc' := 86) dX9_after_85 rfl ?_
              refine g_getR (pc' := 89) mg.s40 (by decide) fX9_52 mg.r40_25 dX9_after_86 rfl ?_
              refine g_sipush (pc' := 92) (v := nI 200) dX9_after_89 rfl (by decide) ?_
              refine g_ild1 (pc' := 93) dX9_after_92 rfl ?_
              refine g_imulN (pc' := 94) dX9_after_93 rfl ?_
              refine g_ild4 (pc' := 96) dX9_after_94 rfl ?_
              refine g_iaddN (pc' := 97) dX9_after_96 rfl ?_
              refine g_iald (pc' := 98) (j := (200 * w) + k) mg.s75 rfl (by omega) (by decide) (v := nI (lg k)) ((hP.1 _ _ (by simp [afP])).trans (hlg k hi).1) dX9_after_97 rfl ?_
              refine g_dup2 (pc' := 99) dX9_after_98 rfl ?_
              refine g_iald (pc' := 100) (j := lg k) mg.s81 rfl (by have := (hlg k hi).2; omega) (by decide) rfl dX9_after_99 rfl ?_
              refine g_iconst (pc' := 101) (v := nI 1) dX9_after_100 rfl (by decide) ?_
              refine g_iadd (pc' := 102) dX9_after_101 rfl ?_
              refine g_iast (pc' := 103) (j := lg k) mg.s81 rfl (by have := (hlg k hi).2; omega) (by decide) dX9_after_102 rfl ?_
              have hnJ2 : ∀ s, s < n → upM J (81, 0) (lg k) (J (81, 0) (lg k) + nI 1) (81, 0) s = tallyN lg (k + 1) s := fun s hs => by
                rw [tally_s]
                by_cases e : s = lg k
                · rw [if_pos e, e, upM_s, hP.2 _ (hlg k hi).2]
                · rw [if_neg e, upM_k _ _ e]; exact hP.2 s hs
              have hb1 := grN_le12 (tallyN lg k) hN
              have hb2 := grN_le12 (tallyN lg (k + 1)) hN
              have hb3 := frN_le (fun q => grN (tallyN lg q) n) k
              refine g_ald0 (pc' := 104) dX9_after_103 rfl ?_
              refine g_callV (pc' := 107) (c_mFirstC l mg (by rw [upM_n _ (by simp)]; exact hnJ) hN (g := tallyN lg (k + 1)) hnJ2) mg.s40 (by decide) wX9_firstCounted lX9_281 rfl rfl (Nat.le_of_ble_eq_true rfl) ⟨Nat.le_of_ble_eq_true rfl, Nat.le_of_ble_eq_true rfl⟩ ⟨Nat.le_of_ble_eq_true rfl, Nat.le_of_ble_eq_true rfl⟩ dX9_after_104 rfl (kIp ?_)
              refine g_ist5 (pc' := 109) rfl (by decide) dX9_after_107 rfl ?_
              refine g_ild5 (pc' := 111) dX9_after_109 rfl ?_
              refine g_ild2 (pc' := 112) dX9_after_111 rfl ?_
              refine g_icmpneN (pc' := 115) (by omega) (by omega) (tgt := 119) dX9_after_112 (by decide) rfl (fun h112 => ?_) (fun h112 => ?_)
              · refine g_ild4 (pc' := 121) dX9_after_119 rfl ?_
                refine g_iconst (pc' := 122) (v := nI 1) dX9_after_121 rfl (by decide) ?_
                refine g_iaddN (pc' := 123) dX9_after_122 rfl ?_
                refine g_ist3 (pc' := 124) rfl (by decide) dX9_after_123 rfl ?_
                refine g_ild5 (pc' := 126) dX9_after_124 rfl ?_
                refine g_ist2 (pc' := 127) rfl (by decide) dX9_after_126 rfl ?_
                refine g_inc4 (pc' := 130) rfl (by decide) (v := nI (k + 1)) (nI_1 _) dX9_after_127 rfl ?_
                refine g_goto (tgt := 70) dX9_after_130 (by decide) ?_
                have e : frN (fun q => grN (tallyN lg q) n) (k + 1) = k + 1 := if_neg (by omega)
                refine G.lsub [some (.inr (.inr (some (40, 0)))), some (.inl (nI w)), some (.inl (nI (grN (tallyN lg (k + 1)) n))), some (.inl (nI (k + 1))), some (.inl (nI (k + 1))), none] (by intro j v; rcases j with _ | _ | _ | _ | _ | _ | j <;> simp) ?_
                have hI := ih (upM J (81, 0) (lg k) (J (81, 0) (lg k) + nI 1)) ⟨hP.1.up (by simp [afP]), hnJ2⟩
                rw [e] at hI
                exact hI
              · refine g_ild3 (pc' := 116) dX9_after_115 rfl ?_
                refine g_goto (tgt := 123) dX9_after_116 (by decide) ?_
                refine g_ist3 (pc' := 124) rfl (by decide) dX9_after_123 rfl ?_
                refine g_ild5 (pc' := 126) dX9_after_124 rfl ?_
                refine g_ist2 (pc' := 127) rfl (by decide) dX9_after_126 rfl ?_
                refine g_inc4 (pc' := 130) rfl (by decide) (v := nI (k + 1)) (nI_1 _) dX9_after_127 rfl ?_
                refine g_goto (tgt := 70) dX9_after_130 (by decide) ?_
                have e : frN (fun q => grN (tallyN lg q) n) (k + 1) = frN (fun q => grN (tallyN lg q) n) k := if_pos (by omega)
                refine G.lsub [some (.inr (.inr (some (40, 0)))), some (.inl (nI w)), some (.inl (nI (grN (tallyN lg (k + 1)) n))), some (.inl (nI (frN (fun q => grN (tallyN lg q) n) k))), some (.inl (nI (k + 1))), none] (by intro j v; rcases j with _ | _ | _ | _ | _ | _ | j <;> simp) ?_
                have hI := ih (upM J (81, 0) (lg k) (J (81, 0) (lg k) + nI 1)) ⟨hP.1.up (by simp [afP]), hnJ2⟩
                rw [e] at hI
                exact hI
          · intro J hP
            have hnJ : J (40, 0) 6 = nI n := (hP.1 _ _ (by simp [afP])).trans hn
            have hkJ : J (74, 0) w = nI ke := (hP.1 _ _ (by simp [afP])).trans hke
            refine g_ild4 (pc' := 72) dX9_after_70 rfl ?_
            refine g_ald0 (pc' := 73) dX9_after_72 rfl ?_
            refine g_getR (pc' := 76) mg.s40 (by decide) fX9_49 mg.r40_24 dX9_after_73 rfl ?_
            refine g_ild1 (pc' := 77) dX9_after_76 rfl ?_
            refine g_iald (pc' := 78) (j := w) mg.s74 rfl (by omega) (by decide) hkJ dX9_after_77 rfl ?_
            refine g_icmpgeN (pc' := 81) (by omega) (by omega) (tgt := 133) dX9_after_78 (by decide) rfl (fun h78 => ?_) (fun h78 => ?_)
            · refine g_ild3 (pc' := 134) dX9_after_133 rfl ?_
              refine g_iret rfl dX9_after_134 ?_
              exact eI ⟨rfl, hP.1⟩
            · exact absurd h78 (by omega)
        · exact absurd h44 (by omega)
    · exact absurd h31 (by omega)
  · exact absurd h16 (by omega)

def kbX : Nat → Int32 → Option Nat
  | 0, x => if x = 0 then some 0 else none
  | f + 1, x => if x = 0 then some 0 else (kbX f (x &&& (x - nI 1))).map (· + 1)
theorem bits_loop {l : Launch} {S : Shp} {I : MI} {L : ML} {R : MR} {y : Int32} {k0 : Nat} : ∀ (f c : Nat) (x : Int32) (k : Nat), kbX f x = some k → c + k = k0 → G l mX9_bitsOf (rmd 1 0 0) (QM (PIp S I L R (nI k0)) 0 0) 0 0 4 [some (.inl y), some (.inl (nI c)), some (.inl x)] [] S I L R
  | 0, c, x, k, h, hk => by
    by_cases hx : x = 0
    · have e : kbX 0 x = some 0 := if_pos hx
      rw [e] at h
      injection h with h
      have hk : c = k0 := by omega
      refine g_ild2 (pc' := 5) dX9_bitsOf_4 rfl ?_
      refine g_ifeq (pc' := 8) (tgt := 20) dX9_bitsOf_5 (by decide) rfl (fun h5 => ?_) (fun h5 => (by first | exact absurd h5 hx | exact absurd hx h5))
      refine g_ild1 (pc' := 21) dX9_bitsOf_20 rfl ?_
      refine g_iret rfl dX9_bitsOf_21 ?_
      exact eIp (by rw [hk])
    · rw [kbX, if_neg hx] at h
      cases h
  | f + 1, c, x, k, h, hk => by
    have ih := bits_loop (l := l) (S := S) (I := I) (L := L) (R := R) (y := y) (k0 := k0) f
    by_cases hx : x = 0
    · rw [kbX, if_pos hx] at h
      injection h with h
      have hk : c = k0 := by omega
      refine g_ild2 (pc' := 5) dX9_bitsOf_4 rfl ?_
      refine g_ifeq (pc' := 8) (tgt := 20) dX9_bitsOf_5 (by decide) rfl (fun h5 => ?_) (fun h5 => (by first | exact absurd h5 hx | exact absurd hx h5))
      refine g_ild1 (pc' := 21) dX9_bitsOf_20 rfl ?_
      refine g_iret rfl dX9_bitsOf_21 ?_
      exact eIp (by rw [hk])
    · rw [kbX, if_neg hx] at h
      cases hk2 : kbX f (x &&& (x - nI 1)) with
      | none => rw [hk2] at h; cases h
      | some k2 =>
        rw [hk2] at h
        simp only [Option.map_some, Option.some.injEq] at h
        refine g_ild2 (pc' := 5) dX9_bitsOf_4 rfl ?_
        refine g_ifeq (pc' := 8) (tgt := 20) dX9_bitsOf_5 (by decide) rfl (fun h5 => (by first | exact absurd h5 hx | exact absurd hx h5)) (fun h5 => ?_)
        refine g_inc1 (pc' := 11) rfl (by decide) (v := nI (c + 1)) (nI_1 _) dX9_bitsOf_8 rfl ?_
        refine g_ild2 (pc' := 12) dX9_bitsOf_11 rfl ?_
        refine g_ild2 (pc' := 13) dX9_bitsOf_12 rfl ?_
        refine g_iconst (pc' := 14) (v := nI 1) dX9_bitsOf_13 rfl (by decide) ?_
        refine g_isub (pc' := 15) dX9_bitsOf_14 rfl ?_
        refine g_iand (pc' := 16) dX9_bitsOf_15 rfl ?_
        refine g_ist2 (pc' := 17) rfl (by decide) dX9_bitsOf_16 rfl ?_
        refine g_goto (tgt := 4) dX9_bitsOf_17 (by decide) ?_
        refine ih (c + 1) _ _ hk2 ?_
        omega

theorem c_mBits (l : Launch) {S : Shp} {I : MI} {L : ML} {R : MR} {y : Int32} {f k : Nat} (h : kbX f y = some k) : Ct l mX9_bitsOf 1 0 0 [.inl y] S I L R (PIp S I L R (nI k)) := by
  refine Ct.of [some (.inl y), none, none] (by decide) rfl (Nat.le_of_ble_eq_true rfl) ?_
  refine g_iconst (pc' := 1) (v := nI 0) dX9_bitsOf_0 rfl (by decide) ?_
  refine g_ist1 (pc' := 2) rfl (by decide) dX9_bitsOf_1 rfl ?_
  refine g_ild0 (pc' := 3) dX9_bitsOf_2 rfl ?_
  refine g_ist2 (pc' := 4) rfl (by decide) dX9_bitsOf_3 rfl ?_
  exact bits_loop f 0 y k h (by omega)

theorem c_mHouseB (l : Launch) {S : Shp} {I : MI} {L : ML} {R : MR} (mg : MG S R) {n : Nat} (hn : I (40, 0) 6 = nI n) (hN : n ≤ 12) {m : Nat} (hm : I (40, 0) 18 = nI m) (hM : m ≤ 9) {x y z u : Int32} (hb : inb x m = false ∨ y < 0 ∨ ¬ (y >>> (nI n &&& 31)) = 0 ∨ (z < nI 1 ∨ nI n < z) ∨ u < nI 0 ∨ nI 3 < u) : Ct l mX9_house 3 0 0 [.inr (.inr (some (40, 0))), .inl x, .inl y, .inl z, .inl u] S I L R (PIp S I L R (-2000000000)) := by
  refine Ct.of [some (.inr (.inr (some (40, 0)))), some (.inl x), some (.inl y), some (.inl z), some (.inl u), none, none, none] (by decide) rfl (Nat.le_of_ble_eq_true rfl) ?_
  refine g_ald0 (pc' := 1) dX9_house_0 rfl ?_
  refine g_ild1 (pc' := 2) dX9_house_1 rfl ?_
  refine g_callV (pc' := 5) (c_misWorld l mg hm hM x) mg.s40 (by decide) wX9_isWorld lX9_186 rfl rfl (Nat.le_of_ble_eq_true rfl) ⟨Nat.le_of_ble_eq_true rfl, Nat.le_of_ble_eq_true rfl⟩ ⟨Nat.le_of_ble_eq_true rfl, Nat.le_of_ble_eq_true rfl⟩ dX9_house_2 rfl (kIp ?_)
  refine g_ifeqB (pc' := 8) (tgt := 48) dX9_house_5 (by decide) rfl (fun h5 => ?_) (fun h5 => ?_)
  · refine g_ldcw (pc' := 51) dX9_house_48 rfl kX9_291 ?_
    refine g_iret rfl dX9_house_51 ?_
    exact eIp rfl
  · refine g_ild2 (pc' := 9) dX9_house_8 rfl ?_
    refine g_iflt (pc' := 12) (tgt := 48) dX9_house_9 (by decide) rfl (fun h9 => ?_) (fun h9 => ?_)
    · refine g_ldcw (pc' := 51) dX9_house_48 rfl kX9_291 ?_
      refine g_iret rfl dX9_house_51 ?_
      exact eIp rfl
    · refine g_ild2 (pc' := 13) dX9_house_12 rfl ?_
      refine g_ald0 (pc' := 14) dX9_house_13 rfl ?_
      refine g_getI (pc' := 17) mg.s40 (by decide) fX9_99 hn dX9_house_14 rfl ?_
      refine g_ishr (pc' := 18) dX9_house_17 rfl ?_
      refine g_ifne (pc' := 21) (tgt := 48) dX9_house_18 (by decide) rfl (fun h18 => ?_) (fun h18 => ?_)
      · refine g_ldcw (pc' := 51) dX9_house_48 rfl kX9_291 ?_
        refine g_iret rfl dX9_house_51 ?_
        exact eIp rfl
      · refine g_ild3 (pc' := 22) dX9_house_21 rfl ?_
        refine g_i2l (pc' := 23) dX9_house_22 rfl ?_
        refine g_lconst (pc' := 24) (v := 1) dX9_house_23 rfl (by decide) ?_
        refine g_ald0 (pc' := 25) dX9_house_24 rfl ?_
        refine g_getI (pc' := 28) mg.s40 (by decide) fX9_99 hn dX9_house_25 rfl ?_
        refine g_i2l (pc' := 29) dX9_house_28 rfl ?_
        refine g_callS (pc' := 32) (c_mWI l z (nI 1) (nI n) (A := 1) (by decide) rfl) wX9_within lX9_102 rfl rfl (Nat.le_of_ble_eq_true rfl) ⟨Nat.le_of_ble_eq_true rfl, Nat.le_of_ble_eq_true rfl⟩ ⟨Nat.le_of_ble_eq_true rfl, Nat.le_of_ble_eq_true rfl⟩ dX9_house_29 rfl (kIp ?_)
        refine g_ifeqB (pc' := 35) (tgt := 48) dX9_house_32 (by decide) rfl (fun h32 => ?_) (fun h32 => ?_)
        · refine g_ldcw (pc' := 51) dX9_house_48 rfl kX9_291 ?_
          refine g_iret rfl dX9_house_51 ?_
          exact eIp rfl
        · refine g_ild4 (pc' := 37) dX9_house_35 rfl ?_
          refine g_i2l (pc' := 38) dX9_house_37 rfl ?_
          refine g_lconst (pc' := 39) (v := 0) dX9_house_38 rfl (by decide) ?_
          refine g_ldc2 (pc' := 42) dX9_house_39 rfl kX9_289 ?_
          refine g_callS (pc' := 45) (c_mWI l u (nI 0) (nI 3) (A := 0) (B := 3) (by decide) (by decide)) wX9_within lX9_102 rfl rfl (Nat.le_of_ble_eq_true rfl) ⟨Nat.le_of_ble_eq_true rfl, Nat.le_of_ble_eq_true rfl⟩ ⟨Nat.le_of_ble_eq_true rfl, Nat.le_of_ble_eq_true rfl⟩ dX9_house_42 rfl (kIp ?_)
          refine g_ifneB (pc' := 48) (tgt := 52) dX9_house_45 (by decide) rfl (fun h45 => ?_) (fun h45 => ?_)
          · exfalso
            rcases hb with h | h | h | h | h
            · rw [h] at h5; cases h5
            · exact h9 h
            · exact h h18
            · exact wi_no h h32
            · exact wi_no h h45
          · refine g_ldcw (pc' := 51) dX9_house_48 rfl kX9_291 ?_
            refine g_iret rfl dX9_house_51 ?_
            exact eIp rfl

def hiC (y : Int32) (f : Nat → Int32) (n h s : Nat) : Bool := decide (((y >>> (nI s &&& 31)) &&& nI 1) = nI 1) && decide (plc f n s < h)
def drwI (y : Int32) (f : Nat → Int32) (n h : Nat) : Nat → Int32
  | 0 => y
  | s + 1 => if hiC y f n h s = true then drwI y f n h s &&& ((nI 1 <<< (nI s &&& 31)) ^^^ (-1)) else drwI y f n h s
def hsVm (y : Int32) (f : Nat → Int32) (n h k q : Nat) : Int32 := if q = 0 then nI (ctN (hiC y f n h) n) else if q = 1 then nI (k * h * 1000 / n) else if q = 2 then nI (1000 * ctN (hiC y f n h) n) - nI (k * h * 1000 / n) else drwI y f n h n
theorem c_mHouseS (l : Launch) {S : Shp} {I : MI} {L : ML} {R : MR} (mg : MG S R) {n : Nat} (hn : I (40, 0) 6 = nI n) (hN : n ≤ 12) {m : Nat} (hm : I (40, 0) 18 = nI m) (hM : m ≤ 9) {w : Nat} (hwm : w < m) {f : Nat → Int32} (hf : ∀ o, o < n → I (50, 0) (23 + 12 * w + o) = f o) {y : Int32} (hy : ¬ y < 0) (hy2 : (y >>> (nI n &&& 31)) = 0) {h q : Nat} (h1h : 1 ≤ h) (hhn : h ≤ n) (hq3 : q ≤ 3) {fu k : Nat} (hkb : kbX fu y = some k) (hk12 : k ≤ 12) : Ct l mX9_house 3 0 0 [.inr (.inr (some (40, 0))), .inl (nI w), .inl y, .inl (nI h), .inl (nI q)] S I L R (PIp S I L R (hsVm y f n h k q)) := by
  refine Ct.of [some (.inr (.inr (some (40, 0)))), some (.inl (nI w)), some (.inl y), some (.inl (nI h)), some (.inl (nI q)), none, none, none] (by decide) rfl (Nat.le_of_ble_eq_true rfl) ?_
  refine g_ald0 (pc' := 1) dX9_house_0 rfl ?_
  refine g_ild1 (pc' := 2) dX9_house_1 rfl ?_
  refine g_callV (pc' := 5) (c_misWorld l mg hm hM (nI w)) mg.s40 (by decide) wX9_isWorld lX9_186 rfl rfl (Nat.le_of_ble_eq_true rfl) ⟨Nat.le_of_ble_eq_true rfl, Nat.le_of_ble_eq_true rfl⟩ ⟨Nat.le_of_ble_eq_true rfl, Nat.le_of_ble_eq_true rfl⟩ dX9_house_2 rfl (kIp ?_)
  refine g_ifeqB (pc' := 8) (tgt := 48) dX9_house_5 (by decide) rfl (fun h5 => (by first | exact absurd h5 (by rw [inb_nI (by omega) (by omega)]; simp [hwm]) | exact absurd (by rw [inb_nI (by omega) (by omega)]; simp [hwm]) h5)) (fun h5 => ?_)
  refine g_ild2 (pc' := 9) dX9_house_8 rfl ?_
  refine g_iflt (pc' := 12) (tgt := 48) dX9_house_9 (by decide) rfl (fun h9 => (by first | exact absurd h9 hy | exact absurd hy h9)) (fun h9 => ?_)
  refine g_ild2 (pc' := 13) dX9_house_12 rfl ?_
  refine g_ald0 (pc' := 14) dX9_house_13 rfl ?_
  refine g_getI (pc' := 17) mg.s40 (by decide) fX9_99 hn dX9_house_14 rfl ?_
  refine g_ishr (pc' := 18) dX9_house_17 rfl ?_
  refine g_ifne (pc' := 21) (tgt := 48) dX9_house_18 (by decide) rfl (fun h18 => (by first | exact absurd h18 hy2 | exact absurd hy2 h18)) (fun h18 => ?_)
  refine g_ild3 (pc' := 22) dX9_house_21 rfl ?_
  refine g_i2l (pc' := 23) dX9_house_22 rfl ?_
  refine g_lconst (pc' := 24) (v := 1) dX9_house_23 rfl (by decide) ?_
  refine g_ald0 (pc' := 25) dX9_house_24 rfl ?_
  refine g_getI (pc' := 28) mg.s40 (by decide) fX9_99 hn dX9_house_25 rfl ?_
  refine g_i2l (pc' := 29) dX9_house_28 rfl ?_
  refine g_callS (pc' := 32) (c_mWI l (nI h) (nI 1) (nI n) (A := 1) (by decide) rfl) wX9_within lX9_102 rfl rfl (Nat.le_of_ble_eq_true rfl) ⟨Nat.le_of_ble_eq_true rfl, Nat.le_of_ble_eq_true rfl⟩ ⟨Nat.le_of_ble_eq_true rfl, Nat.le_of_ble_eq_true rfl⟩ dX9_house_29 rfl (kIp ?_)
  refine g_ifeqB (pc' := 35) (tgt := 48) dX9_house_32 (by decide) rfl (fun h32 => (by first | exact absurd h32 (wi_yesN (by omega) (by omega)) | exact absurd (wi_yesN (by omega) (by omega)) h32)) (fun h32 => ?_)
  refine g_ild4 (pc' := 37) dX9_house_35 rfl ?_
  refine g_i2l (pc' := 38) dX9_house_37 rfl ?_
  refine g_lconst (pc' := 39) (v := 0) dX9_house_38 rfl (by decide) ?_
  refine g_ldc2 (pc' := 42) dX9_house_39 rfl kX9_289 ?_
  refine g_callS (pc' := 45) (c_mWI l (nI q) (nI 0) (nI 3) (A := 0) (B := 3) (by decide) (by decide)) wX9_within lX9_102 rfl rfl (Nat.le_of_ble_eq_true rfl) ⟨Nat.le_of_ble_eq_true rfl, Nat.le_of_ble_eq_true rfl⟩ ⟨Nat.le_of_ble_eq_true rfl, Nat.le_of_ble_eq_true rfl⟩ dX9_house_42 rfl (kIp ?_)
  refine g_ifneB (pc' := 48) (tgt := 52) dX9_house_45 (by decide) rfl (fun h45 => ?_) (fun h45 => (by first | exact absurd h45 (wi_yesN (by omega) (by decide)) | exact absurd (wi_yesN (by omega) (by decide)) h45))
  refine g_iconst (pc' := 53) (v := nI 0) dX9_house_52 rfl (by decide) ?_
  refine g_ist5 (pc' := 55) rfl (by decide) dX9_house_53 rfl ?_
  refine g_ild2 (pc' := 56) dX9_house_55 rfl ?_
  refine g_ist6 (pc' := 58) rfl (by decide) dX9_house_56 rfl ?_
  refine g_iconst (pc' := 59) (v := nI 0) dX9_house_58 rfl (by decide) ?_
  refine g_ist7 (pc' := 61) rfl (by decide) dX9_house_59 rfl ?_
  refine g_loop (σ := Unit) (fun _ _ => True) (fun s _ => [some (.inr (.inr (some (40, 0)))), some (.inl (nI w)), some (.inl y), some (.inl (nI h)), some (.inl (nI q)), some (.inl (nI (ctN (hiC y f n h) s))), some (.inl (drwI y f n h s)), some (.inl (nI s))]) (fun _ _ => I) n 0 () (by omega) trivial ?_ ?_
  · intro s _ hs hP ih
    have hpl := (rk_plc (f := f) hs).1
    have hcl := ctN_le (hiC y f n h) s
    refine g_ild7 (pc' := 63) dX9_house_61 rfl ?_
    refine g_ald0 (pc' := 64) dX9_house_63 rfl ?_
    refine g_getI (pc' := 67) mg.s40 (by decide) fX9_99 hn dX9_house_64 rfl ?_
    refine g_icmpgeN (pc' := 70) (by omega) (by omega) (tgt := 111) dX9_house_67 (by decide) rfl (fun h67 => ?_) (fun h67 => ?_)
    · exact absurd h67 (by omega)
    · refine g_ild2 (pc' := 71) dX9_house_70 rfl ?_
      refine g_ild7 (pc' := 73) dX9_house_71 rfl ?_
      refine g_ishr (pc' := 74) dX9_house_73 rfl ?_
      refine g_iconst (pc' := 75) (v := nI 1) dX9_house_74 rfl (by decide) ?_
      refine g_iand (pc' := 76) dX9_house_75 rfl ?_
      refine g_iconst (pc' := 77) (v := nI 1) dX9_house_76 rfl (by decide) ?_
      refine g_icmpne (pc' := 80) (tgt := 105) dX9_house_77 (by decide) rfl (fun h77 => ?_) (fun h77 => ?_)
      · refine g_inc7 (pc' := 108) rfl (by decide) (v := nI (s + 1)) (nI_1 _) dX9_house_105 rfl ?_
        refine g_goto (tgt := 61) dX9_house_108 (by decide) ?_
        have hpl := (rk_plc (f := f) hs).1
        have hcl := ctN_le (hiC y f n h) s
        have e : hiC y f n h s = false := by unfold hiC; first | (rw [decide_eq_false h77]; rfl) | (rw [decide_eq_false (show ¬ plc f n s < h by omega), Bool.and_false])
        have e1 : ctN (hiC y f n h) (s + 1) = ctN (hiC y f n h) s := by rw [ctN, e]; rfl
        have e2 : drwI y f n h (s + 1) = drwI y f n h s := by rw [drwI, e]; rfl
        have hI := ih () trivial
        rw [e1, e2] at hI
        exact hI
      · refine g_ald0 (pc' := 81) dX9_house_80 rfl ?_
        refine g_ild1 (pc' := 82) dX9_house_81 rfl ?_
        refine g_ild7 (pc' := 84) dX9_house_82 rfl ?_
        refine g_callV (pc' := 87) (c_mPlace l mg hn hN (by omega) hf (s := s) hs) mg.s40 (by decide) wX9_place lX9_194 rfl rfl (Nat.le_of_ble_eq_true rfl) ⟨Nat.le_of_ble_eq_true rfl, Nat.le_of_ble_eq_true rfl⟩ ⟨Nat.le_of_ble_eq_true rfl, Nat.le_of_ble_eq_true rfl⟩ dX9_house_84 rfl (kIp ?_)
        refine g_ild3 (pc' := 88) dX9_house_87 rfl ?_
        refine g_icmpgeN (pc' := 91) (by omega) (by omega) (tgt := 105) dX9_house_88 (by decide) rfl (fun h88 => ?_) (fun h88 => ?_)
        · refine g_inc7 (pc' := 108) rfl (by decide) (v := nI (s + 1)) (nI_1 _) dX9_house_105 rfl ?_
          refine g_goto (tgt := 61) dX9_house_108 (by decide) ?_
          have hpl := (rk_plc (f := f) hs).1
          have hcl := ctN_le (hiC y f n h) s
          have e : hiC y f n h s = false := by unfold hiC; first | (rw [decide_eq_false h77]; rfl) | (rw [decide_eq_false (show ¬ plc f n s < h by omega), Bool.and_false])
          have e1 : ctN (hiC y f n h) (s + 1) = ctN (hiC y f n h) s := by rw [ctN, e]; rfl
          have e2 : drwI y f n h (s + 1) = drwI y f n h s := by rw [drwI, e]; rfl
          have hI := ih () trivial
          rw [e1, e2] at hI
          exact hI
        · refine g_inc5 (pc' := 94) rfl (by decide) (v := nI (ctN (hiC y f n h) s + 1)) (nI_1 _) dX9_house_91 rfl ?_
          refine g_ild6 (pc' := 96) dX9_house_94 rfl ?_
          refine g_iconst (pc' := 97) (v := nI 1) dX9_house_96 rfl (by decide) ?_
          refine g_ild7 (pc' := 99) dX9_house_97 rfl ?_
          refine g_ishl (pc' := 100) dX9_house_99 rfl ?_
          refine g_iconst (pc' := 101) (v := (-1)) dX9_house_100 rfl (by decide) ?_
          refine g_ixor (pc' := 102) dX9_house_101 rfl ?_
          refine g_iand (pc' := 103) dX9_house_102 rfl ?_
          refine g_ist6 (pc' := 105) rfl (by decide) dX9_house_103 rfl ?_
          refine g_inc7 (pc' := 108) rfl (by decide) (v := nI (s + 1)) (nI_1 _) dX9_house_105 rfl ?_
          refine g_goto (tgt := 61) dX9_house_108 (by decide) ?_
          have hpl := (rk_plc (f := f) hs).1
          have hcl := ctN_le (hiC y f n h) s
          have e : hiC y f n h s = true := by unfold hiC; rw [decide_eq_true h77, decide_eq_true (show plc f n s < h by omega)]; rfl
          have e1 : ctN (hiC y f n h) (s + 1) = ctN (hiC y f n h) s + 1 := by rw [ctN, e]; rfl
          have e2 : drwI y f n h (s + 1) = drwI y f n h s &&& ((nI 1 <<< (nI s &&& 31)) ^^^ (-1)) := by rw [drwI, e]; rfl
          have hI := ih () trivial
          rw [e1, e2] at hI
          exact hI
  · intro _ hP
    have hcl := ctN_le (hiC y f n h) n
    have hkh : k * h ≤ 12 * 12 := Nat.mul_le_mul hk12 (by omega)
    refine g_ild7 (pc' := 63) dX9_house_61 rfl ?_
    refine g_ald0 (pc' := 64) dX9_house_63 rfl ?_
    refine g_getI (pc' := 67) mg.s40 (by decide) fX9_99 hn dX9_house_64 rfl ?_
    refine g_icmpgeN (pc' := 70) (by omega) (by omega) (tgt := 111) dX9_house_67 (by decide) rfl (fun h67 => ?_) (fun h67 => ?_)
    · refine g_ild2 (pc' := 112) dX9_house_111 rfl ?_
      refine g_callS (pc' := 115) (c_mBits l hkb) wX9_bitsOf lX9_292 rfl rfl (Nat.le_of_ble_eq_true rfl) ⟨Nat.le_of_ble_eq_true rfl, Nat.le_of_ble_eq_true rfl⟩ ⟨Nat.le_of_ble_eq_true rfl, Nat.le_of_ble_eq_true rfl⟩ dX9_house_112 rfl (kIp ?_)
      refine g_ild3 (pc' := 116) dX9_house_115 rfl ?_
      refine g_imulN (pc' := 117) dX9_house_116 rfl ?_
      refine g_sipush (pc' := 120) (v := nI 1000) dX9_house_117 rfl (by decide) ?_
      refine g_imulN (pc' := 121) dX9_house_120 rfl ?_
      refine g_ald0 (pc' := 122) dX9_house_121 rfl ?_
      refine g_getI (pc' := 125) mg.s40 (by decide) fX9_99 hn dX9_house_122 rfl ?_
      refine g_idivN (pc' := 126) (by omega) dX9_house_125 rfl ?_
      refine g_ist7 (pc' := 128) rfl (by decide) dX9_house_126 rfl ?_
      refine g_ild4 (pc' := 130) dX9_house_128 rfl ?_
      refine g_ifneN (pc' := 133) (by omega) (tgt := 138) dX9_house_130 (by decide) rfl (fun h130 => ?_) (fun h130 => ?_)
      · refine g_ild4 (pc' := 140) dX9_house_138 rfl ?_
        refine g_iconst (pc' := 141) (v := nI 1) dX9_house_140 rfl (by decide) ?_
        refine g_icmpneN (pc' := 144) (by omega) (by omega) (tgt := 149) dX9_house_141 (by decide) rfl (fun h141 => ?_) (fun h141 => ?_)
        · refine g_ild4 (pc' := 151) dX9_house_149 rfl ?_
          refine g_iconst (pc' := 152) (v := nI 2) dX9_house_151 rfl (by decide) ?_
          refine g_icmpneN (pc' := 155) (by omega) (by omega) (tgt := 167) dX9_house_152 (by decide) rfl (fun h152 => ?_) (fun h152 => ?_)
          · refine g_ild6 (pc' := 169) dX9_house_167 rfl ?_
            refine g_iret rfl dX9_house_169 ?_
            exact eIp (by unfold hsVm; first | (rw [if_pos (by omega)]; done) | (rw [if_neg (by omega), if_pos (by omega)]; done) | (rw [if_neg (by omega), if_neg (by omega), if_pos (by omega)]; done) | (rw [if_neg (by omega), if_neg (by omega), if_neg (by omega)]))
          · refine g_sipush (pc' := 158) (v := nI 1000) dX9_house_155 rfl (by decide) ?_
            refine g_ild5 (pc' := 160) dX9_house_158 rfl ?_
            refine g_imulN (pc' := 161) dX9_house_160 rfl ?_
            refine g_ild7 (pc' := 163) dX9_house_161 rfl ?_
            refine g_isub (pc' := 164) dX9_house_163 rfl ?_
            refine g_goto (tgt := 169) dX9_house_164 (by decide) ?_
            refine g_iret rfl dX9_house_169 ?_
            exact eIp (by unfold hsVm; first | (rw [if_pos (by omega)]; done) | (rw [if_neg (by omega), if_pos (by omega)]; done) | (rw [if_neg (by omega), if_neg (by omega), if_pos (by omega)]; done) | (rw [if_neg (by omega), if_neg (by omega), if_neg (by omega)]))
        · refine g_ild7 (pc' := 146) dX9_house_144 rfl ?_
          refine g_goto (tgt := 169) dX9_house_146 (by decide) ?_
          refine g_iret rfl dX9_house_169 ?_
          exact eIp (by unfold hsVm; first | (rw [if_pos (by omega)]; done) | (rw [if_neg (by omega), if_pos (by omega)]; done) | (rw [if_neg (by omega), if_neg (by omega), if_pos (by omega)]; done) | (rw [if_neg (by omega), if_neg (by omega), if_neg (by omega)]))
      · refine g_ild5 (pc' := 135) dX9_house_133 rfl ?_
        refine g_goto (tgt := 169) dX9_house_135 (by decide) ?_
        refine g_iret rfl dX9_house_169 ?_
        exact eIp (by unfold hsVm; first | (rw [if_pos (by omega)]; done) | (rw [if_neg (by omega), if_pos (by omega)]; done) | (rw [if_neg (by omega), if_neg (by omega), if_pos (by omega)]; done) | (rw [if_neg (by omega), if_neg (by omega), if_neg (by omega)]))
    · exact absurd h67 (by omega)
