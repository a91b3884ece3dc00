/-! the model: keeping, unlike, luck -/
def kpM (I : MI) (w ke s : Nat) (x : Int32) : MI := upM (upM (if ke < 200 then upM I (75, 0) (200 * w + ke) (nI s) else I) (74, 0) w (nI (ke + 1))) (50, 0) (23 + 12 * w + s) (minI (x + nI 1) 99999)
theorem mi_top {x : Int32} {q : Nat} (hq : q ≤ 99999) (hx : x = nI q) : (x < 99999 → x + nI 1 = minI (x + nI 1) 99999) ∧ (99999 ≤ x → x + nI 0 = minI (x + nI 1) 99999) := by
  subst hx
  have e9 : (99999 : Int32) = nI 99999 := by decide
  rw [e9, nI_add, nI_add]
  unfold minI
  constructor
  · intro h
    rw [nI_ltI (by omega) (by omega)] at h
    rw [if_neg (by rw [nI_ltI (by omega) (by omega)]; omega)]
  · intro h
    rw [nI_leI (by omega) (by omega)] at h
    rw [if_pos (by rw [nI_ltI (by omega) (by omega)]; omega), show q + 0 = 99999 by omega]
def triI (g : Nat → Nat → Int32) (n : Nat) : Int32 := sumN (fun a => sumN (fun b => g a b) a) n
def triN (g : Nat → Nat → Nat) (n : Nat) : Nat := sN (fun a => sN (fun b => g a b) a) n
theorem c_mKeeps (l : Launch) {S : Shp} {I : MI} {L : ML} {R : MR} (mg : MG S R) {w : Nat} (hw : w < 11) {s : Nat} (hs : s < 12) {ke : Nat} (hke : I (74, 0) w = nI ke) (hk : ke < 2 ^ 30) {x : Int32} {q : Nat} (hx : I (50, 0) (23 + 12 * w + s) = x) (hq9 : q ≤ 99999) (hxq : x = nI q) : Ct l mX9_keeps 1 0 0 [.inr (.inr (some (40, 0))), .inl (nI w), .inl (nI s)] S I L R (PVm S L R (fun J => J = kpM I w ke s x)) := by
  refine Ct.of [some (.inr (.inr (some (40, 0)))), some (.inl (nI w)), some (.inl (nI s)), none] (by decide) rfl (Nat.le_of_ble_eq_true rfl) ?_
  refine g_ald0 (pc' := 1) dX9_keeps_0 rfl ?_
  refine g_getR (pc' := 4) mg.s40 (by decide) fX9_49 mg.r40_24 dX9_keeps_1 rfl ?_
  refine g_ild1 (pc' := 5) dX9_keeps_4 rfl ?_
  refine g_iald (pc' := 6) (j := w) mg.s74 rfl (by omega) (by decide) hke dX9_keeps_5 rfl ?_
  refine g_sipush (pc' := 9) (v := nI 200) dX9_keeps_6 rfl (by decide) ?_
  refine g_icmpgeN (pc' := 12) (by omega) (by omega) (tgt := 30) dX9_keeps_9 (by decide) rfl (fun h9 => ?_) (fun h9 => ?_)
  · refine g_ald0 (pc' := 31) dX9_keeps_30 rfl ?_
    refine g_getR (pc' := 34) mg.s40 (by decide) fX9_49 mg.r40_24 dX9_keeps_31 rfl ?_
    refine g_ild1 (pc' := 35) dX9_keeps_34 rfl ?_
    refine g_dup2 (pc' := 36) dX9_keeps_35 rfl ?_
    refine g_iald (pc' := 37) (j := w) mg.s74 rfl (by omega) (by decide) (v := nI ke) (by first | (rw [upM_n _ (by simp)]; exact hke) | exact hke) dX9_keeps_36 rfl ?_
    refine g_iconst (pc' := 38) (v := nI 1) dX9_keeps_37 rfl (by decide) ?_
    refine g_iaddN (pc' := 39) dX9_keeps_38 rfl ?_
    refine g_iast (pc' := 40) (j := w) mg.s74 rfl (by omega) (by decide) dX9_keeps_39 rfl ?_
    refine g_bipush (pc' := 42) (v := nI 23) dX9_keeps_40 rfl (by decide) ?_
    refine g_bipush (pc' := 44) (v := nI 12) dX9_keeps_42 rfl (by decide) ?_
    refine g_ild1 (pc' := 45) dX9_keeps_44 rfl ?_
    refine g_imulN (pc' := 46) dX9_keeps_45 rfl ?_
    refine g_iaddN (pc' := 47) dX9_keeps_46 rfl ?_
    refine g_ild2 (pc' := 48) dX9_keeps_47 rfl ?_
    refine g_iaddN (pc' := 49) dX9_keeps_48 rfl ?_
    refine g_ist3 (pc' := 50) rfl (by decide) dX9_keeps_49 rfl ?_
    refine g_ald0 (pc' := 51) dX9_keeps_50 rfl ?_
    refine g_getR (pc' := 54) mg.s40 (by decide) fX9_9 mg.r40_0 dX9_keeps_51 rfl ?_
    refine g_ild3 (pc' := 55) dX9_keeps_54 rfl ?_
    refine g_dup2 (pc' := 56) dX9_keeps_55 rfl ?_
    refine g_iald (pc' := 57) (j := (23 + (12 * w)) + s) mg.s50 rfl (by omega) (by decide) (v := x) (by first | (rw [upM_n _ (by simp), upM_n _ (by simp)]; exact hx) | (rw [upM_n _ (by simp)]; exact hx)) dX9_keeps_56 rfl ?_
    refine g_ald0 (pc' := 58) dX9_keeps_57 rfl ?_
    refine g_getR (pc' := 61) mg.s40 (by decide) fX9_9 mg.r40_0 dX9_keeps_58 rfl ?_
    refine g_ild3 (pc' := 62) dX9_keeps_61 rfl ?_
    refine g_iald (pc' := 63) (j := (23 + (12 * w)) + s) mg.s50 rfl (by omega) (by decide) (v := x) (by first | (rw [upM_n _ (by simp), upM_n _ (by simp)]; exact hx) | (rw [upM_n _ (by simp)]; exact hx)) dX9_keeps_62 rfl ?_
    refine g_ldc (pc' := 65) dX9_keeps_63 rfl kX9_222 ?_
    refine g_icmpge (pc' := 68) (tgt := 72) dX9_keeps_65 (by decide) rfl (fun h65 => ?_) (fun h65 => ?_)
    · refine g_iconst (pc' := 73) (v := nI 0) dX9_keeps_72 rfl (by decide) ?_
      refine g_iadd (pc' := 74) dX9_keeps_73 rfl ?_
      have hmt := mi_top hq9 hxq
      refine g_topi (v := minI (x + nI 1) 99999) (by first | exact hmt.1 (Int32.not_le.mp h65) | exact hmt.2 h65) ?_
      refine g_iast (pc' := 75) (j := (23 + (12 * w)) + s) mg.s50 rfl (by omega) (by decide) dX9_keeps_74 rfl ?_
      refine g_vret rfl dX9_keeps_75 ?_
      exact eV (by unfold kpM; first | rw [if_pos (by omega)] | rw [if_neg (by omega)])
    · refine g_iconst (pc' := 69) (v := nI 1) dX9_keeps_68 rfl (by decide) ?_
      refine g_goto (tgt := 73) dX9_keeps_69 (by decide) ?_
      refine g_iadd (pc' := 74) dX9_keeps_73 rfl ?_
      have hmt := mi_top hq9 hxq
      refine g_topi (v := minI (x + nI 1) 99999) (by first | exact hmt.1 (Int32.not_le.mp h65) | exact hmt.2 h65) ?_
      refine g_iast (pc' := 75) (j := (23 + (12 * w)) + s) mg.s50 rfl (by omega) (by decide) dX9_keeps_74 rfl ?_
      refine g_vret rfl dX9_keeps_75 ?_
      exact eV (by unfold kpM; first | rw [if_pos (by omega)] | rw [if_neg (by omega)])
  · refine g_ald0 (pc' := 13) dX9_keeps_12 rfl ?_
    refine g_getR (pc' := 16) mg.s40 (by decide) fX9_52 mg.r40_25 dX9_keeps_13 rfl ?_
    refine g_sipush (pc' := 19) (v := nI 200) dX9_keeps_16 rfl (by decide) ?_
    refine g_ild1 (pc' := 20) dX9_keeps_19 rfl ?_
    refine g_imulN (pc' := 21) dX9_keeps_20 rfl ?_
    refine g_ald0 (pc' := 22) dX9_keeps_21 rfl ?_
    refine g_getR (pc' := 25) mg.s40 (by decide) fX9_49 mg.r40_24 dX9_keeps_22 rfl ?_
    refine g_ild1 (pc' := 26) dX9_keeps_25 rfl ?_
    refine g_iald (pc' := 27) (j := w) mg.s74 rfl (by omega) (by decide) hke dX9_keeps_26 rfl ?_
    refine g_iaddN (pc' := 28) dX9_keeps_27 rfl ?_
    refine g_ild2 (pc' := 29) dX9_keeps_28 rfl ?_
    refine g_iast (pc' := 30) (j := (200 * w) + ke) mg.s75 rfl (by omega) (by decide) dX9_keeps_29 rfl ?_
    refine g_ald0 (pc' := 31) dX9_keeps_30 rfl ?_
    refine g_getR (pc' := 34) mg.s40 (by decide) fX9_49 mg.r40_24 dX9_keeps_31 rfl ?_
    refine g_ild1 (pc' := 35) dX9_keeps_34 rfl ?_
    refine g_dup2 (pc' := 36) dX9_keeps_35 rfl ?_
    refine g_iald (pc' := 37) (j := w) mg.s74 rfl (by omega) (by decide) (v := nI ke) (by first | (rw [upM_n _ (by simp)]; exact hke) | exact hke) dX9_keeps_36 rfl ?_
    refine g_iconst (pc' := 38) (v := nI 1) dX9_keeps_37 rfl (by decide) ?_
    refine g_iaddN (pc' := 39) dX9_keeps_38 rfl ?_
    refine g_iast (pc' := 40) (j := w) mg.s74 rfl (by omega) (by decide) dX9_keeps_39 rfl ?_
    refine g_bipush (pc' := 42) (v := nI 23) dX9_keeps_40 rfl (by decide) ?_
    refine g_bipush (pc' := 44) (v := nI 12) dX9_keeps_42 rfl (by decide) ?_
    refine g_ild1 (pc' := 45) dX9_keeps_44 rfl ?_
    refine g_imulN (pc' := 46) dX9_keeps_45 rfl ?_
    refine g_iaddN (pc' := 47) dX9_keeps_46 rfl ?_
    refine g_ild2 (pc' := 48) dX9_keeps_47 rfl ?_
    refine g_iaddN (pc' := 49) dX9_keeps_48 rfl ?_
    refine g_ist3 (pc' := 50) rfl (by decide) dX9_keeps_49 rfl ?_
    refine g_ald0 (pc' := 51) dX9_keeps_50 rfl ?_
    refine g_getR (pc' := 54) mg.s40 (by decide) fX9_9 mg.r40_0 dX9_keeps_51 rfl ?_
    refine g_ild3 (pc' := 55) dX9_keeps_54 rfl ?_
    refine g_dup2 (pc' := 56) dX9_keeps_55 rfl ?_
    refine g_iald (pc' := 57) (j := (23 + (12 * w)) + s) mg.s50 rfl (by omega) (by decide) (v := x) (by first | (rw [upM_n _ (by simp), upM_n _ (by simp)]; exact hx) | (rw [upM_n _ (by simp)]; exact hx)) dX9_keeps_56 rfl ?_
    refine g_ald0 (pc' := 58) dX9_keeps_57 rfl ?_
    refine g_getR (pc' := 61) mg.s40 (by decide) fX9_9 mg.r40_0 dX9_keeps_58 rfl ?_
    refine g_ild3 (pc' := 62) dX9_keeps_61 rfl ?_
    refine g_iald (pc' := 63) (j := (23 + (12 * w)) + s) mg.s50 rfl (by omega) (by decide) (v := x) (by first | (rw [upM_n _ (by simp), upM_n _ (by simp)]; exact hx) | (rw [upM_n _ (by simp)]; exact hx)) dX9_keeps_62 rfl ?_
    refine g_ldc (pc' := 65) dX9_keeps_63 rfl kX9_222 ?_
    refine g_icmpge (pc' := 68) (tgt := 72) dX9_keeps_65 (by decide) rfl (fun h65 => ?_) (fun h65 => ?_)
    · refine g_iconst (pc' := 73) (v := nI 0) dX9_keeps_72 rfl (by decide) ?_
      refine g_iadd (pc' := 74) dX9_keeps_73 rfl ?_
      have hmt := mi_top hq9 hxq
      refine g_topi (v := minI (x + nI 1) 99999) (by first | exact hmt.1 (Int32.not_le.mp h65) | exact hmt.2 h65) ?_
      refine g_iast (pc' := 75) (j := (23 + (12 * w)) + s) mg.s50 rfl (by omega) (by decide) dX9_keeps_74 rfl ?_
      refine g_vret rfl dX9_keeps_75 ?_
      exact eV (by unfold kpM; first | rw [if_pos (by omega)] | rw [if_neg (by omega)])
    · refine g_iconst (pc' := 69) (v := nI 1) dX9_keeps_68 rfl (by decide) ?_
      refine g_goto (tgt := 73) dX9_keeps_69 (by decide) ?_
      refine g_iadd (pc' := 74) dX9_keeps_73 rfl ?_
      have hmt := mi_top hq9 hxq
      refine g_topi (v := minI (x + nI 1) 99999) (by first | exact hmt.1 (Int32.not_le.mp h65) | exact hmt.2 h65) ?_
      refine g_iast (pc' := 75) (j := (23 + (12 * w)) + s) mg.s50 rfl (by omega) (by decide) dX9_keeps_74 rfl ?_
      refine g_vret rfl dX9_keeps_75 ?_
      exact eV (by unfold kpM; first | rw [if_pos (by omega)] | rw [if_neg (by omega)])

theorem c_mUnequalN (l : Launch) {S : Shp} {I : MI} {L : ML} {R : MR} (mg : MG S R) {m : Nat} (hm : I (40, 0) 18 = nI m) (hM : m ≤ 9) {x : Int32} (hx : inb x m = false) : Ct l mX9_unequal 3 0 0 [.inr (.inr (some (40, 0))), .inl x] S I L R (PIp S I L R (-1)) := by
  refine Ct.of [some (.inr (.inr (some (40, 0)))), some (.inl x), none, none, none] (by decide) rfl (Nat.le_of_ble_eq_true rfl) ?_
  refine g_ald0 (pc' := 1) dX9_unequal_0 rfl ?_
  refine g_ild1 (pc' := 2) dX9_unequal_1 rfl ?_
  refine g_callV (pc' := 5) (c_misWorld l mg hm hM x) mg.s40 (by decide) wX9_isWorld lX9_186 rfl rfl (Nat.le_of_ble_eq_true rfl) ⟨Nat.le_of_ble_eq_true rfl, Nat.le_of_ble_eq_true rfl⟩ ⟨Nat.le_of_ble_eq_true rfl, Nat.le_of_ble_eq_true rfl⟩ dX9_unequal_2 rfl (kIp ?_)
  refine g_ifneB (pc' := 8) (tgt := 10) dX9_unequal_5 (by decide) rfl (fun h5 => (by first | exact absurd h5 (Bool.eq_false_iff.mp hx) | exact absurd (Bool.eq_false_iff.mp hx) h5)) (fun h5 => ?_)
  refine g_iconst (pc' := 9) (v := (-1)) dX9_unequal_8 rfl (by decide) ?_
  refine g_iret rfl dX9_unequal_9 ?_
  exact eIp rfl

theorem c_mUnequalS (l : Launch) {S : Shp} {I : MI} {L : ML} {R : MR} (mg : MG S R) {n : Nat} (hn : I (40, 0) 6 = nI n) (hN : n ≤ 12) {m : Nat} (hm : I (40, 0) 18 = nI m) (hM : m ≤ 9) {w : Nat} (hwm : w < m) {f : Nat → Int32} (hf : ∀ o, o < n → I (50, 0) (23 + 12 * w + o) = f o) (hbd : bdN f n) : Ct l mX9_unequal 5 0 0 [.inr (.inr (some (40, 0))), .inl (nI w)] S I L R (PIp S I L R (if n = 0 then nI 0 else triI (fun a b => absI (shareI f n a - shareI f n b)) n / nI n)) := by
  refine Ct.of [some (.inr (.inr (some (40, 0)))), some (.inl (nI w)), none, none, none] (by decide) rfl (Nat.le_of_ble_eq_true rfl) ?_
  refine g_ald0 (pc' := 1) dX9_unequal_0 rfl ?_
  refine g_ild1 (pc' := 2) dX9_unequal_1 rfl ?_
  refine g_callV (pc' := 5) (c_misWorld l mg hm hM (nI w)) mg.s40 (by decide) wX9_isWorld lX9_186 rfl rfl (Nat.le_of_ble_eq_true rfl) ⟨Nat.le_of_ble_eq_true rfl, Nat.le_of_ble_eq_true rfl⟩ ⟨Nat.le_of_ble_eq_true rfl, Nat.le_of_ble_eq_true rfl⟩ dX9_unequal_2 rfl (kIp ?_)
  refine g_ifneB (pc' := 8) (tgt := 10) dX9_unequal_5 (by decide) rfl (fun h5 => ?_) (fun h5 => (by first | exact absurd h5 (by rw [inb_nI (by omega) (by omega)]; simp [hwm]) | exact absurd (by rw [inb_nI (by omega) (by omega)]; simp [hwm]) h5))
  refine g_iconst (pc' := 11) (v := nI 0) dX9_unequal_10 rfl (by decide) ?_
  refine g_ist2 (pc' := 12) rfl (by decide) dX9_unequal_11 rfl ?_
  refine g_iconst (pc' := 13) (v := nI 0) dX9_unequal_12 rfl (by decide) ?_
  refine g_ist3 (pc' := 14) rfl (by decide) dX9_unequal_13 rfl ?_
  refine g_loop (σ := Unit) (fun _ _ => True) (fun a _ => [some (.inr (.inr (some (40, 0)))), some (.inl (nI w)), some (.inl (triI (fun a b => absI (shareI f n a - shareI f n b)) a)), some (.inl (nI a)), none]) (fun _ _ => I) n 0 () (by omega) trivial ?_ ?_
  · intro a _ ha hP iha
    refine g_ild3 (pc' := 15) dX9_unequal_14 rfl ?_
    refine g_ald0 (pc' := 16) dX9_unequal_15 rfl ?_
    refine g_getI (pc' := 19) mg.s40 (by decide) fX9_99 hn dX9_unequal_16 rfl ?_
    refine g_icmpgeN (pc' := 22) (by omega) (by omega) (tgt := 63) dX9_unequal_19 (by decide) rfl (fun h19 => ?_) (fun h19 => ?_)
    · exact absurd h19 (by omega)
    · refine g_iconst (pc' := 23) (v := nI 0) dX9_unequal_22 rfl (by decide) ?_
      refine g_ist4 (pc' := 25) rfl (by decide) dX9_unequal_23 rfl ?_
      rw [← add_n0 (triI (fun a b => absI (shareI f n a - shareI f n b)) a)]
      refine g_loop (σ := Unit) (fun _ _ => True) (fun b _ => [some (.inr (.inr (some (40, 0)))), some (.inl (nI w)), some (.inl (triI (fun a b => absI (shareI f n a - shareI f n b)) a + sumN (fun b => (fun a b => absI (shareI f n a - shareI f n b)) a b) b)), some (.inl (nI a)), some (.inl (nI b))]) (fun _ _ => I) a 0 () (by omega) trivial ?_ ?_
      · intro b _ hi hP ih
        refine g_ild4 (pc' := 27) dX9_unequal_25 rfl ?_
        refine g_ild3 (pc' := 28) dX9_unequal_27 rfl ?_
        refine g_icmpgeN (pc' := 31) (by omega) (by omega) (tgt := 57) dX9_unequal_28 (by decide) rfl (fun h28 => ?_) (fun h28 => ?_)
        · exact absurd h28 (by omega)
        · refine g_ild2 (pc' := 32) dX9_unequal_31 rfl ?_
          refine g_ald0 (pc' := 33) dX9_unequal_32 rfl ?_
          refine g_ild1 (pc' := 34) dX9_unequal_33 rfl ?_
          refine g_ild3 (pc' := 35) dX9_unequal_34 rfl ?_
          refine g_callV (pc' := 38) (c_mShare l mg hn hN (by omega) hf hbd (s := a) ha) mg.s40 (by decide) wX9_share lX9_216 rfl rfl (Nat.le_of_ble_eq_true rfl) ⟨Nat.le_of_ble_eq_true rfl, Nat.le_of_ble_eq_true rfl⟩ ⟨Nat.le_of_ble_eq_true rfl, Nat.le_of_ble_eq_true rfl⟩ dX9_unequal_35 rfl (kIp ?_)
          refine g_ald0 (pc' := 39) dX9_unequal_38 rfl ?_
          refine g_ild1 (pc' := 40) dX9_unequal_39 rfl ?_
          refine g_ild4 (pc' := 42) dX9_unequal_40 rfl ?_
          refine g_callV (pc' := 45) (c_mShare l mg hn hN (by omega) hf hbd (s := b) (by omega)) mg.s40 (by decide) wX9_share lX9_216 rfl rfl (Nat.le_of_ble_eq_true rfl) ⟨Nat.le_of_ble_eq_true rfl, Nat.le_of_ble_eq_true rfl⟩ ⟨Nat.le_of_ble_eq_true rfl, Nat.le_of_ble_eq_true rfl⟩ dX9_unequal_42 rfl (kIp ?_)
          refine g_isub (pc' := 46) dX9_unequal_45 rfl ?_
          refine g_callS (pc' := 49) (c_mSize l (shareI f n a - shareI f n b)) wX9_size lX9_248 rfl rfl (Nat.le_of_ble_eq_true rfl) ⟨Nat.le_of_ble_eq_true rfl, Nat.le_of_ble_eq_true rfl⟩ ⟨Nat.le_of_ble_eq_true rfl, Nat.le_of_ble_eq_true rfl⟩ dX9_unequal_46 rfl (kIp ?_)
          refine g_iadd (pc' := 50) dX9_unequal_49 rfl ?_
          refine g_ist2 (pc' := 51) rfl (by decide) dX9_unequal_50 rfl ?_
          refine g_inc4 (pc' := 54) rfl (by decide) (v := nI (b + 1)) (nI_1 _) dX9_unequal_51 rfl ?_
          refine g_goto (tgt := 25) dX9_unequal_54 (by decide) ?_
          have hI := ih () trivial
          rw [sumN_s, ← Int32.add_assoc] at hI
          exact hI
      · intro _ hP
        refine g_ild4 (pc' := 27) dX9_unequal_25 rfl ?_
        refine g_ild3 (pc' := 28) dX9_unequal_27 rfl ?_
        refine g_icmpgeN (pc' := 31) (by omega) (by omega) (tgt := 57) dX9_unequal_28 (by decide) rfl (fun h28 => ?_) (fun h28 => ?_)
        · refine g_inc3 (pc' := 60) rfl (by decide) (v := nI (a + 1)) (nI_1 _) dX9_unequal_57 rfl ?_
          refine g_goto (tgt := 14) dX9_unequal_60 (by decide) ?_
          refine G.lsub [some (.inr (.inr (some (40, 0)))), some (.inl (nI w)), some (.inl (triI (fun a b => absI (shareI f n a - shareI f n b)) a + sumN (fun b => (fun a b => absI (shareI f n a - shareI f n b)) a b) a)), some (.inl (nI (a + 1))), none] (by intro j v; rcases j with _ | _ | _ | _ | _ | j <;> simp) ?_
          exact iha () trivial
        · exact absurd h28 (by omega)
  · intro _ hP
    refine g_ild3 (pc' := 15) dX9_unequal_14 rfl ?_
    refine g_ald0 (pc' := 16) dX9_unequal_15 rfl ?_
    refine g_getI (pc' := 19) mg.s40 (by decide) fX9_99 hn dX9_unequal_16 rfl ?_
    refine g_icmpgeN (pc' := 22) (by omega) (by omega) (tgt := 63) dX9_unequal_19 (by decide) rfl (fun h19 => ?_) (fun h19 => ?_)
    · refine g_ald0 (pc' := 64) dX9_unequal_63 rfl ?_
      refine g_getI (pc' := 67) mg.s40 (by decide) fX9_99 hn dX9_unequal_64 rfl ?_
      refine g_ifneN (pc' := 70) (by omega) (tgt := 74) dX9_unequal_67 (by decide) rfl (fun h67 => ?_) (fun h67 => ?_)
      · refine g_ild2 (pc' := 75) dX9_unequal_74 rfl ?_
        refine g_ald0 (pc' := 76) dX9_unequal_75 rfl ?_
        refine g_getI (pc' := 79) mg.s40 (by decide) fX9_99 hn dX9_unequal_76 rfl ?_
        refine g_idiv (pc' := 80) dX9_unequal_79 rfl (by rw [nI_z (by omega)]; omega) ?_
        refine g_iret rfl dX9_unequal_80 ?_
        exact eIp (by first | rw [if_pos (by omega)] | rw [if_neg (by omega)])
      · refine g_iconst (pc' := 71) (v := nI 0) dX9_unequal_70 rfl (by decide) ?_
        refine g_goto (tgt := 80) dX9_unequal_71 (by decide) ?_
        refine g_iret rfl dX9_unequal_80 ?_
        exact eIp (by first | rw [if_pos (by omega)] | rw [if_neg (by omega)])
    · exact absurd h19 (by omega)

theorem c_mTwoB (l : Launch) {S : Shp} {I : MI} {L : ML} {R : MR} (mg : MG S R) {m : Nat} (hm : I (40, 0) 18 = nI m) (hM : m ≤ 9) {x : Int32} (hb : x < 0 ∨ inb (x / nI 10) m = false ∨ inb (x - x / nI 10 * nI 10) m = false ∨ x / nI 10 = x - x / nI 10 * nI 10) : Ct l mX9_areTwo 3 0 0 [.inr (.inr (some (40, 0))), .inl x] S I L R (PIp S I L R (bI false)) := by
  refine Ct.of [some (.inr (.inr (some (40, 0)))), some (.inl x)] (by decide) rfl (Nat.le_of_ble_eq_true rfl) ?_
  refine g_ild1 (pc' := 1) dX9_areTwo_0 rfl ?_
  refine g_iflt (pc' := 4) (tgt := 41) dX9_areTwo_1 (by decide) rfl (fun h1 => ?_) (fun h1 => ?_)
  · refine g_iconst (pc' := 42) (v := nI 0) dX9_areTwo_41 rfl (by decide) ?_
    refine g_zret (ty := .boolean) rfl (by decide) dX9_areTwo_42 ?_
    exact eIp rfl
  · refine g_ald0 (pc' := 5) dX9_areTwo_4 rfl ?_
    refine g_ild1 (pc' := 6) dX9_areTwo_5 rfl ?_
    refine g_bipush (pc' := 8) (v := nI 10) dX9_areTwo_6 rfl (by decide) ?_
    refine g_idiv (pc' := 9) dX9_areTwo_8 rfl (by decide) ?_
    refine g_callV (pc' := 12) (c_misWorld l mg hm hM (x / nI 10)) mg.s40 (by decide) wX9_isWorld lX9_186 rfl rfl (Nat.le_of_ble_eq_true rfl) ⟨Nat.le_of_ble_eq_true rfl, Nat.le_of_ble_eq_true rfl⟩ ⟨Nat.le_of_ble_eq_true rfl, Nat.le_of_ble_eq_true rfl⟩ dX9_areTwo_9 rfl (kIp ?_)
    refine g_ifeqB (pc' := 15) (tgt := 41) dX9_areTwo_12 (by decide) rfl (fun h12 => ?_) (fun h12 => ?_)
    · refine g_iconst (pc' := 42) (v := nI 0) dX9_areTwo_41 rfl (by decide) ?_
      refine g_zret (ty := .boolean) rfl (by decide) dX9_areTwo_42 ?_
      exact eIp rfl
    · refine g_ald0 (pc' := 16) dX9_areTwo_15 rfl ?_
      refine g_ild1 (pc' := 17) dX9_areTwo_16 rfl ?_
      refine g_bipush (pc' := 19) (v := nI 10) dX9_areTwo_17 rfl (by decide) ?_
      refine g_irem (pc' := 20) dX9_areTwo_19 rfl (by decide) ?_
      refine g_callV (pc' := 23) (c_misWorld l mg hm hM (x - x / nI 10 * nI 10)) mg.s40 (by decide) wX9_isWorld lX9_186 rfl rfl (Nat.le_of_ble_eq_true rfl) ⟨Nat.le_of_ble_eq_true rfl, Nat.le_of_ble_eq_true rfl⟩ ⟨Nat.le_of_ble_eq_true rfl, Nat.le_of_ble_eq_true rfl⟩ dX9_areTwo_20 rfl (kIp ?_)
      refine g_ifeqB (pc' := 26) (tgt := 41) dX9_areTwo_23 (by decide) rfl (fun h23 => ?_) (fun h23 => ?_)
      · refine g_iconst (pc' := 42) (v := nI 0) dX9_areTwo_41 rfl (by decide) ?_
        refine g_zret (ty := .boolean) rfl (by decide) dX9_areTwo_42 ?_
        exact eIp rfl
      · refine g_ild1 (pc' := 27) dX9_areTwo_26 rfl ?_
        refine g_bipush (pc' := 29) (v := nI 10) dX9_areTwo_27 rfl (by decide) ?_
        refine g_idiv (pc' := 30) dX9_areTwo_29 rfl (by decide) ?_
        refine g_ild1 (pc' := 31) dX9_areTwo_30 rfl ?_
        refine g_bipush (pc' := 33) (v := nI 10) dX9_areTwo_31 rfl (by decide) ?_
        refine g_irem (pc' := 34) dX9_areTwo_33 rfl (by decide) ?_
        refine g_icmpeq (pc' := 37) (tgt := 41) dX9_areTwo_34 (by decide) rfl (fun h34 => ?_) (fun h34 => ?_)
        · refine g_iconst (pc' := 42) (v := nI 0) dX9_areTwo_41 rfl (by decide) ?_
          refine g_zret (ty := .boolean) rfl (by decide) dX9_areTwo_42 ?_
          exact eIp rfl
        · exfalso
          rcases hb with h | h | h | h
          · exact h1 h
          · rw [h] at h12; cases h12
          · rw [h] at h23; cases h23
          · exact h34 h

theorem two_x {x : Int32} {j1 j2 : Nat} (e1 : x / nI 10 = nI j1) (e2 : x - x / nI 10 * nI 10 = nI j2) (h1 : j1 < 10) (h2 : j2 < 10) : x = nI (j1 * 10 + j2) := by
  have h : x = x / nI 10 * nI 10 + (x - x / nI 10 * nI 10) := by
    rw [Int32.add_comm]
    exact (Int32.sub_add_cancel _ _).symm
  rw [e2, e1, pk_mul, nI_add] at h
  exact h
theorem c_mTwoS (l : Launch) {S : Shp} {I : MI} {L : ML} {R : MR} (mg : MG S R) {m : Nat} (hm : I (40, 0) 18 = nI m) (hM : m ≤ 9) {x : Int32} {j1 : Nat} (e1 : x / nI 10 = nI j1) (hj1 : j1 < m) {j2 : Nat} (e2 : x - x / nI 10 * nI 10 = nI j2) (hj2 : j2 < m) (hne : ¬ j1 = j2) : Ct l mX9_areTwo 3 0 0 [.inr (.inr (some (40, 0))), .inl x] S I L R (PIp S I L R (bI true)) := by
  have hx0 := two_x e1 e2 (by omega) (by omega)
  have hnq : ¬ x / nI 10 = x - x / nI 10 * nI 10 := by rw [e2, e1, nI_eq (by omega) (by omega)]; exact hne
  refine Ct.of [some (.inr (.inr (some (40, 0)))), some (.inl x)] (by decide) rfl (Nat.le_of_ble_eq_true rfl) ?_
  refine g_ild1 (pc' := 1) dX9_areTwo_0 rfl ?_
  refine g_iflt (pc' := 4) (tgt := 41) dX9_areTwo_1 (by decide) rfl (fun h1 => (by first | exact absurd h1 (by rw [hx0]; exact nI_pos (by omega)) | exact absurd (by rw [hx0]; exact nI_pos (by omega)) h1)) (fun h1 => ?_)
  refine g_ald0 (pc' := 5) dX9_areTwo_4 rfl ?_
  refine g_ild1 (pc' := 6) dX9_areTwo_5 rfl ?_
  refine g_bipush (pc' := 8) (v := nI 10) dX9_areTwo_6 rfl (by decide) ?_
  refine g_idiv (pc' := 9) dX9_areTwo_8 rfl (by decide) ?_
  refine g_callV (pc' := 12) (c_misWorld l mg hm hM (x / nI 10)) mg.s40 (by decide) wX9_isWorld lX9_186 rfl rfl (Nat.le_of_ble_eq_true rfl) ⟨Nat.le_of_ble_eq_true rfl, Nat.le_of_ble_eq_true rfl⟩ ⟨Nat.le_of_ble_eq_true rfl, Nat.le_of_ble_eq_true rfl⟩ dX9_areTwo_9 rfl (kIp ?_)
  refine g_ifeqB (pc' := 15) (tgt := 41) dX9_areTwo_12 (by decide) rfl (fun h12 => (by first | exact absurd h12 (by rw [e1, inb_nI (by omega) (by omega)]; simp [hj1]) | exact absurd (by rw [e1, inb_nI (by omega) (by omega)]; simp [hj1]) h12)) (fun h12 => ?_)
  refine g_ald0 (pc' := 16) dX9_areTwo_15 rfl ?_
  refine g_ild1 (pc' := 17) dX9_areTwo_16 rfl ?_
  refine g_bipush (pc' := 19) (v := nI 10) dX9_areTwo_17 rfl (by decide) ?_
  refine g_irem (pc' := 20) dX9_areTwo_19 rfl (by decide) ?_
  refine g_callV (pc' := 23) (c_misWorld l mg hm hM (x - x / nI 10 * nI 10)) mg.s40 (by decide) wX9_isWorld lX9_186 rfl rfl (Nat.le_of_ble_eq_true rfl) ⟨Nat.le_of_ble_eq_true rfl, Nat.le_of_ble_eq_true rfl⟩ ⟨Nat.le_of_ble_eq_true rfl, Nat.le_of_ble_eq_true rfl⟩ dX9_areTwo_20 rfl (kIp ?_)
  refine g_ifeqB (pc' := 26) (tgt := 41) dX9_areTwo_23 (by decide) rfl (fun h23 => (by first | exact absurd h23 (by rw [e2, inb_nI (by omega) (by omega)]; simp [hj2]) | exact absurd (by rw [e2, inb_nI (by omega) (by omega)]; simp [hj2]) h23)) (fun h23 => ?_)
  refine g_ild1 (pc' := 27) dX9_areTwo_26 rfl ?_
  refine g_bipush (pc' := 29) (v := nI 10) dX9_areTwo_27 rfl (by decide) ?_
  refine g_idiv (pc' := 30) dX9_areTwo_29 rfl (by decide) ?_
  refine g_ild1 (pc' := 31) dX9_areTwo_30 rfl ?_
  refine g_bipush (pc' := 33) (v := nI 10) dX9_areTwo_31 rfl (by decide) ?_
  refine g_irem (pc' := 34) dX9_areTwo_33 rfl (by decide) ?_
  refine g_icmpeq (pc' := 37) (tgt := 41) dX9_areTwo_34 (by decide) rfl (fun h34 => (by first | exact absurd h34 hnq | exact absurd hnq h34)) (fun h34 => ?_)
  refine g_iconst (pc' := 38) (v := nI 1) dX9_areTwo_37 rfl (by decide) ?_
  refine g_goto (tgt := 42) dX9_areTwo_38 (by decide) ?_
  refine g_zret (ty := .boolean) rfl (by decide) dX9_areTwo_42 ?_
  exact eIp rfl

theorem c_mUnlikeOf (l : Launch) {S : Shp} {I : MI} {L : ML} {R : MR} (mg : MG S R) {n : Nat} (hn : I (40, 0) 6 = nI n) (hN : n ≤ 12) {v w : Nat} (hv : v < 11) (hw : w < 11) {f g : Nat → Int32} (hf : ∀ o, o < n → I (50, 0) (23 + 12 * v + o) = f o) (hbd : bdN f n) (hg : ∀ o, o < n → I (50, 0) (23 + 12 * w + o) = g o) (hbg : bdN g n) : Ct l mX9_unlikeOf 4 0 0 [.inr (.inr (some (40, 0))), .inl (nI v), .inl (nI w)] S I L R (PIp S I L R (sumN (fun s => absI (shareI f n s - shareI g n s)) n / nI 2)) := by
  refine Ct.of [some (.inr (.inr (some (40, 0)))), some (.inl (nI v)), some (.inl (nI w)), none, none] (by decide) rfl (Nat.le_of_ble_eq_true rfl) ?_
  refine g_iconst (pc' := 1) (v := nI 0) dX9_unlikeOf_0 rfl (by decide) ?_
  refine g_ist3 (pc' := 2) rfl (by decide) dX9_unlikeOf_1 rfl ?_
  refine g_iconst (pc' := 3) (v := nI 0) dX9_unlikeOf_2 rfl (by decide) ?_
  refine g_ist4 (pc' := 5) rfl (by decide) dX9_unlikeOf_3 rfl ?_
  refine g_loop (σ := Unit) (fun _ _ => True) (fun i _ => [some (.inr (.inr (some (40, 0)))), some (.inl (nI v)), some (.inl (nI w)), some (.inl (sumN (fun s => absI (shareI f n s - shareI g n s)) i)), some (.inl (nI i))]) (fun _ _ => I) n 0 () (by omega) trivial ?_ ?_
  · intro i _ hi hP ih
    refine g_ild4 (pc' := 7) dX9_unlikeOf_5 rfl ?_
    refine g_ald0 (pc' := 8) dX9_unlikeOf_7 rfl ?_
    refine g_getI (pc' := 11) mg.s40 (by decide) fX9_99 hn dX9_unlikeOf_8 rfl ?_
    refine g_icmpgeN (pc' := 14) (by omega) (by omega) (tgt := 41) dX9_unlikeOf_11 (by decide) rfl (fun h11 => ?_) (fun h11 => ?_)
    · exact absurd h11 (by omega)
    · refine g_ild3 (pc' := 15) dX9_unlikeOf_14 rfl ?_
      refine g_ald0 (pc' := 16) dX9_unlikeOf_15 rfl ?_
      refine g_ild1 (pc' := 17) dX9_unlikeOf_16 rfl ?_
      refine g_ild4 (pc' := 19) dX9_unlikeOf_17 rfl ?_
      refine g_callV (pc' := 22) (c_mShare l mg hn hN (by omega) hf hbd (s := i) hi) mg.s40 (by decide) wX9_share lX9_216 rfl rfl (Nat.le_of_ble_eq_true rfl) ⟨Nat.le_of_ble_eq_true rfl, Nat.le_of_ble_eq_true rfl⟩ ⟨Nat.le_of_ble_eq_true rfl, Nat.le_of_ble_eq_true rfl⟩ dX9_unlikeOf_19 rfl (kIp ?_)
      refine g_ald0 (pc' := 23) dX9_unlikeOf_22 rfl ?_
      refine g_ild2 (pc' := 24) dX9_unlikeOf_23 rfl ?_
      refine g_ild4 (pc' := 26) dX9_unlikeOf_24 rfl ?_
      refine g_callV (pc' := 29) (c_mShare l mg hn hN (by omega) hg hbg (s := i) hi) mg.s40 (by decide) wX9_share lX9_216 rfl rfl (Nat.le_of_ble_eq_true rfl) ⟨Nat.le_of_ble_eq_true rfl, Nat.le_of_ble_eq_true rfl⟩ ⟨Nat.le_of_ble_eq_true rfl, Nat.le_of_ble_eq_true rfl⟩ dX9_unlikeOf_26 rfl (kIp ?_)
      refine g_isub (pc' := 30) dX9_unlikeOf_29 rfl ?_
      refine g_callS (pc' := 33) (c_mSize l (shareI f n i - shareI g n i)) wX9_size lX9_248 rfl rfl (Nat.le_of_ble_eq_true rfl) ⟨Nat.le_of_ble_eq_true rfl, Nat.le_of_ble_eq_true rfl⟩ ⟨Nat.le_of_ble_eq_true rfl, Nat.le_of_ble_eq_true rfl⟩ dX9_unlikeOf_30 rfl (kIp ?_)
      refine g_iadd (pc' := 34) dX9_unlikeOf_33 rfl ?_
      refine g_ist3 (pc' := 35) rfl (by decide) dX9_unlikeOf_34 rfl ?_
      refine g_inc4 (pc' := 38) rfl (by decide) (v := nI (i + 1)) (nI_1 _) dX9_unlikeOf_35 rfl ?_
      refine g_goto (tgt := 5) dX9_unlikeOf_38 (by decide) ?_
      exact ih () trivial
  · intro _ hP
    refine g_ild4 (pc' := 7) dX9_unlikeOf_5 rfl ?_
    refine g_ald0 (pc' := 8) dX9_unlikeOf_7 rfl ?_
    refine g_getI (pc' := 11) mg.s40 (by decide) fX9_99 hn dX9_unlikeOf_8 rfl ?_
    refine g_icmpgeN (pc' := 14) (by omega) (by omega) (tgt := 41) dX9_unlikeOf_11 (by decide) rfl (fun h11 => ?_) (fun h11 => ?_)
    · refine g_ild3 (pc' := 42) dX9_unlikeOf_41 rfl ?_
      refine g_iconst (pc' := 43) (v := nI 2) dX9_unlikeOf_42 rfl (by decide) ?_
      refine g_idiv (pc' := 44) dX9_unlikeOf_43 rfl (by decide) ?_
      refine g_iret rfl dX9_unlikeOf_44 ?_
      exact eIp rfl
    · exact absurd h11 (by omega)

theorem c_mUnlikeB (l : Launch) {S : Shp} {I : MI} {L : ML} {R : MR} (mg : MG S R) {m : Nat} (hm : I (40, 0) 18 = nI m) (hM : m ≤ 9) {x : Int32} (hb : x < 0 ∨ inb (x / nI 10) m = false ∨ inb (x - x / nI 10 * nI 10) m = false ∨ x / nI 10 = x - x / nI 10 * nI 10) : Ct l mX9_unlike 5 0 0 [.inr (.inr (some (40, 0))), .inl x] S I L R (PIp S I L R (-1)) := by
  refine Ct.of [some (.inr (.inr (some (40, 0)))), some (.inl x)] (by decide) rfl (Nat.le_of_ble_eq_true rfl) ?_
  refine g_ald0 (pc' := 1) dX9_unlike_0 rfl ?_
  refine g_ild1 (pc' := 2) dX9_unlike_1 rfl ?_
  refine g_callV (pc' := 5) (c_mTwoB l mg hm hM hb) mg.s40 (by decide) wX9_areTwo lX9_251 rfl rfl (Nat.le_of_ble_eq_true rfl) ⟨Nat.le_of_ble_eq_true rfl, Nat.le_of_ble_eq_true rfl⟩ ⟨Nat.le_of_ble_eq_true rfl, Nat.le_of_ble_eq_true rfl⟩ dX9_unlike_2 rfl (kIp ?_)
  refine g_ifeqB (pc' := 8) (tgt := 23) dX9_unlike_5 (by decide) rfl (fun h5 => ?_) (fun h5 => (by first | exact absurd h5 (by simp) | exact absurd (by simp) h5))
  refine g_iconst (pc' := 24) (v := (-1)) dX9_unlike_23 rfl (by decide) ?_
  refine g_iret rfl dX9_unlike_24 ?_
  exact eIp rfl

theorem c_mUnlikeS (l : Launch) {S : Shp} {I : MI} {L : ML} {R : MR} (mg : MG S R) {n : Nat} (hn : I (40, 0) 6 = nI n) (hN : n ≤ 12) {m : Nat} (hm : I (40, 0) 18 = nI m) (hM : m ≤ 9) {x : Int32} {j1 : Nat} (e1 : x / nI 10 = nI j1) (hj1 : j1 < m) {j2 : Nat} (e2 : x - x / nI 10 * nI 10 = nI j2) (hj2 : j2 < m) (hne : ¬ j1 = j2) {f g : Nat → Int32} (hf : ∀ o, o < n → I (50, 0) (23 + 12 * j1 + o) = f o) (hbd : bdN f n) (hg : ∀ o, o < n → I (50, 0) (23 + 12 * j2 + o) = g o) (hbg : bdN g n) : Ct l mX9_unlike 5 0 0 [.inr (.inr (some (40, 0))), .inl x] S I L R (PIp S I L R (sumN (fun s => absI (shareI f n s - shareI g n s)) n / nI 2)) := by
  refine Ct.of [some (.inr (.inr (some (40, 0)))), some (.inl x)] (by decide) rfl (Nat.le_of_ble_eq_true rfl) ?_
  refine g_ald0 (pc' := 1) dX9_unlike_0 rfl ?_
  refine g_ild1 (pc' := 2) dX9_unlike_1 rfl ?_
  refine g_callV (pc' := 5) (c_mTwoS l mg hm hM e1 hj1 e2 hj2 hne) mg.s40 (by decide) wX9_areTwo lX9_251 rfl rfl (Nat.le_of_ble_eq_true rfl) ⟨Nat.le_of_ble_eq_true rfl, Nat.le_of_ble_eq_true rfl⟩ ⟨Nat.le_of_ble_eq_true rfl, Nat.le_of_ble_eq_true rfl⟩ dX9_unlike_2 rfl (kIp ?_)
  refine g_ifeqB (pc' := 8) (tgt := 23) dX9_unlike_5 (by decide) rfl (fun h5 => (by first | exact absurd h5 (by simp) | exact absurd (by simp) h5)) (fun h5 => ?_)
  refine g_ald0 (pc' := 9) dX9_unlike_8 rfl ?_
  refine g_ild1 (pc' := 10) dX9_unlike_9 rfl ?_
  refine g_bipush (pc' := 12) (v := nI 10) dX9_unlike_10 rfl (by decide) ?_
  refine g_idiv (pc' := 13) dX9_unlike_12 rfl (by decide) ?_
  refine g_topi (v := nI j1) (e1) ?_
  refine g_ild1 (pc' := 14) dX9_unlike_13 rfl ?_
  refine g_bipush (pc' := 16) (v := nI 10) dX9_unlike_14 rfl (by decide) ?_
  refine g_irem (pc' := 17) dX9_unlike_16 rfl (by decide) ?_
  refine g_topi (v := nI j2) (e2) ?_
  refine g_callV (pc' := 20) (c_mUnlikeOf l mg hn hN (by omega) (by omega) hf hbd hg hbg) mg.s40 (by decide) wX9_unlikeOf lX9_254 rfl rfl (Nat.le_of_ble_eq_true rfl) ⟨Nat.le_of_ble_eq_true rfl, Nat.le_of_ble_eq_true rfl⟩ ⟨Nat.le_of_ble_eq_true rfl, Nat.le_of_ble_eq_true rfl⟩ dX9_unlike_17 rfl (kIp ?_)
  refine g_goto (tgt := 24) dX9_unlike_20 (by decide) ?_
  refine g_iret rfl dX9_unlike_24 ?_
  exact eIp rfl

def lkGm (lw : Nat → Int32) (F : Nat → Nat → Int32) (x : Int32) (n s a b : Nat) : Int32 := if lw a = x ∧ lw b = x then absI (shareI (F a) n s - shareI (F b) n s) else nI 0
def lkPm (lw : Nat → Int32) (x : Int32) (a b : Nat) : Nat := if lw a = x ∧ lw b = x then 1 else 0
theorem lkPm_le (lw : Nat → Int32) (x : Int32) (a b : Nat) : lkPm lw x a b ≤ 1 := by unfold lkPm; split <;> omega
def lkVm (lw : Nat → Int32) (F : Nat → Nat → Int32) (x : Int32) (n m s : Nat) : Int32 := if triN (lkPm lw x) m = 0 then -2 else triI (lkGm lw F x n s) m / nI (triN (lkPm lw x) m)
theorem sN_s (f : Nat → Nat) (n : Nat) : sN f (n + 1) = sN f n + f n := rfl
theorem triN_le {g : Nat → Nat → Nat} (h : ∀ a b, g a b ≤ 1) : ∀ n, n ≤ 12 → triN g n ≤ 12 * n
  | 0, _ => Nat.le_refl _
  | n + 1, hn => by
    have ih := triN_le h n (by omega)
    have h2 := sN_le (f := fun b => g n b) (c := 1) (h n) n
    unfold triN at ih ⊢
    rw [sN_s]
    exact Nat.le_trans (Nat.add_le_add ih h2) (by omega)
theorem c_mLuckOf (l : Launch) {S : Shp} {I : MI} {L : ML} {R : MR} (mg : MG S R) {n : Nat} (hn : I (40, 0) 6 = nI n) (hN : n ≤ 12) {m : Nat} (hm : I (40, 0) 18 = nI m) (hM : m ≤ 9) {lw : Nat → Int32} {F : Nat → Nat → Int32} (hlw : ∀ k, k < m → I (69, 0) k = lw k) (hF : ∀ k, k < m → ∀ o, o < n → I (50, 0) (23 + 12 * k + o) = F k o) (hbF : ∀ k, k < m → bdN (F k) n) (x : Int32) {s : Nat} (hs : s < n) : Ct l mX9_luckOf 4 0 0 [.inr (.inr (some (40, 0))), .inl x, .inl (nI s)] S I L R (PIp S I L R (lkVm lw F x n m s)) := by
  refine Ct.of [some (.inr (.inr (some (40, 0)))), some (.inl x), some (.inl (nI s)), none, none, none, none] (by decide) rfl (Nat.le_of_ble_eq_true rfl) ?_
  refine g_iconst (pc' := 1) (v := nI 0) dX9_luckOf_0 rfl (by decide) ?_
  refine g_ist3 (pc' := 2) rfl (by decide) dX9_luckOf_1 rfl ?_
  refine g_iconst (pc' := 3) (v := nI 0) dX9_luckOf_2 rfl (by decide) ?_
  refine g_ist4 (pc' := 5) rfl (by decide) dX9_luckOf_3 rfl ?_
  refine g_iconst (pc' := 6) (v := nI 0) dX9_luckOf_5 rfl (by decide) ?_
  refine g_ist5 (pc' := 8) rfl (by decide) dX9_luckOf_6 rfl ?_
  refine g_loop (σ := Unit) (fun _ _ => True) (fun a _ => [some (.inr (.inr (some (40, 0)))), some (.inl x), some (.inl (nI s)), some (.inl (triI (lkGm lw F x n s) a)), some (.inl (nI (triN (lkPm lw x) a))), some (.inl (nI a)), none]) (fun _ _ => I) m 0 () (by omega) trivial ?_ ?_
  · intro a _ ha hP iha
    have hle := triN_le (lkPm_le lw x) a (by omega)
    refine g_ild5 (pc' := 10) dX9_luckOf_8 rfl ?_
    refine g_ald0 (pc' := 11) dX9_luckOf_10 rfl ?_
    refine g_getI (pc' := 14) mg.s40 (by decide) fX9_174 hm dX9_luckOf_11 rfl ?_
    refine g_icmpgeN (pc' := 17) (by omega) (by omega) (tgt := 85) dX9_luckOf_14 (by decide) rfl (fun h14 => ?_) (fun h14 => ?_)
    · exact absurd h14 (by omega)
    · refine g_iconst (pc' := 18) (v := nI 0) dX9_luckOf_17 rfl (by decide) ?_
      refine g_ist6 (pc' := 20) rfl (by decide) dX9_luckOf_18 rfl ?_
      rw [← add_n0 (triI (lkGm lw F x n s) a), ← Nat.add_zero (triN (lkPm lw x) a)]
      refine g_loop (σ := Unit) (fun _ _ => True) (fun b _ => [some (.inr (.inr (some (40, 0)))), some (.inl x), some (.inl (nI s)), some (.inl (triI (lkGm lw F x n s) a + sumN (fun b => (lkGm lw F x n s) a b) b)), some (.inl (nI (triN (lkPm lw x) a + sN (fun b => (lkPm lw x) a b) b))), some (.inl (nI a)), some (.inl (nI b))]) (fun _ _ => I) a 0 () (by omega) trivial ?_ ?_
      · intro b _ hi hP ih
        refine g_ild6 (pc' := 22) dX9_luckOf_20 rfl ?_
        refine g_ild5 (pc' := 24) dX9_luckOf_22 rfl ?_
        refine g_icmpgeN (pc' := 27) (by omega) (by omega) (tgt := 79) dX9_luckOf_24 (by decide) rfl (fun h24 => ?_) (fun h24 => ?_)
        · exact absurd h24 (by omega)
        · refine g_ald0 (pc' := 28) dX9_luckOf_27 rfl ?_
          refine g_getR (pc' := 31) mg.s40 (by decide) fX9_34 mg.r40_19 dX9_luckOf_28 rfl ?_
          refine g_ild5 (pc' := 33) dX9_luckOf_31 rfl ?_
          refine g_iald (pc' := 34) (j := a) mg.s69 rfl (by omega) (by decide) (v := lw a) (hlw a ha) dX9_luckOf_33 rfl ?_
          refine g_ild1 (pc' := 35) dX9_luckOf_34 rfl ?_
          refine g_icmpne (pc' := 38) (tgt := 73) dX9_luckOf_35 (by decide) rfl (fun h35 => ?_) (fun h35 => ?_)
          · refine g_inc6 (pc' := 76) rfl (by decide) (v := nI (b + 1)) (nI_1 _) dX9_luckOf_73 rfl ?_
            refine g_goto (tgt := 20) dX9_luckOf_76 (by decide) ?_
            have eP : lkPm lw x a b = 0 := if_neg (by first | exact fun q => h35 q.1 | exact fun q => h46 q.2)
            have eG : lkGm lw F x n s a b = nI 0 := if_neg (by first | exact fun q => h35 q.1 | exact fun q => h46 q.2)
            have hI := ih () trivial
            rw [sumN_s, sN_s, ← Int32.add_assoc, ← Nat.add_assoc, eP, eG] at hI
            rw [add_n0, Nat.add_zero] at hI
            exact hI
          · refine g_ald0 (pc' := 39) dX9_luckOf_38 rfl ?_
            refine g_getR (pc' := 42) mg.s40 (by decide) fX9_34 mg.r40_19 dX9_luckOf_39 rfl ?_
            refine g_ild6 (pc' := 44) dX9_luckOf_42 rfl ?_
            refine g_iald (pc' := 45) (j := b) mg.s69 rfl (by omega) (by decide) (v := lw b) (hlw b (by omega)) dX9_luckOf_44 rfl ?_
            refine g_ild1 (pc' := 46) dX9_luckOf_45 rfl ?_
            refine g_icmpne (pc' := 49) (tgt := 73) dX9_luckOf_46 (by decide) rfl (fun h46 => ?_) (fun h46 => ?_)
            · refine g_inc6 (pc' := 76) rfl (by decide) (v := nI (b + 1)) (nI_1 _) dX9_luckOf_73 rfl ?_
              refine g_goto (tgt := 20) dX9_luckOf_76 (by decide) ?_
              have eP : lkPm lw x a b = 0 := if_neg (by first | exact fun q => h35 q.1 | exact fun q => h46 q.2)
              have eG : lkGm lw F x n s a b = nI 0 := if_neg (by first | exact fun q => h35 q.1 | exact fun q => h46 q.2)
              have hI := ih () trivial
              rw [sumN_s, sN_s, ← Int32.add_assoc, ← Nat.add_assoc, eP, eG] at hI
              rw [add_n0, Nat.add_zero] at hI
              exact hI
            · refine g_ild3 (pc' := 50) dX9_luckOf_49 rfl ?_
              refine g_ald0 (pc' := 51) dX9_luckOf_50 rfl ?_
              refine g_ild5 (pc' := 53) dX9_luckOf_51 rfl ?_
              refine g_ild2 (pc' := 54) dX9_luckOf_53 rfl ?_
              refine g_callV (pc' := 57) (c_mShare l mg hn hN (w := a) (by omega) (hF a ha) (hbF a ha) hs) mg.s40 (by decide) wX9_share lX9_216 rfl rfl (Nat.le_of_ble_eq_true rfl) ⟨Nat.le_of_ble_eq_true rfl, Nat.le_of_ble_eq_true rfl⟩ ⟨Nat.le_of_ble_eq_true rfl, Nat.le_of_ble_eq_true rfl⟩ dX9_luckOf_54 rfl (kIp ?_)
              refine g_ald0 (pc' := 58) dX9_luckOf_57 rfl ?_
              refine g_ild6 (pc' := 60) dX9_luckOf_58 rfl ?_
              refine g_ild2 (pc' := 61) dX9_luckOf_60 rfl ?_
              refine g_callV (pc' := 64) (c_mShare l mg hn hN (w := b) (by omega) (hF b (by omega)) (hbF b (by omega)) hs) mg.s40 (by decide) wX9_share lX9_216 rfl rfl (Nat.le_of_ble_eq_true rfl) ⟨Nat.le_of_ble_eq_true rfl, Nat.le_of_ble_eq_true rfl⟩ ⟨Nat.le_of_ble_eq_true rfl, Nat.le_of_ble_eq_true rfl⟩ dX9_luckOf_61 rfl (kIp ?_)
              refine g_isub (pc' := 65) dX9_luckOf_64 rfl ?_
              refine g_callS (pc' := 68) (c_mSize l (shareI (F a) n s - shareI (F b) n s)) wX9_size lX9_248 rfl rfl (Nat.le_of_ble_eq_true rfl) ⟨Nat.le_of_ble_eq_true rfl, Nat.le_of_ble_eq_true rfl⟩ ⟨Nat.le_of_ble_eq_true rfl, Nat.le_of_ble_eq_true rfl⟩ dX9_luckOf_65 rfl (kIp ?_)
              refine g_iadd (pc' := 69) dX9_luckOf_68 rfl ?_
              refine g_ist3 (pc' := 70) rfl (by decide) dX9_luckOf_69 rfl ?_
              refine g_inc4 (pc' := 73) rfl (by decide) (v := nI (triN (lkPm lw x) a + sN (fun b => (lkPm lw x) a b) b + 1)) (nI_1 _) dX9_luckOf_70 rfl ?_
              refine g_inc6 (pc' := 76) rfl (by decide) (v := nI (b + 1)) (nI_1 _) dX9_luckOf_73 rfl ?_
              refine g_goto (tgt := 20) dX9_luckOf_76 (by decide) ?_
              have eP : lkPm lw x a b = 1 := if_pos ⟨by assumption, by assumption⟩
              have eG : lkGm lw F x n s a b = absI (shareI (F a) n s - shareI (F b) n s) := if_pos ⟨by assumption, by assumption⟩
              have hI := ih () trivial
              rw [sumN_s, sN_s, ← Int32.add_assoc, ← Nat.add_assoc, eP, eG] at hI
              exact hI
      · intro _ hP
        refine g_ild6 (pc' := 22) dX9_luckOf_20 rfl ?_
        refine g_ild5 (pc' := 24) dX9_luckOf_22 rfl ?_
        refine g_icmpgeN (pc' := 27) (by omega) (by omega) (tgt := 79) dX9_luckOf_24 (by decide) rfl (fun h24 => ?_) (fun h24 => ?_)
        · refine g_inc5 (pc' := 82) rfl (by decide) (v := nI (a + 1)) (nI_1 _) dX9_luckOf_79 rfl ?_
          refine g_goto (tgt := 8) dX9_luckOf_82 (by decide) ?_
          refine G.lsub [some (.inr (.inr (some (40, 0)))), some (.inl x), some (.inl (nI s)), some (.inl (triI (lkGm lw F x n s) a + sumN (fun b => (lkGm lw F x n s) a b) a)), some (.inl (nI (triN (lkPm lw x) a + sN (fun b => (lkPm lw x) a b) a))), some (.inl (nI (a + 1))), none] (by intro j v; rcases j with _ | _ | _ | _ | _ | _ | _ | j <;> simp) ?_
          exact iha () trivial
        · exact absurd h24 (by omega)
  · intro _ hP
    have hle := triN_le (lkPm_le lw x) m (by omega)
    refine g_ild5 (pc' := 10) dX9_luckOf_8 rfl ?_
    refine g_ald0 (pc' := 11) dX9_luckOf_10 rfl ?_
    refine g_getI (pc' := 14) mg.s40 (by decide) fX9_174 hm dX9_luckOf_11 rfl ?_
    refine g_icmpgeN (pc' := 17) (by omega) (by omega) (tgt := 85) dX9_luckOf_14 (by decide) rfl (fun h14 => ?_) (fun h14 => ?_)
    · refine g_ild4 (pc' := 87) dX9_luckOf_85 rfl ?_
      refine g_ifneN (pc' := 90) (by omega) (tgt := 95) dX9_luckOf_87 (by decide) rfl (fun h87 => ?_) (fun h87 => ?_)
      · refine g_ild3 (pc' := 96) dX9_luckOf_95 rfl ?_
        refine g_ild4 (pc' := 98) dX9_luckOf_96 rfl ?_
        refine g_idiv (pc' := 99) dX9_luckOf_98 rfl (by rw [nI_z (by omega)]; omega) ?_
        refine g_iret rfl dX9_luckOf_99 ?_
        exact eIp (by unfold lkVm; first | rw [if_pos (by omega)] | rw [if_neg (by omega)])
      · refine g_bipush (pc' := 92) (v := (-2)) dX9_luckOf_90 rfl (by decide) ?_
        refine g_goto (tgt := 99) dX9_luckOf_92 (by decide) ?_
        refine g_iret rfl dX9_luckOf_99 ?_
        exact eIp (by unfold lkVm; first | rw [if_pos (by omega)] | rw [if_neg (by omega)])
    · exact absurd h14 (by omega)

theorem c_mLuckB (l : Launch) {S : Shp} {I : MI} {L : ML} {R : MR} (mg : MG S R) {n : Nat} (hn : I (40, 0) 6 = nI n) (hN : n ≤ 12) {c : Nat} (hc : I (40, 0) 9 = nI c) (hC : c ≤ 6) {x y : Int32} (hb : inb x c = false ∨ ¬ y = -1 ∧ inb y n = false) : Ct l mX9_luck 3 0 0 [.inr (.inr (some (40, 0))), .inl x, .inl y] S I L R (PIp S I L R (-1)) := by
  refine Ct.of [some (.inr (.inr (some (40, 0)))), some (.inl x), some (.inl y), none, none, none] (by decide) rfl (Nat.le_of_ble_eq_true rfl) ?_
  refine g_ald0 (pc' := 1) dX9_luck_0 rfl ?_
  refine g_ild1 (pc' := 2) dX9_luck_1 rfl ?_
  refine g_callV (pc' := 5) (c_misLaw l mg hc hC x) mg.s40 (by decide) wX9_isLaw lX9_177 rfl rfl (Nat.le_of_ble_eq_true rfl) ⟨Nat.le_of_ble_eq_true rfl, Nat.le_of_ble_eq_true rfl⟩ ⟨Nat.le_of_ble_eq_true rfl, Nat.le_of_ble_eq_true rfl⟩ dX9_luck_2 rfl (kIp ?_)
  refine g_ifeqB (pc' := 8) (tgt := 21) dX9_luck_5 (by decide) rfl (fun h5 => ?_) (fun h5 => ?_)
  · refine g_iconst (pc' := 22) (v := (-1)) dX9_luck_21 rfl (by decide) ?_
    refine g_iret rfl dX9_luck_22 ?_
    exact eIp rfl
  · refine g_ild2 (pc' := 9) dX9_luck_8 rfl ?_
    refine g_iconst (pc' := 10) (v := (-1)) dX9_luck_9 rfl (by decide) ?_
    refine g_icmpeq (pc' := 13) (tgt := 23) dX9_luck_10 (by decide) rfl (fun h10 => ?_) (fun h10 => ?_)
    · exfalso
      rcases hb with h | h
      · rw [h] at h5; cases h5
      · first | exact h.1 h10 | (rw [h.2] at h18; cases h18)
    · refine g_ald0 (pc' := 14) dX9_luck_13 rfl ?_
      refine g_ild2 (pc' := 15) dX9_luck_14 rfl ?_
      refine g_callV (pc' := 18) (c_misSong l mg hn hN y) mg.s40 (by decide) wX9_isSong lX9_111 rfl rfl (Nat.le_of_ble_eq_true rfl) ⟨Nat.le_of_ble_eq_true rfl, Nat.le_of_ble_eq_true rfl⟩ ⟨Nat.le_of_ble_eq_true rfl, Nat.le_of_ble_eq_true rfl⟩ dX9_luck_15 rfl (kIp ?_)
      refine g_ifneB (pc' := 21) (tgt := 23) dX9_luck_18 (by decide) rfl (fun h18 => ?_) (fun h18 => ?_)
      · exfalso
        rcases hb with h | h
        · rw [h] at h5; cases h5
        · first | exact h.1 h10 | (rw [h.2] at h18; cases h18)
      · refine g_iconst (pc' := 22) (v := (-1)) dX9_luck_21 rfl (by decide) ?_
        refine g_iret rfl dX9_luck_22 ?_
        exact eIp rfl

theorem nI_ne1 {s : Nat} (h : s < 2 ^ 31) : ¬ nI s = -1 := fun q => absurd (nI_pos h) (by rw [q]; decide)
theorem c_mLuckS (l : Launch) {S : Shp} {I : MI} {L : ML} {R : MR} (mg : MG S R) {n : Nat} (hn : I (40, 0) 6 = nI n) (hN : n ≤ 12) {c : Nat} (hc : I (40, 0) 9 = nI c) (hC : c ≤ 6) {m : Nat} (hm : I (40, 0) 18 = nI m) (hM : m ≤ 9) {lw : Nat → Int32} {F : Nat → Nat → Int32} (hlw : ∀ k, k < m → I (69, 0) k = lw k) (hF : ∀ k, k < m → ∀ o, o < n → I (50, 0) (23 + 12 * k + o) = F k o) (hbF : ∀ k, k < m → bdN (F k) n) {x : Int32} (hx : inb x c = true) {s : Nat} (hs : s < n) : Ct l mX9_luck 5 0 0 [.inr (.inr (some (40, 0))), .inl x, .inl (nI s)] S I L R (PIp S I L R (lkVm lw F x n m s)) := by
  refine Ct.of [some (.inr (.inr (some (40, 0)))), some (.inl x), some (.inl (nI s)), none, none, none] (by decide) rfl (Nat.le_of_ble_eq_true rfl) ?_
  refine g_ald0 (pc' := 1) dX9_luck_0 rfl ?_
  refine g_ild1 (pc' := 2) dX9_luck_1 rfl ?_
  refine g_callV (pc' := 5) (c_misLaw l mg hc hC x) mg.s40 (by decide) wX9_isLaw lX9_177 rfl rfl (Nat.le_of_ble_eq_true rfl) ⟨Nat.le_of_ble_eq_true rfl, Nat.le_of_ble_eq_true rfl⟩ ⟨Nat.le_of_ble_eq_true rfl, Nat.le_of_ble_eq_true rfl⟩ dX9_luck_2 rfl (kIp ?_)
  refine g_ifeqB (pc' := 8) (tgt := 21) dX9_luck_5 (by decide) rfl (fun h5 => (by first | exact absurd h5 (by rw [hx]; simp) | exact absurd (by rw [hx]; simp) h5)) (fun h5 => ?_)
  refine g_ild2 (pc' := 9) dX9_luck_8 rfl ?_
  refine g_iconst (pc' := 10) (v := (-1)) dX9_luck_9 rfl (by decide) ?_
  refine g_icmpeq (pc' := 13) (tgt := 23) dX9_luck_10 (by decide) rfl (fun h10 => (by first | exact absurd h10 (nI_ne1 (by omega)) | exact absurd (nI_ne1 (by omega)) h10)) (fun h10 => ?_)
  refine g_ald0 (pc' := 14) dX9_luck_13 rfl ?_
  refine g_ild2 (pc' := 15) dX9_luck_14 rfl ?_
  refine g_callV (pc' := 18) (c_misSong l mg hn hN (nI s)) mg.s40 (by decide) wX9_isSong lX9_111 rfl rfl (Nat.le_of_ble_eq_true rfl) ⟨Nat.le_of_ble_eq_true rfl, Nat.le_of_ble_eq_true rfl⟩ ⟨Nat.le_of_ble_eq_true rfl, Nat.le_of_ble_eq_true rfl⟩ dX9_luck_15 rfl (kIp ?_)
  refine g_ifneB (pc' := 21) (tgt := 23) dX9_luck_18 (by decide) rfl (fun h18 => ?_) (fun h18 => (by first | exact absurd h18 (by rw [inb_nI (by omega) (by omega)]; simp [hs]) | exact absurd (by rw [inb_nI (by omega) (by omega)]; simp [hs]) h18))
  refine g_ild2 (pc' := 24) dX9_luck_23 rfl ?_
  refine g_iconst (pc' := 25) (v := (-1)) dX9_luck_24 rfl (by decide) ?_
  refine g_icmpeq (pc' := 28) (tgt := 35) dX9_luck_25 (by decide) rfl (fun h25 => (by first | exact absurd h25 (nI_ne1 (by omega)) | exact absurd (nI_ne1 (by omega)) h25)) (fun h25 => ?_)
  refine g_ald0 (pc' := 29) dX9_luck_28 rfl ?_
  refine g_ild1 (pc' := 30) dX9_luck_29 rfl ?_
  refine g_ild2 (pc' := 31) dX9_luck_30 rfl ?_
  refine g_callV (pc' := 34) (c_mLuckOf l mg hn hN hm hM hlw hF hbF x (s := s) hs) mg.s40 (by decide) wX9_luckOf lX9_257 rfl rfl (Nat.le_of_ble_eq_true rfl) ⟨Nat.le_of_ble_eq_true rfl, Nat.le_of_ble_eq_true rfl⟩ ⟨Nat.le_of_ble_eq_true rfl, Nat.le_of_ble_eq_true rfl⟩ dX9_luck_31 rfl (kIp ?_)
  refine g_iret rfl dX9_luck_34 ?_
  exact eIp rfl

theorem stopS_s {f : Nat → Int32} {s : Nat} {t : Int32} (h : stopS f s = some t) : stopS f (s + 1) = if f s = -2 then none else some (t + f s) := by
  rw [stopS, h]
theorem stopS_no {f : Nat → Int32} {s : Nat} (h : stopS f s = none) : ∀ n, s ≤ n → stopS f n = none
  | 0, hn => by rw [show s = 0 by omega] at h; exact h
  | n + 1, hn => by
    by_cases e : s = n + 1
    · rw [← e]; exact h
    · rw [stopS, stopS_no h n (by omega)]
def lkAm (lw : Nat → Int32) (F : Nat → Nat → Int32) (x : Int32) (n m : Nat) : Int32 := if n = 0 then -2 else match stopS (lkVm lw F x n m) n with
  | none => -2
  | some t => t / nI n
theorem c_mLuckA (l : Launch) {S : Shp} {I : MI} {L : ML} {R : MR} (mg : MG S R) {n : Nat} (hn : I (40, 0) 6 = nI n) (hN : n ≤ 12) {c : Nat} (hc : I (40, 0) 9 = nI c) (hC : c ≤ 6) {m : Nat} (hm : I (40, 0) 18 = nI m) (hM : m ≤ 9) {lw : Nat → Int32} {F : Nat → Nat → Int32} (hlw : ∀ k, k < m → I (69, 0) k = lw k) (hF : ∀ k, k < m → ∀ o, o < n → I (50, 0) (23 + 12 * k + o) = F k o) (hbF : ∀ k, k < m → bdN (F k) n) {x : Int32} (hx : inb x c = true) : Ct l mX9_luck 5 0 0 [.inr (.inr (some (40, 0))), .inl x, .inl (-1)] S I L R (PIp S I L R (lkAm lw F x n m)) := by
  refine Ct.of [some (.inr (.inr (some (40, 0)))), some (.inl x), some (.inl (-1)), none, none, none] (by decide) rfl (Nat.le_of_ble_eq_true rfl) ?_
  refine g_ald0 (pc' := 1) dX9_luck_0 rfl ?_
  refine g_ild1 (pc' := 2) dX9_luck_1 rfl ?_
  refine g_callV (pc' := 5) (c_misLaw l mg hc hC x) mg.s40 (by decide) wX9_isLaw lX9_177 rfl rfl (Nat.le_of_ble_eq_true rfl) ⟨Nat.le_of_ble_eq_true rfl, Nat.le_of_ble_eq_true rfl⟩ ⟨Nat.le_of_ble_eq_true rfl, Nat.le_of_ble_eq_true rfl⟩ dX9_luck_2 rfl (kIp ?_)
  refine g_ifeqB (pc' := 8) (tgt := 21) dX9_luck_5 (by decide) rfl (fun h5 => (by first | exact absurd h5 (by rw [hx]; simp) | exact absurd (by rw [hx]; simp) h5)) (fun h5 => ?_)
  refine g_ild2 (pc' := 9) dX9_luck_8 rfl ?_
  refine g_iconst (pc' := 10) (v := (-1)) dX9_luck_9 rfl (by decide) ?_
  refine g_icmpeq (pc' := 13) (tgt := 23) dX9_luck_10 (by decide) rfl (fun h10 => ?_) (fun h10 => (by first | exact absurd h10 (rfl : (-1 : Int32) = -1) | exact absurd (rfl : (-1 : Int32) = -1) h10))
  refine g_ild2 (pc' := 24) dX9_luck_23 rfl ?_
  refine g_iconst (pc' := 25) (v := (-1)) dX9_luck_24 rfl (by decide) ?_
  refine g_icmpeq (pc' := 28) (tgt := 35) dX9_luck_25 (by decide) rfl (fun h25 => ?_) (fun h25 => (by first | exact absurd h25 (rfl : (-1 : Int32) = -1) | exact absurd (rfl : (-1 : Int32) = -1) h25))
  refine g_iconst (pc' := 36) (v := nI 0) dX9_luck_35 rfl (by decide) ?_
  refine g_ist3 (pc' := 37) rfl (by decide) dX9_luck_36 rfl ?_
  refine g_iconst (pc' := 38) (v := nI 0) dX9_luck_37 rfl (by decide) ?_
  refine g_ist4 (pc' := 40) rfl (by decide) dX9_luck_38 rfl ?_
  refine g_loop (σ := Int32) (fun i t => stopS (lkVm lw F x n m) i = some t) (fun i t => [some (.inr (.inr (some (40, 0)))), some (.inl x), some (.inl (-1)), some (.inl t), some (.inl (nI i)), none]) (fun _ _ => I) n 0 (nI 0) (by omega) rfl ?_ ?_
  · intro i t hi hP ih
    refine g_ild4 (pc' := 42) dX9_luck_40 rfl ?_
    refine g_ald0 (pc' := 43) dX9_luck_42 rfl ?_
    refine g_getI (pc' := 46) mg.s40 (by decide) fX9_99 hn dX9_luck_43 rfl ?_
    refine g_icmpgeN (pc' := 49) (by omega) (by omega) (tgt := 79) dX9_luck_46 (by decide) rfl (fun h46 => ?_) (fun h46 => ?_)
    · exact absurd h46 (by omega)
    · refine g_ald0 (pc' := 50) dX9_luck_49 rfl ?_
      refine g_ild1 (pc' := 51) dX9_luck_50 rfl ?_
      refine g_ild4 (pc' := 53) dX9_luck_51 rfl ?_
      refine g_callV (pc' := 56) (c_mLuckOf l mg hn hN hm hM hlw hF hbF x (s := i) hi) mg.s40 (by decide) wX9_luckOf lX9_257 rfl rfl (Nat.le_of_ble_eq_true rfl) ⟨Nat.le_of_ble_eq_true rfl, Nat.le_of_ble_eq_true rfl⟩ ⟨Nat.le_of_ble_eq_true rfl, Nat.le_of_ble_eq_true rfl⟩ dX9_luck_53 rfl (kIp ?_)
      refine g_ist5 (pc' := 58) rfl (by decide) dX9_luck_56 rfl ?_
      refine g_ild5 (pc' := 60) dX9_luck_58 rfl ?_
      refine g_bipush (pc' := 62) (v := (-2)) dX9_luck_60 rfl (by decide) ?_
      refine g_icmpne (pc' := 65) (tgt := 68) dX9_luck_62 (by decide) rfl (fun h62 => ?_) (fun h62 => ?_)
      · refine g_ild3 (pc' := 69) dX9_luck_68 rfl ?_
        refine g_ild5 (pc' := 71) dX9_luck_69 rfl ?_
        refine g_iadd (pc' := 72) dX9_luck_71 rfl ?_
        refine g_ist3 (pc' := 73) rfl (by decide) dX9_luck_72 rfl ?_
        refine g_inc4 (pc' := 76) rfl (by decide) (v := nI (i + 1)) (nI_1 _) dX9_luck_73 rfl ?_
        refine g_goto (tgt := 40) dX9_luck_76 (by decide) ?_
        refine G.lsub [some (.inr (.inr (some (40, 0)))), some (.inl x), some (.inl (-1)), some (.inl (t + (lkVm lw F x n m) i)), some (.inl (nI (i + 1))), none] (by intro j v; rcases j with _ | _ | _ | _ | _ | _ | j <;> simp) ?_
        exact ih (t + (lkVm lw F x n m) i) (by rw [stopS_s hP, if_neg h62])
      · refine g_bipush (pc' := 67) (v := (-2)) dX9_luck_65 rfl (by decide) ?_
        refine g_iret rfl dX9_luck_67 ?_
        have hno := stopS_no (f := (lkVm lw F x n m)) (s := i + 1) (by rw [stopS_s hP, if_pos (by assumption)]) n (by omega)
        exact eIp (by unfold lkAm; rw [if_neg (by omega), hno])
  · intro t hP
    refine g_ild4 (pc' := 42) dX9_luck_40 rfl ?_
    refine g_ald0 (pc' := 43) dX9_luck_42 rfl ?_
    refine g_getI (pc' := 46) mg.s40 (by decide) fX9_99 hn dX9_luck_43 rfl ?_
    refine g_icmpgeN (pc' := 49) (by omega) (by omega) (tgt := 79) dX9_luck_46 (by decide) rfl (fun h46 => ?_) (fun h46 => ?_)
    · refine g_ald0 (pc' := 80) dX9_luck_79 rfl ?_
      refine g_getI (pc' := 83) mg.s40 (by decide) fX9_99 hn dX9_luck_80 rfl ?_
      refine g_ifneN (pc' := 86) (by omega) (tgt := 91) dX9_luck_83 (by decide) rfl (fun h83 => ?_) (fun h83 => ?_)
      · refine g_ild3 (pc' := 92) dX9_luck_91 rfl ?_
        refine g_ald0 (pc' := 93) dX9_luck_92 rfl ?_
        refine g_getI (pc' := 96) mg.s40 (by decide) fX9_99 hn dX9_luck_93 rfl ?_
        refine g_idiv (pc' := 97) dX9_luck_96 rfl (by rw [nI_z (by omega)]; omega) ?_
        refine g_iret rfl dX9_luck_97 ?_
        exact eIp (by unfold lkAm; first | rw [if_pos (by omega)] | rw [if_neg (by omega), hP])
      · refine g_bipush (pc' := 88) (v := (-2)) dX9_luck_86 rfl (by decide) ?_
        refine g_goto (tgt := 97) dX9_luck_88 (by decide) ?_
        refine g_iret rfl dX9_luck_97 ?_
        exact eIp (by unfold lkAm; first | rw [if_pos (by omega)] | rw [if_neg (by omega), hP])
    · exact absurd h46 (by omega)
