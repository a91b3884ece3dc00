/-! the model: taken, shift -/
def abvN (a : Nat) : Nat := if a = 3 ∨ a = 5 then 2 else if a = 6 then 1 else 0
def tkX : Nat → Nat → Nat → Option Nat
  | 0, a, q => if a = q ∨ a = 0 then some a else none
  | f + 1, a, q => if a = q ∨ a = 0 then some a else tkX f (abvN a) q
theorem tkX_ok : ∀ a, a < 8 → ∀ q, q < 8 → (tkX 4 a q).isSome = true ∧ decide ((tkX 4 a q).getD 0 = q) = undF 8 (some a) (nI q) := by decide +kernel
theorem abvN_lt (a : Nat) : abvN a < 8 := by unfold abvN; (repeat' split) <;> omega
theorem c_mAbove (l : Launch) {S : Shp} {I : MI} {L : ML} {R : MR} {a : Nat} (ha : a < 8) : Ct l mX9_above 1 0 0 [.inl (nI a)] S I L R (PIp S I L R (nI (abvN a))) := by
  refine Ct.of [some (.inl (nI a))] (by decide) rfl (Nat.le_of_ble_eq_true rfl) ?_
  refine g_ild0 (pc' := 1) dX9_above_0 rfl ?_
  refine g_iconst (pc' := 2) (v := nI 3) dX9_above_1 rfl (by decide) ?_
  refine g_icmpeqN (pc' := 5) (by omega) (by omega) (tgt := 10) dX9_above_2 (by decide) rfl (fun h2 => ?_) (fun h2 => ?_)
  · refine g_iconst (pc' := 11) (v := nI 2) dX9_above_10 rfl (by decide) ?_
    refine g_goto (tgt := 25) dX9_above_11 (by decide) ?_
    refine g_iret rfl dX9_above_25 ?_
    exact eIp (by unfold abvN; first | (rw [if_pos (by omega)]; done) | (rw [if_neg (by omega), if_pos (by omega)]; done) | (rw [if_neg (by omega), if_neg (by omega)]))
  · refine g_ild0 (pc' := 6) dX9_above_5 rfl ?_
    refine g_iconst (pc' := 7) (v := nI 5) dX9_above_6 rfl (by decide) ?_
    refine g_icmpneN (pc' := 10) (by omega) (by omega) (tgt := 14) dX9_above_7 (by decide) rfl (fun h7 => ?_) (fun h7 => ?_)
    · refine g_ild0 (pc' := 15) dX9_above_14 rfl ?_
      refine g_bipush (pc' := 17) (v := nI 6) dX9_above_15 rfl (by decide) ?_
      refine g_icmpneN (pc' := 20) (by omega) (by omega) (tgt := 24) dX9_above_17 (by decide) rfl (fun h17 => ?_) (fun h17 => ?_)
      · refine g_iconst (pc' := 25) (v := nI 0) dX9_above_24 rfl (by decide) ?_
        refine g_iret rfl dX9_above_25 ?_
        exact eIp (by unfold abvN; first | (rw [if_pos (by omega)]; done) | (rw [if_neg (by omega), if_pos (by omega)]; done) | (rw [if_neg (by omega), if_neg (by omega)]))
      · refine g_iconst (pc' := 21) (v := nI 1) dX9_above_20 rfl (by decide) ?_
        refine g_goto (tgt := 25) dX9_above_21 (by decide) ?_
        refine g_iret rfl dX9_above_25 ?_
        exact eIp (by unfold abvN; first | (rw [if_pos (by omega)]; done) | (rw [if_neg (by omega), if_pos (by omega)]; done) | (rw [if_neg (by omega), if_neg (by omega)]))
    · refine g_iconst (pc' := 11) (v := nI 2) dX9_above_10 rfl (by decide) ?_
      refine g_goto (tgt := 25) dX9_above_11 (by decide) ?_
      refine g_iret rfl dX9_above_25 ?_
      exact eIp (by unfold abvN; first | (rw [if_pos (by omega)]; done) | (rw [if_neg (by omega), if_pos (by omega)]; done) | (rw [if_neg (by omega), if_neg (by omega)]))

theorem c_mTakenB (l : Launch) {S : Shp} {I : MI} {L : ML} {R : MR} (mg : MG S R) {x y : Int32} (hb : inb x 6 = false ∨ y < nI 0 ∨ nI 7 < y) : Ct l mX9_taken 3 0 0 [.inr (.inr (some (40, 0))), .inl x, .inl y] S I L R (PIp S I L R (-1)) := by
  refine Ct.of [some (.inr (.inr (some (40, 0)))), some (.inl x), some (.inl y), none] (by decide) rfl (Nat.le_of_ble_eq_true rfl) ?_
  refine g_ild1 (pc' := 1) dX9_taken_0 rfl ?_
  refine g_callS (pc' := 4) (c_mIsShelf l x) wX9_isShelf lX9_239 rfl rfl (Nat.le_of_ble_eq_true rfl) ⟨Nat.le_of_ble_eq_true rfl, Nat.le_of_ble_eq_true rfl⟩ ⟨Nat.le_of_ble_eq_true rfl, Nat.le_of_ble_eq_true rfl⟩ dX9_taken_1 rfl (kIp ?_)
  refine g_ifeqB (pc' := 7) (tgt := 19) dX9_taken_4 (by decide) rfl (fun h4 => ?_) (fun h4 => ?_)
  · refine g_iconst (pc' := 20) (v := (-1)) dX9_taken_19 rfl (by decide) ?_
    refine g_iret rfl dX9_taken_20 ?_
    exact eIp rfl
  · refine g_ild2 (pc' := 8) dX9_taken_7 rfl ?_
    refine g_i2l (pc' := 9) dX9_taken_8 rfl ?_
    refine g_lconst (pc' := 10) (v := 0) dX9_taken_9 rfl (by decide) ?_
    refine g_ldc2 (pc' := 13) dX9_taken_10 rfl kX9_319 ?_
    refine g_callS (pc' := 16) (c_mWI l y (nI 0) (nI 7) (A := 0) (B := 7) (by decide) (by decide)) wX9_within lX9_102 rfl rfl (Nat.le_of_ble_eq_true rfl) ⟨Nat.le_of_ble_eq_true rfl, Nat.le_of_ble_eq_true rfl⟩ ⟨Nat.le_of_ble_eq_true rfl, Nat.le_of_ble_eq_true rfl⟩ dX9_taken_13 rfl (kIp ?_)
    refine g_ifneB (pc' := 19) (tgt := 21) dX9_taken_16 (by decide) rfl (fun h16 => ?_) (fun h16 => ?_)
    · exfalso
      rcases hb with h | h
      · rw [h] at h4; cases h4
      · exact wi_no h h16
    · refine g_iconst (pc' := 20) (v := (-1)) dX9_taken_19 rfl (by decide) ?_
      refine g_iret rfl dX9_taken_20 ?_
      exact eIp rfl

theorem c_mTaken0 (l : Launch) {S : Shp} {I : MI} {L : ML} {R : MR} (mg : MG S R) {d : Nat} (hd : d < 6) (h91 : I (91, 0) d = -1) {q : Nat} (hq : q < 8) : Ct l mX9_taken 3 0 0 [.inr (.inr (some (40, 0))), .inl (nI d), .inl (nI q)] S I L R (PIp S I L R (-11)) := by
  refine Ct.of [some (.inr (.inr (some (40, 0)))), some (.inl (nI d)), some (.inl (nI q)), none] (by decide) rfl (Nat.le_of_ble_eq_true rfl) ?_
  refine g_ild1 (pc' := 1) dX9_taken_0 rfl ?_
  refine g_callS (pc' := 4) (c_mIsShelf l (nI d)) wX9_isShelf lX9_239 rfl rfl (Nat.le_of_ble_eq_true rfl) ⟨Nat.le_of_ble_eq_true rfl, Nat.le_of_ble_eq_true rfl⟩ ⟨Nat.le_of_ble_eq_true rfl, Nat.le_of_ble_eq_true rfl⟩ dX9_taken_1 rfl (kIp ?_)
  refine g_ifeqB (pc' := 7) (tgt := 19) dX9_taken_4 (by decide) rfl (fun h4 => (by first | exact absurd h4 (by rw [inb_nI (by omega) (by omega)]; simp [hd]) | exact absurd (by rw [inb_nI (by omega) (by omega)]; simp [hd]) h4)) (fun h4 => ?_)
  refine g_ild2 (pc' := 8) dX9_taken_7 rfl ?_
  refine g_i2l (pc' := 9) dX9_taken_8 rfl ?_
  refine g_lconst (pc' := 10) (v := 0) dX9_taken_9 rfl (by decide) ?_
  refine g_ldc2 (pc' := 13) dX9_taken_10 rfl kX9_319 ?_
  refine g_callS (pc' := 16) (c_mWI l (nI q) (nI 0) (nI 7) (A := 0) (B := 7) (by decide) (by decide)) wX9_within lX9_102 rfl rfl (Nat.le_of_ble_eq_true rfl) ⟨Nat.le_of_ble_eq_true rfl, Nat.le_of_ble_eq_true rfl⟩ ⟨Nat.le_of_ble_eq_true rfl, Nat.le_of_ble_eq_true rfl⟩ dX9_taken_13 rfl (kIp ?_)
  refine g_ifneB (pc' := 19) (tgt := 21) dX9_taken_16 (by decide) rfl (fun h16 => ?_) (fun h16 => (by first | exact absurd h16 (wi_yesN (by omega) (by decide)) | exact absurd (wi_yesN (by omega) (by decide)) h16))
  refine g_ald0 (pc' := 22) dX9_taken_21 rfl ?_
  refine g_getR (pc' := 25) mg.s40 (by decide) fX9_79 mg.r40_41 dX9_taken_22 rfl ?_
  refine g_ild1 (pc' := 26) dX9_taken_25 rfl ?_
  refine g_iald (pc' := 27) (j := d) mg.s91 rfl (by omega) (by decide) h91 dX9_taken_26 rfl ?_
  refine g_ifge (pc' := 30) (tgt := 33) dX9_taken_27 (by decide) rfl (fun h27 => (by first | exact absurd h27 (by decide : ¬ (0 : Int32) ≤ -1) | exact absurd (by decide : ¬ (0 : Int32) ≤ -1) h27)) (fun h27 => ?_)
  refine g_bipush (pc' := 32) (v := (-11)) dX9_taken_30 rfl (by decide) ?_
  refine g_iret rfl dX9_taken_32 ?_
  exact eIp rfl

theorem c_mTaken2 (l : Launch) {S : Shp} {I : MI} {L : ML} {R : MR} (mg : MG S R) {d : Nat} (hd : d < 6) {c : Nat} (hc : 50 ≤ c) (hc2 : c < 60) (h91 : I (91, 0) d = nI c) {q : Nat} (hq : q < 8) : Ct l mX9_taken 3 0 0 [.inr (.inr (some (40, 0))), .inl (nI d), .inl (nI q)] S I L R (PIp S I L R (-12)) := by
  refine Ct.of [some (.inr (.inr (some (40, 0)))), some (.inl (nI d)), some (.inl (nI q)), none] (by decide) rfl (Nat.le_of_ble_eq_true rfl) ?_
  refine g_ild1 (pc' := 1) dX9_taken_0 rfl ?_
  refine g_callS (pc' := 4) (c_mIsShelf l (nI d)) wX9_isShelf lX9_239 rfl rfl (Nat.le_of_ble_eq_true rfl) ⟨Nat.le_of_ble_eq_true rfl, Nat.le_of_ble_eq_true rfl⟩ ⟨Nat.le_of_ble_eq_true rfl, Nat.le_of_ble_eq_true rfl⟩ dX9_taken_1 rfl (kIp ?_)
  refine g_ifeqB (pc' := 7) (tgt := 19) dX9_taken_4 (by decide) rfl (fun h4 => (by first | exact absurd h4 (by rw [inb_nI (by omega) (by omega)]; simp [hd]) | exact absurd (by rw [inb_nI (by omega) (by omega)]; simp [hd]) h4)) (fun h4 => ?_)
  refine g_ild2 (pc' := 8) dX9_taken_7 rfl ?_
  refine g_i2l (pc' := 9) dX9_taken_8 rfl ?_
  refine g_lconst (pc' := 10) (v := 0) dX9_taken_9 rfl (by decide) ?_
  refine g_ldc2 (pc' := 13) dX9_taken_10 rfl kX9_319 ?_
  refine g_callS (pc' := 16) (c_mWI l (nI q) (nI 0) (nI 7) (A := 0) (B := 7) (by decide) (by decide)) wX9_within lX9_102 rfl rfl (Nat.le_of_ble_eq_true rfl) ⟨Nat.le_of_ble_eq_true rfl, Nat.le_of_ble_eq_true rfl⟩ ⟨Nat.le_of_ble_eq_true rfl, Nat.le_of_ble_eq_true rfl⟩ dX9_taken_13 rfl (kIp ?_)
  refine g_ifneB (pc' := 19) (tgt := 21) dX9_taken_16 (by decide) rfl (fun h16 => ?_) (fun h16 => (by first | exact absurd h16 (wi_yesN (by omega) (by decide)) | exact absurd (wi_yesN (by omega) (by decide)) h16))
  refine g_ald0 (pc' := 22) dX9_taken_21 rfl ?_
  refine g_getR (pc' := 25) mg.s40 (by decide) fX9_79 mg.r40_41 dX9_taken_22 rfl ?_
  refine g_ild1 (pc' := 26) dX9_taken_25 rfl ?_
  refine g_iald (pc' := 27) (j := d) mg.s91 rfl (by omega) (by decide) h91 dX9_taken_26 rfl ?_
  refine g_ifgeN (by omega) (tgt := 33) dX9_taken_27 (by decide) ?_
  refine g_ald0 (pc' := 34) dX9_taken_33 rfl ?_
  refine g_getR (pc' := 37) mg.s40 (by decide) fX9_79 mg.r40_41 dX9_taken_34 rfl ?_
  refine g_ild1 (pc' := 38) dX9_taken_37 rfl ?_
  refine g_iald (pc' := 39) (j := d) mg.s91 rfl (by omega) (by decide) h91 dX9_taken_38 rfl ?_
  refine g_bipush (pc' := 41) (v := nI 50) dX9_taken_39 rfl (by decide) ?_
  refine g_icmpltN (pc' := 44) (by omega) (by omega) (tgt := 47) dX9_taken_41 (by decide) rfl (fun h41 => ?_) (fun h41 => ?_)
  · exact absurd h41 (by omega)
  · refine g_bipush (pc' := 46) (v := (-12)) dX9_taken_44 rfl (by decide) ?_
    refine g_iret rfl dX9_taken_46 ?_
    exact eIp rfl

theorem c_mKindOf (l : Launch) {S : Shp} {I : MI} {L : ML} {R : MR} (mg : MG S R) {b a : Nat} (hb : b < 50) (hka : I (86, 0) b = nI a) : Ct l mX9_kindOf 1 0 0 [.inr (.inr (some (40, 0))), .inl (nI b)] S I L R (PIp S I L R (nI a)) := by
  refine Ct.of [some (.inr (.inr (some (40, 0)))), some (.inl (nI b))] (by decide) rfl (Nat.le_of_ble_eq_true rfl) ?_
  refine g_ald0 (pc' := 1) dX9_kindOf_0 rfl ?_
  refine g_getR (pc' := 4) mg.s40 (by decide) fX9_73 mg.r40_36 dX9_kindOf_1 rfl ?_
  refine g_ild1 (pc' := 5) dX9_kindOf_4 rfl ?_
  refine g_iald (pc' := 6) (j := b) mg.s86 rfl (by omega) (by decide) hka dX9_kindOf_5 rfl ?_
  refine g_iret rfl dX9_kindOf_6 ?_
  exact eIp rfl

theorem tk_loop {l : Launch} {S : Shp} {I : MI} {L : ML} {R : MR} (mg : MG S R) {d q b a : Nat} (hd : d < 6) (hq : q < 8) (hb : b < 50) (h91 : I (91, 0) d = nI b) (ha8 : a < 8) (hka : I (86, 0) b = nI a) {P : Int32} : ∀ (f x : Nat), x < 8 → ∀ r, tkX f x q = some r → P = (if r = q then nI a else -12) → G l mX9_taken (rmd 3 0 0) (QM (PIp S I L R P) 0 0) 0 0 58 [some (.inr (.inr (some (40, 0)))), some (.inl (nI d)), some (.inl (nI q)), some (.inl (nI x))] [] S I L R
  | 0, x, hx8, r, h, hr => by
    by_cases hx : x = q ∨ x = 0
    · rw [tkX, if_pos hx] at h
      injection h with h
      subst h
      refine g_ild3 (pc' := 59) dX9_taken_58 rfl ?_
      refine g_ild2 (pc' := 60) dX9_taken_59 rfl ?_
      refine g_icmpeqN (pc' := 63) (by omega) (by omega) (tgt := 75) dX9_taken_60 (by decide) rfl (fun h60 => ?_) (fun h60 => ?_)
      · refine g_ild3 (pc' := 76) dX9_taken_75 rfl ?_
        refine g_ild2 (pc' := 77) dX9_taken_76 rfl ?_
        refine g_icmpneN (pc' := 80) (by omega) (by omega) (tgt := 93) dX9_taken_77 (by decide) rfl (fun h77 => ?_) (fun h77 => ?_)
        · refine g_bipush (pc' := 95) (v := (-12)) dX9_taken_93 rfl (by decide) ?_
          refine g_iret rfl dX9_taken_95 ?_
          exact eIp (by rw [hr]; first | (exfalso; omega) | rw [if_pos (by omega)] | rw [if_neg (by omega)])
        · refine g_ald0 (pc' := 81) dX9_taken_80 rfl ?_
          refine g_ald0 (pc' := 82) dX9_taken_81 rfl ?_
          refine g_getR (pc' := 85) mg.s40 (by decide) fX9_79 mg.r40_41 dX9_taken_82 rfl ?_
          refine g_ild1 (pc' := 86) dX9_taken_85 rfl ?_
          refine g_iald (pc' := 87) (j := d) mg.s91 rfl (by omega) (by decide) h91 dX9_taken_86 rfl ?_
          refine g_callV (pc' := 90) (c_mKindOf l mg (by omega) hka) mg.s40 (by decide) wX9_kindOf lX9_361 rfl rfl (Nat.le_of_ble_eq_true rfl) ⟨Nat.le_of_ble_eq_true rfl, Nat.le_of_ble_eq_true rfl⟩ ⟨Nat.le_of_ble_eq_true rfl, Nat.le_of_ble_eq_true rfl⟩ dX9_taken_87 rfl (kIp ?_)
          refine g_goto (tgt := 95) dX9_taken_90 (by decide) ?_
          refine g_iret rfl dX9_taken_95 ?_
          exact eIp (by rw [hr]; first | (exfalso; omega) | rw [if_pos (by omega)] | rw [if_neg (by omega)])
      · refine g_ild3 (pc' := 64) dX9_taken_63 rfl ?_
        refine g_ifleN (pc' := 67) (by omega) (tgt := 75) dX9_taken_64 (by decide) rfl (fun h64 => ?_) (fun h64 => ?_)
        · refine g_ild3 (pc' := 76) dX9_taken_75 rfl ?_
          refine g_ild2 (pc' := 77) dX9_taken_76 rfl ?_
          refine g_icmpneN (pc' := 80) (by omega) (by omega) (tgt := 93) dX9_taken_77 (by decide) rfl (fun h77 => ?_) (fun h77 => ?_)
          · refine g_bipush (pc' := 95) (v := (-12)) dX9_taken_93 rfl (by decide) ?_
            refine g_iret rfl dX9_taken_95 ?_
            exact eIp (by rw [hr]; first | (exfalso; omega) | rw [if_pos (by omega)] | rw [if_neg (by omega)])
          · refine g_ald0 (pc' := 81) dX9_taken_80 rfl ?_
            refine g_ald0 (pc' := 82) dX9_taken_81 rfl ?_
            refine g_getR (pc' := 85) mg.s40 (by decide) fX9_79 mg.r40_41 dX9_taken_82 rfl ?_
            refine g_ild1 (pc' := 86) dX9_taken_85 rfl ?_
            refine g_iald (pc' := 87) (j := d) mg.s91 rfl (by omega) (by decide) h91 dX9_taken_86 rfl ?_
            refine g_callV (pc' := 90) (c_mKindOf l mg (by omega) hka) mg.s40 (by decide) wX9_kindOf lX9_361 rfl rfl (Nat.le_of_ble_eq_true rfl) ⟨Nat.le_of_ble_eq_true rfl, Nat.le_of_ble_eq_true rfl⟩ ⟨Nat.le_of_ble_eq_true rfl, Nat.le_of_ble_eq_true rfl⟩ dX9_taken_87 rfl (kIp ?_)
            refine g_goto (tgt := 95) dX9_taken_90 (by decide) ?_
            refine g_iret rfl dX9_taken_95 ?_
            exact eIp (by rw [hr]; first | (exfalso; omega) | rw [if_pos (by omega)] | rw [if_neg (by omega)])
        · refine g_ild3 (pc' := 68) dX9_taken_67 rfl ?_
          refine g_callS (pc' := 71) (c_mAbove l hx8) wX9_above lX9_364 rfl rfl (Nat.le_of_ble_eq_true rfl) ⟨Nat.le_of_ble_eq_true rfl, Nat.le_of_ble_eq_true rfl⟩ ⟨Nat.le_of_ble_eq_true rfl, Nat.le_of_ble_eq_true rfl⟩ dX9_taken_68 rfl (kIp ?_)
          refine g_ist3 (pc' := 72) rfl (by decide) dX9_taken_71 rfl ?_
          refine g_goto (tgt := 58) dX9_taken_72 (by decide) ?_
          exact absurd hx (by omega)
    · rw [tkX, if_neg hx] at h
      cases h
  | f + 1, x, hx8, r, h, hr => by
    have ih := fun x hx h => tk_loop (l := l) (L := L) mg hd hq hb h91 ha8 hka (P := P) f x hx r h hr
    by_cases hx : x = q ∨ x = 0
    · rw [tkX, if_pos hx] at h
      injection h with h
      subst h
      refine g_ild3 (pc' := 59) dX9_taken_58 rfl ?_
      refine g_ild2 (pc' := 60) dX9_taken_59 rfl ?_
      refine g_icmpeqN (pc' := 63) (by omega) (by omega) (tgt := 75) dX9_taken_60 (by decide) rfl (fun h60 => ?_) (fun h60 => ?_)
      · refine g_ild3 (pc' := 76) dX9_taken_75 rfl ?_
        refine g_ild2 (pc' := 77) dX9_taken_76 rfl ?_
        refine g_icmpneN (pc' := 80) (by omega) (by omega) (tgt := 93) dX9_taken_77 (by decide) rfl (fun h77 => ?_) (fun h77 => ?_)
        · refine g_bipush (pc' := 95) (v := (-12)) dX9_taken_93 rfl (by decide) ?_
          refine g_iret rfl dX9_taken_95 ?_
          exact eIp (by rw [hr]; first | (exfalso; omega) | rw [if_pos (by omega)] | rw [if_neg (by omega)])
        · refine g_ald0 (pc' := 81) dX9_taken_80 rfl ?_
          refine g_ald0 (pc' := 82) dX9_taken_81 rfl ?_
          refine g_getR (pc' := 85) mg.s40 (by decide) fX9_79 mg.r40_41 dX9_taken_82 rfl ?_
          refine g_ild1 (pc' := 86) dX9_taken_85 rfl ?_
          refine g_iald (pc' := 87) (j := d) mg.s91 rfl (by omega) (by decide) h91 dX9_taken_86 rfl ?_
          refine g_callV (pc' := 90) (c_mKindOf l mg (by omega) hka) mg.s40 (by decide) wX9_kindOf lX9_361 rfl rfl (Nat.le_of_ble_eq_true rfl) ⟨Nat.le_of_ble_eq_true rfl, Nat.le_of_ble_eq_true rfl⟩ ⟨Nat.le_of_ble_eq_true rfl, Nat.le_of_ble_eq_true rfl⟩ dX9_taken_87 rfl (kIp ?_)
          refine g_goto (tgt := 95) dX9_taken_90 (by decide) ?_
          refine g_iret rfl dX9_taken_95 ?_
          exact eIp (by rw [hr]; first | (exfalso; omega) | rw [if_pos (by omega)] | rw [if_neg (by omega)])
      · refine g_ild3 (pc' := 64) dX9_taken_63 rfl ?_
        refine g_ifleN (pc' := 67) (by omega) (tgt := 75) dX9_taken_64 (by decide) rfl (fun h64 => ?_) (fun h64 => ?_)
        · refine g_ild3 (pc' := 76) dX9_taken_75 rfl ?_
          refine g_ild2 (pc' := 77) dX9_taken_76 rfl ?_
          refine g_icmpneN (pc' := 80) (by omega) (by omega) (tgt := 93) dX9_taken_77 (by decide) rfl (fun h77 => ?_) (fun h77 => ?_)
          · refine g_bipush (pc' := 95) (v := (-12)) dX9_taken_93 rfl (by decide) ?_
            refine g_iret rfl dX9_taken_95 ?_
            exact eIp (by rw [hr]; first | (exfalso; omega) | rw [if_pos (by omega)] | rw [if_neg (by omega)])
          · refine g_ald0 (pc' := 81) dX9_taken_80 rfl ?_
            refine g_ald0 (pc' := 82) dX9_taken_81 rfl ?_
            refine g_getR (pc' := 85) mg.s40 (by decide) fX9_79 mg.r40_41 dX9_taken_82 rfl ?_
            refine g_ild1 (pc' := 86) dX9_taken_85 rfl ?_
            refine g_iald (pc' := 87) (j := d) mg.s91 rfl (by omega) (by decide) h91 dX9_taken_86 rfl ?_
            refine g_callV (pc' := 90) (c_mKindOf l mg (by omega) hka) mg.s40 (by decide) wX9_kindOf lX9_361 rfl rfl (Nat.le_of_ble_eq_true rfl) ⟨Nat.le_of_ble_eq_true rfl, Nat.le_of_ble_eq_true rfl⟩ ⟨Nat.le_of_ble_eq_true rfl, Nat.le_of_ble_eq_true rfl⟩ dX9_taken_87 rfl (kIp ?_)
            refine g_goto (tgt := 95) dX9_taken_90 (by decide) ?_
            refine g_iret rfl dX9_taken_95 ?_
            exact eIp (by rw [hr]; first | (exfalso; omega) | rw [if_pos (by omega)] | rw [if_neg (by omega)])
        · refine g_ild3 (pc' := 68) dX9_taken_67 rfl ?_
          refine g_callS (pc' := 71) (c_mAbove l hx8) wX9_above lX9_364 rfl rfl (Nat.le_of_ble_eq_true rfl) ⟨Nat.le_of_ble_eq_true rfl, Nat.le_of_ble_eq_true rfl⟩ ⟨Nat.le_of_ble_eq_true rfl, Nat.le_of_ble_eq_true rfl⟩ dX9_taken_68 rfl (kIp ?_)
          refine g_ist3 (pc' := 72) rfl (by decide) dX9_taken_71 rfl ?_
          refine g_goto (tgt := 58) dX9_taken_72 (by decide) ?_
          exact absurd hx (by omega)
    · rw [tkX, if_neg hx] at h
      refine g_ild3 (pc' := 59) dX9_taken_58 rfl ?_
      refine g_ild2 (pc' := 60) dX9_taken_59 rfl ?_
      refine g_icmpeqN (pc' := 63) (by omega) (by omega) (tgt := 75) dX9_taken_60 (by decide) rfl (fun h60 => ?_) (fun h60 => ?_)
      · exact absurd hx (by omega)
      · refine g_ild3 (pc' := 64) dX9_taken_63 rfl ?_
        refine g_ifleN (pc' := 67) (by omega) (tgt := 75) dX9_taken_64 (by decide) rfl (fun h64 => ?_) (fun h64 => ?_)
        · exact absurd hx (by omega)
        · refine g_ild3 (pc' := 68) dX9_taken_67 rfl ?_
          refine g_callS (pc' := 71) (c_mAbove l hx8) wX9_above lX9_364 rfl rfl (Nat.le_of_ble_eq_true rfl) ⟨Nat.le_of_ble_eq_true rfl, Nat.le_of_ble_eq_true rfl⟩ ⟨Nat.le_of_ble_eq_true rfl, Nat.le_of_ble_eq_true rfl⟩ dX9_taken_68 rfl (kIp ?_)
          refine g_ist3 (pc' := 72) rfl (by decide) dX9_taken_71 rfl ?_
          refine g_goto (tgt := 58) dX9_taken_72 (by decide) ?_
          exact ih _ (abvN_lt x) h

theorem c_mTaken1 (l : Launch) {S : Shp} {I : MI} {L : ML} {R : MR} (mg : MG S R) {d : Nat} (hd : d < 6) {b a : Nat} (hb : b < 50) (h91 : I (91, 0) d = nI b) (ha8 : a < 8) (hka : I (86, 0) b = nI a) {q : Nat} (hq : q < 8) : Ct l mX9_taken 3 0 0 [.inr (.inr (some (40, 0))), .inl (nI d), .inl (nI q)] S I L R (PIp S I L R (if undF 8 (some a) (nI q) = true then nI a else -12)) := by
  refine Ct.of [some (.inr (.inr (some (40, 0)))), some (.inl (nI d)), some (.inl (nI q)), none] (by decide) rfl (Nat.le_of_ble_eq_true rfl) ?_
  refine g_ild1 (pc' := 1) dX9_taken_0 rfl ?_
  refine g_callS (pc' := 4) (c_mIsShelf l (nI d)) wX9_isShelf lX9_239 rfl rfl (Nat.le_of_ble_eq_true rfl) ⟨Nat.le_of_ble_eq_true rfl, Nat.le_of_ble_eq_true rfl⟩ ⟨Nat.le_of_ble_eq_true rfl, Nat.le_of_ble_eq_true rfl⟩ dX9_taken_1 rfl (kIp ?_)
  refine g_ifeqB (pc' := 7) (tgt := 19) dX9_taken_4 (by decide) rfl (fun h4 => (by first | exact absurd h4 (by rw [inb_nI (by omega) (by omega)]; simp [hd]) | exact absurd (by rw [inb_nI (by omega) (by omega)]; simp [hd]) h4)) (fun h4 => ?_)
  refine g_ild2 (pc' := 8) dX9_taken_7 rfl ?_
  refine g_i2l (pc' := 9) dX9_taken_8 rfl ?_
  refine g_lconst (pc' := 10) (v := 0) dX9_taken_9 rfl (by decide) ?_
  refine g_ldc2 (pc' := 13) dX9_taken_10 rfl kX9_319 ?_
  refine g_callS (pc' := 16) (c_mWI l (nI q) (nI 0) (nI 7) (A := 0) (B := 7) (by decide) (by decide)) wX9_within lX9_102 rfl rfl (Nat.le_of_ble_eq_true rfl) ⟨Nat.le_of_ble_eq_true rfl, Nat.le_of_ble_eq_true rfl⟩ ⟨Nat.le_of_ble_eq_true rfl, Nat.le_of_ble_eq_true rfl⟩ dX9_taken_13 rfl (kIp ?_)
  refine g_ifneB (pc' := 19) (tgt := 21) dX9_taken_16 (by decide) rfl (fun h16 => ?_) (fun h16 => (by first | exact absurd h16 (wi_yesN (by omega) (by decide)) | exact absurd (wi_yesN (by omega) (by decide)) h16))
  refine g_ald0 (pc' := 22) dX9_taken_21 rfl ?_
  refine g_getR (pc' := 25) mg.s40 (by decide) fX9_79 mg.r40_41 dX9_taken_22 rfl ?_
  refine g_ild1 (pc' := 26) dX9_taken_25 rfl ?_
  refine g_iald (pc' := 27) (j := d) mg.s91 rfl (by omega) (by decide) h91 dX9_taken_26 rfl ?_
  refine g_ifgeN (by omega) (tgt := 33) dX9_taken_27 (by decide) ?_
  refine g_ald0 (pc' := 34) dX9_taken_33 rfl ?_
  refine g_getR (pc' := 37) mg.s40 (by decide) fX9_79 mg.r40_41 dX9_taken_34 rfl ?_
  refine g_ild1 (pc' := 38) dX9_taken_37 rfl ?_
  refine g_iald (pc' := 39) (j := d) mg.s91 rfl (by omega) (by decide) h91 dX9_taken_38 rfl ?_
  refine g_bipush (pc' := 41) (v := nI 50) dX9_taken_39 rfl (by decide) ?_
  refine g_icmpltN (pc' := 44) (by omega) (by omega) (tgt := 47) dX9_taken_41 (by decide) rfl (fun h41 => ?_) (fun h41 => ?_)
  · refine g_ald0 (pc' := 48) dX9_taken_47 rfl ?_
    refine g_ald0 (pc' := 49) dX9_taken_48 rfl ?_
    refine g_getR (pc' := 52) mg.s40 (by decide) fX9_79 mg.r40_41 dX9_taken_49 rfl ?_
    refine g_ild1 (pc' := 53) dX9_taken_52 rfl ?_
    refine g_iald (pc' := 54) (j := d) mg.s91 rfl (by omega) (by decide) h91 dX9_taken_53 rfl ?_
    refine g_callV (pc' := 57) (c_mKindOf l mg (by omega) hka) mg.s40 (by decide) wX9_kindOf lX9_361 rfl rfl (Nat.le_of_ble_eq_true rfl) ⟨Nat.le_of_ble_eq_true rfl, Nat.le_of_ble_eq_true rfl⟩ ⟨Nat.le_of_ble_eq_true rfl, Nat.le_of_ble_eq_true rfl⟩ dX9_taken_54 rfl (kIp ?_)
    refine g_ist3 (pc' := 58) rfl (by decide) dX9_taken_57 rfl ?_
    have hok := tkX_ok a ha8 q hq
    obtain ⟨r, hr⟩ := Option.isSome_iff_exists.mp hok.1
    refine tk_loop mg hd hq hb h91 ha8 hka 4 a ha8 r hr ?_
    rw [← hok.2, hr]
    simp
  · exact absurd h41 (by omega)

theorem subT {z q : Nat} (hz : z < 2 ^ 30) (hq : q < 2 ^ 31) : (nI z - nI q).toInt = (z : Int) - q := by
  rw [Int32.toInt_sub, nI_toInt (by omega), nI_toInt hq]
  exact Int.bmod_eq_of_le (by omega) (by omega)
theorem c_mShiftN (l : Launch) {S : Shp} {I : MI} {L : ML} {R : MR} (mg : MG S R) {x w : Int32} (hb : inb x 6 = false ∨ inb w 6 = false) (y u v : Int32) : Ct l mX9_shift 3 0 0 [.inr (.inr (some (40, 0))), .inl x, .inl y, .inl w, .inl u, .inl v] S I L R (PIp S I L R (-1)) := by
  refine Ct.of [some (.inr (.inr (some (40, 0)))), some (.inl x), some (.inl y), some (.inl w), some (.inl u), some (.inl v), none] (by decide) rfl (Nat.le_of_ble_eq_true rfl) ?_
  refine g_ild1 (pc' := 1) dX9_shift_0 rfl ?_
  refine g_callS (pc' := 4) (c_mIsShelf l x) wX9_isShelf lX9_239 rfl rfl (Nat.le_of_ble_eq_true rfl) ⟨Nat.le_of_ble_eq_true rfl, Nat.le_of_ble_eq_true rfl⟩ ⟨Nat.le_of_ble_eq_true rfl, Nat.le_of_ble_eq_true rfl⟩ dX9_shift_1 rfl (kIp ?_)
  refine g_ifeqB (pc' := 7) (tgt := 14) dX9_shift_4 (by decide) rfl (fun h4 => ?_) (fun h4 => ?_)
  · refine g_iconst (pc' := 15) (v := (-1)) dX9_shift_14 rfl (by decide) ?_
    refine g_iret rfl dX9_shift_15 ?_
    exact eIp rfl
  · refine g_ild3 (pc' := 8) dX9_shift_7 rfl ?_
    refine g_callS (pc' := 11) (c_mIsShelf l w) wX9_isShelf lX9_239 rfl rfl (Nat.le_of_ble_eq_true rfl) ⟨Nat.le_of_ble_eq_true rfl, Nat.le_of_ble_eq_true rfl⟩ ⟨Nat.le_of_ble_eq_true rfl, Nat.le_of_ble_eq_true rfl⟩ dX9_shift_8 rfl (kIp ?_)
    refine g_ifneB (pc' := 14) (tgt := 16) dX9_shift_11 (by decide) rfl (fun h11 => ?_) (fun h11 => ?_)
    · exfalso
      rcases hb with h | h
      · rw [h] at h4; cases h4
      · rw [h] at h11; cases h11
    · refine g_iconst (pc' := 15) (v := (-1)) dX9_shift_14 rfl (by decide) ?_
      refine g_iret rfl dX9_shift_15 ?_
      exact eIp rfl

theorem c_mShiftA (l : Launch) {S : Shp} {I : MI} {L : ML} {R : MR} (mg : MG S R) {d e : Nat} (hd : d < 6) (he : e < 6) (h91 : I (91, 0) d = -1) (y u v : Int32) : Ct l mX9_shift 3 0 0 [.inr (.inr (some (40, 0))), .inl (nI d), .inl y, .inl (nI e), .inl u, .inl v] S I L R (PIp S I L R (-11)) := by
  refine Ct.of [some (.inr (.inr (some (40, 0)))), some (.inl (nI d)), some (.inl y), some (.inl (nI e)), some (.inl u), some (.inl v), none] (by decide) rfl (Nat.le_of_ble_eq_true rfl) ?_
  refine g_ild1 (pc' := 1) dX9_shift_0 rfl ?_
  refine g_callS (pc' := 4) (c_mIsShelf l (nI d)) wX9_isShelf lX9_239 rfl rfl (Nat.le_of_ble_eq_true rfl) ⟨Nat.le_of_ble_eq_true rfl, Nat.le_of_ble_eq_true rfl⟩ ⟨Nat.le_of_ble_eq_true rfl, Nat.le_of_ble_eq_true rfl⟩ dX9_shift_1 rfl (kIp ?_)
  refine g_ifeqB (pc' := 7) (tgt := 14) dX9_shift_4 (by decide) rfl (fun h4 => (by first | exact absurd h4 (by rw [inb_nI (by omega) (by omega)]; simp [hd]) | exact absurd (by rw [inb_nI (by omega) (by omega)]; simp [hd]) h4)) (fun h4 => ?_)
  refine g_ild3 (pc' := 8) dX9_shift_7 rfl ?_
  refine g_callS (pc' := 11) (c_mIsShelf l (nI e)) wX9_isShelf lX9_239 rfl rfl (Nat.le_of_ble_eq_true rfl) ⟨Nat.le_of_ble_eq_true rfl, Nat.le_of_ble_eq_true rfl⟩ ⟨Nat.le_of_ble_eq_true rfl, Nat.le_of_ble_eq_true rfl⟩ dX9_shift_8 rfl (kIp ?_)
  refine g_ifneB (pc' := 14) (tgt := 16) dX9_shift_11 (by decide) rfl (fun h11 => ?_) (fun h11 => (by first | exact absurd h11 (by rw [inb_nI (by omega) (by omega)]; simp [he]) | exact absurd (by rw [inb_nI (by omega) (by omega)]; simp [he]) h11))
  refine g_ald0 (pc' := 17) dX9_shift_16 rfl ?_
  refine g_getR (pc' := 20) mg.s40 (by decide) fX9_79 mg.r40_41 dX9_shift_17 rfl ?_
  refine g_ild1 (pc' := 21) dX9_shift_20 rfl ?_
  refine g_iald (pc' := 22) (j := d) mg.s91 rfl (by omega) (by decide) h91 dX9_shift_21 rfl ?_
  refine g_iflt (pc' := 25) (tgt := 34) dX9_shift_22 (by decide) rfl (fun h22 => ?_) (fun h22 => (by first | exact absurd h22 (by decide : (-1 : Int32) < 0) | exact absurd (by decide : (-1 : Int32) < 0) h22))
  refine g_bipush (pc' := 36) (v := (-11)) dX9_shift_34 rfl (by decide) ?_
  refine g_iret rfl dX9_shift_36 ?_
  exact eIp rfl

theorem c_mShiftC (l : Launch) {S : Shp} {I : MI} {L : ML} {R : MR} (mg : MG S R) {d e : Nat} (hd : d < 6) (he : e < 6) {c : Nat} (hc : c < 60) (h91 : I (91, 0) d = nI c) (h92 : I (91, 0) e = -1) (y u v : Int32) : Ct l mX9_shift 3 0 0 [.inr (.inr (some (40, 0))), .inl (nI d), .inl y, .inl (nI e), .inl u, .inl v] S I L R (PIp S I L R (-11)) := by
  refine Ct.of [some (.inr (.inr (some (40, 0)))), some (.inl (nI d)), some (.inl y), some (.inl (nI e)), some (.inl u), some (.inl v), none] (by decide) rfl (Nat.le_of_ble_eq_true rfl) ?_
  refine g_ild1 (pc' := 1) dX9_shift_0 rfl ?_
  refine g_callS (pc' := 4) (c_mIsShelf l (nI d)) wX9_isShelf lX9_239 rfl rfl (Nat.le_of_ble_eq_true rfl) ⟨Nat.le_of_ble_eq_true rfl, Nat.le_of_ble_eq_true rfl⟩ ⟨Nat.le_of_ble_eq_true rfl, Nat.le_of_ble_eq_true rfl⟩ dX9_shift_1 rfl (kIp ?_)
  refine g_ifeqB (pc' := 7) (tgt := 14) dX9_shift_4 (by decide) rfl (fun h4 => (by first | exact absurd h4 (by rw [inb_nI (by omega) (by omega)]; simp [hd]) | exact absurd (by rw [inb_nI (by omega) (by omega)]; simp [hd]) h4)) (fun h4 => ?_)
  refine g_ild3 (pc' := 8) dX9_shift_7 rfl ?_
  refine g_callS (pc' := 11) (c_mIsShelf l (nI e)) wX9_isShelf lX9_239 rfl rfl (Nat.le_of_ble_eq_true rfl) ⟨Nat.le_of_ble_eq_true rfl, Nat.le_of_ble_eq_true rfl⟩ ⟨Nat.le_of_ble_eq_true rfl, Nat.le_of_ble_eq_true rfl⟩ dX9_shift_8 rfl (kIp ?_)
  refine g_ifneB (pc' := 14) (tgt := 16) dX9_shift_11 (by decide) rfl (fun h11 => ?_) (fun h11 => (by first | exact absurd h11 (by rw [inb_nI (by omega) (by omega)]; simp [he]) | exact absurd (by rw [inb_nI (by omega) (by omega)]; simp [he]) h11))
  refine g_ald0 (pc' := 17) dX9_shift_16 rfl ?_
  refine g_getR (pc' := 20) mg.s40 (by decide) fX9_79 mg.r40_41 dX9_shift_17 rfl ?_
  refine g_ild1 (pc' := 21) dX9_shift_20 rfl ?_
  refine g_iald (pc' := 22) (j := d) mg.s91 rfl (by omega) (by decide) h91 dX9_shift_21 rfl ?_
  refine g_ifltN (pc' := 25) (by omega) dX9_shift_22 rfl ?_
  refine g_ald0 (pc' := 26) dX9_shift_25 rfl ?_
  refine g_getR (pc' := 29) mg.s40 (by decide) fX9_79 mg.r40_41 dX9_shift_26 rfl ?_
  refine g_ild3 (pc' := 30) dX9_shift_29 rfl ?_
  refine g_iald (pc' := 31) (j := e) mg.s91 rfl (by omega) (by decide) h92 dX9_shift_30 rfl ?_
  refine g_ifge (pc' := 34) (tgt := 37) dX9_shift_31 (by decide) rfl (fun h31 => (by first | exact absurd h31 (by decide : ¬ (0 : Int32) ≤ -1) | exact absurd (by decide : ¬ (0 : Int32) ≤ -1) h31)) (fun h31 => ?_)
  refine g_bipush (pc' := 36) (v := (-11)) dX9_shift_34 rfl (by decide) ?_
  refine g_iret rfl dX9_shift_36 ?_
  exact eIp rfl

theorem c_mShiftD (l : Launch) {S : Shp} {I : MI} {L : ML} {R : MR} (mg : MG S R) {d e : Nat} (hd : d < 6) (he : e < 6) {c g : Nat} (hc : c < 60) (hg : g < 60) (hno : c < 50 ∨ ¬ c = g) (h91 : I (91, 0) d = nI c) (h92 : I (91, 0) e = nI g) (y u v : Int32) : Ct l mX9_shift 3 0 0 [.inr (.inr (some (40, 0))), .inl (nI d), .inl y, .inl (nI e), .inl u, .inl v] S I L R (PIp S I L R (-12)) := by
  refine Ct.of [some (.inr (.inr (some (40, 0)))), some (.inl (nI d)), some (.inl y), some (.inl (nI e)), some (.inl u), some (.inl v), none] (by decide) rfl (Nat.le_of_ble_eq_true rfl) ?_
  refine g_ild1 (pc' := 1) dX9_shift_0 rfl ?_
  refine g_callS (pc' := 4) (c_mIsShelf l (nI d)) wX9_isShelf lX9_239 rfl rfl (Nat.le_of_ble_eq_true rfl) ⟨Nat.le_of_ble_eq_true rfl, Nat.le_of_ble_eq_true rfl⟩ ⟨Nat.le_of_ble_eq_true rfl, Nat.le_of_ble_eq_true rfl⟩ dX9_shift_1 rfl (kIp ?_)
  refine g_ifeqB (pc' := 7) (tgt := 14) dX9_shift_4 (by decide) rfl (fun h4 => (by first | exact absurd h4 (by rw [inb_nI (by omega) (by omega)]; simp [hd]) | exact absurd (by rw [inb_nI (by omega) (by omega)]; simp [hd]) h4)) (fun h4 => ?_)
  refine g_ild3 (pc' := 8) dX9_shift_7 rfl ?_
  refine g_callS (pc' := 11) (c_mIsShelf l (nI e)) wX9_isShelf lX9_239 rfl rfl (Nat.le_of_ble_eq_true rfl) ⟨Nat.le_of_ble_eq_true rfl, Nat.le_of_ble_eq_true rfl⟩ ⟨Nat.le_of_ble_eq_true rfl, Nat.le_of_ble_eq_true rfl⟩ dX9_shift_8 rfl (kIp ?_)
  refine g_ifneB (pc' := 14) (tgt := 16) dX9_shift_11 (by decide) rfl (fun h11 => ?_) (fun h11 => (by first | exact absurd h11 (by rw [inb_nI (by omega) (by omega)]; simp [he]) | exact absurd (by rw [inb_nI (by omega) (by omega)]; simp [he]) h11))
  refine g_ald0 (pc' := 17) dX9_shift_16 rfl ?_
  refine g_getR (pc' := 20) mg.s40 (by decide) fX9_79 mg.r40_41 dX9_shift_17 rfl ?_
  refine g_ild1 (pc' := 21) dX9_shift_20 rfl ?_
  refine g_iald (pc' := 22) (j := d) mg.s91 rfl (by omega) (by decide) h91 dX9_shift_21 rfl ?_
  refine g_ifltN (pc' := 25) (by omega) dX9_shift_22 rfl ?_
  refine g_ald0 (pc' := 26) dX9_shift_25 rfl ?_
  refine g_getR (pc' := 29) mg.s40 (by decide) fX9_79 mg.r40_41 dX9_shift_26 rfl ?_
  refine g_ild3 (pc' := 30) dX9_shift_29 rfl ?_
  refine g_iald (pc' := 31) (j := e) mg.s91 rfl (by omega) (by decide) h92 dX9_shift_30 rfl ?_
  refine g_ifgeN (by omega) (tgt := 37) dX9_shift_31 (by decide) ?_
  refine g_ald0 (pc' := 38) dX9_shift_37 rfl ?_
  refine g_getR (pc' := 41) mg.s40 (by decide) fX9_79 mg.r40_41 dX9_shift_38 rfl ?_
  refine g_ild1 (pc' := 42) dX9_shift_41 rfl ?_
  refine g_iald (pc' := 43) (j := d) mg.s91 rfl (by omega) (by decide) h91 dX9_shift_42 rfl ?_
  refine g_bipush (pc' := 45) (v := nI 50) dX9_shift_43 rfl (by decide) ?_
  refine g_icmpltN (pc' := 48) (by omega) (by omega) (tgt := 63) dX9_shift_45 (by decide) rfl (fun h45 => ?_) (fun h45 => ?_)
  · refine g_bipush (pc' := 65) (v := (-12)) dX9_shift_63 rfl (by decide) ?_
    refine g_iret rfl dX9_shift_65 ?_
    exact eIp rfl
  · refine g_ald0 (pc' := 49) dX9_shift_48 rfl ?_
    refine g_getR (pc' := 52) mg.s40 (by decide) fX9_79 mg.r40_41 dX9_shift_49 rfl ?_
    refine g_ild1 (pc' := 53) dX9_shift_52 rfl ?_
    refine g_iald (pc' := 54) (j := d) mg.s91 rfl (by omega) (by decide) h91 dX9_shift_53 rfl ?_
    refine g_ald0 (pc' := 55) dX9_shift_54 rfl ?_
    refine g_getR (pc' := 58) mg.s40 (by decide) fX9_79 mg.r40_41 dX9_shift_55 rfl ?_
    refine g_ild3 (pc' := 59) dX9_shift_58 rfl ?_
    refine g_iald (pc' := 60) (j := e) mg.s91 rfl (by omega) (by decide) h92 dX9_shift_59 rfl ?_
    refine g_icmpeqN (pc' := 63) (by omega) (by omega) (tgt := 66) dX9_shift_60 (by decide) rfl (fun h60 => ?_) (fun h60 => ?_)
    · exact absurd hno (by omega)
    · refine g_bipush (pc' := 65) (v := (-12)) dX9_shift_63 rfl (by decide) ?_
      refine g_iret rfl dX9_shift_65 ?_
      exact eIp rfl

theorem run_of {y v : Int32} {z : Nat} (hz : z ≤ 60) (hy : ¬ y < 0) (hv : ¬ v < 0) (h : y ≤ nI z - v) : runB y v z = true := by
  obtain ⟨a, ha, rfl⟩ := nI_of hy
  obtain ⟨q, hq, rfl⟩ := nI_of hv
  rw [Int32.le_iff_toInt_le, subT (by omega) hq, nI_toInt ha] at h
  unfold runB
  rw [decide_eq_true hy, decide_eq_true hv, decide_eq_true (show ¬ nI z < nI a by rw [nI_ltI (by omega) ha]; omega), decide_eq_true (show ¬ nI z - nI a < nI q by rw [pk_sub (by omega), nI_ltI (by omega) hq]; omega)]
  rfl
theorem c_mShiftE (l : Launch) {S : Shp} {I : MI} {L : ML} {R : MR} (mg : MG S R) {d e : Nat} (hd : d < 6) (he : e < 6) {c z1 z2 : Nat} (hc : 50 ≤ c) (hc2 : c < 60) (h91 : I (91, 0) d = nI c) (h92 : I (91, 0) e = nI c) (hz1 : I (92, 0) d = nI z1) (hz2 : I (92, 0) e = nI z2) (hz16 : z1 ≤ 60) (hz26 : z2 ≤ 60) {y u v : Int32} (hno : runB y v z1 = false ∨ runB u v z2 = false) : Ct l mX9_shift 3 0 0 [.inr (.inr (some (40, 0))), .inl (nI d), .inl y, .inl (nI e), .inl u, .inl v] S I L R (PIp S I L R (-13)) := by
  refine Ct.of [some (.inr (.inr (some (40, 0)))), some (.inl (nI d)), some (.inl y), some (.inl (nI e)), some (.inl u), some (.inl v), none] (by decide) rfl (Nat.le_of_ble_eq_true rfl) ?_
  refine g_ild1 (pc' := 1) dX9_shift_0 rfl ?_
  refine g_callS (pc' := 4) (c_mIsShelf l (nI d)) wX9_isShelf lX9_239 rfl rfl (Nat.le_of_ble_eq_true rfl) ⟨Nat.le_of_ble_eq_true rfl, Nat.le_of_ble_eq_true rfl⟩ ⟨Nat.le_of_ble_eq_true rfl, Nat.le_of_ble_eq_true rfl⟩ dX9_shift_1 rfl (kIp ?_)
  refine g_ifeqB (pc' := 7) (tgt := 14) dX9_shift_4 (by decide) rfl (fun h4 => (by first | exact absurd h4 (by rw [inb_nI (by omega) (by omega)]; simp [hd]) | exact absurd (by rw [inb_nI (by omega) (by omega)]; simp [hd]) h4)) (fun h4 => ?_)
  refine g_ild3 (pc' := 8) dX9_shift_7 rfl ?_
  refine g_callS (pc' := 11) (c_mIsShelf l (nI e)) wX9_isShelf lX9_239 rfl rfl (Nat.le_of_ble_eq_true rfl) ⟨Nat.le_of_ble_eq_true rfl, Nat.le_of_ble_eq_true rfl⟩ ⟨Nat.le_of_ble_eq_true rfl, Nat.le_of_ble_eq_true rfl⟩ dX9_shift_8 rfl (kIp ?_)
  refine g_ifneB (pc' := 14) (tgt := 16) dX9_shift_11 (by decide) rfl (fun h11 => ?_) (fun h11 => (by first | exact absurd h11 (by rw [inb_nI (by omega) (by omega)]; simp [he]) | exact absurd (by rw [inb_nI (by omega) (by omega)]; simp [he]) h11))
  refine g_ald0 (pc' := 17) dX9_shift_16 rfl ?_
  refine g_getR (pc' := 20) mg.s40 (by decide) fX9_79 mg.r40_41 dX9_shift_17 rfl ?_
  refine g_ild1 (pc' := 21) dX9_shift_20 rfl ?_
  refine g_iald (pc' := 22) (j := d) mg.s91 rfl (by omega) (by decide) h91 dX9_shift_21 rfl ?_
  refine g_ifltN (pc' := 25) (by omega) dX9_shift_22 rfl ?_
  refine g_ald0 (pc' := 26) dX9_shift_25 rfl ?_
  refine g_getR (pc' := 29) mg.s40 (by decide) fX9_79 mg.r40_41 dX9_shift_26 rfl ?_
  refine g_ild3 (pc' := 30) dX9_shift_29 rfl ?_
  refine g_iald (pc' := 31) (j := e) mg.s91 rfl (by omega) (by decide) h92 dX9_shift_30 rfl ?_
  refine g_ifgeN (by omega) (tgt := 37) dX9_shift_31 (by decide) ?_
  refine g_ald0 (pc' := 38) dX9_shift_37 rfl ?_
  refine g_getR (pc' := 41) mg.s40 (by decide) fX9_79 mg.r40_41 dX9_shift_38 rfl ?_
  refine g_ild1 (pc' := 42) dX9_shift_41 rfl ?_
  refine g_iald (pc' := 43) (j := d) mg.s91 rfl (by omega) (by decide) h91 dX9_shift_42 rfl ?_
  refine g_bipush (pc' := 45) (v := nI 50) dX9_shift_43 rfl (by decide) ?_
  refine g_icmpltN (pc' := 48) (by omega) (by omega) (tgt := 63) dX9_shift_45 (by decide) rfl (fun h45 => ?_) (fun h45 => ?_)
  · exact absurd h45 (by omega)
  · refine g_ald0 (pc' := 49) dX9_shift_48 rfl ?_
    refine g_getR (pc' := 52) mg.s40 (by decide) fX9_79 mg.r40_41 dX9_shift_49 rfl ?_
    refine g_ild1 (pc' := 53) dX9_shift_52 rfl ?_
    refine g_iald (pc' := 54) (j := d) mg.s91 rfl (by omega) (by decide) h91 dX9_shift_53 rfl ?_
    refine g_ald0 (pc' := 55) dX9_shift_54 rfl ?_
    refine g_getR (pc' := 58) mg.s40 (by decide) fX9_79 mg.r40_41 dX9_shift_55 rfl ?_
    refine g_ild3 (pc' := 59) dX9_shift_58 rfl ?_
    refine g_iald (pc' := 60) (j := e) mg.s91 rfl (by omega) (by decide) h92 dX9_shift_59 rfl ?_
    refine g_icmpeqN (pc' := 63) (by omega) (by omega) (tgt := 66) dX9_shift_60 (by decide) rfl (fun h60 => ?_) (fun h60 => ?_)
    · refine g_ild5 (pc' := 68) dX9_shift_66 rfl ?_
      refine g_iflt (pc' := 71) (tgt := 107) dX9_shift_68 (by decide) rfl (fun h68 => ?_) (fun h68 => ?_)
      · refine g_bipush (pc' := 109) (v := (-13)) dX9_shift_107 rfl (by decide) ?_
        refine g_iret rfl dX9_shift_109 ?_
        exact eIp rfl
      · refine g_ild2 (pc' := 72) dX9_shift_71 rfl ?_
        refine g_iflt (pc' := 75) (tgt := 107) dX9_shift_72 (by decide) rfl (fun h72 => ?_) (fun h72 => ?_)
        · refine g_bipush (pc' := 109) (v := (-13)) dX9_shift_107 rfl (by decide) ?_
          refine g_iret rfl dX9_shift_109 ?_
          exact eIp rfl
        · refine g_ild4 (pc' := 77) dX9_shift_75 rfl ?_
          refine g_iflt (pc' := 80) (tgt := 107) dX9_shift_77 (by decide) rfl (fun h77 => ?_) (fun h77 => ?_)
          · refine g_bipush (pc' := 109) (v := (-13)) dX9_shift_107 rfl (by decide) ?_
            refine g_iret rfl dX9_shift_109 ?_
            exact eIp rfl
          · refine g_ild2 (pc' := 81) dX9_shift_80 rfl ?_
            refine g_ald0 (pc' := 82) dX9_shift_81 rfl ?_
            refine g_getR (pc' := 85) mg.s40 (by decide) fX9_82 mg.r40_42 dX9_shift_82 rfl ?_
            refine g_ild1 (pc' := 86) dX9_shift_85 rfl ?_
            refine g_iald (pc' := 87) (j := d) mg.s92 rfl (by omega) (by decide) hz1 dX9_shift_86 rfl ?_
            refine g_ild5 (pc' := 89) dX9_shift_87 rfl ?_
            refine g_isub (pc' := 90) dX9_shift_89 rfl ?_
            refine g_icmpgt (pc' := 93) (tgt := 107) dX9_shift_90 (by decide) rfl (fun h90 => ?_) (fun h90 => ?_)
            · refine g_bipush (pc' := 109) (v := (-13)) dX9_shift_107 rfl (by decide) ?_
              refine g_iret rfl dX9_shift_109 ?_
              exact eIp rfl
            · refine g_ild4 (pc' := 95) dX9_shift_93 rfl ?_
              refine g_ald0 (pc' := 96) dX9_shift_95 rfl ?_
              refine g_getR (pc' := 99) mg.s40 (by decide) fX9_82 mg.r40_42 dX9_shift_96 rfl ?_
              refine g_ild3 (pc' := 100) dX9_shift_99 rfl ?_
              refine g_iald (pc' := 101) (j := e) mg.s92 rfl (by omega) (by decide) hz2 dX9_shift_100 rfl ?_
              refine g_ild5 (pc' := 103) dX9_shift_101 rfl ?_
              refine g_isub (pc' := 104) dX9_shift_103 rfl ?_
              refine g_icmple (pc' := 107) (tgt := 110) dX9_shift_104 (by decide) rfl (fun h104 => ?_) (fun h104 => ?_)
              · exfalso
                rcases hno with h | h
                · rw [run_of hz16 h72 h68 (Int32.not_lt.mp h90)] at h; cases h
                · rw [run_of hz26 h77 h68 h104] at h; cases h
              · refine g_bipush (pc' := 109) (v := (-13)) dX9_shift_107 rfl (by decide) ?_
                refine g_iret rfl dX9_shift_109 ?_
                exact eIp rfl
    · exact absurd h60 (by omega)

def cr1 (L : ML) (d a k : Nat) : ML := upT L (94, 0) (fun j => if j < k then L (93, 0) (60 * d + a + j) else L (94, 0) j)
def cr2 (L : ML) (d a e b q k : Nat) : ML := upT (cr1 L d a q) (93, 0) (fun j => if 60 * e + b ≤ j ∧ j < 60 * e + b + k then L (93, 0) (60 * d + a + (j - (60 * e + b))) else L (93, 0) j)
theorem cr1_0 (L : ML) (d a : Nat) : L = cr1 L d a 0 := by
  unfold cr1
  rw [show (fun j => if j < 0 then L (93, 0) (60 * d + a + j) else L (94, 0) j) = L (94, 0) from funext fun j => if_neg (by omega)]
  exact upT_self.symm
theorem cr1_s (L : ML) (d a k : Nat) : upM (cr1 L d a k) (94, 0) k (L (93, 0) (60 * d + a + k)) = cr1 L d a (k + 1) := by
  unfold cr1
  funext t j
  by_cases h : t = (94, 0)
  · subst h
    rw [upM_r, upT_s, upT_s]
    simp only
    by_cases e : j = k
    · rw [if_pos e, if_pos (by omega), e]
    · rw [if_neg e]
      by_cases e2 : j < k
      · rw [if_pos e2, if_pos (by omega)]
      · rw [if_neg e2, if_neg (by omega)]
  · rw [upM_n _ h, upT_n _ h, upT_n _ h]
theorem cr1_93 (L : ML) (d a k : Nat) : cr1 L d a k (93, 0) = L (93, 0) := upT_n _ (by simp) _
theorem cr2_0 (L : ML) (d a e b q : Nat) : cr1 L d a q = cr2 L d a e b q 0 := by
  unfold cr2
  rw [show (fun j => if 60 * e + b ≤ j ∧ j < 60 * e + b + 0 then L (93, 0) (60 * d + a + (j - (60 * e + b))) else L (93, 0) j) = cr1 L d a q (93, 0) from funext fun j => by rw [if_neg (by omega), cr1_93]]
  exact upT_self.symm
theorem cr2_94 (L : ML) (d a e b q k j : Nat) (h : j < q) : cr2 L d a e b q k (94, 0) j = L (93, 0) (60 * d + a + j) := by
  unfold cr2 cr1
  rw [upT_n _ (by simp), upT_s]
  exact if_pos h
theorem cr2_s (L : ML) (d a e b q k : Nat) : upM (cr2 L d a e b q k) (93, 0) (60 * e + b + k) (L (93, 0) (60 * d + a + k)) = cr2 L d a e b q (k + 1) := by
  unfold cr2
  funext t j
  by_cases h : t = (93, 0)
  · subst h
    rw [upM_r, upT_s, upT_s]
    simp only
    by_cases e1 : j = 60 * e + b + k
    · rw [if_pos e1, if_pos (by omega), e1, Nat.add_sub_cancel_left]
    · rw [if_neg e1]
      by_cases e2 : 60 * e + b ≤ j ∧ j < 60 * e + b + k
      · rw [if_pos e2, if_pos (by omega)]
      · rw [if_neg e2, if_neg (by omega)]
  · rw [upM_n _ h, upT_n _ h, upT_n _ h]
theorem c_mShiftS (l : Launch) {S : Shp} {I : MI} {L : ML} {R : MR} (mg : MG S R) {d e : Nat} (hd : d < 6) (he : e < 6) {c z1 z2 : Nat} (hc : 50 ≤ c) (hc2 : c < 60) (h91 : I (91, 0) d = nI c) (h92 : I (91, 0) e = nI c) (hz1 : I (92, 0) d = nI z1) (hz2 : I (92, 0) e = nI z2) (hz16 : z1 ≤ 60) (hz26 : z2 ≤ 60) {a b q : Nat} (hr1 : a + q ≤ z1) (hr2 : b + q ≤ z2) : Ct l mX9_shift 3 0 0 [.inr (.inr (some (40, 0))), .inl (nI d), .inl (nI a), .inl (nI e), .inl (nI b), .inl (nI q)] S I L R (PIl S R (fun r J L2 => r = nI q ∧ J = I ∧ L2 = cr2 L d a e b q q)) := by
  refine Ct.of [some (.inr (.inr (some (40, 0)))), some (.inl (nI d)), some (.inl (nI a)), some (.inl (nI e)), some (.inl (nI b)), some (.inl (nI q)), none] (by decide) rfl (Nat.le_of_ble_eq_true rfl) ?_
  refine g_ild1 (pc' := 1) dX9_shift_0 rfl ?_
  refine g_callS (pc' := 4) (c_mIsShelf l (nI d)) wX9_isShelf lX9_239 rfl rfl (Nat.le_of_ble_eq_true rfl) ⟨Nat.le_of_ble_eq_true rfl, Nat.le_of_ble_eq_true rfl⟩ ⟨Nat.le_of_ble_eq_true rfl, Nat.le_of_ble_eq_true rfl⟩ dX9_shift_1 rfl (kIp ?_)
  refine g_ifeqB (pc' := 7) (tgt := 14) dX9_shift_4 (by decide) rfl (fun h4 => (by first | exact absurd h4 (by rw [inb_nI (by omega) (by omega)]; simp [hd]) | exact absurd (by rw [inb_nI (by omega) (by omega)]; simp [hd]) h4)) (fun h4 => ?_)
  refine g_ild3 (pc' := 8) dX9_shift_7 rfl ?_
  refine g_callS (pc' := 11) (c_mIsShelf l (nI e)) wX9_isShelf lX9_239 rfl rfl (Nat.le_of_ble_eq_true rfl) ⟨Nat.le_of_ble_eq_true rfl, Nat.le_of_ble_eq_true rfl⟩ ⟨Nat.le_of_ble_eq_true rfl, Nat.le_of_ble_eq_true rfl⟩ dX9_shift_8 rfl (kIp ?_)
  refine g_ifneB (pc' := 14) (tgt := 16) dX9_shift_11 (by decide) rfl (fun h11 => ?_) (fun h11 => (by first | exact absurd h11 (by rw [inb_nI (by omega) (by omega)]; simp [he]) | exact absurd (by rw [inb_nI (by omega) (by omega)]; simp [he]) h11))
  refine g_ald0 (pc' := 17) dX9_shift_16 rfl ?_
  refine g_getR (pc' := 20) mg.s40 (by decide) fX9_79 mg.r40_41 dX9_shift_17 rfl ?_
  refine g_ild1 (pc' := 21) dX9_shift_20 rfl ?_
  refine g_iald (pc' := 22) (j := d) mg.s91 rfl (by omega) (by decide) h91 dX9_shift_21 rfl ?_
  refine g_ifltN (pc' := 25) (by omega) dX9_shift_22 rfl ?_
  refine g_ald0 (pc' := 26) dX9_shift_25 rfl ?_
  refine g_getR (pc' := 29) mg.s40 (by decide) fX9_79 mg.r40_41 dX9_shift_26 rfl ?_
  refine g_ild3 (pc' := 30) dX9_shift_29 rfl ?_
  refine g_iald (pc' := 31) (j := e) mg.s91 rfl (by omega) (by decide) h92 dX9_shift_30 rfl ?_
  refine g_ifgeN (by omega) (tgt := 37) dX9_shift_31 (by decide) ?_
  refine g_ald0 (pc' := 38) dX9_shift_37 rfl ?_
  refine g_getR (pc' := 41) mg.s40 (by decide) fX9_79 mg.r40_41 dX9_shift_38 rfl ?_
  refine g_ild1 (pc' := 42) dX9_shift_41 rfl ?_
  refine g_iald (pc' := 43) (j := d) mg.s91 rfl (by omega) (by decide) h91 dX9_shift_42 rfl ?_
  refine g_bipush (pc' := 45) (v := nI 50) dX9_shift_43 rfl (by decide) ?_
  refine g_icmpltN (pc' := 48) (by omega) (by omega) (tgt := 63) dX9_shift_45 (by decide) rfl (fun h45 => ?_) (fun h45 => ?_)
  · exact absurd h45 (by omega)
  · refine g_ald0 (pc' := 49) dX9_shift_48 rfl ?_
    refine g_getR (pc' := 52) mg.s40 (by decide) fX9_79 mg.r40_41 dX9_shift_49 rfl ?_
    refine g_ild1 (pc' := 53) dX9_shift_52 rfl ?_
    refine g_iald (pc' := 54) (j := d) mg.s91 rfl (by omega) (by decide) h91 dX9_shift_53 rfl ?_
    refine g_ald0 (pc' := 55) dX9_shift_54 rfl ?_
    refine g_getR (pc' := 58) mg.s40 (by decide) fX9_79 mg.r40_41 dX9_shift_55 rfl ?_
    refine g_ild3 (pc' := 59) dX9_shift_58 rfl ?_
    refine g_iald (pc' := 60) (j := e) mg.s91 rfl (by omega) (by decide) h92 dX9_shift_59 rfl ?_
    refine g_icmpeqN (pc' := 63) (by omega) (by omega) (tgt := 66) dX9_shift_60 (by decide) rfl (fun h60 => ?_) (fun h60 => ?_)
    · refine g_ild5 (pc' := 68) dX9_shift_66 rfl ?_
      refine g_ifltN (pc' := 71) (by omega) dX9_shift_68 rfl ?_
      refine g_ild2 (pc' := 72) dX9_shift_71 rfl ?_
      refine g_ifltN (pc' := 75) (by omega) dX9_shift_72 rfl ?_
      refine g_ild4 (pc' := 77) dX9_shift_75 rfl ?_
      refine g_ifltN (pc' := 80) (by omega) dX9_shift_77 rfl ?_
      refine g_ild2 (pc' := 81) dX9_shift_80 rfl ?_
      refine g_ald0 (pc' := 82) dX9_shift_81 rfl ?_
      refine g_getR (pc' := 85) mg.s40 (by decide) fX9_82 mg.r40_42 dX9_shift_82 rfl ?_
      refine g_ild1 (pc' := 86) dX9_shift_85 rfl ?_
      refine g_iald (pc' := 87) (j := d) mg.s92 rfl (by omega) (by decide) hz1 dX9_shift_86 rfl ?_
      refine g_ild5 (pc' := 89) dX9_shift_87 rfl ?_
      refine g_isubN (pc' := 90) (by omega) dX9_shift_89 rfl ?_
      refine g_icmpgtN (pc' := 93) (by omega) (by omega) (tgt := 107) dX9_shift_90 (by decide) rfl (fun h90 => ?_) (fun h90 => ?_)
      · exact absurd h90 (by omega)
      · refine g_ild4 (pc' := 95) dX9_shift_93 rfl ?_
        refine g_ald0 (pc' := 96) dX9_shift_95 rfl ?_
        refine g_getR (pc' := 99) mg.s40 (by decide) fX9_82 mg.r40_42 dX9_shift_96 rfl ?_
        refine g_ild3 (pc' := 100) dX9_shift_99 rfl ?_
        refine g_iald (pc' := 101) (j := e) mg.s92 rfl (by omega) (by decide) hz2 dX9_shift_100 rfl ?_
        refine g_ild5 (pc' := 103) dX9_shift_101 rfl ?_
        refine g_isubN (pc' := 104) (by omega) dX9_shift_103 rfl ?_
        refine g_icmpleN (pc' := 107) (by omega) (by omega) (tgt := 110) dX9_shift_104 (by decide) rfl (fun h104 => ?_) (fun h104 => ?_)
        · refine g_iconst (pc' := 111) (v := nI 0) dX9_shift_110 rfl (by decide) ?_
          refine g_ist6 (pc' := 113) rfl (by decide) dX9_shift_111 rfl ?_
          refine g_memL (cr1_0 L d a) ?_
          refine g_loopL (σ := Unit) (fun _ _ => True) (fun k _ => [some (.inr (.inr (some (40, 0)))), some (.inl (nI d)), some (.inl (nI a)), some (.inl (nI e)), some (.inl (nI b)), some (.inl (nI q)), some (.inl (nI k))]) (fun _ _ => I) (fun k _ => cr1 L d a k) q 0 () (by omega) trivial ?_ ?_
          · intro k _ hi hP ih
            refine g_ild6 (pc' := 115) dX9_shift_113 rfl ?_
            refine g_ild5 (pc' := 117) dX9_shift_115 rfl ?_
            refine g_icmpgeN (pc' := 120) (by omega) (by omega) (tgt := 147) dX9_shift_117 (by decide) rfl (fun h117 => ?_) (fun h117 => ?_)
            · exact absurd h117 (by omega)
            · refine g_ald0 (pc' := 121) dX9_shift_120 rfl ?_
              refine g_getR (pc' := 124) mg.s40 (by decide) fX9_89 mg.r40_44 dX9_shift_121 rfl ?_
              refine g_ild6 (pc' := 126) dX9_shift_124 rfl ?_
              refine g_ald0 (pc' := 127) dX9_shift_126 rfl ?_
              refine g_getR (pc' := 130) mg.s40 (by decide) fX9_85 mg.r40_43 dX9_shift_127 rfl ?_
              refine g_bipush (pc' := 132) (v := nI 60) dX9_shift_130 rfl (by decide) ?_
              refine g_ild1 (pc' := 133) dX9_shift_132 rfl ?_
              refine g_imulN (pc' := 134) dX9_shift_133 rfl ?_
              refine g_ild2 (pc' := 135) dX9_shift_134 rfl ?_
              refine g_iaddN (pc' := 136) dX9_shift_135 rfl ?_
              refine g_ild6 (pc' := 138) dX9_shift_136 rfl ?_
              refine g_iaddN (pc' := 139) dX9_shift_138 rfl ?_
              refine g_lald (pc' := 140) (j := ((60 * d) + a) + k) mg.s93 rfl (by omega) (by decide) (v := L (93, 0) (60 * d + a + k)) (by rw [cr1_93]) dX9_shift_139 rfl ?_
              refine g_last (pc' := 141) (j := k) mg.s94 rfl (by omega) (by decide) dX9_shift_140 rfl ?_
              refine g_inc6 (pc' := 144) rfl (by decide) (v := nI (k + 1)) (nI_1 _) dX9_shift_141 rfl ?_
              refine g_goto (tgt := 113) dX9_shift_144 (by decide) ?_
              rw [cr1_s]
              exact ih () trivial
          · intro _ hP
            refine g_ild6 (pc' := 115) dX9_shift_113 rfl ?_
            refine g_ild5 (pc' := 117) dX9_shift_115 rfl ?_
            refine g_icmpgeN (pc' := 120) (by omega) (by omega) (tgt := 147) dX9_shift_117 (by decide) rfl (fun h117 => ?_) (fun h117 => ?_)
            · refine g_iconst (pc' := 148) (v := nI 0) dX9_shift_147 rfl (by decide) ?_
              refine g_ist6 (pc' := 150) rfl (by decide) dX9_shift_148 rfl ?_
              refine g_memL (cr2_0 L d a e b q) ?_
              refine g_loopL (σ := Unit) (fun _ _ => True) (fun k _ => [some (.inr (.inr (some (40, 0)))), some (.inl (nI d)), some (.inl (nI a)), some (.inl (nI e)), some (.inl (nI b)), some (.inl (nI q)), some (.inl (nI k))]) (fun _ _ => I) (fun k _ => cr2 L d a e b q k) q 0 () (by omega) trivial ?_ ?_
              · intro k _ hi hP ih
                refine g_ild6 (pc' := 152) dX9_shift_150 rfl ?_
                refine g_ild5 (pc' := 154) dX9_shift_152 rfl ?_
                refine g_icmpgeN (pc' := 157) (by omega) (by omega) (tgt := 185) dX9_shift_154 (by decide) rfl (fun h154 => ?_) (fun h154 => ?_)
                · exact absurd h154 (by omega)
                · refine g_ald0 (pc' := 158) dX9_shift_157 rfl ?_
                  refine g_getR (pc' := 161) mg.s40 (by decide) fX9_85 mg.r40_43 dX9_shift_158 rfl ?_
                  refine g_bipush (pc' := 163) (v := nI 60) dX9_shift_161 rfl (by decide) ?_
                  refine g_ild3 (pc' := 164) dX9_shift_163 rfl ?_
                  refine g_imulN (pc' := 165) dX9_shift_164 rfl ?_
                  refine g_ild4 (pc' := 167) dX9_shift_165 rfl ?_
                  refine g_iaddN (pc' := 168) dX9_shift_167 rfl ?_
                  refine g_ild6 (pc' := 170) dX9_shift_168 rfl ?_
                  refine g_iaddN (pc' := 171) dX9_shift_170 rfl ?_
                  refine g_ald0 (pc' := 172) dX9_shift_171 rfl ?_
                  refine g_getR (pc' := 175) mg.s40 (by decide) fX9_89 mg.r40_44 dX9_shift_172 rfl ?_
                  refine g_ild6 (pc' := 177) dX9_shift_175 rfl ?_
                  refine g_lald (pc' := 178) (j := k) mg.s94 rfl (by omega) (by decide) (v := L (93, 0) (60 * d + a + k)) (cr2_94 _ _ _ _ _ _ _ _ hi) dX9_shift_177 rfl ?_
                  refine g_last (pc' := 179) (j := ((60 * e) + b) + k) mg.s93 rfl (by omega) (by decide) dX9_shift_178 rfl ?_
                  refine g_inc6 (pc' := 182) rfl (by decide) (v := nI (k + 1)) (nI_1 _) dX9_shift_179 rfl ?_
                  refine g_goto (tgt := 150) dX9_shift_182 (by decide) ?_
                  rw [cr2_s]
                  exact ih () trivial
              · intro _ hP
                refine g_ild6 (pc' := 152) dX9_shift_150 rfl ?_
                refine g_ild5 (pc' := 154) dX9_shift_152 rfl ?_
                refine g_icmpgeN (pc' := 157) (by omega) (by omega) (tgt := 185) dX9_shift_154 (by decide) rfl (fun h154 => ?_) (fun h154 => ?_)
                · refine g_ild5 (pc' := 187) dX9_shift_185 rfl ?_
                  refine g_iret rfl dX9_shift_187 ?_
                  exact eIl ⟨rfl, rfl, rfl⟩
                · exact absurd h154 (by omega)
            · exact absurd h117 (by omega)
        · exact absurd h104 (by omega)
    · exact absurd h60 (by omega)
