/-! World: all weights, one who comes, many -/
def sumF (b : Int32) (f : Nat → Int32) : Nat → Int32
  | 0 => b
  | n + 1 => sumF b f n + f n
/-- what coming writes beside the WORLD -/
def scW (k lj : Nat) (t : Tok) (_ : Nat) : Prop := t = (13, k) ∨ t = (14, k) ∨ t = (15, k) ∨ t = (17, k) ∨ t = (9, lj)
/-- WEIGHT of a SONG in a WORLD now -/
def wtI (cd : Nat → Nat × Nat) (len : Nat) (I : MI) (k n j : Nat) : Int32 := weightI cd len I k n j (nI (plc (I (12, k)) n j))
theorem weightI_fr {cd : Nat → Nat × Nat} {len k n j lj : Nat} {p : Int32} {I J : MI} (h : Fr (scW k lj) I J) : weightI cd len J k n j p = weightI cd len I k n j p := by
  unfold weightI
  rw [h (2, 0) j (by simp [scW]), h (11, k) 3 (by simp [scW]), h (12, k) j (by simp [scW]), h (11, k) 7 (by simp [scW]), h (11, k) 4 (by simp [scW]), h (11, k) 8 (by simp [scW])]
theorem row_fr {k lj t u : Nat} {I J : MI} (h : Fr (scW k lj) I J) (ht : ∀ i, ¬ scW k lj (t, u) i) : J (t, u) = I (t, u) := funext fun i => h _ _ (ht i)
theorem wtI_fr {cd : Nat → Nat × Nat} {len k n j lj : Nat} {I J : MI} (h : Fr (scW k lj) I J) : wtI cd len J k n j = wtI cd len I k n j := by
  unfold wtI
  rw [row_fr h (t := 12) (u := k) (by simp [scW]), weightI_fr h]
theorem c_weighAll (l : Launch) {S : Shp} {I : MI} {L : ML} {R : MR} (sg : SG S R) {k n : Nat} (wg : WG k S R) (hn : I (1, 0) 1 = nI n) (hN : n ≤ 12) {lj len : Nat} {cd : Nat → Nat × Nat} (lg : LG lj len S R) (hL : R (11, k) 1 = some (7, lj)) (hv : LV I lj len cd) : Ct l mX7_weighAll 4 0 0 [.inr (.inr (some (11, k)))] S I L R (PIm S L R (fun v J => v = sumF (I (11, k) 5) (wtI cd len I k n) n ∧ Fr (scW k lj) I J ∧ ∀ p, p < n → J (15, k) p = wtI cd len I k n p)) := by
  refine Ct.of [some (.inr (.inr (some (11, k)))), none, none] (by decide) rfl (Nat.le_of_ble_eq_true rfl) ?_
  refine g_ald0 (pc' := 1) dX7_weighAll_0 rfl ?_
  refine g_callV (pc' := 4) (c_arrange l sg wg hn hN) wg.s11 (by decide) wX7_arrange lX7_80 rfl rfl (Nat.le_of_ble_eq_true rfl) ⟨Nat.le_of_ble_eq_true rfl, Nat.le_of_ble_eq_true rfl⟩ ⟨Nat.le_of_ble_eq_true rfl, Nat.le_of_ble_eq_true rfl⟩ dX7_weighAll_1 rfl (kV (fun J1 hq1 => ?_))
  refine g_ald0 (pc' := 5) dX7_weighAll_4 rfl ?_
  refine g_getI (pc' := 8) wg.s11 (by decide) fX7_49 (hq1.1 _ _ (by simp)) dX7_weighAll_5 rfl ?_
  refine g_ist1 (pc' := 9) rfl (by decide) dX7_weighAll_8 rfl ?_
  refine g_iconst (pc' := 10) (v := nI 0) dX7_weighAll_9 rfl (by decide) ?_
  refine g_ist2 (pc' := 11) rfl (by decide) dX7_weighAll_10 rfl ?_
  refine g_loop (σ := MI) (fun i J => Fr (scW k lj) I J ∧ (∀ s, s < n → J (14, k) s = nI (plc (I (12, k)) n s)) ∧ ∀ p, p < i → J (15, k) p = wtI cd len I k n p) (fun i s => [some (.inr (.inr (some (11, k)))), some (.inl (sumF (I (11, k) 5) (wtI cd len I k n) i)), some (.inl (nI i))]) (fun i s => s) n 0 J1 (by omega) ⟨hq1.1.le (fun _ _ h => by rcases h with h | h <;> simp [scW, h]), hq1.2.2, fun p h => absurd h (by omega)⟩ ?_ ?_
  · intro i s hi hP ih
    have hn2 : s (1, 0) 1 = nI n := (hP.1 _ _ (by simp [scW])).trans hn
    refine g_ild2 (pc' := 12) dX7_weighAll_11 rfl ?_
    refine g_ald0 (pc' := 13) dX7_weighAll_12 rfl ?_
    refine g_getR (pc' := 16) wg.s11 (by decide) fX7_33 wg.r11_0 dX7_weighAll_13 rfl ?_
    refine g_getI (pc' := 19) sg.s1 (by decide) fX7_67 hn2 dX7_weighAll_16 rfl ?_
    refine g_icmpgeN (pc' := 22) (by omega) (by omega) (tgt := 48) dX7_weighAll_19 (by decide) rfl (fun h19 => ?_) (fun h19 => ?_)
    · exact absurd h19 (by omega)
    · refine g_ald0 (pc' := 23) dX7_weighAll_22 rfl ?_
      refine g_getR (pc' := 26) wg.s11 (by decide) fX7_21 wg.r11_13 dX7_weighAll_23 rfl ?_
      refine g_ild2 (pc' := 27) dX7_weighAll_26 rfl ?_
      refine g_ald0 (pc' := 28) dX7_weighAll_27 rfl ?_
      refine g_ild2 (pc' := 29) dX7_weighAll_28 rfl ?_
      refine g_callV (pc' := 32) (c_worldWeigh l sg wg hn2 hN lg hL (hv.to (fun i => hP.1 _ _ (by simp [scW]))) hi) wg.s11 (by decide) wX7_weigh lX7_93 rfl rfl (Nat.le_of_ble_eq_true rfl) ⟨Nat.le_of_ble_eq_true rfl, Nat.le_of_ble_eq_true rfl⟩ ⟨Nat.le_of_ble_eq_true rfl, Nat.le_of_ble_eq_true rfl⟩ dX7_weighAll_29 rfl (kI (fun v J hq => ?_))
      have hF : Fr (scW k lj) s J := hq.2.le (fun _ _ h => by rcases h with h | h <;> simp [scW, h])
      have hn3 : J (1, 0) 1 = nI n := (hF _ _ (by simp [scW])).trans hn2
      have ev : v = wtI cd len I k n i := by
        rw [hq.1, hP.2.1 i hi, weightI_fr hP.1]
        rfl
      refine g_iast (pc' := 33) (j := i) wg.s15 rfl (by omega) (by decide) dX7_weighAll_32 rfl ?_
      refine g_ild1 (pc' := 34) dX7_weighAll_33 rfl ?_
      refine g_ald0 (pc' := 35) dX7_weighAll_34 rfl ?_
      refine g_getR (pc' := 38) wg.s11 (by decide) fX7_21 wg.r11_13 dX7_weighAll_35 rfl ?_
      refine g_ild2 (pc' := 39) dX7_weighAll_38 rfl ?_
      refine g_iald (pc' := 40) (j := i) wg.s15 rfl (by omega) (by decide) (v := wtI cd len I k n i) ((by rw [upM_s]; exact ev)) dX7_weighAll_39 rfl ?_
      refine g_iadd (pc' := 41) dX7_weighAll_40 rfl ?_
      refine g_ist1 (pc' := 42) rfl (by decide) dX7_weighAll_41 rfl ?_
      refine g_inc2 (pc' := 45) rfl (by decide) (v := nI (i + 1)) (nI_1 _) dX7_weighAll_42 rfl ?_
      refine g_goto (tgt := 11) dX7_weighAll_45 (by decide) ?_
      refine ih _ ⟨(hP.1.tr hF).up (by simp [scW]), fun s' hs' => ?_, fun p hp => ?_⟩
      · rw [upM_n _ (by simp), hq.2 _ _ (by simp)]
        exact hP.2.1 s' hs'
      · by_cases e : p = i
        · subst e; rw [upM_s]; exact ev
        · rw [upM_k _ _ e, hq.2 _ _ (by simp)]
          exact hP.2.2 p (by omega)
  · intro s hP
    have hn2 : s (1, 0) 1 = nI n := (hP.1 _ _ (by simp [scW])).trans hn
    refine g_ild2 (pc' := 12) dX7_weighAll_11 rfl ?_
    refine g_ald0 (pc' := 13) dX7_weighAll_12 rfl ?_
    refine g_getR (pc' := 16) wg.s11 (by decide) fX7_33 wg.r11_0 dX7_weighAll_13 rfl ?_
    refine g_getI (pc' := 19) sg.s1 (by decide) fX7_67 hn2 dX7_weighAll_16 rfl ?_
    refine g_icmpgeN (pc' := 22) (by omega) (by omega) (tgt := 48) dX7_weighAll_19 (by decide) rfl (fun h19 => ?_) (fun h19 => ?_)
    · refine g_ild1 (pc' := 49) dX7_weighAll_48 rfl ?_
      refine g_iret rfl dX7_weighAll_49 ?_
      exact eI ⟨rfl, hP.1, hP.2.2⟩
    · exact absurd h19 (by omega)

def rcvN (I : MI) (k : Nat) : MI := upM I (11, k) 7 (I (11, k) 7 + nI 1)
def rcvS (I : MI) (k ke j : Nat) : MI := upM (upM (if ke < 200 then upM (rcvN I k) (16, k) ke (nI j) else rcvN I k) (11, k) 8 (nI (ke + 1))) (12, k) j (minI (I (12, k) j + nI 1) 99999)
theorem nI_b8 {n : Nat} (h : n < 128) : (nI n).toInt8.toInt32 = nI n := by
  apply Int32.toInt_inj.mp
  have e1 : (nI n).toInt = (n : Int) := nI_toInt (by omega)
  rw [Int8.toInt_toInt32, Int32.toInt_toInt8, e1]
  show (n : Int).bmod (2 ^ 8) = (n : Int)
  exact Int.bmod_eq_of_le (by omega) (by omega)
theorem c_receiveN (l : Launch) {S : Shp} {I : MI} {L : ML} {R : MR} (sg : SG S R) {k n : Nat} (wg : WG k S R) (hn : I (1, 0) 1 = nI n) (hN : n ≤ 12) (x : Int32) (hx : inb x n = false) : Ct l mX7_receive 2 0 0 [.inr (.inr (some (11, k))), .inl x] S I L R (PVm S L R (fun J => J = rcvN I k)) := by
  refine Ct.of [some (.inr (.inr (some (11, k)))), some (.inl x)] (by decide) rfl (Nat.le_of_ble_eq_true rfl) ?_
  refine g_ald0 (pc' := 1) dX7_receive_0 rfl ?_
  refine g_dupR (pc' := 2) dX7_receive_1 rfl ?_
  refine g_getI (pc' := 5) wg.s11 (by decide) fX7_52 rfl dX7_receive_2 rfl ?_
  refine g_iconst (pc' := 6) (v := nI 1) dX7_receive_5 rfl (by decide) ?_
  refine g_iadd (pc' := 7) dX7_receive_6 rfl ?_
  refine g_putI (pc' := 10) wg.s11 (by decide) ⟨fX7_52, rfl, pI⟩ dX7_receive_7 rfl ?_
  refine g_ald0 (pc' := 11) dX7_receive_10 rfl ?_
  refine g_getR (pc' := 14) wg.s11 (by decide) fX7_33 wg.r11_0 dX7_receive_11 rfl ?_
  refine g_ild1 (pc' := 15) dX7_receive_14 rfl ?_
  refine g_callV (pc' := 18) (c_has l sg (by simp [upM, hn]) hN x) sg.s1 (by decide) wX5_has lX7_109 rfl rfl (Nat.le_of_ble_eq_true rfl) ⟨Nat.le_of_ble_eq_true rfl, Nat.le_of_ble_eq_true rfl⟩ ⟨Nat.le_of_ble_eq_true rfl, Nat.le_of_ble_eq_true rfl⟩ dX7_receive_15 rfl (kIp ?_)
  refine g_ifneB (pc' := 21) (tgt := 22) dX7_receive_18 (by decide) rfl (fun h18 => ?_) (fun h18 => ?_)
  · rw [hx] at h18; cases h18
  · refine g_vret rfl dX7_receive_21 ?_
    exact eV rfl

theorem c_receiveS (l : Launch) {S : Shp} {I : MI} {L : ML} {R : MR} (sg : SG S R) {k n : Nat} (wg : WG k S R) (hn : I (1, 0) 1 = nI n) (hN : n ≤ 12) {j ke : Nat} (hj : j < n) (hke : I (11, k) 8 = nI ke) (hk : ke < 2 ^ 30) : Ct l mX7_receive 2 0 0 [.inr (.inr (some (11, k))), .inl (nI j)] S I L R (PVm S L R (fun J => J = rcvS I k ke j)) := by
  refine Ct.of [some (.inr (.inr (some (11, k)))), some (.inl (nI j))] (by decide) rfl (Nat.le_of_ble_eq_true rfl) ?_
  refine g_ald0 (pc' := 1) dX7_receive_0 rfl ?_
  refine g_dupR (pc' := 2) dX7_receive_1 rfl ?_
  refine g_getI (pc' := 5) wg.s11 (by decide) fX7_52 rfl dX7_receive_2 rfl ?_
  refine g_iconst (pc' := 6) (v := nI 1) dX7_receive_5 rfl (by decide) ?_
  refine g_iadd (pc' := 7) dX7_receive_6 rfl ?_
  refine g_putI (pc' := 10) wg.s11 (by decide) ⟨fX7_52, rfl, pI⟩ dX7_receive_7 rfl ?_
  refine g_ald0 (pc' := 11) dX7_receive_10 rfl ?_
  refine g_getR (pc' := 14) wg.s11 (by decide) fX7_33 wg.r11_0 dX7_receive_11 rfl ?_
  refine g_ild1 (pc' := 15) dX7_receive_14 rfl ?_
  refine g_callV (pc' := 18) (c_has l sg (by simp [upM, hn]) hN (nI j)) sg.s1 (by decide) wX5_has lX7_109 rfl rfl (Nat.le_of_ble_eq_true rfl) ⟨Nat.le_of_ble_eq_true rfl, Nat.le_of_ble_eq_true rfl⟩ ⟨Nat.le_of_ble_eq_true rfl, Nat.le_of_ble_eq_true rfl⟩ dX7_receive_15 rfl (kIp ?_)
  refine g_ifneB (pc' := 21) (tgt := 22) dX7_receive_18 (by decide) rfl (fun h18 => ?_) (fun h18 => ?_)
  · refine g_ald0 (pc' := 23) dX7_receive_22 rfl ?_
    refine g_getI (pc' := 26) wg.s11 (by decide) fX7_55 (v := nI ke) (by simp [upM, hke]) dX7_receive_23 rfl ?_
    refine g_sipush (pc' := 29) (v := nI 200) dX7_receive_26 rfl (by decide) ?_
    refine g_icmpgeN (pc' := 32) (by omega) (by omega) (tgt := 43) dX7_receive_29 (by decide) rfl (fun h29 => ?_) (fun h29 => ?_)
    · refine g_ald0 (pc' := 44) dX7_receive_43 rfl ?_
      refine g_dupR (pc' := 45) dX7_receive_44 rfl ?_
      refine g_getI (pc' := 48) wg.s11 (by decide) fX7_55 (v := nI ke) (by simp [upM, hke]) dX7_receive_45 rfl ?_
      refine g_iconst (pc' := 49) (v := nI 1) dX7_receive_48 rfl (by decide) ?_
      refine g_iaddN (pc' := 50) dX7_receive_49 rfl ?_
      refine g_putI (pc' := 53) wg.s11 (by decide) ⟨fX7_55, rfl, pI⟩ dX7_receive_50 rfl ?_
      refine g_mem (I' := upM (if ke < 200 then upM (rcvN I k) (16, k) ke (nI j) else rcvN I k) (11, k) 8 (nI (ke + 1))) (by
        first
        | rw [if_pos h29, nI_b8 (by omega), nI_b8 (by omega)]; rfl
        | rw [if_neg (by omega)]; rfl) ?_
      refine g_ald0 (pc' := 54) dX7_receive_53 rfl ?_
      refine g_getR (pc' := 57) wg.s11 (by decide) fX7_9 wg.r11_10 dX7_receive_54 rfl ?_
      refine g_ild1 (pc' := 58) dX7_receive_57 rfl ?_
      refine g_ald0 (pc' := 59) dX7_receive_58 rfl ?_
      refine g_getR (pc' := 62) wg.s11 (by decide) fX7_9 wg.r11_10 dX7_receive_59 rfl ?_
      refine g_ild1 (pc' := 63) dX7_receive_62 rfl ?_
      refine g_iald (pc' := 64) (j := j) wg.s12 rfl (by omega) (by decide) (v := I (12, k) j) ((by by_cases h : ke < 200 <;> simp [upM, rcvN, h])) dX7_receive_63 rfl ?_
      refine g_iconst (pc' := 65) (v := nI 1) dX7_receive_64 rfl (by decide) ?_
      refine g_iadd (pc' := 66) dX7_receive_65 rfl ?_
      refine g_ldc (pc' := 68) dX7_receive_66 rfl kX7_113 ?_
      refine g_callS (pc' := 71) (c_J9_min l S _ L R _ _) wJ9_min_7cf53 lX7_114 rfl rfl (Nat.le_of_ble_eq_true rfl) ⟨Nat.le_of_ble_eq_true rfl, Nat.le_of_ble_eq_true rfl⟩ ⟨Nat.le_of_ble_eq_true rfl, Nat.le_of_ble_eq_true rfl⟩ dX7_receive_68 rfl (kIp ?_)
      refine g_iast (pc' := 72) (j := j) wg.s12 rfl (by omega) (by decide) dX7_receive_71 rfl ?_
      refine g_vret rfl dX7_receive_72 ?_
      exact eV rfl
    · refine g_ald0 (pc' := 33) dX7_receive_32 rfl ?_
      refine g_getR (pc' := 36) wg.s11 (by decide) fX7_24 wg.r11_14 dX7_receive_33 rfl ?_
      refine g_ald0 (pc' := 37) dX7_receive_36 rfl ?_
      refine g_getI (pc' := 40) wg.s11 (by decide) fX7_55 (v := nI ke) (by simp [upM, hke]) dX7_receive_37 rfl ?_
      refine g_ild1 (pc' := 41) dX7_receive_40 rfl ?_
      refine g_i2b (pc' := 42) dX7_receive_41 rfl ?_
      refine g_bast (pc' := 43) (j := ke) wg.s16 rfl (by omega) (by decide) dX7_receive_42 rfl ?_
      refine g_ald0 (pc' := 44) dX7_receive_43 rfl ?_
      refine g_dupR (pc' := 45) dX7_receive_44 rfl ?_
      refine g_getI (pc' := 48) wg.s11 (by decide) fX7_55 (v := nI ke) (by simp [upM, hke]) dX7_receive_45 rfl ?_
      refine g_iconst (pc' := 49) (v := nI 1) dX7_receive_48 rfl (by decide) ?_
      refine g_iaddN (pc' := 50) dX7_receive_49 rfl ?_
      refine g_putI (pc' := 53) wg.s11 (by decide) ⟨fX7_55, rfl, pI⟩ dX7_receive_50 rfl ?_
      refine g_mem (I' := upM (if ke < 200 then upM (rcvN I k) (16, k) ke (nI j) else rcvN I k) (11, k) 8 (nI (ke + 1))) (by
        first
        | rw [if_pos h29, nI_b8 (by omega), nI_b8 (by omega)]; rfl
        | rw [if_neg (by omega)]; rfl) ?_
      refine g_ald0 (pc' := 54) dX7_receive_53 rfl ?_
      refine g_getR (pc' := 57) wg.s11 (by decide) fX7_9 wg.r11_10 dX7_receive_54 rfl ?_
      refine g_ild1 (pc' := 58) dX7_receive_57 rfl ?_
      refine g_ald0 (pc' := 59) dX7_receive_58 rfl ?_
      refine g_getR (pc' := 62) wg.s11 (by decide) fX7_9 wg.r11_10 dX7_receive_59 rfl ?_
      refine g_ild1 (pc' := 63) dX7_receive_62 rfl ?_
      refine g_iald (pc' := 64) (j := j) wg.s12 rfl (by omega) (by decide) (v := I (12, k) j) ((by by_cases h : ke < 200 <;> simp [upM, rcvN, h])) dX7_receive_63 rfl ?_
      refine g_iconst (pc' := 65) (v := nI 1) dX7_receive_64 rfl (by decide) ?_
      refine g_iadd (pc' := 66) dX7_receive_65 rfl ?_
      refine g_ldc (pc' := 68) dX7_receive_66 rfl kX7_113 ?_
      refine g_callS (pc' := 71) (c_J9_min l S _ L R _ _) wJ9_min_7cf53 lX7_114 rfl rfl (Nat.le_of_ble_eq_true rfl) ⟨Nat.le_of_ble_eq_true rfl, Nat.le_of_ble_eq_true rfl⟩ ⟨Nat.le_of_ble_eq_true rfl, Nat.le_of_ble_eq_true rfl⟩ dX7_receive_68 rfl (kIp ?_)
      refine g_iast (pc' := 72) (j := j) wg.s12 rfl (by omega) (by decide) dX7_receive_71 rfl ?_
      refine g_vret rfl dX7_receive_72 ?_
      exact eV rfl
  · rw [inb_nI (by omega) (by omega)] at h18; simp at h18; omega

def pk (w : Nat → Int32) : Nat → Nat → Int32 → Option Nat
  | 0, _, _ => none
  | m + 1, s, left => if left < w s then some s else pk w m (s + 1) (left - w s)
theorem pkN_lt (w : Nat → Int32) : ∀ (m s : Nat) (left : Int32) (r : Nat), pk w m s left = some r → s ≤ r ∧ r < s + m
  | 0, s, left, r, h => by simp [pk] at h
  | m + 1, s, left, r, h => by
    unfold pk at h
    by_cases e : left < w s
    · rw [if_pos e] at h; cases h; omega
    · rw [if_neg e] at h
      have := pkN_lt w m (s + 1) _ r h
      omega
/-- what one who comes makes of the WORLD -/
def oneI (cd : Nat → Nat × Nat) (len : Nat) (I : MI) (k n ke : Nat) : MI :=
  let sum := sumF (I (11, k) 5) (wtI cd len I k n) n
  let z := drawnI (I (11, k) 6)
  let left := if 0 < sum then ush z (nI 8) - ush z (nI 8) / sum * sum else nI 0
  let I1 := upM I (11, k) 6 z
  match pk (wtI cd len I k n) n 0 left with
  | none => rcvN I1 k
  | some j => rcvS I1 k ke j
def oneK (cd : Nat → Nat × Nat) (len : Nat) (I : MI) (k n : Nat) : Option Nat :=
  let sum := sumF (I (11, k) 5) (wtI cd len I k n) n
  let z := drawnI (I (11, k) 6)
  pk (wtI cd len I k n) n 0 (if 0 < sum then ush z (nI 8) - ush z (nI 8) / sum * sum else nI 0)
theorem rcvN_fr {k lj : Nat} {I J : MI} (h : Fr (scW k lj) I J) : Fr (scW k lj) (rcvN I k) (rcvN J k) := fun t i q => by
  unfold rcvN upM
  rw [h t i q, h (11, k) 7 (by simp [scW])]
theorem rcvS_fr {k lj ke j : Nat} {I J : MI} (h : Fr (scW k lj) I J) : Fr (scW k lj) (rcvS I k ke j) (rcvS J k ke j) := fun t i q => by
  have h2 := rcvN_fr h t i q
  have h3 : J (12, k) j = I (12, k) j := h _ _ (by simp [scW])
  unfold rcvS
  by_cases e : ke < 200
  · simp only [if_pos e, upM, h3]
    split
    · rfl
    · split
      · rfl
      · split
        · rfl
        · exact h2
  · simp only [if_neg e, upM, h3]
    split
    · rfl
    · split
      · rfl
      · exact h2
theorem upM_fr {P : Tok → Nat → Prop} {I J : MI} (h : Fr P I J) {t : Tok} {i : Nat} {v : Int32} : Fr P (upM I t i v) (upM J t i v) := fun t' i' q => by
  unfold upM
  split
  · rfl
  · exact h _ _ q
theorem oneI_none {cd : Nat → Nat × Nat} {len k n ke : Nat} {I : MI} (h : oneK cd len I k n = none) : oneI cd len I k n ke = rcvN (upM I (11, k) 6 (drawnI (I (11, k) 6))) k := by
  unfold oneK at h
  unfold oneI
  simp only at h ⊢
  rw [h]
theorem oneI_some {cd : Nat → Nat × Nat} {len k n ke j : Nat} {I : MI} (h : oneK cd len I k n = some j) : oneI cd len I k n ke = rcvS (upM I (11, k) 6 (drawnI (I (11, k) 6))) k ke j := by
  unfold oneK at h
  unfold oneI
  simp only at h ⊢
  rw [h]
def oneC (c : Option Nat) : Int32 := match c with
  | none => -1
  | some j => nI j
theorem c_oneComes (l : Launch) {S : Shp} {I : MI} {L : ML} {R : MR} (sg : SG S R) {k n : Nat} (wg : WG k S R) (hn : I (1, 0) 1 = nI n) (hN : n ≤ 12) {lj len : Nat} {cd : Nat → Nat × Nat} (lg : LG lj len S R) (hL : R (11, k) 1 = some (7, lj)) (hv : LV I lj len cd) {ke : Nat} (hke : I (11, k) 8 = nI ke) (hk : ke < 2 ^ 30) : Ct l mX7_oneComes 5 0 0 [.inr (.inr (some (11, k)))] S I L R (PVm S L R (fun J => Fr (scW k lj) (oneI cd len I k n ke) J)) := by
  refine Ct.of [some (.inr (.inr (some (11, k)))), none, none, none, none] (by decide) rfl (Nat.le_of_ble_eq_true rfl) ?_
  refine g_ald0 (pc' := 1) dX7_oneComes_0 rfl ?_
  refine g_callV (pc' := 4) (c_weighAll l sg wg hn hN lg hL hv) wg.s11 (by decide) wX7_weighAll lX7_98 rfl rfl (Nat.le_of_ble_eq_true rfl) ⟨Nat.le_of_ble_eq_true rfl, Nat.le_of_ble_eq_true rfl⟩ ⟨Nat.le_of_ble_eq_true rfl, Nat.le_of_ble_eq_true rfl⟩ dX7_oneComes_1 rfl (kI (fun v J1 hq1 => ?_))
  have hn1 : J1 (1, 0) 1 = nI n := (hq1.2.1 _ _ (by simp [scW])).trans hn
  refine g_ist1 (pc' := 5) rfl (by decide) dX7_oneComes_4 rfl ?_
  refine g_ald0 (pc' := 6) dX7_oneComes_5 rfl ?_
  refine g_ald0 (pc' := 7) dX7_oneComes_6 rfl ?_
  refine g_getI (pc' := 10) wg.s11 (by decide) fX7_42 (hq1.2.1 _ _ (by simp [scW])) dX7_oneComes_7 rfl ?_
  refine g_callS (pc' := 13) (c_drawn l _) wX7_drawn lX7_102 rfl rfl (Nat.le_of_ble_eq_true rfl) ⟨Nat.le_of_ble_eq_true rfl, Nat.le_of_ble_eq_true rfl⟩ ⟨Nat.le_of_ble_eq_true rfl, Nat.le_of_ble_eq_true rfl⟩ dX7_oneComes_10 rfl (kIp ?_)
  refine g_putI (pc' := 16) wg.s11 (by decide) ⟨fX7_42, rfl, pI⟩ dX7_oneComes_13 rfl ?_
  refine g_ild1 (pc' := 17) dX7_oneComes_16 rfl ?_
  refine g_ifle (pc' := 20) (tgt := 32) dX7_oneComes_17 (by decide) rfl (fun h17 => ?_) (fun h17 => ?_)
  · refine g_iconst (pc' := 33) (v := nI 0) dX7_oneComes_32 rfl (by decide) ?_
    refine g_ist2 (pc' := 34) rfl (by decide) dX7_oneComes_33 rfl ?_
    refine g_iconst (pc' := 35) (v := (-1)) dX7_oneComes_34 rfl (by decide) ?_
    refine g_ist3 (pc' := 36) rfl (by decide) dX7_oneComes_35 rfl ?_
    refine g_iconst (pc' := 37) (v := nI 0) dX7_oneComes_36 rfl (by decide) ?_
    refine g_ist4 (pc' := 39) rfl (by decide) dX7_oneComes_37 rfl ?_
    have hn2 : (upM J1 (11, k) 6 (drawnI (I (11, k) 6))) (1, 0) 1 = nI n := by simp [upM]; exact hn1
    have hke2 : (upM J1 (11, k) 6 (drawnI (I (11, k) 6))) (11, k) 8 = nI ke := by simp [upM]; exact (hq1.2.1 _ _ (by simp [scW])).trans hke
    refine g_loop (σ := Int32 × Option Nat) (fun i s => (s.2 = none → oneK cd len I k n = pk (wtI cd len I k n) (n - i) i s.1) ∧ ∀ j, s.2 = some j → oneK cd len I k n = some j ∧ j < n) (fun i s => [some (.inr (.inr (some (11, k)))), some (.inl v), some (.inl s.1), some (.inl (oneC s.2)), some (.inl (nI i))]) (fun i s => upM J1 (11, k) 6 (drawnI (I (11, k) 6))) n 0 (_, none) (by omega) ⟨fun _ => ?_, fun j e => (by cases e)⟩ ?_ ?_
    · unfold oneK; simp only; rw [← hq1.1, if_neg (Int32.not_lt.mpr h17)]; rfl
    · intro i s hi hP ih
      rcases s with ⟨left, _ | jc⟩
      · have hpk0 := hP.1 rfl
        simp only at hpk0
        refine g_ild4 (pc' := 41) dX7_oneComes_39 rfl ?_
        refine g_ald0 (pc' := 42) dX7_oneComes_41 rfl ?_
        refine g_getR (pc' := 45) wg.s11 (by decide) fX7_33 wg.r11_0 dX7_oneComes_42 rfl ?_
        refine g_getI (pc' := 48) sg.s1 (by decide) fX7_67 hn2 dX7_oneComes_45 rfl ?_
        refine g_icmpgeN (pc' := 51) (by omega) (by omega) (tgt := 85) dX7_oneComes_48 (by decide) rfl (fun h48 => ?_) (fun h48 => ?_)
        · exact absurd h48 (by omega)
        · refine g_ild3 (pc' := 52) dX7_oneComes_51 rfl ?_
          refine g_ifge (pc' := 55) (tgt := 85) dX7_oneComes_52 (by decide) rfl (fun h52 => absurd h52 (show ¬ (0 : Int32) ≤ -1 by decide)) (fun h52 => ?_)
          refine g_ild2 (pc' := 56) dX7_oneComes_55 rfl ?_
          refine g_ald0 (pc' := 57) dX7_oneComes_56 rfl ?_
          refine g_getR (pc' := 60) wg.s11 (by decide) fX7_21 wg.r11_13 dX7_oneComes_57 rfl ?_
          refine g_ild4 (pc' := 62) dX7_oneComes_60 rfl ?_
          refine g_iald (pc' := 63) (j := i) wg.s15 rfl (by omega) (by decide) (v := wtI cd len I k n i) (by simp [upM]; exact hq1.2.2 i hi) dX7_oneComes_62 rfl ?_
          refine g_icmpge (pc' := 66) (tgt := 69) dX7_oneComes_63 (by decide) rfl (fun h63 => ?_) (fun h63 => ?_)
          · refine g_ild2 (pc' := 70) dX7_oneComes_69 rfl ?_
            refine g_ald0 (pc' := 71) dX7_oneComes_70 rfl ?_
            refine g_getR (pc' := 74) wg.s11 (by decide) fX7_21 wg.r11_13 dX7_oneComes_71 rfl ?_
            refine g_ild4 (pc' := 76) dX7_oneComes_74 rfl ?_
            refine g_iald (pc' := 77) (j := i) wg.s15 rfl (by omega) (by decide) (v := wtI cd len I k n i) (by simp [upM]; exact hq1.2.2 i hi) dX7_oneComes_76 rfl ?_
            refine g_isub (pc' := 78) dX7_oneComes_77 rfl ?_
            refine g_ist2 (pc' := 79) rfl (by decide) dX7_oneComes_78 rfl ?_
            refine g_inc4 (pc' := 82) rfl (by decide) (v := nI (i + 1)) (nI_1 _) dX7_oneComes_79 rfl ?_
            refine g_goto (tgt := 39) dX7_oneComes_82 (by decide) ?_
            exact ih (left - wtI cd len I k n i, none) ⟨fun _ => by rw [hpk0, show n - i = (n - (i + 1)) + 1 by omega, pk, if_neg (Int32.not_lt.mpr h63)], fun j e => (by cases e)⟩
          · refine g_ild4 (pc' := 68) dX7_oneComes_66 rfl ?_
            refine g_ist3 (pc' := 69) rfl (by decide) dX7_oneComes_68 rfl ?_
            refine g_ild2 (pc' := 70) dX7_oneComes_69 rfl ?_
            refine g_ald0 (pc' := 71) dX7_oneComes_70 rfl ?_
            refine g_getR (pc' := 74) wg.s11 (by decide) fX7_21 wg.r11_13 dX7_oneComes_71 rfl ?_
            refine g_ild4 (pc' := 76) dX7_oneComes_74 rfl ?_
            refine g_iald (pc' := 77) (j := i) wg.s15 rfl (by omega) (by decide) (v := wtI cd len I k n i) (by simp [upM]; exact hq1.2.2 i hi) dX7_oneComes_76 rfl ?_
            refine g_isub (pc' := 78) dX7_oneComes_77 rfl ?_
            refine g_ist2 (pc' := 79) rfl (by decide) dX7_oneComes_78 rfl ?_
            refine g_inc4 (pc' := 82) rfl (by decide) (v := nI (i + 1)) (nI_1 _) dX7_oneComes_79 rfl ?_
            refine g_goto (tgt := 39) dX7_oneComes_82 (by decide) ?_
            exact ih (left - wtI cd len I k n i, some i) ⟨fun e => (by cases e), fun j e => (by cases e; exact ⟨by rw [hpk0, show n - i = (n - (i + 1)) + 1 by omega, pk, if_pos (Int32.not_le.mp h63)], hi⟩)⟩
      · have hjc := hP.2 jc rfl
        refine g_ild4 (pc' := 41) dX7_oneComes_39 rfl ?_
        refine g_ald0 (pc' := 42) dX7_oneComes_41 rfl ?_
        refine g_getR (pc' := 45) wg.s11 (by decide) fX7_33 wg.r11_0 dX7_oneComes_42 rfl ?_
        refine g_getI (pc' := 48) sg.s1 (by decide) fX7_67 hn2 dX7_oneComes_45 rfl ?_
        refine g_icmpgeN (pc' := 51) (by omega) (by omega) (tgt := 85) dX7_oneComes_48 (by decide) rfl (fun h48 => ?_) (fun h48 => ?_)
        · exact absurd h48 (by omega)
        · refine g_ild3 (pc' := 52) dX7_oneComes_51 rfl ?_
          refine g_ifgeN (by omega) (tgt := 85) dX7_oneComes_52 (by decide) ?_
          refine g_ald0 (pc' := 86) dX7_oneComes_85 rfl ?_
          refine g_ild3 (pc' := 87) dX7_oneComes_86 rfl ?_
          refine g_callV (pc' := 90) (c_receiveS l sg wg hn2 hN hjc.2 hke2 hk) wg.s11 (by decide) wX7_receive lX7_105 rfl rfl (Nat.le_of_ble_eq_true rfl) ⟨Nat.le_of_ble_eq_true rfl, Nat.le_of_ble_eq_true rfl⟩ ⟨Nat.le_of_ble_eq_true rfl, Nat.le_of_ble_eq_true rfl⟩ dX7_oneComes_87 rfl (kV (fun J3 hq3 => ?_))
          refine g_vret rfl dX7_oneComes_90 ?_
          exact eV (by rw [hq3, oneI_some hjc.1]; exact rcvS_fr (upM_fr hq1.2.1))
    · intro s hP
      rcases s with ⟨left, _ | jc⟩
      · have hpk : oneK cd len I k n = none := (hP.1 rfl).trans (by simp [pk])
        refine g_ild4 (pc' := 41) dX7_oneComes_39 rfl ?_
        refine g_ald0 (pc' := 42) dX7_oneComes_41 rfl ?_
        refine g_getR (pc' := 45) wg.s11 (by decide) fX7_33 wg.r11_0 dX7_oneComes_42 rfl ?_
        refine g_getI (pc' := 48) sg.s1 (by decide) fX7_67 hn2 dX7_oneComes_45 rfl ?_
        refine g_icmpgeN (pc' := 51) (by omega) (by omega) (tgt := 85) dX7_oneComes_48 (by decide) rfl (fun h48 => ?_) (fun h48 => ?_)
        · refine g_ald0 (pc' := 86) dX7_oneComes_85 rfl ?_
          refine g_ild3 (pc' := 87) dX7_oneComes_86 rfl ?_
          refine g_callV (pc' := 90) (c_receiveN l sg wg hn2 hN (oneC none) (by simp [inb, oneC, show ¬ (0 : Int32) ≤ -1 by decide])) wg.s11 (by decide) wX7_receive lX7_105 rfl rfl (Nat.le_of_ble_eq_true rfl) ⟨Nat.le_of_ble_eq_true rfl, Nat.le_of_ble_eq_true rfl⟩ ⟨Nat.le_of_ble_eq_true rfl, Nat.le_of_ble_eq_true rfl⟩ dX7_oneComes_87 rfl (kV (fun J3 hq3 => ?_))
          refine g_vret rfl dX7_oneComes_90 ?_
          exact eV (by rw [hq3, oneI_none hpk]; exact rcvN_fr (upM_fr hq1.2.1))
        · exact absurd h48 (by omega)
      · have hjc := hP.2 jc rfl
        refine g_ild4 (pc' := 41) dX7_oneComes_39 rfl ?_
        refine g_ald0 (pc' := 42) dX7_oneComes_41 rfl ?_
        refine g_getR (pc' := 45) wg.s11 (by decide) fX7_33 wg.r11_0 dX7_oneComes_42 rfl ?_
        refine g_getI (pc' := 48) sg.s1 (by decide) fX7_67 hn2 dX7_oneComes_45 rfl ?_
        refine g_icmpgeN (pc' := 51) (by omega) (by omega) (tgt := 85) dX7_oneComes_48 (by decide) rfl (fun h48 => ?_) (fun h48 => ?_)
        · refine g_ald0 (pc' := 86) dX7_oneComes_85 rfl ?_
          refine g_ild3 (pc' := 87) dX7_oneComes_86 rfl ?_
          refine g_callV (pc' := 90) (c_receiveS l sg wg hn2 hN hjc.2 hke2 hk) wg.s11 (by decide) wX7_receive lX7_105 rfl rfl (Nat.le_of_ble_eq_true rfl) ⟨Nat.le_of_ble_eq_true rfl, Nat.le_of_ble_eq_true rfl⟩ ⟨Nat.le_of_ble_eq_true rfl, Nat.le_of_ble_eq_true rfl⟩ dX7_oneComes_87 rfl (kV (fun J3 hq3 => ?_))
          refine g_vret rfl dX7_oneComes_90 ?_
          exact eV (by rw [hq3, oneI_some hjc.1]; exact rcvS_fr (upM_fr hq1.2.1))
        · exact absurd h48 (by omega)
  · refine g_ald0 (pc' := 21) dX7_oneComes_20 rfl ?_
    refine g_getI (pc' := 24) wg.s11 (by decide) fX7_42 (v := drawnI (I (11, k) 6)) (by simp [upM]) dX7_oneComes_21 rfl ?_
    refine g_bipush (pc' := 26) (v := nI 8) dX7_oneComes_24 rfl (by decide) ?_
    refine g_iushr (pc' := 27) dX7_oneComes_26 rfl ?_
    refine g_ild1 (pc' := 28) dX7_oneComes_27 rfl ?_
    refine g_irem (pc' := 29) dX7_oneComes_28 rfl (fun e => h17 (by rw [e]; decide)) ?_
    refine g_goto (tgt := 33) dX7_oneComes_29 (by decide) ?_
    refine g_ist2 (pc' := 34) rfl (by decide) dX7_oneComes_33 rfl ?_
    refine g_iconst (pc' := 35) (v := (-1)) dX7_oneComes_34 rfl (by decide) ?_
    refine g_ist3 (pc' := 36) rfl (by decide) dX7_oneComes_35 rfl ?_
    refine g_iconst (pc' := 37) (v := nI 0) dX7_oneComes_36 rfl (by decide) ?_
    refine g_ist4 (pc' := 39) rfl (by decide) dX7_oneComes_37 rfl ?_
    have hn2 : (upM J1 (11, k) 6 (drawnI (I (11, k) 6))) (1, 0) 1 = nI n := by simp [upM]; exact hn1
    have hke2 : (upM J1 (11, k) 6 (drawnI (I (11, k) 6))) (11, k) 8 = nI ke := by simp [upM]; exact (hq1.2.1 _ _ (by simp [scW])).trans hke
    refine g_loop (σ := Int32 × Option Nat) (fun i s => (s.2 = none → oneK cd len I k n = pk (wtI cd len I k n) (n - i) i s.1) ∧ ∀ j, s.2 = some j → oneK cd len I k n = some j ∧ j < n) (fun i s => [some (.inr (.inr (some (11, k)))), some (.inl v), some (.inl s.1), some (.inl (oneC s.2)), some (.inl (nI i))]) (fun i s => upM J1 (11, k) 6 (drawnI (I (11, k) 6))) n 0 (_, none) (by omega) ⟨fun _ => ?_, fun j e => (by cases e)⟩ ?_ ?_
    · unfold oneK; simp only; rw [← hq1.1, if_pos (Int32.not_le.mp h17)]; rfl
    · intro i s hi hP ih
      rcases s with ⟨left, _ | jc⟩
      · have hpk0 := hP.1 rfl
        simp only at hpk0
        refine g_ild4 (pc' := 41) dX7_oneComes_39 rfl ?_
        refine g_ald0 (pc' := 42) dX7_oneComes_41 rfl ?_
        refine g_getR (pc' := 45) wg.s11 (by decide) fX7_33 wg.r11_0 dX7_oneComes_42 rfl ?_
        refine g_getI (pc' := 48) sg.s1 (by decide) fX7_67 hn2 dX7_oneComes_45 rfl ?_
        refine g_icmpgeN (pc' := 51) (by omega) (by omega) (tgt := 85) dX7_oneComes_48 (by decide) rfl (fun h48 => ?_) (fun h48 => ?_)
        · exact absurd h48 (by omega)
        · refine g_ild3 (pc' := 52) dX7_oneComes_51 rfl ?_
          refine g_ifge (pc' := 55) (tgt := 85) dX7_oneComes_52 (by decide) rfl (fun h52 => absurd h52 (show ¬ (0 : Int32) ≤ -1 by decide)) (fun h52 => ?_)
          refine g_ild2 (pc' := 56) dX7_oneComes_55 rfl ?_
          refine g_ald0 (pc' := 57) dX7_oneComes_56 rfl ?_
          refine g_getR (pc' := 60) wg.s11 (by decide) fX7_21 wg.r11_13 dX7_oneComes_57 rfl ?_
          refine g_ild4 (pc' := 62) dX7_oneComes_60 rfl ?_
          refine g_iald (pc' := 63) (j := i) wg.s15 rfl (by omega) (by decide) (v := wtI cd len I k n i) (by simp [upM]; exact hq1.2.2 i hi) dX7_oneComes_62 rfl ?_
          refine g_icmpge (pc' := 66) (tgt := 69) dX7_oneComes_63 (by decide) rfl (fun h63 => ?_) (fun h63 => ?_)
          · refine g_ild2 (pc' := 70) dX7_oneComes_69 rfl ?_
            refine g_ald0 (pc' := 71) dX7_oneComes_70 rfl ?_
            refine g_getR (pc' := 74) wg.s11 (by decide) fX7_21 wg.r11_13 dX7_oneComes_71 rfl ?_
            refine g_ild4 (pc' := 76) dX7_oneComes_74 rfl ?_
            refine g_iald (pc' := 77) (j := i) wg.s15 rfl (by omega) (by decide) (v := wtI cd len I k n i) (by simp [upM]; exact hq1.2.2 i hi) dX7_oneComes_76 rfl ?_
            refine g_isub (pc' := 78) dX7_oneComes_77 rfl ?_
            refine g_ist2 (pc' := 79) rfl (by decide) dX7_oneComes_78 rfl ?_
            refine g_inc4 (pc' := 82) rfl (by decide) (v := nI (i + 1)) (nI_1 _) dX7_oneComes_79 rfl ?_
            refine g_goto (tgt := 39) dX7_oneComes_82 (by decide) ?_
            exact ih (left - wtI cd len I k n i, none) ⟨fun _ => by rw [hpk0, show n - i = (n - (i + 1)) + 1 by omega, pk, if_neg (Int32.not_lt.mpr h63)], fun j e => (by cases e)⟩
          · refine g_ild4 (pc' := 68) dX7_oneComes_66 rfl ?_
            refine g_ist3 (pc' := 69) rfl (by decide) dX7_oneComes_68 rfl ?_
            refine g_ild2 (pc' := 70) dX7_oneComes_69 rfl ?_
            refine g_ald0 (pc' := 71) dX7_oneComes_70 rfl ?_
            refine g_getR (pc' := 74) wg.s11 (by decide) fX7_21 wg.r11_13 dX7_oneComes_71 rfl ?_
            refine g_ild4 (pc' := 76) dX7_oneComes_74 rfl ?_
            refine g_iald (pc' := 77) (j := i) wg.s15 rfl (by omega) (by decide) (v := wtI cd len I k n i) (by simp [upM]; exact hq1.2.2 i hi) dX7_oneComes_76 rfl ?_
            refine g_isub (pc' := 78) dX7_oneComes_77 rfl ?_
            refine g_ist2 (pc' := 79) rfl (by decide) dX7_oneComes_78 rfl ?_
            refine g_inc4 (pc' := 82) rfl (by decide) (v := nI (i + 1)) (nI_1 _) dX7_oneComes_79 rfl ?_
            refine g_goto (tgt := 39) dX7_oneComes_82 (by decide) ?_
            exact ih (left - wtI cd len I k n i, some i) ⟨fun e => (by cases e), fun j e => (by cases e; exact ⟨by rw [hpk0, show n - i = (n - (i + 1)) + 1 by omega, pk, if_pos (Int32.not_le.mp h63)], hi⟩)⟩
      · have hjc := hP.2 jc rfl
        refine g_ild4 (pc' := 41) dX7_oneComes_39 rfl ?_
        refine g_ald0 (pc' := 42) dX7_oneComes_41 rfl ?_
        refine g_getR (pc' := 45) wg.s11 (by decide) fX7_33 wg.r11_0 dX7_oneComes_42 rfl ?_
        refine g_getI (pc' := 48) sg.s1 (by decide) fX7_67 hn2 dX7_oneComes_45 rfl ?_
        refine g_icmpgeN (pc' := 51) (by omega) (by omega) (tgt := 85) dX7_oneComes_48 (by decide) rfl (fun h48 => ?_) (fun h48 => ?_)
        · exact absurd h48 (by omega)
        · refine g_ild3 (pc' := 52) dX7_oneComes_51 rfl ?_
          refine g_ifgeN (by omega) (tgt := 85) dX7_oneComes_52 (by decide) ?_
          refine g_ald0 (pc' := 86) dX7_oneComes_85 rfl ?_
          refine g_ild3 (pc' := 87) dX7_oneComes_86 rfl ?_
          refine g_callV (pc' := 90) (c_receiveS l sg wg hn2 hN hjc.2 hke2 hk) wg.s11 (by decide) wX7_receive lX7_105 rfl rfl (Nat.le_of_ble_eq_true rfl) ⟨Nat.le_of_ble_eq_true rfl, Nat.le_of_ble_eq_true rfl⟩ ⟨Nat.le_of_ble_eq_true rfl, Nat.le_of_ble_eq_true rfl⟩ dX7_oneComes_87 rfl (kV (fun J3 hq3 => ?_))
          refine g_vret rfl dX7_oneComes_90 ?_
          exact eV (by rw [hq3, oneI_some hjc.1]; exact rcvS_fr (upM_fr hq1.2.1))
    · intro s hP
      rcases s with ⟨left, _ | jc⟩
      · have hpk : oneK cd len I k n = none := (hP.1 rfl).trans (by simp [pk])
        refine g_ild4 (pc' := 41) dX7_oneComes_39 rfl ?_
        refine g_ald0 (pc' := 42) dX7_oneComes_41 rfl ?_
        refine g_getR (pc' := 45) wg.s11 (by decide) fX7_33 wg.r11_0 dX7_oneComes_42 rfl ?_
        refine g_getI (pc' := 48) sg.s1 (by decide) fX7_67 hn2 dX7_oneComes_45 rfl ?_
        refine g_icmpgeN (pc' := 51) (by omega) (by omega) (tgt := 85) dX7_oneComes_48 (by decide) rfl (fun h48 => ?_) (fun h48 => ?_)
        · refine g_ald0 (pc' := 86) dX7_oneComes_85 rfl ?_
          refine g_ild3 (pc' := 87) dX7_oneComes_86 rfl ?_
          refine g_callV (pc' := 90) (c_receiveN l sg wg hn2 hN (oneC none) (by simp [inb, oneC, show ¬ (0 : Int32) ≤ -1 by decide])) wg.s11 (by decide) wX7_receive lX7_105 rfl rfl (Nat.le_of_ble_eq_true rfl) ⟨Nat.le_of_ble_eq_true rfl, Nat.le_of_ble_eq_true rfl⟩ ⟨Nat.le_of_ble_eq_true rfl, Nat.le_of_ble_eq_true rfl⟩ dX7_oneComes_87 rfl (kV (fun J3 hq3 => ?_))
          refine g_vret rfl dX7_oneComes_90 ?_
          exact eV (by rw [hq3, oneI_none hpk]; exact rcvN_fr (upM_fr hq1.2.1))
        · exact absurd h48 (by omega)
      · have hjc := hP.2 jc rfl
        refine g_ild4 (pc' := 41) dX7_oneComes_39 rfl ?_
        refine g_ald0 (pc' := 42) dX7_oneComes_41 rfl ?_
        refine g_getR (pc' := 45) wg.s11 (by decide) fX7_33 wg.r11_0 dX7_oneComes_42 rfl ?_
        refine g_getI (pc' := 48) sg.s1 (by decide) fX7_67 hn2 dX7_oneComes_45 rfl ?_
        refine g_icmpgeN (pc' := 51) (by omega) (by omega) (tgt := 85) dX7_oneComes_48 (by decide) rfl (fun h48 => ?_) (fun h48 => ?_)
        · refine g_ald0 (pc' := 86) dX7_oneComes_85 rfl ?_
          refine g_ild3 (pc' := 87) dX7_oneComes_86 rfl ?_
          refine g_callV (pc' := 90) (c_receiveS l sg wg hn2 hN hjc.2 hke2 hk) wg.s11 (by decide) wX7_receive lX7_105 rfl rfl (Nat.le_of_ble_eq_true rfl) ⟨Nat.le_of_ble_eq_true rfl, Nat.le_of_ble_eq_true rfl⟩ ⟨Nat.le_of_ble_eq_true rfl, Nat.le_of_ble_eq_true rfl⟩ dX7_oneComes_87 rfl (kV (fun J3 hq3 => ?_))
          refine g_vret rfl dX7_oneComes_90 ?_
          exact eV (by rw [hq3, oneI_some hjc.1]; exact rcvS_fr (upM_fr hq1.2.1))
        · exact absurd h48 (by omega)
