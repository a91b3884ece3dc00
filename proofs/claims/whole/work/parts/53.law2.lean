/-! EightWorlds: a law -/
def cText (B : Nat → Nat) (len : Nat) : PS := cRead B len (cAny B len (cOne B len 6))
theorem niceT (B : Nat → Nat) (len : Nat) : Nice len (cAny B len (cOne B len 6)) := by
  have hn := Nice.one B len 6
  first | exact hn.any | exact Nice.any hn | exact Nice.cAny hn
def SLn (S : Shp) (c w : Nat) : Shp := upT (upT (upT S (7, c) (12, 0)) (8, c) (1, w)) (9, c) (1, 64)
def RLn (R : MR) (c : Nat) : MR := upM (upM (upT (upT (upT R (7, c) (fun _ => none)) (8, c) (fun _ => none)) (9, c) (fun _ => none)) (7, c) 1 (some (9, c))) (7, c) 0 (some (8, c))
theorem SLn_k {S : Shp} {c w : Nat} (h7 : (S (7, c)).1 = 0) (h8 : (S (8, c)).1 = 0) (h9 : (S (9, c)).1 = 0) : SK S (SLn S c w) := by
  intro t ht
  have key : ∀ k, (S (k, c)).1 = 0 → t ≠ (k, c) := fun k h e => ht (by rw [e]; exact h)
  unfold SLn
  rw [upT_n _ (key 9 h9), upT_n _ (key 8 h8), upT_n _ (key 7 h7)]
theorem RLn_k {S : Shp} {R : MR} {c : Nat} (h7 : (S (7, c)).1 = 0) (h8 : (S (8, c)).1 = 0) (h9 : (S (9, c)).1 = 0) : RK S R (RLn R c) := by
  unfold RLn
  refine RK.new (RK.new (RK.upT (RK.upT (RK.upT RK.rf ?_) ?_) ?_) ?_) ?_ <;> assumption
theorem lg_new (S : Shp) (R : MR) (c w : Nat) : LG c w (SLn S c w) (RLn R c) := by unfold LG SLn RLn; simp [upT, upM]
def lawI (J : MI) (c : Nat) (f : Nat → Int32) : MI := upM (upT (upT (upT J (7, c) (fun _ => 0)) (8, c) f) (9, c) (fun _ => 0)) (0, 0) 3 (nI (c + 1))
theorem c_lawF (l : Launch) {S : Shp} {I : MI} {L : ML} {R : MR} (xg : XG S R) {c : Nat} (hc : I (0, 0) 3 = nI c) (hC : c = 6) : Ct l mX8_law 2 0 0 [.inr (.inr (some (0, 0)))] S I L R (PIp S I L R (-3)) := by
  refine Ct.of [some (.inr (.inr (some (0, 0)))), none] (by decide) rfl (Nat.le_of_ble_eq_true rfl) ?_
  refine g_ald0 (pc' := 1) dX8_law_0 rfl ?_
  refine g_getI (pc' := 4) xg.s0 (by decide) fX8_110 hc dX8_law_1 rfl ?_
  refine g_bipush (pc' := 6) (v := nI 6) dX8_law_4 rfl (by decide) ?_
  refine g_icmpltN (pc' := 9) (by omega) (by omega) (tgt := 12) dX8_law_6 (by decide) rfl (fun h6 => ?_) (fun h6 => ?_)
  · exact absurd h6 (by omega)
  · refine g_bipush (pc' := 11) (v := (-3)) dX8_law_9 rfl (by decide) ?_
    refine g_iret rfl dX8_law_11 ?_
    exact eIp rfl

theorem c_lawX (l : Launch) {S : Shp} {I : MI} {L : ML} {R : MR} (xg : XG S R) {c : Nat} (hc : I (0, 0) 3 = nI c) (hC : c < 6) (tg : TG S R) {B : Nat → Nat} {len : Nat} (hlen : len ≤ 120) (hB : ∀ i, i < len → B i < 256) (hl : I (3, 0) 1 = nI len) (hb : ∀ i, i < len → I (4, 0) i = nI (B i)) {p : Nat} (hp : p ≤ 120) (hf : (cText B len).2.1 = some p) : Ct l mX8_law 53 0 0 [.inr (.inr (some (0, 0)))] S I L R (PIm S L R (fun v J => v = (-100) - nI p ∧ TE J (cText B len) ∧ Fr tpE I J)) := by
  refine Ct.of [some (.inr (.inr (some (0, 0)))), none] (by decide) rfl (Nat.le_of_ble_eq_true rfl) ?_
  refine g_ald0 (pc' := 1) dX8_law_0 rfl ?_
  refine g_getI (pc' := 4) xg.s0 (by decide) fX8_110 hc dX8_law_1 rfl ?_
  refine g_bipush (pc' := 6) (v := nI 6) dX8_law_4 rfl (by decide) ?_
  refine g_icmpltN (pc' := 9) (by omega) (by omega) (tgt := 12) dX8_law_6 (by decide) rfl (fun h6 => ?_) (fun h6 => ?_)
  · refine g_ald0 (pc' := 13) dX8_law_12 rfl ?_
    refine g_getR (pc' := 16) xg.s0 (by decide) fX8_19 xg.r0_1 dX8_law_13 rfl ?_
    refine g_callV (pc' := 19) (c_read l tg (niceT B len) (rz_any tg B len) hlen hB hl hb) tg.s3 (by decide) wX6_read lX8_113 rfl rfl (Nat.le_of_ble_eq_true rfl) ⟨Nat.le_of_ble_eq_true rfl, Nat.le_of_ble_eq_true rfl⟩ ⟨Nat.le_of_ble_eq_true rfl, Nat.le_of_ble_eq_true rfl⟩ dX8_law_16 rfl (kI (fun v J hq => ?_))
    obtain ⟨hv, hTE, hfr⟩ := hq
    have hv : v = flI (cText B len).2.1 := hv
    rw [hv, hf]
    rw [show flI (some p) = nI p from rfl]
    refine g_ist1 (pc' := 20) rfl (by decide) dX8_law_19 rfl ?_
    refine g_ild1 (pc' := 21) dX8_law_20 rfl ?_
    refine g_ifltN (pc' := 24) (by omega) dX8_law_21 rfl ?_
    refine g_bipush (pc' := 26) (v := (-100)) dX8_law_24 rfl (by decide) ?_
    refine g_ild1 (pc' := 27) dX8_law_26 rfl ?_
    refine g_isub (pc' := 28) dX8_law_27 rfl ?_
    refine g_iret rfl dX8_law_28 ?_
    exact eI ⟨rfl, hTE, hfr⟩
  · exact absurd h6 (by omega)

theorem c_lawS (l : Launch) {S : Shp} {I : MI} {L : ML} {R : MR} (xg : XG S R) {c : Nat} (hc : I (0, 0) 3 = nI c) (hC : c < 6) (tg : TG S R) {B : Nat → Nat} {len : Nat} (hlen : len ≤ 120) (hB : ∀ i, i < len → B i < 256) (hl : I (3, 0) 1 = nI len) (hb : ∀ i, i < len → I (4, 0) i = nI (B i)) (h7 : (S (7, c)).1 = 0) (h8 : (S (8, c)).1 = 0) (h9 : (S (9, c)).1 = 0) (hf : (cText B len).2.1 = none) : Ct l mX8_law 53 3 187 [.inr (.inr (some (0, 0)))] S I L R (fun r S' J2 L' R' => ∃ v, r = some (.inl v) ∧ ∃ (J : MI) (f : Nat → Int32), S' = SLn S c (cText B len).2.2.length ∧ J2 = lawI J c f ∧ L' = L ∧ R' = upM (RLn R c) (6, 0) c (some (7, c)) ∧ TE J (cText B len) ∧ Fr tpE I J ∧ (∀ i, i < (cText B len).2.2.length → f i = nI (((cText B len).2.2.getD i (0, 0)).1 + 256 * ((cText B len).2.2.getD i (0, 0)).2)) ∧ v = nI c) := by
  refine Ct.of [some (.inr (.inr (some (0, 0)))), none] (by decide) rfl (Nat.le_of_ble_eq_true rfl) ?_
  refine g_ald0 (pc' := 1) dX8_law_0 rfl ?_
  refine g_getI (pc' := 4) xg.s0 (by decide) fX8_110 hc dX8_law_1 rfl ?_
  refine g_bipush (pc' := 6) (v := nI 6) dX8_law_4 rfl (by decide) ?_
  refine g_icmpltN (pc' := 9) (by omega) (by omega) (tgt := 12) dX8_law_6 (by decide) rfl (fun h6 => ?_) (fun h6 => ?_)
  · refine g_ald0 (pc' := 13) dX8_law_12 rfl ?_
    refine g_getR (pc' := 16) xg.s0 (by decide) fX8_19 xg.r0_1 dX8_law_13 rfl ?_
    refine g_callV (pc' := 19) (c_read l tg (niceT B len) (rz_any tg B len) hlen hB hl hb) tg.s3 (by decide) wX6_read lX8_113 rfl rfl (Nat.le_of_ble_eq_true rfl) ⟨Nat.le_of_ble_eq_true rfl, Nat.le_of_ble_eq_true rfl⟩ ⟨Nat.le_of_ble_eq_true rfl, Nat.le_of_ble_eq_true rfl⟩ dX8_law_16 rfl (kI (fun v J hq => ?_))
    obtain ⟨hv, hTE, hfr⟩ := hq
    have hv : v = flI (cText B len).2.1 := hv
    rw [hv, hf]
    rw [show flI none = -1 from rfl]
    have hcJ : J (0, 0) 3 = nI c := (hfr _ _ (by simp [tpE, tpP])).trans hc
    obtain ⟨hl0, w, hw1, hw3, hwx⟩ := hTE
    have hTE : TE J (cText B len) := ⟨hl0, w, hw1, hw3, hwx⟩
    obtain ⟨hwl, hwi⟩ := hwx hf
    have hwl : w = (cText B len).2.2.length := hwl
    have hwi : ∀ i, i < w → J (5, 0) i = nI (((cText B len).2.2.getD i (0, 0)).1 + 256 * ((cText B len).2.2.getD i (0, 0)).2) := hwi
    rw [← hwl]
    refine g_ist1 (pc' := 20) rfl (by decide) dX8_law_19 rfl ?_
    refine g_ild1 (pc' := 21) dX8_law_20 rfl ?_
    refine g_iflt (pc' := 24) (tgt := 29) dX8_law_21 (by decide) rfl (fun h21 => ?_) (fun h21 => (by first | exact absurd h21 (by decide : (-1 : Int32) < 0) | exact absurd (by decide : (-1 : Int32) < 0) h21))
    refine g_ald0 (pc' := 30) dX8_law_29 rfl ?_
    refine g_getR (pc' := 33) xg.s0 (by decide) fX8_25 xg.r0_2 dX8_law_30 rfl ?_
    refine g_ald0 (pc' := 34) dX8_law_33 rfl ?_
    refine g_getI (pc' := 37) xg.s0 (by decide) fX8_110 hcJ dX8_law_34 rfl ?_
    refine g_new (pc' := 40) (7, c) h7 (by decide) ⟨nX8_23, iw2, jw2⟩ (Nat.le_of_ble_eq_true rfl) (Nat.le_of_ble_eq_true rfl) dX8_law_37 rfl ?_
    refine g_dupR (pc' := 41) dX8_law_40 rfl ?_
    have xg0 := xg
    have tg0 := tg
    have xg := xg.ext (SK.up h7 (v := (12, 0))) (RK.upT RK.rf (v := fun _ => none) h7)
    have tg := tg.ext (SK.up h7 (v := (12, 0))) (RK.upT RK.rf (v := fun _ => none) h7)
    refine g_ald0 (pc' := 42) dX8_law_41 rfl ?_
    refine g_getR (pc' := 45) xg.s0 (by decide) fX8_19 xg.r0_1 dX8_law_42 rfl ?_
    refine g_callV (pc' := 48) (c_codeRead l (ua := 8) (ub := c) (n := w) tg (by rw [upT_n _ (by simp)]; exact h8) hw1 (by rw [upT_n _ (by simp)]; exact hw3)) tg.s3 (by decide) wX6_codeRead lX8_117 rfl rfl (Nat.le_of_ble_eq_true rfl) ⟨Nat.le_of_ble_eq_true rfl, Nat.le_of_ble_eq_true rfl⟩ ⟨by simp [rmd], by simp [rmd, nF]; omega⟩ dX8_law_45 rfl ?_
    rintro r S' I' L' R' ⟨rfl, rfl, ⟨f, rfl, hff⟩, rfl, rfl⟩ _
    refine g_callI (pc' := 51) (c_X2_init l (j := c) (by rw [upT_n _ (by simp), upT_s]) (by rw [upT_n _ (by simp), upT_n _ (by simp)]; exact h9)) wX2_init (Or.inl lX8_121) rfl rfl (Nat.le_of_ble_eq_true rfl) ⟨Nat.le_of_ble_eq_true rfl, Nat.le_of_ble_eq_true rfl⟩ ⟨by simp [rmd], by simp [rmd, nF]; omega⟩ dX8_law_48 rfl (kN ?_)
    refine G.widen 3 187 (by omega) (by simp [nF]; omega) ?_
    refine g_nameA (fun S2 J2 Ra hS2 hI2 hR2 => ?_)
    have hS2 : S2 = SLn S c w := hS2
    have hI2 : J2 = upT (upT (upT J (7, c) (fun _ => 0)) (8, c) f) (9, c) (fun _ => 0) := hI2
    have hR2 : Ra = RLn R c := hR2
    have xg2 : XG S2 Ra := xg0.ext (by rw [hS2]; exact SLn_k h7 h8 h9) (by rw [hR2]; exact RLn_k h7 h8 h9)
    have hL2 : S2 (7, c) = (12, 0) := by rw [hS2]; exact (lg_new S R c w).s7
    have hc3 : J2 (0, 0) 3 = nI c := by rw [hI2, upT_n _ (by simp), upT_n _ (by simp), upT_n _ (by simp)]; exact hcJ
    refine g_aast (pc' := 52) (j := c) (Or.inl ⟨rfl, rfl⟩) xg2.s6 hL2 rfl (by omega) (by decide) dX8_law_51 rfl ?_
    refine g_ald0 (pc' := 53) dX8_law_52 rfl ?_
    refine g_dupR (pc' := 54) dX8_law_53 rfl ?_
    refine g_getI (pc' := 57) xg2.s0 (by decide) fX8_110 hc3 dX8_law_54 rfl ?_
    refine g_iconst (pc' := 58) (v := nI 1) dX8_law_57 rfl (by decide) ?_
    refine g_iaddN (pc' := 59) dX8_law_58 rfl ?_
    refine g_putI (pc' := 62) xg2.s0 (by decide) ⟨fX8_110, rfl, pI⟩ dX8_law_59 rfl ?_
    refine g_ald0 (pc' := 63) dX8_law_62 rfl ?_
    refine g_getI (pc' := 66) xg2.s0 (by decide) fX8_110 (v := nI (c + 1)) (by simp [upM]) dX8_law_63 rfl ?_
    refine g_iconst (pc' := 67) (v := nI 1) dX8_law_66 rfl (by decide) ?_
    refine g_isub (pc' := 68) dX8_law_67 rfl ?_
    refine g_topi (v := nI c) (pk_sub (by omega)) ?_
    refine g_iret rfl dX8_law_68 ?_
    exact ⟨_, rfl, J, f, by rw [hS2], by rw [hI2]; rfl, rfl, by rw [hR2], hTE, hfr, fun i hi => by rw [hff i hi, upT_n _ (by simp)]; exact hwi i hi, rfl⟩
  · exact absurd h6 (by omega)
