/-! World: many come; settled; begin, followLawOf -/
/-- what coming writes of the WORLD itself -/
def wldP (k : Nat) (t : Tok) (i : Nat) : Prop := (t = (11, k) ∧ (i = 6 ∨ i = 7 ∨ i = 8)) ∨ t = (12, k) ∨ t = (16, k)
theorem rcvN_w {k : Nat} {I : MI} : Fr (wldP k) I (rcvN I k) := Fr.rf.up (by simp [wldP])
theorem rcvS_w {k ke j : Nat} {I : MI} : Fr (wldP k) I (rcvS I k ke j) := by
  unfold rcvS
  refine Fr.up (Fr.up ?_ (by simp [wldP])) (by simp [wldP])
  by_cases h : ke < 200
  · rw [if_pos h]; exact rcvN_w.up (by simp [wldP])
  · rw [if_neg h]; exact rcvN_w
theorem oneI_w {cd : Nat → Nat × Nat} {len k n ke : Nat} {I : MI} : Fr (wldP k) I (oneI cd len I k n ke) := by
  cases h : oneK cd len I k n with
  | none => rw [oneI_none h]; exact (Fr.rf.up (by simp [wldP])).tr rcvN_w
  | some j => rw [oneI_some h]; exact (Fr.rf.up (by simp [wldP])).tr rcvS_w
theorem oneI_k {cd : Nat → Nat × Nat} {len k n ke : Nat} {I : MI} (hke : I (11, k) 8 = nI ke) : oneI cd len I k n ke (11, k) 8 = nI (ke + if (oneK cd len I k n).isSome then 1 else 0) := by
  cases h : oneK cd len I k n with
  | none => rw [oneI_none h]; simp [rcvN, upM, hke]
  | some j => rw [oneI_some h]; simp [rcvS, upM]
theorem oneK_fr {cd : Nat → Nat × Nat} {len k n lj : Nat} {I J : MI} (h : Fr (scW k lj) I J) : oneK cd len J k n = oneK cd len I k n := by
  unfold oneK
  have e : wtI cd len J k n = wtI cd len I k n := funext fun j => wtI_fr h
  rw [e, h (11, k) 5 (by simp [scW]), h (11, k) 6 (by simp [scW])]
theorem oneI_fr {cd : Nat → Nat × Nat} {len k n ke lj : Nat} {I J : MI} (h : Fr (scW k lj) I J) : Fr (scW k lj) (oneI cd len I k n ke) (oneI cd len J k n ke) := by
  have e := oneK_fr (cd := cd) (len := len) (n := n) h
  cases h2 : oneK cd len I k n with
  | none =>
    rw [oneI_none h2, oneI_none (e.trans h2), h (11, k) 6 (by simp [scW])]
    exact rcvN_fr (upM_fr h)
  | some j =>
    rw [oneI_some h2, oneI_some (e.trans h2), h (11, k) 6 (by simp [scW])]
    exact rcvS_fr (upM_fr h)
/-- what m who come make of the WORLD, and how many have kept -/
def manyI (cd : Nat → Nat × Nat) (len k n : Nat) : Nat → MI → Nat → MI × Nat
  | 0, I, ke => (I, ke)
  | m + 1, I, ke => (oneI cd len (manyI cd len k n m I ke).1 k n (manyI cd len k n m I ke).2, (manyI cd len k n m I ke).2 + if (oneK cd len (manyI cd len k n m I ke).1 k n).isSome then 1 else 0)
theorem manyI_w {cd : Nat → Nat × Nat} {len k n : Nat} {I : MI} {ke : Nat} : ∀ m, Fr (wldP k) I (manyI cd len k n m I ke).1
  | 0 => Fr.rf
  | m + 1 => (manyI_w m).tr oneI_w
theorem manyI_k {cd : Nat → Nat × Nat} {len k n : Nat} {I : MI} {ke : Nat} (hke : I (11, k) 8 = nI ke) : ∀ m, (manyI cd len k n m I ke).1 (11, k) 8 = nI (manyI cd len k n m I ke).2 ∧ ke ≤ (manyI cd len k n m I ke).2 ∧ (manyI cd len k n m I ke).2 ≤ ke + m
  | 0 => ⟨hke, Nat.le_refl _, Nat.le_refl _⟩
  | m + 1 => by
    obtain ⟨h1, h2, h3⟩ := manyI_k hke m
    refine ⟨oneI_k h1, ?_, ?_⟩
    · show _ ≤ _ + _
      omega
    · show _ + _ ≤ _
      split <;> omega
def tallyN (lg : Nat → Nat) (m s : Nat) : Int32 := nI (ctN (fun q => decide (lg q = s)) m)
def sinceN (g : Nat → Nat) (last : Nat) : Nat → Nat
  | 0 => 0
  | m + 1 => if g m = last then sinceN g last m else m + 1
theorem sinceN_le (g : Nat → Nat) (last : Nat) : ∀ m, sinceN g last m ≤ m
  | 0 => Nat.le_refl _
  | m + 1 => by
    unfold sinceN
    have := sinceN_le g last m
    split <;> omega
theorem grN_congr {f g : Nat → Int32} : ∀ {n : Nat}, (∀ s, s < n → f s = g s) → grN f n = grN g n
  | 0, _ => rfl
  | s + 1, h => by
    have ih := grN_congr (n := s) (fun q hq => h q (by omega))
    unfold grN
    by_cases h0 : s = 0
    · rw [if_pos h0, if_pos h0]
    · rw [if_neg h0, if_neg h0, ih, h s (by omega), h (grN g s) (Nat.lt_succ_of_lt (grN_lt g s (by omega)))]
theorem tallyN_up {lg : Nat → Nat} {i s : Nat} {T : Tok} {J : MI} (hJ : ∀ s, s < 12 → J T s = tallyN lg i s) (hs : s < 12) : upM J T (lg i) (nI (ctN (fun q => decide (lg q = lg i)) i + 1)) T s = tallyN lg (i + 1) s := by
  by_cases e : s = lg i
  · subst e
    rw [upM_s]
    unfold tallyN
    rw [ctN, if_pos (by simp)]
  · rw [upM_k _ _ e, hJ s hs]
    unfold tallyN
    rw [ctN, if_neg (by simp; exact fun z => e z.symm)]
    rfl
theorem c_manyCome (l : Launch) {S : Shp} {I : MI} {L : ML} {R : MR} (sg : SG S R) {k n : Nat} (wg : WG k S R) (hn : I (1, 0) 1 = nI n) (hN : n ≤ 12) {lj len : Nat} {cd : Nat → Nat × Nat} (lg : LG lj len S R) (hL : R (11, k) 1 = some (7, lj)) (hv : LV I lj len cd) {ke m : Nat} (hke : I (11, k) 8 = nI ke) (hk : ke + m < 2 ^ 30) : Ct l mX7_manyCome 6 0 0 [.inr (.inr (some (11, k))), .inl (nI m)] S I L R (PIm S L R (fun v J => v = nI ((manyI cd len k n m I ke).2 - ke) ∧ Fr (scW k lj) (manyI cd len k n m I ke).1 J)) := by
  refine Ct.of [some (.inr (.inr (some (11, k)))), some (.inl (nI m)), none, none] (by decide) rfl (Nat.le_of_ble_eq_true rfl) ?_
  refine g_ald0 (pc' := 1) dX7_manyCome_0 rfl ?_
  refine g_getI (pc' := 4) wg.s11 (by decide) fX7_55 hke dX7_manyCome_1 rfl ?_
  refine g_ist2 (pc' := 5) rfl (by decide) dX7_manyCome_4 rfl ?_
  refine g_iconst (pc' := 6) (v := nI 0) dX7_manyCome_5 rfl (by decide) ?_
  refine g_ist3 (pc' := 7) rfl (by decide) dX7_manyCome_6 rfl ?_
  refine g_loop (σ := MI) (fun i J => Fr (scW k lj) (manyI cd len k n i I ke).1 J) (fun i s => [some (.inr (.inr (some (11, k)))), some (.inl (nI m)), some (.inl (nI ke)), some (.inl (nI i))]) (fun i s => s) m 0 I (by omega) Fr.rf ?_ ?_
  · intro i s hi hP ih
    have hmw := manyI_w (cd := cd) (len := len) (k := k) (n := n) (I := I) (ke := ke) i
    have hmk := manyI_k (cd := cd) (len := len) (n := n) hke i
    have hn2 : s (1, 0) 1 = nI n := (hP _ _ (by simp [scW])).trans ((hmw _ _ (by simp [wldP])).trans hn)
    have hv2 : LV s lj len cd := hv.to (fun i => (hP _ _ (by simp [scW])).trans (hmw _ _ (by simp [wldP])))
    have hk2 : s (11, k) 8 = nI (manyI cd len k n i I ke).2 := (hP _ _ (by simp [scW])).trans hmk.1
    refine g_ild3 (pc' := 8) dX7_manyCome_7 rfl ?_
    refine g_ild1 (pc' := 9) dX7_manyCome_8 rfl ?_
    refine g_icmpgeN (pc' := 12) (by omega) (by omega) (tgt := 22) dX7_manyCome_9 (by decide) rfl (fun h9 => ?_) (fun h9 => ?_)
    · exact absurd h9 (by omega)
    · refine g_ald0 (pc' := 13) dX7_manyCome_12 rfl ?_
      refine g_callV (pc' := 16) (c_oneComes l sg wg hn2 hN lg hL hv2 hk2 (by omega)) wg.s11 (by decide) wX7_oneComes lX7_95 rfl rfl (Nat.le_of_ble_eq_true rfl) ⟨Nat.le_of_ble_eq_true rfl, Nat.le_of_ble_eq_true rfl⟩ ⟨Nat.le_of_ble_eq_true rfl, Nat.le_of_ble_eq_true rfl⟩ dX7_manyCome_13 rfl (kV (fun J hJ => ?_))
      refine g_inc3 (pc' := 19) rfl (by decide) (v := nI (i + 1)) (nI_1 _) dX7_manyCome_16 rfl ?_
      refine g_goto (tgt := 7) dX7_manyCome_19 (by decide) ?_
      exact ih J (Fr.tr (oneI_fr hP) hJ)
  · intro s hP
    have hmw := manyI_w (cd := cd) (len := len) (k := k) (n := n) (I := I) (ke := ke) m
    have hmk := manyI_k (cd := cd) (len := len) (n := n) hke m
    have hn2 : s (1, 0) 1 = nI n := (hP _ _ (by simp [scW])).trans ((hmw _ _ (by simp [wldP])).trans hn)
    have hv2 : LV s lj len cd := hv.to (fun i => (hP _ _ (by simp [scW])).trans (hmw _ _ (by simp [wldP])))
    have hk2 : s (11, k) 8 = nI (manyI cd len k n m I ke).2 := (hP _ _ (by simp [scW])).trans hmk.1
    refine g_ild3 (pc' := 8) dX7_manyCome_7 rfl ?_
    refine g_ild1 (pc' := 9) dX7_manyCome_8 rfl ?_
    refine g_icmpgeN (pc' := 12) (by omega) (by omega) (tgt := 22) dX7_manyCome_9 (by decide) rfl (fun h9 => ?_) (fun h9 => ?_)
    · refine g_ald0 (pc' := 23) dX7_manyCome_22 rfl ?_
      refine g_getI (pc' := 26) wg.s11 (by decide) fX7_55 (v := nI (manyI cd len k n m I ke).2) (hk2) dX7_manyCome_23 rfl ?_
      refine g_ild2 (pc' := 27) dX7_manyCome_26 rfl ?_
      refine g_isub (pc' := 28) dX7_manyCome_27 rfl ?_
      refine g_iret rfl dX7_manyCome_28 ?_
      exact eI ⟨pk_sub hmk.2.1, hP⟩
    · exact absurd h9 (by omega)

theorem c_settled (l : Launch) {S : Shp} {I : MI} {L : ML} {R : MR} (sg : SG S R) {k n : Nat} (wg : WG k S R) (hn : I (1, 0) 1 = nI n) (hN : n ≤ 12) {ta tb ke : Nat} (hT : S (ta, tb) = (1, 12)) (hTn : ¬ (ta = 1 ∧ tb = 0) ∧ ¬ (ta = 11 ∧ tb = k) ∧ ¬ (ta = 16 ∧ tb = k)) (hke : I (11, k) 8 = nI ke) (hk : ke < 2 ^ 30) {lg : Nat → Nat} (hlg : ∀ j, j < min ke 200 → I (16, k) j = nI (lg j) ∧ lg j < 12) : Ct l mX7_settled 3 0 0 [.inr (.inr (some (11, k))), .inr (.inr (some (ta, tb)))] S I L R (PIm S L R (fun v J => v = nI (sinceN (fun q => grN (tallyN lg q) n) (grN (tallyN lg (min ke 200)) n) (min ke 200)) ∧ Fr (fun t _ => t = (ta, tb)) I J)) := by
  refine Ct.of [some (.inr (.inr (some (11, k)))), some (.inr (.inr (some (ta, tb)))), none, none, none] (by decide) rfl (Nat.le_of_ble_eq_true rfl) ?_
  refine g_ald1 (pc' := 1) dX7_settled_0 rfl ?_
  refine g_iconst (pc' := 2) (v := nI 0) dX7_settled_1 rfl (by decide) ?_
  refine g_callS (pc' := 5) (c_fillI l S I L R hT (by decide)) wJ7_fill_53178 lX7_58 rfl rfl (Nat.le_of_ble_eq_true rfl) ⟨Nat.le_of_ble_eq_true rfl, Nat.le_of_ble_eq_true rfl⟩ ⟨Nat.le_of_ble_eq_true rfl, Nat.le_of_ble_eq_true rfl⟩ dX7_settled_2 rfl (kV (fun J1 hJ1 => ?_))
  refine g_iconst (pc' := 6) (v := nI 0) dX7_settled_5 rfl (by decide) ?_
  refine g_ist2 (pc' := 7) rfl (by decide) dX7_settled_6 rfl ?_
  refine G.lsub [some (.inr (.inr (some (11, k)))), some (.inr (.inr (some (ta, tb)))), some (.inl (nI 0)), none, none] (by intro j v; rcases j with _ | _ | _ | _ | _ | j <;> simp) ?_
  refine g_loop (σ := MI) (fun i J => Fr (fun t _ => t = (ta, tb)) I J ∧ ∀ s, s < 12 → J (ta, tb) s = tallyN lg i s) (fun i s => [some (.inr (.inr (some (11, k)))), some (.inr (.inr (some (ta, tb)))), some (.inl (nI i)), none, none]) (fun i s => s) (min ke 200) 0 J1 (by omega) ⟨by rw [hJ1]; exact Fr.rf.upT (fun _ => rfl), fun q hq => by rw [hJ1, upT_s]; exact if_pos hq⟩ ?_ ?_
  · intro i s hi hP ih
    have hn2 : s (1, 0) 1 = nI n := (hP.1 _ _ (by simp; intro h; exact fun z => hTn.1 ⟨h.symm, z.symm⟩)).trans hn
    have hke2 : s (11, k) 8 = nI ke := (hP.1 _ _ (by simp; intro h; exact fun z => hTn.2.1 ⟨h.symm, z.symm⟩)).trans hke
    have hlg2 : ∀ j, j < min ke 200 → s (16, k) j = nI (lg j) := fun j hj => (hP.1 _ _ (by simp; intro h; exact fun z => hTn.2.2 ⟨h.symm, z.symm⟩)).trans (hlg j hj).1
    refine g_ild2 (pc' := 8) dX7_settled_7 rfl ?_
    refine g_ald0 (pc' := 9) dX7_settled_8 rfl ?_
    refine g_callV (pc' := 12) (c_logged l wg hke2 hk) wg.s11 (by decide) wX7_logged lX7_128 rfl rfl (Nat.le_of_ble_eq_true rfl) ⟨Nat.le_of_ble_eq_true rfl, Nat.le_of_ble_eq_true rfl⟩ ⟨Nat.le_of_ble_eq_true rfl, Nat.le_of_ble_eq_true rfl⟩ dX7_settled_9 rfl (kIp ?_)
    refine g_icmpgeN (pc' := 15) (by omega) (by omega) (tgt := 33) dX7_settled_12 (by decide) rfl (fun h12 => ?_) (fun h12 => ?_)
    · exact absurd h12 (by omega)
    · refine g_ald1 (pc' := 16) dX7_settled_15 rfl ?_
      refine g_ald0 (pc' := 17) dX7_settled_16 rfl ?_
      refine g_getR (pc' := 20) wg.s11 (by decide) fX7_24 wg.r11_14 dX7_settled_17 rfl ?_
      refine g_ild2 (pc' := 21) dX7_settled_20 rfl ?_
      refine g_bald (pc' := 22) (j := i) wg.s16 rfl (by omega) (by decide) (v := nI (lg i)) (hlg2 i (by omega)) dX7_settled_21 rfl ?_
      refine g_dup2 (pc' := 23) dX7_settled_22 rfl ?_
      refine g_iald (pc' := 24) (j := lg i) hT rfl (hlg i (by omega)).2 (by decide) (v := nI (ctN (fun q => decide (lg q = lg i)) i)) (hP.2 _ (hlg i (by omega)).2) dX7_settled_23 rfl ?_
      refine g_iconst (pc' := 25) (v := nI 1) dX7_settled_24 rfl (by decide) ?_
      refine g_iaddN (pc' := 26) dX7_settled_25 rfl ?_
      refine g_iast (pc' := 27) (j := lg i) hT rfl (hlg i (by omega)).2 (by decide) dX7_settled_26 rfl ?_
      refine g_inc2 (pc' := 30) rfl (by decide) (v := nI (i + 1)) (nI_1 _) dX7_settled_27 rfl ?_
      refine g_goto (tgt := 7) dX7_settled_30 (by decide) ?_
      exact ih _ ⟨hP.1.up rfl, fun q hq => tallyN_up hP.2 hq⟩
  · intro s hP
    have hn2 : s (1, 0) 1 = nI n := (hP.1 _ _ (by simp; intro h; exact fun z => hTn.1 ⟨h.symm, z.symm⟩)).trans hn
    have hke2 : s (11, k) 8 = nI ke := (hP.1 _ _ (by simp; intro h; exact fun z => hTn.2.1 ⟨h.symm, z.symm⟩)).trans hke
    have hlg2 : ∀ j, j < min ke 200 → s (16, k) j = nI (lg j) := fun j hj => (hP.1 _ _ (by simp; intro h; exact fun z => hTn.2.2 ⟨h.symm, z.symm⟩)).trans (hlg j hj).1
    refine g_ild2 (pc' := 8) dX7_settled_7 rfl ?_
    refine g_ald0 (pc' := 9) dX7_settled_8 rfl ?_
    refine g_callV (pc' := 12) (c_logged l wg hke2 hk) wg.s11 (by decide) wX7_logged lX7_128 rfl rfl (Nat.le_of_ble_eq_true rfl) ⟨Nat.le_of_ble_eq_true rfl, Nat.le_of_ble_eq_true rfl⟩ ⟨Nat.le_of_ble_eq_true rfl, Nat.le_of_ble_eq_true rfl⟩ dX7_settled_9 rfl (kIp ?_)
    refine g_icmpgeN (pc' := 15) (by omega) (by omega) (tgt := 33) dX7_settled_12 (by decide) rfl (fun h12 => ?_) (fun h12 => ?_)
    · refine g_ald0 (pc' := 34) dX7_settled_33 rfl ?_
      refine g_ald1 (pc' := 35) dX7_settled_34 rfl ?_
      refine g_callV (pc' := 38) (c_greatest l sg wg hn2 hN hT) wg.s11 (by decide) wX7_greatest lX7_76 rfl rfl (Nat.le_of_ble_eq_true rfl) ⟨Nat.le_of_ble_eq_true rfl, Nat.le_of_ble_eq_true rfl⟩ ⟨Nat.le_of_ble_eq_true rfl, Nat.le_of_ble_eq_true rfl⟩ dX7_settled_35 rfl (kIp ?_)
      refine g_topi (v := nI (grN (tallyN lg (min ke 200)) n)) (by rw [grN_congr (fun q hq => hP.2 q (by omega))]) ?_
      refine g_ist2 (pc' := 39) rfl (by decide) dX7_settled_38 rfl ?_
      refine g_ald1 (pc' := 40) dX7_settled_39 rfl ?_
      refine g_iconst (pc' := 41) (v := nI 0) dX7_settled_40 rfl (by decide) ?_
      refine g_callS (pc' := 44) (c_fillI l S s L R hT (by decide)) wJ7_fill_53178 lX7_58 rfl rfl (Nat.le_of_ble_eq_true rfl) ⟨Nat.le_of_ble_eq_true rfl, Nat.le_of_ble_eq_true rfl⟩ ⟨Nat.le_of_ble_eq_true rfl, Nat.le_of_ble_eq_true rfl⟩ dX7_settled_41 rfl (kV (fun J2 hJ2 => ?_))
      refine g_iconst (pc' := 45) (v := nI 0) dX7_settled_44 rfl (by decide) ?_
      refine g_ist3 (pc' := 46) rfl (by decide) dX7_settled_45 rfl ?_
      refine g_iconst (pc' := 47) (v := nI 0) dX7_settled_46 rfl (by decide) ?_
      refine g_ist4 (pc' := 49) rfl (by decide) dX7_settled_47 rfl ?_
      refine g_loop (σ := MI) (fun i J => Fr (fun t _ => t = (ta, tb)) I J ∧ ∀ s, s < 12 → J (ta, tb) s = tallyN lg i s) (fun i s => [some (.inr (.inr (some (11, k)))), some (.inr (.inr (some (ta, tb)))), some (.inl (nI (grN (tallyN lg (min ke 200)) n))), some (.inl (nI (sinceN (fun q => grN (tallyN lg q) n) (grN (tallyN lg (min ke 200)) n) i))), some (.inl (nI i))]) (fun i s => s) (min ke 200) 0 J2 (by omega) ⟨by rw [hJ2]; exact hP.1.upT (fun _ => rfl), fun q hq => by rw [hJ2, upT_s]; exact if_pos hq⟩ ?_ ?_
      · intro i s hi hP ih
        have hn2 : s (1, 0) 1 = nI n := (hP.1 _ _ (by simp; intro h; exact fun z => hTn.1 ⟨h.symm, z.symm⟩)).trans hn
        have hke2 : s (11, k) 8 = nI ke := (hP.1 _ _ (by simp; intro h; exact fun z => hTn.2.1 ⟨h.symm, z.symm⟩)).trans hke
        have hlg2 : ∀ j, j < min ke 200 → s (16, k) j = nI (lg j) := fun j hj => (hP.1 _ _ (by simp; intro h; exact fun z => hTn.2.2 ⟨h.symm, z.symm⟩)).trans (hlg j hj).1
        have hbm : grN (tallyN lg (min ke 200)) n ≤ 12 := by
          rcases Nat.eq_zero_or_pos n with h0 | h0
          · subst h0; exact Nat.zero_le _
          · exact Nat.le_trans (Nat.le_of_lt (grN_lt _ n h0)) hN
        have hbi : grN (tallyN lg i) n ≤ 12 := by
          rcases Nat.eq_zero_or_pos n with h0 | h0
          · subst h0; exact Nat.zero_le _
          · exact Nat.le_trans (Nat.le_of_lt (grN_lt _ n h0)) hN
        refine g_ild4 (pc' := 51) dX7_settled_49 rfl ?_
        refine g_ald0 (pc' := 52) dX7_settled_51 rfl ?_
        refine g_callV (pc' := 55) (c_logged l wg hke2 hk) wg.s11 (by decide) wX7_logged lX7_128 rfl rfl (Nat.le_of_ble_eq_true rfl) ⟨Nat.le_of_ble_eq_true rfl, Nat.le_of_ble_eq_true rfl⟩ ⟨Nat.le_of_ble_eq_true rfl, Nat.le_of_ble_eq_true rfl⟩ dX7_settled_52 rfl (kIp ?_)
        refine g_icmpgeN (pc' := 58) (by omega) (by omega) (tgt := 91) dX7_settled_55 (by decide) rfl (fun h55 => ?_) (fun h55 => ?_)
        · exact absurd h55 (by omega)
        · refine g_ald0 (pc' := 59) dX7_settled_58 rfl ?_
          refine g_ald1 (pc' := 60) dX7_settled_59 rfl ?_
          refine g_callV (pc' := 63) (c_greatest l sg wg hn2 hN hT) wg.s11 (by decide) wX7_greatest lX7_76 rfl rfl (Nat.le_of_ble_eq_true rfl) ⟨Nat.le_of_ble_eq_true rfl, Nat.le_of_ble_eq_true rfl⟩ ⟨Nat.le_of_ble_eq_true rfl, Nat.le_of_ble_eq_true rfl⟩ dX7_settled_60 rfl (kIp ?_)
          refine g_topi (v := nI (grN (tallyN lg i) n)) (by rw [grN_congr (fun q hq => hP.2 q (by omega))]) ?_
          refine g_ild2 (pc' := 64) dX7_settled_63 rfl ?_
          refine g_icmpeqN (pc' := 67) (by omega) (by omega) (tgt := 72) dX7_settled_64 (by decide) rfl (fun h64 => ?_) (fun h64 => ?_)
          · refine g_ald1 (pc' := 73) dX7_settled_72 rfl ?_
            refine g_ald0 (pc' := 74) dX7_settled_73 rfl ?_
            refine g_getR (pc' := 77) wg.s11 (by decide) fX7_24 wg.r11_14 dX7_settled_74 rfl ?_
            refine g_ild4 (pc' := 79) dX7_settled_77 rfl ?_
            refine g_bald (pc' := 80) (j := i) wg.s16 rfl (by omega) (by decide) (v := nI (lg i)) (hlg2 i (by omega)) dX7_settled_79 rfl ?_
            refine g_dup2 (pc' := 81) dX7_settled_80 rfl ?_
            refine g_iald (pc' := 82) (j := lg i) hT rfl (hlg i (by omega)).2 (by decide) (v := nI (ctN (fun q => decide (lg q = lg i)) i)) (hP.2 _ (hlg i (by omega)).2) dX7_settled_81 rfl ?_
            refine g_iconst (pc' := 83) (v := nI 1) dX7_settled_82 rfl (by decide) ?_
            refine g_iaddN (pc' := 84) dX7_settled_83 rfl ?_
            refine g_iast (pc' := 85) (j := lg i) hT rfl (hlg i (by omega)).2 (by decide) dX7_settled_84 rfl ?_
            refine g_inc4 (pc' := 88) rfl (by decide) (v := nI (i + 1)) (nI_1 _) dX7_settled_85 rfl ?_
            refine g_goto (tgt := 49) dX7_settled_88 (by decide) ?_
            have e : sinceN (fun q => grN (tallyN lg q) n) (grN (tallyN lg (min ke 200)) n) (i + 1) = if grN (tallyN lg i) n = grN (tallyN lg (min ke 200)) n then sinceN (fun q => grN (tallyN lg q) n) (grN (tallyN lg (min ke 200)) n) i else i + 1 := rfl
            have h := ih _ ⟨hP.1.up rfl, fun q hq => tallyN_up hP.2 hq⟩
            simp only [e] at h
            first | rw [if_pos h64] at h | rw [if_neg h64] at h
            exact h
          · refine g_ild4 (pc' := 69) dX7_settled_67 rfl ?_
            refine g_iconst (pc' := 70) (v := nI 1) dX7_settled_69 rfl (by decide) ?_
            refine g_iaddN (pc' := 71) dX7_settled_70 rfl ?_
            refine g_ist3 (pc' := 72) rfl (by decide) dX7_settled_71 rfl ?_
            refine g_ald1 (pc' := 73) dX7_settled_72 rfl ?_
            refine g_ald0 (pc' := 74) dX7_settled_73 rfl ?_
            refine g_getR (pc' := 77) wg.s11 (by decide) fX7_24 wg.r11_14 dX7_settled_74 rfl ?_
            refine g_ild4 (pc' := 79) dX7_settled_77 rfl ?_
            refine g_bald (pc' := 80) (j := i) wg.s16 rfl (by omega) (by decide) (v := nI (lg i)) (hlg2 i (by omega)) dX7_settled_79 rfl ?_
            refine g_dup2 (pc' := 81) dX7_settled_80 rfl ?_
            refine g_iald (pc' := 82) (j := lg i) hT rfl (hlg i (by omega)).2 (by decide) (v := nI (ctN (fun q => decide (lg q = lg i)) i)) (hP.2 _ (hlg i (by omega)).2) dX7_settled_81 rfl ?_
            refine g_iconst (pc' := 83) (v := nI 1) dX7_settled_82 rfl (by decide) ?_
            refine g_iaddN (pc' := 84) dX7_settled_83 rfl ?_
            refine g_iast (pc' := 85) (j := lg i) hT rfl (hlg i (by omega)).2 (by decide) dX7_settled_84 rfl ?_
            refine g_inc4 (pc' := 88) rfl (by decide) (v := nI (i + 1)) (nI_1 _) dX7_settled_85 rfl ?_
            refine g_goto (tgt := 49) dX7_settled_88 (by decide) ?_
            have e : sinceN (fun q => grN (tallyN lg q) n) (grN (tallyN lg (min ke 200)) n) (i + 1) = if grN (tallyN lg i) n = grN (tallyN lg (min ke 200)) n then sinceN (fun q => grN (tallyN lg q) n) (grN (tallyN lg (min ke 200)) n) i else i + 1 := rfl
            have h := ih _ ⟨hP.1.up rfl, fun q hq => tallyN_up hP.2 hq⟩
            simp only [e] at h
            first | rw [if_pos h64] at h | rw [if_neg h64] at h
            exact h
      · intro s hP
        have hn2 : s (1, 0) 1 = nI n := (hP.1 _ _ (by simp; intro h; exact fun z => hTn.1 ⟨h.symm, z.symm⟩)).trans hn
        have hke2 : s (11, k) 8 = nI ke := (hP.1 _ _ (by simp; intro h; exact fun z => hTn.2.1 ⟨h.symm, z.symm⟩)).trans hke
        have hlg2 : ∀ j, j < min ke 200 → s (16, k) j = nI (lg j) := fun j hj => (hP.1 _ _ (by simp; intro h; exact fun z => hTn.2.2 ⟨h.symm, z.symm⟩)).trans (hlg j hj).1
        refine g_ild4 (pc' := 51) dX7_settled_49 rfl ?_
        refine g_ald0 (pc' := 52) dX7_settled_51 rfl ?_
        refine g_callV (pc' := 55) (c_logged l wg hke2 hk) wg.s11 (by decide) wX7_logged lX7_128 rfl rfl (Nat.le_of_ble_eq_true rfl) ⟨Nat.le_of_ble_eq_true rfl, Nat.le_of_ble_eq_true rfl⟩ ⟨Nat.le_of_ble_eq_true rfl, Nat.le_of_ble_eq_true rfl⟩ dX7_settled_52 rfl (kIp ?_)
        refine g_icmpgeN (pc' := 58) (by omega) (by omega) (tgt := 91) dX7_settled_55 (by decide) rfl (fun h55 => ?_) (fun h55 => ?_)
        · refine g_ild3 (pc' := 92) dX7_settled_91 rfl ?_
          refine g_iret rfl dX7_settled_92 ?_
          exact eI ⟨rfl, hP.1⟩
        · exact absurd h55 (by omega)
    · exact absurd h12 (by omega)

def begI (I : MI) (k : Nat) (z : Int32) : MI := upT (upM (upM (upM (upM (upM I (11, k) 6 z) (11, k) 3 (nI 1)) (11, k) 5 (nI 0)) (11, k) 7 (nI 0)) (11, k) 8 (nI 0)) (12, k) (filN 12 (nI 0) (I (12, k)))
def PVr (S : Shp) (L : ML) (R : MR) (q : MI → Prop) : PO := fun r S' I' L' R' => r = none ∧ S' = S ∧ L' = L ∧ R' = R ∧ q I'
theorem c_begin (l : Launch) {S : Shp} {I : MI} {L : ML} {R : MR} {k lj : Nat} (wg : WG k S R) (z : Int32) : Ct l mX7_begin 2 0 0 [.inr (.inr (some (11, k))), .inr (.inr (some (7, lj))), .inl z] S I L R (PVm S L (upM R (11, k) 1 (some (7, lj))) (fun J => J = begI I k z)) := by
  refine Ct.of [some (.inr (.inr (some (11, k)))), some (.inr (.inr (some (7, lj)))), some (.inl z)] (by decide) rfl (Nat.le_of_ble_eq_true rfl) ?_
  refine g_ald0 (pc' := 1) dX7_begin_0 rfl ?_
  refine g_ald1 (pc' := 2) dX7_begin_1 rfl ?_
  refine g_putR (pc' := 5) wg.s11 (by decide) ⟨fX7_38, Or.inl rfl⟩ pLaw (Or.inl ⟨_, rfl⟩) dX7_begin_2 rfl ?_
  refine g_ald0 (pc' := 6) dX7_begin_5 rfl ?_
  refine g_ild2 (pc' := 7) dX7_begin_6 rfl ?_
  refine g_putI (pc' := 10) wg.s11 (by decide) ⟨fX7_42, rfl, pI⟩ dX7_begin_7 rfl ?_
  refine g_ald0 (pc' := 11) dX7_begin_10 rfl ?_
  refine g_iconst (pc' := 12) (v := nI 1) dX7_begin_11 rfl (by decide) ?_
  refine g_putI (pc' := 15) wg.s11 (by decide) ⟨fX7_46, rfl, pI⟩ dX7_begin_12 rfl ?_
  refine g_ald0 (pc' := 16) dX7_begin_15 rfl ?_
  refine g_iconst (pc' := 17) (v := nI 0) dX7_begin_16 rfl (by decide) ?_
  refine g_putI (pc' := 20) wg.s11 (by decide) ⟨fX7_49, rfl, pI⟩ dX7_begin_17 rfl ?_
  refine g_ald0 (pc' := 21) dX7_begin_20 rfl ?_
  refine g_iconst (pc' := 22) (v := nI 0) dX7_begin_21 rfl (by decide) ?_
  refine g_putI (pc' := 25) wg.s11 (by decide) ⟨fX7_52, rfl, pI⟩ dX7_begin_22 rfl ?_
  refine g_ald0 (pc' := 26) dX7_begin_25 rfl ?_
  refine g_iconst (pc' := 27) (v := nI 0) dX7_begin_26 rfl (by decide) ?_
  refine g_putI (pc' := 30) wg.s11 (by decide) ⟨fX7_55, rfl, pI⟩ dX7_begin_27 rfl ?_
  refine g_ald0 (pc' := 31) dX7_begin_30 rfl ?_
  refine g_getR (pc' := 34) wg.s11 (by decide) fX7_9 (v := some (12, k)) (by simp [upM, wg.r11_10]) dX7_begin_31 rfl ?_
  refine g_iconst (pc' := 35) (v := nI 0) dX7_begin_34 rfl (by decide) ?_
  refine g_callS (pc' := 38) (c_fillI l _ _ _ _ wg.s12 (by decide)) wJ7_fill_53178 lX7_58 rfl rfl (Nat.le_of_ble_eq_true rfl) ⟨Nat.le_of_ble_eq_true rfl, Nat.le_of_ble_eq_true rfl⟩ ⟨Nat.le_of_ble_eq_true rfl, Nat.le_of_ble_eq_true rfl⟩ dX7_begin_35 rfl (kV (fun J hJ => ?_))
  refine g_vret rfl dX7_begin_38 ?_
  exact eV (by rw [hJ]; unfold begI; congr 2)

def folI (I : MI) (k k2 : Nat) : MI := upM (upM (upM I (11, k) 3 (I (11, k2) 3)) (11, k) 4 (I (11, k2) 4)) (11, k) 5 (I (11, k2) 5)
theorem c_followLawOf (l : Launch) {S : Shp} {I : MI} {L : ML} {R : MR} {k k2 lj : Nat} (hne : ¬ k2 = k) (wg : WG k S R) (wg2 : WG k2 S R) (hL : R (11, k2) 1 = some (7, lj)) : Ct l mX7_followLawOf 1 0 0 [.inr (.inr (some (11, k))), .inr (.inr (some (11, k2)))] S I L R (PVm S L (upM R (11, k) 1 (some (7, lj))) (fun J => J = folI I k k2)) := by
  refine Ct.of [some (.inr (.inr (some (11, k)))), some (.inr (.inr (some (11, k2))))] (by decide) rfl (Nat.le_of_ble_eq_true rfl) ?_
  refine g_ald0 (pc' := 1) dX7_followLawOf_0 rfl ?_
  refine g_ald1 (pc' := 2) dX7_followLawOf_1 rfl ?_
  refine g_getR (pc' := 5) wg2.s11 (by decide) fX7_38 hL dX7_followLawOf_2 rfl ?_
  refine g_putR (pc' := 8) wg.s11 (by decide) ⟨fX7_38, Or.inl rfl⟩ pLaw (Or.inl ⟨_, rfl⟩) dX7_followLawOf_5 rfl ?_
  refine g_ald0 (pc' := 9) dX7_followLawOf_8 rfl ?_
  refine g_ald1 (pc' := 10) dX7_followLawOf_9 rfl ?_
  refine g_getI (pc' := 13) wg2.s11 (by decide) fX7_46 rfl dX7_followLawOf_10 rfl ?_
  refine g_putI (pc' := 16) wg.s11 (by decide) ⟨fX7_46, rfl, pI⟩ dX7_followLawOf_13 rfl ?_
  refine g_ald0 (pc' := 17) dX7_followLawOf_16 rfl ?_
  refine g_ald1 (pc' := 18) dX7_followLawOf_17 rfl ?_
  refine g_getI (pc' := 21) wg2.s11 (by decide) fX7_64 (v := I (11, k2) 4) (by simp [upM, hne]) dX7_followLawOf_18 rfl ?_
  refine g_putI (pc' := 24) wg.s11 (by decide) ⟨fX7_64, rfl, pI⟩ dX7_followLawOf_21 rfl ?_
  refine g_ald0 (pc' := 25) dX7_followLawOf_24 rfl ?_
  refine g_ald1 (pc' := 26) dX7_followLawOf_25 rfl ?_
  refine g_getI (pc' := 29) wg2.s11 (by decide) fX7_49 (v := I (11, k2) 5) (by simp [upM, hne]) dX7_followLawOf_26 rfl ?_
  refine g_putI (pc' := 32) wg.s11 (by decide) ⟨fX7_49, rfl, pI⟩ dX7_followLawOf_29 rfl ?_
  refine g_vret rfl dX7_followLawOf_32 ?_
  exact eV rfl
