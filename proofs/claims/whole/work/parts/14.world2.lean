/-! World: the order -/
/-- a loop whose count falls -/
theorem g_loopD {l : Launch} {mi : MInf} {Rm : Room} {Qf : QF} {k n pc : Nat} {S : Shp} {L : ML} {R : MR} {st : List PV} {σ : Type} (P : Nat → σ → Prop) (lvf : Nat → σ → List (Option PV)) (If : Nat → σ → MI) (a0 : Nat) (s0 : σ) (h0 : P a0 s0)
    (step : ∀ a s, P a s → (∀ a' s', a' < a → P a' s' → G l mi Rm Qf k n pc (lvf a' s') st S (If a' s') L R) → G l mi Rm Qf k n pc (lvf a s) st S (If a s) L R) : G l mi Rm Qf k n pc (lvf a0 s0) st S (If a0 s0) L R := by
  have key : ∀ (j a : Nat) (s : σ), a ≤ j → P a s → G l mi Rm Qf k n pc (lvf a s) st S (If a s) L R := by
    intro j
    induction j with
    | zero => exact fun a s ha hP => step a s hP (fun a' s' hlt _ => absurd hlt (by omega))
    | succ j ih => exact fun a s ha hP => step a s hP (fun a' s' hlt h' => ih a' s' (by omega) h')
  exact key a0 a0 s0 (Nat.le_refl _) h0
def grN (f : Nat → Int32) : Nat → Nat
  | 0 => 0
  | s + 1 => if s = 0 then 0 else if f (grN f s) < f s then s else grN f s
theorem grN_lt (f : Nat → Int32) : ∀ n, 0 < n → grN f n < n
  | 0, h => absurd h (by omega)
  | s + 1, _ => by
    unfold grN
    by_cases h0 : s = 0
    · rw [if_pos h0]; omega
    · rw [if_neg h0]
      have := grN_lt f s (by omega)
      split <;> omega
theorem grN_s {f : Nat → Int32} {s : Nat} (h : 1 ≤ s) : grN f (s + 1) = if f (grN f s) < f s then s else grN f s := by
  rw [grN, if_neg (by omega)]
def insP (f : Nat → Int32) (o : Nat → Nat) (s : Nat) : Nat → Nat
  | 0 => 0
  | a + 1 => if f (o a) < f s then insP f o s a else a + 1
def rkO (f : Nat → Int32) : Nat → Nat → Nat
  | 0 => fun _ => 0
  | s + 1 => fun p => if p = insP f (rkO f s) s s then s else if insP f (rkO f s) s s < p then rkO f s (p - 1) else rkO f s p
theorem insP_le (f : Nat → Int32) (o : Nat → Nat) (s : Nat) : ∀ a, insP f o s a ≤ a
  | 0 => Nat.le_refl _
  | a + 1 => by
    unfold insP
    have := insP_le f o s a
    split <;> omega
theorem rkO_lt (f : Nat → Int32) : ∀ s p, p < s → rkO f s p < s
  | 0, p, h => absurd h (by omega)
  | s + 1, p, h => by
    have h1 := insP_le f (rkO f s) s s
    unfold rkO
    by_cases e : p = insP f (rkO f s) s s
    · rw [if_pos e]; omega
    · rw [if_neg e]
      by_cases e2 : insP f (rkO f s) s s < p
      · rw [if_pos e2]
        have := rkO_lt f s (p - 1) (by omega)
        omega
      · rw [if_neg e2]
        have := rkO_lt f s p (by omega)
        omega
theorem c_greatest (l : Launch) {S : Shp} {I : MI} {L : ML} {R : MR} (sg : SG S R) {k n : Nat} (wg : WG k S R) (hn : I (1, 0) 1 = nI n) (hN : n ≤ 12) {ta tb : Nat} (hT : S (ta, tb) = (1, 12)) : Ct l mX7_greatest 1 0 0 [.inr (.inr (some (11, k))), .inr (.inr (some (ta, tb)))] S I L R (PIp S I L R (nI (grN (I (ta, tb)) n))) := by
  refine Ct.of [some (.inr (.inr (some (11, k)))), some (.inr (.inr (some (ta, tb)))), none, none] (by decide) rfl (Nat.le_of_ble_eq_true rfl) ?_
  refine g_iconst (pc' := 1) (v := nI 0) dX7_greatest_0 rfl (by decide) ?_
  refine g_ist2 (pc' := 2) rfl (by decide) dX7_greatest_1 rfl ?_
  refine g_iconst (pc' := 3) (v := nI 1) dX7_greatest_2 rfl (by decide) ?_
  refine g_ist3 (pc' := 4) rfl (by decide) dX7_greatest_3 rfl ?_
  refine g_loop (σ := Unit) (fun i _ => 1 ≤ i) (fun i s => [some (.inr (.inr (some (11, k)))), some (.inr (.inr (some (ta, tb)))), some (.inl (nI (grN (I (ta, tb)) i))), some (.inl (nI i))]) (fun i s => I) (max n 1) 1 () (by omega) (Nat.le_refl 1) ?_ ?_
  · intro i s hi hP ih
    refine g_ild3 (pc' := 5) dX7_greatest_4 rfl ?_
    refine g_ald0 (pc' := 6) dX7_greatest_5 rfl ?_
    refine g_getR (pc' := 9) wg.s11 (by decide) fX7_33 wg.r11_0 dX7_greatest_6 rfl ?_
    refine g_getI (pc' := 12) sg.s1 (by decide) fX7_67 hn dX7_greatest_9 rfl ?_
    refine g_icmpgeN (pc' := 15) (by omega) (by omega) (tgt := 36) dX7_greatest_12 (by decide) rfl (fun h12 => ?_) (fun h12 => ?_)
    · exact absurd h12 (by omega)
    · refine g_ald1 (pc' := 16) dX7_greatest_15 rfl ?_
      refine g_ild3 (pc' := 17) dX7_greatest_16 rfl ?_
      refine g_iald (pc' := 18) (j := i) hT rfl (by omega) (by decide) rfl dX7_greatest_17 rfl ?_
      refine g_ald1 (pc' := 19) dX7_greatest_18 rfl ?_
      refine g_ild2 (pc' := 20) dX7_greatest_19 rfl ?_
      refine g_iald (pc' := 21) (j := grN (I (ta, tb)) i) hT rfl (Nat.lt_of_lt_of_le (grN_lt _ i (by omega)) (by omega)) (by decide) rfl dX7_greatest_20 rfl ?_
      refine g_icmple (pc' := 24) (tgt := 28) dX7_greatest_21 (by decide) rfl (fun h21 => ?_) (fun h21 => ?_)
      · refine g_ild2 (pc' := 29) dX7_greatest_28 rfl ?_
        refine g_ist2 (pc' := 30) rfl (by decide) dX7_greatest_29 rfl ?_
        refine g_inc3 (pc' := 33) rfl (by decide) (v := nI (i + 1)) (nI_1 _) dX7_greatest_30 rfl ?_
        refine g_goto (tgt := 4) dX7_greatest_33 (by decide) ?_
        have e := grN_s (f := I (ta, tb)) (s := i) (by omega)
        have h := ih () (by omega)
        simp only [e] at h
        first | rw [if_pos (Int32.not_le.mp h21)] at h | rw [if_neg (Int32.not_lt.mpr h21)] at h
        exact h
      · refine g_ild3 (pc' := 25) dX7_greatest_24 rfl ?_
        refine g_goto (tgt := 29) dX7_greatest_25 (by decide) ?_
        refine g_ist2 (pc' := 30) rfl (by decide) dX7_greatest_29 rfl ?_
        refine g_inc3 (pc' := 33) rfl (by decide) (v := nI (i + 1)) (nI_1 _) dX7_greatest_30 rfl ?_
        refine g_goto (tgt := 4) dX7_greatest_33 (by decide) ?_
        have e := grN_s (f := I (ta, tb)) (s := i) (by omega)
        have h := ih () (by omega)
        simp only [e] at h
        first | rw [if_pos (Int32.not_le.mp h21)] at h | rw [if_neg (Int32.not_lt.mpr h21)] at h
        exact h
  · intro s hP
    refine g_ild3 (pc' := 5) dX7_greatest_4 rfl ?_
    refine g_ald0 (pc' := 6) dX7_greatest_5 rfl ?_
    refine g_getR (pc' := 9) wg.s11 (by decide) fX7_33 wg.r11_0 dX7_greatest_6 rfl ?_
    refine g_getI (pc' := 12) sg.s1 (by decide) fX7_67 hn dX7_greatest_9 rfl ?_
    refine g_icmpgeN (pc' := 15) (by omega) (by omega) (tgt := 36) dX7_greatest_12 (by decide) rfl (fun h12 => ?_) (fun h12 => ?_)
    · refine g_ild2 (pc' := 37) dX7_greatest_36 rfl ?_
      refine g_iret rfl dX7_greatest_37 ?_
      exact eIp (by
        rcases Nat.eq_zero_or_pos n with h0 | h0
        · subst h0; rfl
        · rw [Nat.max_eq_left h0])
    · exact absurd h12 (by omega)

theorem c_first (l : Launch) {S : Shp} {I : MI} {L : ML} {R : MR} (sg : SG S R) {k n : Nat} (wg : WG k S R) (hn : I (1, 0) 1 = nI n) (hN : n ≤ 12) : Ct l mX7_first 2 0 0 [.inr (.inr (some (11, k)))] S I L R (PIp S I L R (if n = 0 then (-2) else nI (grN (I (12, k)) n))) := by
  refine Ct.of [some (.inr (.inr (some (11, k))))] (by decide) rfl (Nat.le_of_ble_eq_true rfl) ?_
  refine g_ald0 (pc' := 1) dX7_first_0 rfl ?_
  refine g_getR (pc' := 4) wg.s11 (by decide) fX7_33 wg.r11_0 dX7_first_1 rfl ?_
  refine g_getI (pc' := 7) sg.s1 (by decide) fX7_67 hn dX7_first_4 rfl ?_
  refine g_ifneN (pc' := 10) (by omega) (tgt := 15) dX7_first_7 (by decide) rfl (fun h7 => ?_) (fun h7 => ?_)
  · refine g_ald0 (pc' := 16) dX7_first_15 rfl ?_
    refine g_ald0 (pc' := 17) dX7_first_16 rfl ?_
    refine g_getR (pc' := 20) wg.s11 (by decide) fX7_9 wg.r11_10 dX7_first_17 rfl ?_
    refine g_callV (pc' := 23) (c_greatest l sg wg hn hN wg.s12) wg.s11 (by decide) wX7_greatest lX7_76 rfl rfl (by decide) ⟨Nat.le_of_ble_eq_true rfl, Nat.le_of_ble_eq_true rfl⟩ ⟨Nat.le_of_ble_eq_true rfl, Nat.le_of_ble_eq_true rfl⟩ dX7_first_20 rfl (kIp ?_)
    refine g_iret rfl dX7_first_23 ?_
    first | exact eIp (by rw [if_pos (by omega)]) | exact eIp (by rw [if_neg (by omega)])
  · refine g_bipush (pc' := 12) (v := (-2)) dX7_first_10 rfl (by decide) ?_
    refine g_goto (tgt := 23) dX7_first_12 (by decide) ?_
    refine g_iret rfl dX7_first_23 ?_
    first | exact eIp (by rw [if_pos (by omega)]) | exact eIp (by rw [if_neg (by omega)])

def psI (sh ca un : Int32) (n : Nat) (p : Int32) : Int32 := if sh = 0 then nI 0 else if sh = nI 2 ∧ ca < un then nI (n - 1) - p else p
theorem c_placeSeen (l : Launch) {S : Shp} {I : MI} {L : ML} {R : MR} (sg : SG S R) {k n : Nat} (wg : WG k S R) (hn : I (1, 0) 1 = nI n) (hN : n ≤ 12) {j : Nat} (hj : j < n) : Ct l mX7_placeSeen 1 0 0 [.inr (.inr (some (11, k))), .inl (nI j)] S I L R (PIp S I L R (psI (I (11, k) 3) (I (11, k) 7) (I (11, k) 4) n (I (14, k) j))) := by
  refine Ct.of [some (.inr (.inr (some (11, k)))), some (.inl (nI j))] (by decide) rfl (Nat.le_of_ble_eq_true rfl) ?_
  refine g_ald0 (pc' := 1) dX7_placeSeen_0 rfl ?_
  refine g_getI (pc' := 4) wg.s11 (by decide) fX7_46 rfl dX7_placeSeen_1 rfl ?_
  refine g_ifne (pc' := 7) (tgt := 9) dX7_placeSeen_4 (by decide) rfl (fun h4 => ?_) (fun h4 => ?_)
  · refine g_ald0 (pc' := 10) dX7_placeSeen_9 rfl ?_
    refine g_getI (pc' := 13) wg.s11 (by decide) fX7_46 rfl dX7_placeSeen_10 rfl ?_
    refine g_iconst (pc' := 14) (v := nI 2) dX7_placeSeen_13 rfl (by decide) ?_
    refine g_icmpne (pc' := 17) (tgt := 47) dX7_placeSeen_14 (by decide) rfl (fun h14 => ?_) (fun h14 => ?_)
    · refine g_ald0 (pc' := 48) dX7_placeSeen_47 rfl ?_
      refine g_getR (pc' := 51) wg.s11 (by decide) fX7_18 wg.r11_12 dX7_placeSeen_48 rfl ?_
      refine g_ild1 (pc' := 52) dX7_placeSeen_51 rfl ?_
      refine g_iald (pc' := 53) (j := j) wg.s14 rfl (by omega) (by decide) rfl dX7_placeSeen_52 rfl ?_
      refine g_iret rfl dX7_placeSeen_53 ?_
      exact eIp (by
        unfold psI
        first
        | rw [if_pos h4]
        | (rw [if_neg h4]
           first
           | rw [if_pos ⟨by assumption, Int32.not_le.mp (by assumption)⟩]
           | (rw [if_neg]
              rintro ⟨ha, hb⟩
              first | exact absurd ha (by assumption) | exact absurd hb (Int32.not_lt.mpr (by assumption)))))
    · refine g_ald0 (pc' := 18) dX7_placeSeen_17 rfl ?_
      refine g_getI (pc' := 21) wg.s11 (by decide) fX7_52 rfl dX7_placeSeen_18 rfl ?_
      refine g_ald0 (pc' := 22) dX7_placeSeen_21 rfl ?_
      refine g_getI (pc' := 25) wg.s11 (by decide) fX7_64 rfl dX7_placeSeen_22 rfl ?_
      refine g_icmpge (pc' := 28) (tgt := 47) dX7_placeSeen_25 (by decide) rfl (fun h25 => ?_) (fun h25 => ?_)
      · refine g_ald0 (pc' := 48) dX7_placeSeen_47 rfl ?_
        refine g_getR (pc' := 51) wg.s11 (by decide) fX7_18 wg.r11_12 dX7_placeSeen_48 rfl ?_
        refine g_ild1 (pc' := 52) dX7_placeSeen_51 rfl ?_
        refine g_iald (pc' := 53) (j := j) wg.s14 rfl (by omega) (by decide) rfl dX7_placeSeen_52 rfl ?_
        refine g_iret rfl dX7_placeSeen_53 ?_
        exact eIp (by
          unfold psI
          first
          | rw [if_pos h4]
          | (rw [if_neg h4]
             first
             | rw [if_pos ⟨by assumption, Int32.not_le.mp (by assumption)⟩]
             | (rw [if_neg]
                rintro ⟨ha, hb⟩
                first | exact absurd ha (by assumption) | exact absurd hb (Int32.not_lt.mpr (by assumption)))))
      · refine g_ald0 (pc' := 29) dX7_placeSeen_28 rfl ?_
        refine g_getR (pc' := 32) wg.s11 (by decide) fX7_33 wg.r11_0 dX7_placeSeen_29 rfl ?_
        refine g_getI (pc' := 35) sg.s1 (by decide) fX7_67 hn dX7_placeSeen_32 rfl ?_
        refine g_iconst (pc' := 36) (v := nI 1) dX7_placeSeen_35 rfl (by decide) ?_
        refine g_isubN (pc' := 37) (by omega) dX7_placeSeen_36 rfl ?_
        refine g_ald0 (pc' := 38) dX7_placeSeen_37 rfl ?_
        refine g_getR (pc' := 41) wg.s11 (by decide) fX7_18 wg.r11_12 dX7_placeSeen_38 rfl ?_
        refine g_ild1 (pc' := 42) dX7_placeSeen_41 rfl ?_
        refine g_iald (pc' := 43) (j := j) wg.s14 rfl (by omega) (by decide) rfl dX7_placeSeen_42 rfl ?_
        refine g_isub (pc' := 44) dX7_placeSeen_43 rfl ?_
        refine g_goto (tgt := 53) dX7_placeSeen_44 (by decide) ?_
        refine g_iret rfl dX7_placeSeen_53 ?_
        exact eIp (by
          unfold psI
          first
          | rw [if_pos h4]
          | (rw [if_neg h4]
             first
             | rw [if_pos ⟨by assumption, Int32.not_le.mp (by assumption)⟩]
             | (rw [if_neg]
                rintro ⟨ha, hb⟩
                first | exact absurd ha (by assumption) | exact absurd hb (Int32.not_lt.mpr (by assumption)))))
  · refine g_iconst (pc' := 8) (v := nI 0) dX7_placeSeen_7 rfl (by decide) ?_
    refine g_iret rfl dX7_placeSeen_8 ?_
    exact eIp (by
      unfold psI
      first
      | rw [if_pos h4]
      | (rw [if_neg h4]
         first
         | rw [if_pos ⟨by assumption, Int32.not_le.mp (by assumption)⟩]
         | (rw [if_neg]
            rintro ⟨ha, hb⟩
            first | exact absurd ha (by assumption) | exact absurd hb (Int32.not_lt.mpr (by assumption)))))

theorem nI_m1 {a : Nat} (h : 0 < a) : nI a + Int32.ofInt (-1) = nI (a - 1) := by
  obtain ⟨b, rfl⟩ : ∃ b, a = b + 1 := ⟨a - 1, by omega⟩
  exact pk_m1 b
theorem c_rank (l : Launch) {S : Shp} {I : MI} {L : ML} {R : MR} {ta tb ua ub n : Nat} (hT : S (ta, tb) = (1, 12)) (hU : S (ua, ub) = (1, 12)) (hne : ¬ (ta, tb) = (ua, ub)) (hN : n ≤ 12) : Ct l mX7_rank 1 0 0 [.inr (.inr (some (ta, tb))), .inl (nI n), .inr (.inr (some (ua, ub)))] S I L R (PVm S L R (fun J => Fr (fun t _ => t = (ua, ub)) I J ∧ ∀ p, p < n → J (ua, ub) p = nI (rkO (I (ta, tb)) n p))) := by
  refine Ct.of [some (.inr (.inr (some (ta, tb)))), some (.inl (nI n)), some (.inr (.inr (some (ua, ub)))), none, none] (by decide) rfl (Nat.le_of_ble_eq_true rfl) ?_
  refine g_iconst (pc' := 1) (v := nI 0) dX7_rank_0 rfl (by decide) ?_
  refine g_ist3 (pc' := 2) rfl (by decide) dX7_rank_1 rfl ?_
  refine G.lsub [some (.inr (.inr (some (ta, tb)))), some (.inl (nI n)), some (.inr (.inr (some (ua, ub)))), some (.inl (nI 0)), none] (by intro j v; rcases j with _ | _ | _ | _ | _ | j <;> simp) ?_
  refine g_loop (σ := MI) (fun i J => Fr (fun t _ => t = (ua, ub)) I J ∧ ∀ p, p < i → J (ua, ub) p = nI (rkO (I (ta, tb)) i p)) (fun i s => [some (.inr (.inr (some (ta, tb)))), some (.inl (nI n)), some (.inr (.inr (some (ua, ub)))), some (.inl (nI i)), none]) (fun i s => s) n 0 I (by omega) ⟨Fr.rf, fun p h => absurd h (by omega)⟩ ?_ ?_
  · intro i s hi hP ih0
    have ih : ∀ s', (Fr (fun t _ => t = (ua, ub)) I s' ∧ ∀ p, p < i + 1 → s' (ua, ub) p = nI (rkO (I (ta, tb)) (i + 1) p)) → ∀ {x : Option PV}, G l mX7_rank (rmd 1 0 0) (QM (PVm S L R (fun J => Fr (fun t _ => t = (ua, ub)) I J ∧ ∀ p, p < n → J (ua, ub) p = nI (rkO (I (ta, tb)) n p))) 0 0) 0 0 2 [some (.inr (.inr (some (ta, tb)))), some (.inl (nI n)), some (.inr (.inr (some (ua, ub)))), some (.inl (nI (i + 1))), x] [] S s' L R := fun s' h x => G.lsub _ (by intro j v; rcases j with _ | _ | _ | _ | _ | j <;> simp) (ih0 s' h)
    refine g_ild3 (pc' := 3) dX7_rank_2 rfl ?_
    refine g_ild1 (pc' := 4) dX7_rank_3 rfl ?_
    refine g_icmpgeN (pc' := 7) (by omega) (by omega) (tgt := 56) dX7_rank_4 (by decide) rfl (fun h4 => ?_) (fun h4 => ?_)
    · exact absurd h4 (by omega)
    · refine g_ild3 (pc' := 8) dX7_rank_7 rfl ?_
      refine g_ist4 (pc' := 10) rfl (by decide) dX7_rank_8 rfl ?_
      refine g_loopD (σ := MI) (fun a J => Fr (fun t _ => t = (ua, ub)) I J ∧ (∀ p, p < a → J (ua, ub) p = nI (rkO (I (ta, tb)) i p)) ∧ (∀ p, a < p → p ≤ i → J (ua, ub) p = nI (rkO (I (ta, tb)) i (p - 1))) ∧ a ≤ i ∧ insP (I (ta, tb)) (rkO (I (ta, tb)) i) i i = insP (I (ta, tb)) (rkO (I (ta, tb)) i) i a) (fun a J => [some (.inr (.inr (some (ta, tb)))), some (.inl (nI n)), some (.inr (.inr (some (ua, ub)))), some (.inl (nI i)), some (.inl (nI a))]) (fun a J => J) i s ⟨hP.1, hP.2, fun p h1 h2 => absurd h1 (by omega), Nat.le_refl _, rfl⟩ ?_
      intro a J hQ ihD
      have hai := hQ.2.2.2.1
      refine g_ild4 (pc' := 12) dX7_rank_10 rfl ?_
      refine g_ifleN (pc' := 15) (by omega) (tgt := 45) dX7_rank_12 (by decide) rfl (fun h12 => ?_) (fun h12 => ?_)
      · have e0 : insP (I (ta, tb)) (rkO (I (ta, tb)) i) i a = a := by
          cases a with
          | zero => rfl
          | succ a => unfold insP; rw [if_neg]; first | exact Int32.not_lt.mpr (by assumption) | omega
        refine g_ald2 (pc' := 46) dX7_rank_45 rfl ?_
        refine g_ild4 (pc' := 48) dX7_rank_46 rfl ?_
        refine g_ild3 (pc' := 49) dX7_rank_48 rfl ?_
        refine g_iast (pc' := 50) (j := a) hU rfl (by omega) (by decide) dX7_rank_49 rfl ?_
        refine g_inc3 (pc' := 53) rfl (by decide) (v := nI (i + 1)) (nI_1 _) dX7_rank_50 rfl ?_
        refine g_goto (tgt := 2) dX7_rank_53 (by decide) ?_
        refine ih _ ⟨hQ.1.up rfl, fun p hp => ?_⟩
        have hr : rkO (I (ta, tb)) (i + 1) p = if p = a then i else if a < p then rkO (I (ta, tb)) i (p - 1) else rkO (I (ta, tb)) i p := by
          show (if p = insP (I (ta, tb)) (rkO (I (ta, tb)) i) i i then i else _) = _
          rw [hQ.2.2.2.2, e0]
        rw [hr]
        by_cases e1 : p = a
        · subst e1; rw [upM_s, if_pos rfl]
        · rw [upM_k _ _ e1, if_neg e1]
          by_cases e2 : a < p
          · rw [if_pos e2]; exact hQ.2.2.1 p e2 (by omega)
          · rw [if_neg e2]; exact hQ.2.1 p (by omega)
      · refine g_ald0 (pc' := 16) dX7_rank_15 rfl ?_
        refine g_ald2 (pc' := 17) dX7_rank_16 rfl ?_
        refine g_ild4 (pc' := 19) dX7_rank_17 rfl ?_
        refine g_iconst (pc' := 20) (v := nI 1) dX7_rank_19 rfl (by decide) ?_
        refine g_isubN (pc' := 21) (by omega) dX7_rank_20 rfl ?_
        refine g_iald (pc' := 22) (j := a - 1) hU rfl (by omega) (by decide) (hQ.2.1 (a - 1) (by omega)) dX7_rank_21 rfl ?_
        refine g_iald (pc' := 23) (j := rkO (I (ta, tb)) i (a - 1)) hT rfl (Nat.lt_of_lt_of_le (rkO_lt _ i (a - 1) (by omega)) (by omega)) (by decide) (hQ.1 _ _ hne) dX7_rank_22 rfl ?_
        refine g_ald0 (pc' := 24) dX7_rank_23 rfl ?_
        refine g_ild3 (pc' := 25) dX7_rank_24 rfl ?_
        refine g_iald (pc' := 26) (j := i) hT rfl (by omega) (by decide) (hQ.1 _ _ hne) dX7_rank_25 rfl ?_
        refine g_icmpge (pc' := 29) (tgt := 45) dX7_rank_26 (by decide) rfl (fun h26 => ?_) (fun h26 => ?_)
        · have e0 : insP (I (ta, tb)) (rkO (I (ta, tb)) i) i a = a := by
            cases a with
            | zero => rfl
            | succ a => unfold insP; rw [if_neg]; first | exact Int32.not_lt.mpr (by assumption) | omega
          refine g_ald2 (pc' := 46) dX7_rank_45 rfl ?_
          refine g_ild4 (pc' := 48) dX7_rank_46 rfl ?_
          refine g_ild3 (pc' := 49) dX7_rank_48 rfl ?_
          refine g_iast (pc' := 50) (j := a) hU rfl (by omega) (by decide) dX7_rank_49 rfl ?_
          refine g_inc3 (pc' := 53) rfl (by decide) (v := nI (i + 1)) (nI_1 _) dX7_rank_50 rfl ?_
          refine g_goto (tgt := 2) dX7_rank_53 (by decide) ?_
          refine ih _ ⟨hQ.1.up rfl, fun p hp => ?_⟩
          have hr : rkO (I (ta, tb)) (i + 1) p = if p = a then i else if a < p then rkO (I (ta, tb)) i (p - 1) else rkO (I (ta, tb)) i p := by
            show (if p = insP (I (ta, tb)) (rkO (I (ta, tb)) i) i i then i else _) = _
            rw [hQ.2.2.2.2, e0]
          rw [hr]
          by_cases e1 : p = a
          · subst e1; rw [upM_s, if_pos rfl]
          · rw [upM_k _ _ e1, if_neg e1]
            by_cases e2 : a < p
            · rw [if_pos e2]; exact hQ.2.2.1 p e2 (by omega)
            · rw [if_neg e2]; exact hQ.2.1 p (by omega)
        · refine g_ald2 (pc' := 30) dX7_rank_29 rfl ?_
          refine g_ild4 (pc' := 32) dX7_rank_30 rfl ?_
          refine g_ald2 (pc' := 33) dX7_rank_32 rfl ?_
          refine g_ild4 (pc' := 35) dX7_rank_33 rfl ?_
          refine g_iconst (pc' := 36) (v := nI 1) dX7_rank_35 rfl (by decide) ?_
          refine g_isubN (pc' := 37) (by omega) dX7_rank_36 rfl ?_
          refine g_iald (pc' := 38) (j := a - 1) hU rfl (by omega) (by decide) (hQ.2.1 (a - 1) (by omega)) dX7_rank_37 rfl ?_
          refine g_iast (pc' := 39) (j := a) hU rfl (by omega) (by decide) dX7_rank_38 rfl ?_
          refine g_inc4 (pc' := 42) rfl (by decide) (v := nI (a - 1)) (nI_m1 (by omega)) dX7_rank_39 rfl ?_
          refine g_goto (tgt := 10) dX7_rank_42 (by decide) ?_
          refine ihD (a - 1) _ (by omega) ⟨hQ.1.up rfl, fun p hp => ?_, fun p hp hp2 => ?_, by omega, ?_⟩
          · rw [upM_k _ _ (by omega)]; exact hQ.2.1 p (by omega)
          · by_cases e1 : p = a
            · subst e1; rw [upM_s]
            · rw [upM_k _ _ e1]; exact hQ.2.2.1 p (by omega) hp2
          · rw [hQ.2.2.2.2]
            obtain ⟨b, rfl⟩ : ∃ b, a = b + 1 := ⟨a - 1, by omega⟩
            simp only [Nat.add_sub_cancel] at h26 ⊢
            rw [insP, if_pos (Int32.not_le.mp h26)]
  · intro s hP
    refine g_ild3 (pc' := 3) dX7_rank_2 rfl ?_
    refine g_ild1 (pc' := 4) dX7_rank_3 rfl ?_
    refine g_icmpgeN (pc' := 7) (by omega) (by omega) (tgt := 56) dX7_rank_4 (by decide) rfl (fun h4 => ?_) (fun h4 => ?_)
    · refine g_vret rfl dX7_rank_56 ?_
      exact eV hP
    · exact absurd h4 (by omega)
