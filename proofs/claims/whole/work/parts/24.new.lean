/-! Arrays.copyOf, and what is new -/
/-- a new int array u of n cells is given back, its cells as q says -/
def PNew (u : Tok) (n : Nat) (q : (Nat → Int32) → Prop) (S : Shp) (I : MI) (L : ML) (R : MR) : PO := fun r S' I' L' R' => r = some (.inr (.inr (some u))) ∧ S' = upT S u (1, n) ∧ (∃ f, I' = upT I u f ∧ q f) ∧ L' = L ∧ R' = upT R u (fun _ => none)

theorem upT_upT {α : Type} (I : Tok → α) (t : Tok) (f g : α) : upT (upT I t f) t g = upT I t g := by
  funext t'
  by_cases e : t' = t
  · subst e; rw [upT_s, upT_s]
  · rw [upT_n _ e, upT_n _ e, upT_n _ e]
theorem c_copyOf (l : Launch) {S : Shp} {I : MI} {L : ML} {R : MR} {ta tb ua ub l0 n : Nat} (hu : (S (ua, ub)).1 = 0) (hS : S (ta, tb) = (1, l0)) (h0 : l0 ≤ 1000) (hn : n ≤ 1000) : Ct l mJ7_copyOf_59c91 2 1 n [.inr (.inr (some (ta, tb))), .inl (nI n)] S I L R (PNew (ua, ub) n (fun f => ∀ i, i < n → f i = if i < l0 then I (ta, tb) i else 0) S I L R) := by
  have hne : (ta, tb) ≠ (ua, ub) := fun e => by rw [← e, hS] at hu; cases hu
  refine Ct.of [some (.inr (.inr (some (ta, tb)))), some (.inl (nI n)), none] (by decide) rfl (Nat.le_of_ble_eq_true rfl) ?_
  refine g_ild1 (pc' := 1) dJ7_copyOf_59c91_0 rfl ?_
  refine g_ald0 (pc' := 2) dJ7_copyOf_59c91_1 rfl ?_
  refine g_alen (pc' := 3) (by decide) hS dJ7_copyOf_59c91_2 rfl ?_
  refine g_icmpneN (pc' := 6) (by omega) (by omega) (tgt := 14) dJ7_copyOf_59c91_3 (by decide) rfl (fun h3 => ?_) (fun h3 => ?_)
  · refine g_ild1 (pc' := 15) dJ7_copyOf_59c91_14 rfl ?_
    refine g_newI (pc' := 17) (len := n) (ua, ub) hu rfl (by omega) aw_int (by simp [rmd]) (by simp [rmd]) dJ7_copyOf_59c91_15 rfl ?_
    have hS2 : upT S (ua, ub) (1, n) (ta, tb) = (1, l0) := by rw [upT_n _ hne]; exact hS
    refine g_ast2 (pc' := 18) rfl (by decide) dJ7_copyOf_59c91_17 rfl ?_
    refine g_ald0 (pc' := 19) dJ7_copyOf_59c91_18 rfl ?_
    refine g_iconst (pc' := 20) (v := nI 0) dJ7_copyOf_59c91_19 rfl (by decide) ?_
    refine g_ald2 (pc' := 21) dJ7_copyOf_59c91_20 rfl ?_
    refine g_iconst (pc' := 22) (v := nI 0) dJ7_copyOf_59c91_21 rfl (by decide) ?_
    refine g_ald0 (pc' := 23) dJ7_copyOf_59c91_22 rfl ?_
    refine g_alen (pc' := 24) (by decide) hS2 dJ7_copyOf_59c91_23 rfl ?_
    refine g_ild1 (pc' := 25) dJ7_copyOf_59c91_24 rfl ?_
    refine g_callS (pc' := 28) (c_J9_min l _ _ _ _ _ _) wJ9_min_7cf53 lJ7_304 rfl rfl (Nat.le_of_ble_eq_true rfl) ⟨Nat.le_of_ble_eq_true rfl, Nat.le_of_ble_eq_true rfl⟩ ⟨by simp [rmd], by simp [rmd]⟩ dJ7_copyOf_59c91_25 rfl (kIp ?_)
    refine g_copyI (pc' := 31) (t := (ta, tb)) (u := (ua, ub)) (l0 := l0) (l1 := n) (a := 0) (b := 0) (d := min l0 n) hS2 (upT_s _ _ _) rfl rfl (minN (by omega) (by omega)) (by omega) (by omega) (by omega) (by omega) ⟨lJ7_150, nat_arraycopy, ac_stat, jwSys⟩ ⟨by simp [rmd], ?_⟩ dJ7_copyOf_59c91_28 rfl ?_
    · show _ ≤ 64 * 2 + 40; decide +kernel
    refine g_ald2 (pc' := 32) dJ7_copyOf_59c91_31 rfl ?_
    rw [Nat.zero_add n]
    refine g_aret rfl (Or.inr ⟨_, rfl⟩) dJ7_copyOf_59c91_32 ?_
    refine ⟨rfl, rfl, ⟨_, upT_upT _ _ _ _, fun i hi => ?_⟩, rfl, rfl⟩
    rw [upT_s, upT_n _ hne]
    simp only [va_cpy, Nat.zero_le, true_and, Nat.zero_add, Nat.sub_zero]
    by_cases q : i < l0
    · rw [if_pos (by omega), if_pos q]
    · rw [if_neg (by omega), if_neg q]
  · refine g_ald0 (pc' := 7) dJ7_copyOf_59c91_6 rfl ?_
    subst h3
    refine g_clone (pc' := 10) (ua, ub) hu hS ⟨lJ7_316, same_clone, nat_clone, clone_inst, clone_sel⟩ ⟨by simp [rmd], by simp [rmd, catS]⟩ (by simp [rmd]) (by simp [rmd]) dJ7_copyOf_59c91_7 rfl ?_
    refine g_castI (pc' := 13) (upT_s _ _ _) nJ7_317 dJ7_copyOf_59c91_10 rfl ?_
    rw [Nat.zero_add n]
    refine g_aret rfl (Or.inr ⟨_, rfl⟩) dJ7_copyOf_59c91_13 ?_
    exact ⟨rfl, rfl, ⟨_, rfl, fun i hi => by rw [if_pos hi]⟩, rfl, rfl⟩

theorem c_codeRead (l : Launch) {S : Shp} {I : MI} {L : ML} {R : MR} (tg : TG S R) {ua ub n : Nat} (hu : (S (ua, ub)).1 = 0) (hn : n ≤ 121) (hw : I (3, 0) 3 = nI n) : Ct l mX6_codeRead 3 1 n [.inr (.inr (some (3, 0)))] S I L R (PNew (ua, ub) n (fun f => ∀ i, i < n → f i = I (5, 0) i) S I L R) := by
  refine Ct.of [some (.inr (.inr (some (3, 0))))] (by decide) rfl (Nat.le_of_ble_eq_true rfl) ?_
  refine g_ald0 (pc' := 1) dX6_codeRead_0 rfl ?_
  refine g_getR (pc' := 4) tg.s3 (by decide) fX6_13 tg.r3_2 dX6_codeRead_1 rfl ?_
  refine g_ald0 (pc' := 5) dX6_codeRead_4 rfl ?_
  refine g_getI (pc' := 8) tg.s3 (by decide) fX6_20 hw dX6_codeRead_5 rfl ?_
  refine g_callS (pc' := 11) (c_copyOf (ua := ua) (ub := ub) l hu tg.s5 (by omega) (by omega)) wJ7_copyOf_59c91 lX6_35 rfl rfl (Nat.le_of_ble_eq_true rfl) (by simp [rmd]) ⟨by simp [rmd], by simp [rmd]⟩ dX6_codeRead_8 rfl ?_
  rintro r S' I' L' R' ⟨rfl, rfl, ⟨f, rfl, hf⟩, rfl, rfl⟩ _
  rw [Nat.zero_add n]
  refine g_aret rfl (Or.inr ⟨_, rfl⟩) dX6_codeRead_11 ?_
  exact ⟨rfl, rfl, ⟨f, rfl, fun i hi => by rw [hf i hi, if_pos (by omega)]⟩, rfl, rfl⟩
