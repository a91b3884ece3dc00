/-! EightWorlds: shuffling -/
def swF (f : Nat → Int32) (a b : Nat) : Nat → Int32 := fun k => if k = b then f a else if k = a then f b else f k
def shJ (y : Int32) (s : Nat) : Nat := y.toUInt32.toNat / 256 % (s + 1)
def shuG (d : Int32 → Int32) : Nat → (Nat → Int32) → Int32 → (Nat → Int32) × Int32
  | 0, f, z => (f, z)
  | s + 1, f, z => shuG d s (swF f (s + 1) (shJ (d z) (s + 1))) (d z)
theorem shJ_lt (y : Int32) (s : Nat) : shJ y s < s + 1 := Nat.mod_lt _ (Nat.succ_pos _)
theorem shuG_s (d : Int32 → Int32) (s : Nat) (f : Nat → Int32) (z : Int32) : shuG d (s + 1) f z = shuG d s (swF f (s + 1) (shJ (d z) (s + 1))) (d z) := rfl
theorem shuG_0 (d : Int32 → Int32) (f : Nat → Int32) (z : Int32) : shuG d 0 f z = (f, z) := rfl
theorem sw_mem {I : MI} {t : Tok} {f : Nat → Int32} {a b : Nat} : upM (upM (upT I t f) t a (f b)) t b (f a) = upT I t (swF f a b) := by
  funext t' k
  by_cases e : t' = t
  · subst e
    rw [upT_s]
    unfold swF
    by_cases h : k = b
    · rw [h, upM_s, if_pos rfl]
    · rw [upM_k _ _ h, if_neg h]
      by_cases h2 : k = a
      · rw [h2, upM_s, if_pos rfl]
      · rw [upM_k _ _ h2, if_neg h2, upT_s]
  · rw [upM_n _ e, upM_n _ e, upT_n _ e, upT_n _ e]
theorem dr_g (z : Int32) {P : Int32 → Prop} (h : ∀ y, y = drawnI z → P y) : P (drawnI z) := h _ rfl
theorem c_shuffle (l : Launch) {S : Shp} {I : MI} {L : ML} {R : MR} {n ta tb : Nat} (hn1 : 1 ≤ n) (hN : n ≤ 12) (hT : S (ta, tb) = (1, 12)) (z0 : Int32) : Ct l mX8_shuffle 2 0 0 [.inr (.inr (some (ta, tb))), .inl (nI n), .inl z0] S I L R (PIm S L R (fun v J => v = (shuG drawnI (n - 1) (I (ta, tb)) z0).2 ∧ J = upT I (ta, tb) (shuG drawnI (n - 1) (I (ta, tb)) z0).1)) := by
  refine Ct.of [some (.inr (.inr (some (ta, tb)))), some (.inl (nI n)), some (.inl z0), none, none, none, none] (by decide) rfl (Nat.le_of_ble_eq_true rfl) ?_
  refine g_ild2 (pc' := 1) dX8_shuffle_0 rfl ?_
  refine g_ist3 (pc' := 2) rfl (by decide) dX8_shuffle_1 rfl ?_
  refine g_ild1 (pc' := 3) dX8_shuffle_2 rfl ?_
  refine g_iconst (pc' := 4) (v := nI 1) dX8_shuffle_3 rfl (by decide) ?_
  refine g_isubN (pc' := 5) (by omega) dX8_shuffle_4 rfl ?_
  refine g_ist4 (pc' := 7) rfl (by decide) dX8_shuffle_5 rfl ?_
  refine g_mem (upT_self (I := I) (t := (ta, tb))).symm ?_
  refine g_loopD (σ := (Nat → Int32) × Int32) (fun a s => a < 12 ∧ shuG drawnI a s.1 s.2 = shuG drawnI (n - 1) (I (ta, tb)) z0) (fun a s => [some (.inr (.inr (some (ta, tb)))), some (.inl (nI n)), some (.inl z0), some (.inl s.2), some (.inl (nI a)), none, none]) (fun a s => upT I (ta, tb) s.1) (n - 1) (I (ta, tb), z0) ⟨by omega, rfl⟩ ?_
  rintro a ⟨f, z⟩ hP ihD
  simp only at hP ⊢
  cases a with
  | zero =>
    refine g_ild4 (pc' := 9) dX8_shuffle_7 rfl ?_
    refine g_ifleN (pc' := 12) (by omega) (tgt := 54) dX8_shuffle_9 (by decide) rfl (fun h9 => ?_) (fun h9 => ?_)
    · refine g_ild3 (pc' := 55) dX8_shuffle_54 rfl ?_
      refine g_iret rfl dX8_shuffle_55 ?_
      exact eI ⟨by rw [← hP.2, shuG_0], by rw [← hP.2, shuG_0]⟩
    · exact absurd h9 (by omega)
  | succ a =>
    have ha := hP.1
    refine g_ild4 (pc' := 9) dX8_shuffle_7 rfl ?_
    refine g_ifleN (pc' := 12) (by omega) (tgt := 54) dX8_shuffle_9 (by decide) rfl (fun h9 => ?_) (fun h9 => ?_)
    · exact absurd h9 (by omega)
    · refine g_ild3 (pc' := 13) dX8_shuffle_12 rfl ?_
      refine g_callS (pc' := 16) (c_drawn l z) wX7_drawn lX8_311 rfl rfl (Nat.le_of_ble_eq_true rfl) ⟨Nat.le_of_ble_eq_true rfl, Nat.le_of_ble_eq_true rfl⟩ ⟨Nat.le_of_ble_eq_true rfl, Nat.le_of_ble_eq_true rfl⟩ dX8_shuffle_13 rfl (kIp ?_)
      obtain ⟨y, hy⟩ : ∃ y, y = drawnI z := ⟨_, rfl⟩
      rw [← hy]
      have hz := UInt32.toNat_lt y.toUInt32
      have hjl : shJ y (a + 1) < a + 1 + 1 := shJ_lt y (a + 1)
      have hjm : nI (y.toUInt32.toNat / 256 % (a + 1 + 1)) = nI (shJ y (a + 1)) := rfl
      have hs8 := shr8 y
      refine g_ist3 (pc' := 17) rfl (by decide) dX8_shuffle_16 rfl ?_
      refine g_ild3 (pc' := 18) dX8_shuffle_17 rfl ?_
      refine g_bipush (pc' := 20) (v := nI 8) dX8_shuffle_18 rfl (by decide) ?_
      refine g_iushr (pc' := 21) dX8_shuffle_20 rfl ?_
      refine g_topi (v := nI (y.toUInt32.toNat / 256)) (hs8) ?_
      refine g_ild4 (pc' := 23) dX8_shuffle_21 rfl ?_
      refine g_iconst (pc' := 24) (v := nI 1) dX8_shuffle_23 rfl (by decide) ?_
      refine g_iaddN (pc' := 25) dX8_shuffle_24 rfl ?_
      refine g_iremN (pc' := 26) (by omega) dX8_shuffle_25 rfl ?_
      refine g_topi (v := nI (shJ y (a + 1))) (hjm) ?_
      refine g_ist5 (pc' := 28) rfl (by decide) dX8_shuffle_26 rfl ?_
      refine g_ald0 (pc' := 29) dX8_shuffle_28 rfl ?_
      refine g_ild4 (pc' := 31) dX8_shuffle_29 rfl ?_
      refine g_iald (pc' := 32) (j := a + 1) hT rfl (by omega) (by decide) (v := f (a + 1)) (congrFun (upT_s _ _ _) _) dX8_shuffle_31 rfl ?_
      refine g_ist6 (pc' := 34) rfl (by decide) dX8_shuffle_32 rfl ?_
      refine g_ald0 (pc' := 35) dX8_shuffle_34 rfl ?_
      refine g_ild4 (pc' := 37) dX8_shuffle_35 rfl ?_
      refine g_ald0 (pc' := 38) dX8_shuffle_37 rfl ?_
      refine g_ild5 (pc' := 40) dX8_shuffle_38 rfl ?_
      refine g_iald (pc' := 41) (j := (shJ y (a + 1))) hT rfl (by omega) (by decide) (v := f (shJ y (a + 1))) (congrFun (upT_s _ _ _) _) dX8_shuffle_40 rfl ?_
      refine g_iast (pc' := 42) (j := a + 1) hT rfl (by omega) (by decide) dX8_shuffle_41 rfl ?_
      refine g_ald0 (pc' := 43) dX8_shuffle_42 rfl ?_
      refine g_ild5 (pc' := 45) dX8_shuffle_43 rfl ?_
      refine g_ild6 (pc' := 47) dX8_shuffle_45 rfl ?_
      refine g_iast (pc' := 48) (j := (shJ y (a + 1))) hT rfl (by omega) (by decide) dX8_shuffle_47 rfl ?_
      refine g_inc4 (pc' := 51) rfl (by decide) (v := nI a) (by rw [show Int32.ofInt (-1) = -(nI 1) from by decide, ← Int32.sub_eq_add_neg]; exact pk_sub (by omega)) dX8_shuffle_48 rfl ?_
      refine g_goto (tgt := 7) dX8_shuffle_51 (by decide) ?_
      rw [sw_mem]
      refine G.lsub [some (.inr (.inr (some (ta, tb)))), some (.inl (nI n)), some (.inl z0), some (.inl y), some (.inl (nI a)), none, none] (by intro j v; rcases j with _ | _ | _ | _ | _ | _ | _ | j <;> simp) ?_
      exact ihD a (swF f (a + 1) (shJ y (a + 1)), y) (by omega) ⟨by omega, by rw [← hP.2, shuG_s, ← hy]⟩

theorem c_shuffle0 (l : Launch) {S : Shp} {I : MI} {L : ML} {R : MR} {ta tb : Nat} (hT : S (ta, tb) = (1, 12)) (z0 : Int32) : Ct l mX8_shuffle 2 0 0 [.inr (.inr (some (ta, tb))), .inl (nI 0), .inl z0] S I L R (PIp S I L R z0) := by
  refine Ct.of [some (.inr (.inr (some (ta, tb)))), some (.inl (nI 0)), some (.inl z0), none, none, none, none] (by decide) rfl (Nat.le_of_ble_eq_true rfl) ?_
  refine g_ild2 (pc' := 1) dX8_shuffle_0 rfl ?_
  refine g_ist3 (pc' := 2) rfl (by decide) dX8_shuffle_1 rfl ?_
  refine g_ild1 (pc' := 3) dX8_shuffle_2 rfl ?_
  refine g_iconst (pc' := 4) (v := nI 1) dX8_shuffle_3 rfl (by decide) ?_
  refine g_isub (pc' := 5) dX8_shuffle_4 rfl ?_
  refine g_topi (v := (-1)) (by decide) ?_
  refine g_ist4 (pc' := 7) rfl (by decide) dX8_shuffle_5 rfl ?_
  refine g_ild4 (pc' := 9) dX8_shuffle_7 rfl ?_
  refine g_ifle (pc' := 12) (tgt := 54) dX8_shuffle_9 (by decide) rfl (fun h9 => ?_) (fun h9 => (by first | exact absurd h9 (by decide : (-1 : Int32) ≤ 0) | exact absurd (by decide : (-1 : Int32) ≤ 0) h9))
  refine g_ild3 (pc' := 55) dX8_shuffle_54 rfl ?_
  refine g_iret rfl dX8_shuffle_55 ?_
  exact eIp rfl
