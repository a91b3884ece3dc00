/-! the start -/
def zzI (xs : Nat → Int32) : MI := fun t i => if t = (99, 0) then xs i else if t = (36, 0) then (if i = 0 then nI 1 else if i = 1 then nI 7 else if i = 2 then nI 49 else nI 343) else if t = (37, 0) then flI (abv i) else if t = (38, 0) then nI (bod i) else 0
def zzS (Ls : Nat) : Shp := fun t => if t = (99, 0) then (7, Ls) else if t = (36, 0) then (7, 4) else if t = (37, 0) then (7, 8) else if t = (38, 0) then (7, 32) else (0, 0)
def zzL : ML := fun _ _ => 0
def zzR : MR := fun _ _ => none
abbrev bgS (Ls : Nat) : Shp := S1n (upT (S0n (upT (zzS Ls) (0, 0) (18, 0))) (40, 0) (19, 0))
abbrev bgI0 (xs : Nat → Int32) : MI := I1n (upT (I0n (upT (zzI xs) (0, 0) (fun _ => 0))) (40, 0) (fun _ => 0))
abbrev bgL : ML := L1n (L0n zzL)
abbrev bgR : MR := R1n (upT (R0n (upT zzR (0, 0) (fun _ => none))) (40, 0) (fun _ => none))
theorem zzS_0 {Ls a i : Nat} (h : a < 36) : (zzS Ls (a, i)).1 = 0 := by
  unfold zzS
  rw [if_neg (fun z => by injection z with z1 z2; omega), if_neg (fun z => by injection z with z1 z2; omega), if_neg (fun z => by injection z with z1 z2; omega), if_neg (fun z => by injection z with z1 z2; omega)]
theorem zzS_50 {Ls a i : Nat} (h : 39 < a) (h2 : a < 99) : (zzS Ls (a, i)).1 = 0 := by
  unfold zzS
  rw [if_neg (fun z => by injection z with z1 z2; omega), if_neg (fun z => by injection z with z1 z2; omega), if_neg (fun z => by injection z with z1 z2; omega), if_neg (fun z => by injection z with z1 z2; omega)]

theorem bg_KG {Ls : Nat} : KG Ls 0 0 (bgS Ls) bgR := KG.mk (xg := ⟨rfl, rfl, rfl, rfl, rfl, rfl, rfl, rfl, rfl, rfl, rfl, rfl, rfl, rfl, rfl, rfl, rfl, rfl, rfl, rfl, rfl, rfl, rfl, rfl, rfl, rfl, rfl, rfl⟩) (sg := ⟨rfl, rfl, rfl⟩) (tg := ⟨rfl, rfl, rfl, rfl, rfl⟩) (hg := ⟨rfl, rfl, rfl, rfl, rfl, rfl, rfl, rfl, rfl⟩) (ag := ⟨rfl, rfl, rfl, rfl, rfl, rfl, rfl⟩) (og := ⟨rfl, rfl, rfl, rfl, rfl, rfl, rfl, rfl⟩) (mg := ⟨rfl, rfl, rfl, rfl, rfl, rfl, rfl, rfl, rfl, rfl, rfl, rfl, rfl, rfl, rfl, rfl, rfl, rfl, rfl, rfl, rfl, rfl, rfl, rfl, rfl, rfl, rfl, rfl, rfl, rfl, rfl, rfl, rfl, rfl, rfl, rfl, rfl, rfl, rfl, rfl, rfl, rfl, rfl, rfl, rfl, rfl, rfl, rfl, rfl, rfl, rfl, rfl, rfl, rfl, rfl⟩) (w9 := ⟨rfl, rfl, rfl, rfl, rfl, rfl, rfl, rfl, rfl, rfl, rfl, rfl, rfl, rfl⟩) (w10 := ⟨rfl, rfl, rfl, rfl, rfl, rfl, rfl, rfl, rfl, rfl, rfl, rfl, rfl, rfl⟩)
  (dg := fun d hd => by
    rcases (show d = 0 ∨ d = 1 ∨ d = 2 ∨ d = 3 ∨ d = 4 ∨ d = 5 by omega) with rfl | rfl | rfl | rfl | rfl | rfl <;> exact ⟨rfl, rfl, rfl⟩)
  (wg := fun j hj => absurd hj (by omega)) (rw := fun j hj => absurd hj (by omega)) (rl := fun j hj => absurd hj (by omega))
  (fw := fun j _ h2 i h3 h4 => by
    rcases (show j = 0 ∨ j = 1 ∨ j = 2 ∨ j = 3 ∨ j = 4 ∨ j = 5 ∨ j = 6 ∨ j = 7 ∨ j = 8 by omega) with rfl | rfl | rfl | rfl | rfl | rfl | rfl | rfl | rfl <;> rcases (show i = 11 ∨ i = 12 ∨ i = 13 ∨ i = 14 ∨ i = 15 ∨ i = 16 ∨ i = 17 by omega) with rfl | rfl | rfl | rfl | rfl | rfl | rfl <;> rfl)
  (fl := fun j _ h2 => by
    rcases (show j = 0 ∨ j = 1 ∨ j = 2 ∨ j = 3 ∨ j = 4 ∨ j = 5 by omega) with rfl | rfl | rfl | rfl | rfl | rfl <;> exact ⟨rfl, rfl, rfl⟩)
  (s99 := rfl)

theorem bg_K2 {Ls : Nat} {xs : Nat → Int32} : K2 xs 0 0 0 0 0 (bgS Ls) bgR (bgI0 xs) (bgI0 xs) bgL bgL := K2.mk (hN := by omega) (hM := by omega) (hC := by omega) (hB := by omega) (hq := by omega) (xn := rfl) (xm := rfl) (xc := rfl) (yn := rfl) (ym := rfl) (yc := rfl)
  (st := ⟨rfl, rfl, rfl, rfl⟩) (at_ := ⟨fun a _ => rfl, fun i _ => rfl⟩) (so := fun s hs => absurd hs (by omega))
  (tp := ⟨0, fun _ => 0, by omega, fun i hi => absurd hi (by omega), rfl, fun i hi => absurd hi (by omega), rfl, fun i hi => absurd hi (by omega)⟩)
  (ch := ⟨0, 0, Nat.le_refl _, by omega, rfl, rfl, rfl, rfl, fun t ht => absurd ht (by omega)⟩)
  (ac := ⟨rfl, rfl, fun j hj => absurd hj (by omega), 0, by omega, rfl, rfl, fun t ht => absurd ht (by omega)⟩)
  (sh := fun d hd => by
    rcases (show d = 0 ∨ d = 1 ∨ d = 2 ∨ d = 3 ∨ d = 4 ∨ d = 5 by omega) with rfl | rfl | rfl | rfl | rfl | rfl <;> exact ⟨0, 0, 0, 0, by omega, by omega, by omega, rfl, rfl, rfl, rfl, ⟨by omega, fun _ => rfl, fun z => absurd z (by omega), fun z => absurd z (by omega)⟩, fun z => absurd z (by omega), fun _ _ => rfl, fun z => absurd z (by omega)⟩)
  (lw := fun j hj => absurd hj (by omega)) (wb := fun j hj => absurd hj (by omega)) (fs := fun _ _ _ => rfl) (sc := fun _ => rfl)
theorem bg_Inv {Ls : Nat} {xs : Nat → Int32} : Inv Ls xs 0 (bgS Ls) (bgI0 xs) bgL bgR := ⟨0, 0, 0, 0, bg_KG, bg_K2⟩

theorem bg_40 {Ls : Nat} (a i : Nat) (h : 49 < a ∧ a < 96) : (upT (S0n (upT (zzS Ls) (0, 0) (18, 0))) (40, 0) (19, 0) (a, i)).1 = 0 := by
  rw [upT_n _ (fun z => by injection z with z1 z2; omega)]
  unfold S0n
  rw [upT_n _ (fun z => by injection z with z1 z2; omega), upT_n _ (fun z => by injection z with z1 z2; omega), upT_n _ (fun z => by injection z with z1 z2; omega), upT_n _ (fun z => by injection z with z1 z2; omega), upT_n _ (fun z => by injection z with z1 z2; omega), upT_n _ (fun z => by injection z with z1 z2; omega), upT_n _ (fun z => by injection z with z1 z2; omega), upT_n _ (fun z => by injection z with z1 z2; omega), upT_n _ (fun z => by injection z with z1 z2; omega), upT_n _ (fun z => by injection z with z1 z2; omega), upT_n _ (fun z => by injection z with z1 z2; omega), upT_n _ (fun z => by injection z with z1 z2; omega), upT_n _ (fun z => by injection z with z1 z2; omega), upT_n _ (fun z => by injection z with z1 z2; omega), upT_n _ (fun z => by injection z with z1 z2; omega), upT_n _ (fun z => by injection z with z1 z2; omega), upT_n _ (fun z => by injection z with z1 z2; omega), upT_n _ (fun z => by injection z with z1 z2; omega), upT_n _ (fun z => by injection z with z1 z2; omega), upT_n _ (fun z => by injection z with z1 z2; omega), upT_n _ (fun z => by injection z with z1 z2; omega), upT_n _ (fun z => by injection z with z1 z2; omega), upT_n _ (fun z => by injection z with z1 z2; omega), upT_n _ (fun z => by injection z with z1 z2; omega), upT_n _ (fun z => by injection z with z1 z2; omega), upT_n _ (fun z => by injection z with z1 z2; omega), upT_n _ (fun z => by injection z with z1 z2; omega), upT_n _ (fun z => by injection z with z1 z2; omega), upT_n _ (fun z => by injection z with z1 z2; omega), upT_n _ (fun z => by injection z with z1 z2; omega), upT_n _ (fun z => by injection z with z1 z2; omega), upT_n _ (fun z => by injection z with z1 z2; omega), upT_n _ (fun z => by injection z with z1 z2; omega), upT_n _ (fun z => by injection z with z1 z2; omega), upT_n _ (fun z => by injection z with z1 z2; omega), upT_n _ (fun z => by injection z with z1 z2; omega), upT_n _ (fun z => by injection z with z1 z2; omega), upT_n _ (fun z => by injection z with z1 z2; omega), upT_n _ (fun z => by injection z with z1 z2; omega), upT_n _ (fun z => by injection z with z1 z2; omega), upT_n _ (fun z => by injection z with z1 z2; omega), upT_n _ (fun z => by injection z with z1 z2; omega), upT_n _ (fun z => by injection z with z1 z2; omega), upT_n _ (fun z => by injection z with z1 z2; omega), upT_n _ (fun z => by injection z with z1 z2; omega), upT_n _ (fun z => by injection z with z1 z2; omega), upT_n _ (fun z => by injection z with z1 z2; omega), upT_n _ (fun z => by injection z with z1 z2; omega), upT_n _ (fun z => by injection z with z1 z2; omega), upT_n _ (fun z => by injection z with z1 z2; omega)]
  exact zzS_50 (by omega) (by omega)
theorem law_start (l : Launch) {Ls : Nat} {xs : Nat → Int32} (hLs : Ls ≤ 3072) : G l mL_law room_1 QL 0 0 0 [some (.inr (.inr (some (99, 0)))), none, none, none] [] (zzS Ls) (zzI xs) zzL zzR := by
  refine g_new (pc' := 3) (0, 0) (zzS_0 (by omega)) (by decide) ⟨nL_7, iw8, jw8⟩ (Nat.le_of_ble_eq_true rfl) (Nat.le_of_ble_eq_true rfl) dL_law_0 rfl ?_
  refine g_dupR (pc' := 4) dL_law_3 rfl ?_
  refine g_callI (pc' := 7) (c_X8_init l (upT_s _ _ _) (fun a i h => by rw [upT_n _ (fun z => by injection z with z1 z2; omega)]; exact zzS_0 h.2)) wX8_init (Or.inl lL_9) rfl rfl (Nat.le_of_ble_eq_true rfl) ⟨Nat.le_of_ble_eq_true rfl, Nat.le_of_ble_eq_true rfl⟩ ⟨Nat.le_of_ble_eq_true rfl, Nat.le_of_ble_eq_true rfl⟩ dL_law_4 rfl (kN ?_)
  refine g_ast1 (pc' := 8) rfl (by decide) dL_law_7 rfl ?_
  refine g_new (pc' := 11) (40, 0) (by
    unfold S0n
    rw [upT_n _ (by simp), upT_n _ (by simp), upT_n _ (by simp), upT_n _ (by simp), upT_n _ (by simp), upT_n _ (by simp), upT_n _ (by simp), upT_n _ (by simp), upT_n _ (by simp), upT_n _ (by simp), upT_n _ (by simp), upT_n _ (by simp), upT_n _ (by simp), upT_n _ (by simp), upT_n _ (by simp), upT_n _ (by simp), upT_n _ (by simp), upT_n _ (by simp), upT_n _ (by simp), upT_n _ (by simp), upT_n _ (by simp), upT_n _ (by simp), upT_n _ (by simp), upT_n _ (by simp), upT_n _ (by simp), upT_n _ (by simp), upT_n _ (by simp), upT_n _ (by simp), upT_n _ (by simp), upT_n _ (by simp), upT_n _ (by simp), upT_n _ (by simp), upT_n _ (by simp), upT_n _ (by simp), upT_n _ (by simp), upT_n _ (by simp), upT_n _ (by simp), upT_n _ (by simp), upT_n _ (by simp), upT_n _ (by simp), upT_n _ (by simp), upT_n _ (by simp), upT_n _ (by simp), upT_n _ (by simp), upT_n _ (by simp), upT_n _ (by simp), upT_n _ (by simp), upT_n _ (by simp), upT_n _ (by simp), upT_n _ (by simp)]
    exact zzS_50 (by omega) (by omega)) (by decide) ⟨nL_10, iw9, jw9⟩ (Nat.le_of_ble_eq_true rfl) (Nat.le_of_ble_eq_true rfl) dL_law_8 rfl ?_
  refine g_dupR (pc' := 12) dL_law_11 rfl ?_
  refine g_callI (pc' := 15) (c_X9_init l (upT_s _ _ _) (fun a h => bg_40 a 0 h)) wX9_init (Or.inl lL_12) rfl rfl (Nat.le_of_ble_eq_true rfl) ⟨Nat.le_of_ble_eq_true rfl, Nat.le_of_ble_eq_true rfl⟩ ⟨Nat.le_of_ble_eq_true rfl, Nat.le_of_ble_eq_true rfl⟩ dL_law_12 rfl (kN ?_)
  refine g_ast2 (pc' := 16) rfl (by decide) dL_law_15 rfl ?_
  refine g_iconst (pc' := 17) (v := nI (6 * 0)) dL_law_16 rfl (by decide) ?_
  refine g_ist3 (pc' := 18) rfl (by decide) dL_law_17 rfl ?_
  exact law_loop l hLs 512 0 _ _ _ _ _ _ (by omega) (by omega) bg_Inv (Nat.le_of_ble_eq_true rfl) (Nat.le_of_ble_eq_true rfl)
