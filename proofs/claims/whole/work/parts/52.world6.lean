/-! what is there stays there -/
def RK (S : Shp) (R R' : MR) : Prop := ∀ t k, (S t).1 ≠ 0 → (t.1 = 11 → k ≠ 1) → t ≠ (6, 0) → t ≠ (10, 0) → R' t k = R t k
def SK (S S' : Shp) : Prop := ∀ t, (S t).1 ≠ 0 → S' t = S t
theorem SK.rf {S : Shp} : SK S S := fun _ _ => rfl
theorem SK.tr {S S' S2 : Shp} (h : SK S S') (h2 : SK S' S2) : SK S S2 := fun t ht => (h2 t (by rw [h t ht]; exact ht)).trans (h t ht)
theorem RK.rf {S : Shp} {R : MR} : RK S R R := fun _ _ _ _ _ _ => rfl
theorem RK.tr {S S' : Shp} {R R' R2 : MR} (h : RK S R R') (h2 : RK S' R' R2) (hS : SK S S') : RK S R R2 := fun t k ht a b c => (h2 t k (by rw [hS t ht]; exact ht) a b c).trans (h t k ht a b c)
theorem SK.up {S : Shp} {t : Tok} {v : Nat × Nat} (h : (S t).1 = 0) : SK S (upT S t v) := fun t' ht => upT_n _ (fun e => by rw [e] at ht; exact ht h) _
theorem RK.upT {S : Shp} {R R' : MR} (hk : RK S R R') {t : Tok} {v : Nat → Option Tok} (h : (S t).1 = 0) : RK S R (upT R' t v) := fun t' k ht a b c => by
  rw [upT_n _ (fun e => by rw [e] at ht; exact ht h)]
  exact hk t' k ht a b c
theorem RK.new {S : Shp} {R R' : MR} (hk : RK S R R') {t : Tok} {k : Nat} {v : Option Tok} (h : (S t).1 = 0) : RK S R (upM R' t k v) := fun t' k' ht a b c => by
  rw [upM_n _ (fun e => by rw [e] at ht; exact ht h)]
  exact hk t' k' ht a b c
theorem RK.law {S : Shp} {R R' : MR} (hk : RK S R R') {j : Nat} {v : Option Tok} : RK S R (upM R' (11, j) 1 v) := fun t k ht a b c => by
  have : ¬ (t = (11, j) ∧ k = 1) := fun q => a (by rw [q.1]) q.2
  rw [show upM R' (11, j) 1 v t k = R' t k from if_neg this]
  exact hk t k ht a b c
theorem RK.a6 {S : Shp} {R R' : MR} (hk : RK S R R') {k : Nat} {v : Option Tok} : RK S R (upM R' (6, 0) k v) := fun t k' ht a b c => by
  rw [upM_n _ b]; exact hk t k' ht a b c
theorem RK.a10 {S : Shp} {R R' : MR} (hk : RK S R R') {k : Nat} {v : Option Tok} : RK S R (upM R' (10, 0) k v) := fun t k' ht a b c => by
  rw [upM_n _ c]; exact hk t k' ht a b c
theorem SG.ext {S S' : Shp} {R R' : MR} (h : SG S R) (hS : SK S S') (hR : RK S R R') : SG S' R' := ⟨(hS _ (by rw [h.s1]; simp)).trans h.s1, (hS _ (by rw [h.s2]; simp)).trans h.s2, (hR (1, 0) 0 (by rw [h.s1]; simp) (by simp) (by simp) (by simp)).trans h.r1_0⟩
theorem TG.ext {S S' : Shp} {R R' : MR} (h : TG S R) (hS : SK S S') (hR : RK S R R') : TG S' R' := ⟨(hS _ (by rw [h.s3]; simp)).trans h.s3, (hS _ (by rw [h.s4]; simp)).trans h.s4, (hS _ (by rw [h.s5]; simp)).trans h.s5, (hR (3, 0) 0 (by rw [h.s3]; simp) (by simp) (by simp) (by simp)).trans h.r3_0, (hR (3, 0) 2 (by rw [h.s3]; simp) (by simp) (by simp) (by simp)).trans h.r3_2⟩
theorem LG.ext {S S' : Shp} {R R' : MR} {j : Nat} {n : Nat} (h : LG j n S R) (hS : SK S S') (hR : RK S R R') : LG j n S' R' := ⟨(hS _ (by rw [h.s7]; simp)).trans h.s7, (hS _ (by rw [h.s8]; simp)).trans h.s8, (hS _ (by rw [h.s9]; simp)).trans h.s9, (hR (7, j) 0 (by rw [h.s7]; simp) (by simp) (by simp) (by simp)).trans h.r7_0, (hR (7, j) 1 (by rw [h.s7]; simp) (by simp) (by simp) (by simp)).trans h.r7_1⟩
theorem WG.ext {S S' : Shp} {R R' : MR} {j : Nat} (h : WG j S R) (hS : SK S S') (hR : RK S R R') : WG j S' R' := ⟨(hS _ (by rw [h.s11]; simp)).trans h.s11, (hS _ (by rw [h.s12]; simp)).trans h.s12, (hS _ (by rw [h.s13]; simp)).trans h.s13, (hS _ (by rw [h.s14]; simp)).trans h.s14, (hS _ (by rw [h.s15]; simp)).trans h.s15, (hS _ (by rw [h.s16]; simp)).trans h.s16, (hS _ (by rw [h.s17]; simp)).trans h.s17, (hR (11, j) 0 (by rw [h.s11]; simp) (by simp) (by simp) (by simp)).trans h.r11_0, (hR (11, j) 10 (by rw [h.s11]; simp) (by simp) (by simp) (by simp)).trans h.r11_10, (hR (11, j) 11 (by rw [h.s11]; simp) (by simp) (by simp) (by simp)).trans h.r11_11, (hR (11, j) 12 (by rw [h.s11]; simp) (by simp) (by simp) (by simp)).trans h.r11_12, (hR (11, j) 13 (by rw [h.s11]; simp) (by simp) (by simp) (by simp)).trans h.r11_13, (hR (11, j) 14 (by rw [h.s11]; simp) (by simp) (by simp) (by simp)).trans h.r11_14, (hR (11, j) 15 (by rw [h.s11]; simp) (by simp) (by simp) (by simp)).trans h.r11_15⟩
theorem HG.ext {S S' : Shp} {R R' : MR} (h : HG S R) (hS : SK S S') (hR : RK S R R') : HG S' R' := ⟨(hS _ (by rw [h.s18]; simp)).trans h.s18, (hS _ (by rw [h.s19]; simp)).trans h.s19, (hS _ (by rw [h.s20]; simp)).trans h.s20, (hS _ (by rw [h.s21]; simp)).trans h.s21, (hS _ (by rw [h.s22]; simp)).trans h.s22, (hR (18, 0) 0 (by rw [h.s18]; simp) (by simp) (by simp) (by simp)).trans h.r18_0, (hR (18, 0) 1 (by rw [h.s18]; simp) (by simp) (by simp) (by simp)).trans h.r18_1, (hR (18, 0) 2 (by rw [h.s18]; simp) (by simp) (by simp) (by simp)).trans h.r18_2, (hR (18, 0) 3 (by rw [h.s18]; simp) (by simp) (by simp) (by simp)).trans h.r18_3⟩
theorem AG.ext {S S' : Shp} {R R' : MR} (h : AG S R) (hS : SK S S') (hR : RK S R R') : AG S' R' := ⟨(hS _ (by rw [h.s23]; simp)).trans h.s23, (hS _ (by rw [h.s24]; simp)).trans h.s24, (hS _ (by rw [h.s25]; simp)).trans h.s25, (hS _ (by rw [h.s37]; simp)).trans h.s37, (hS _ (by rw [h.s38]; simp)).trans h.s38, (hR (23, 0) 0 (by rw [h.s23]; simp) (by simp) (by simp) (by simp)).trans h.r23_0, (hR (23, 0) 2 (by rw [h.s23]; simp) (by simp) (by simp) (by simp)).trans h.r23_2⟩
theorem DG.ext {S S' : Shp} {R R' : MR} {j : Nat} (h : DG j S R) (hS : SK S S') (hR : RK S R R') : DG j S' R' := ⟨(hS _ (by rw [h.s27]; simp)).trans h.s27, (hS _ (by rw [h.s28]; simp)).trans h.s28, (hR (27, j) 4 (by rw [h.s27]; simp) (by simp) (by simp) (by simp)).trans h.r27_4⟩
theorem OG.ext {S S' : Shp} {R R' : MR} (h : OG S R) (hS : SK S S') (hR : RK S R R') : OG S' R' := ⟨(hS _ (by rw [h.s29]; simp)).trans h.s29, (hS _ (by rw [h.s30]; simp)).trans h.s30, (hS _ (by rw [h.s31]; simp)).trans h.s31, (hS _ (by rw [h.s36]; simp)).trans h.s36, (hR (29, 0) 0 (by rw [h.s29]; simp) (by simp) (by simp) (by simp)).trans h.r29_0, (hR (29, 0) 1 (by rw [h.s29]; simp) (by simp) (by simp) (by simp)).trans h.r29_1, (hR (29, 0) 2 (by rw [h.s29]; simp) (by simp) (by simp) (by simp)).trans h.r29_2, (hR (29, 0) 3 (by rw [h.s29]; simp) (by simp) (by simp) (by simp)).trans h.r29_3⟩
theorem XG.ext {S S' : Shp} {R R' : MR} (h : XG S R) (hS : SK S S') (hR : RK S R R') : XG S' R' := ⟨(hS _ (by rw [h.s0]; simp)).trans h.s0, (hS _ (by rw [h.s6]; simp)).trans h.s6, (hS _ (by rw [h.s10]; simp)).trans h.s10, (hS _ (by rw [h.s26]; simp)).trans h.s26, (hS _ (by rw [h.s32]; simp)).trans h.s32, (hS _ (by rw [h.s33]; simp)).trans h.s33, (hS _ (by rw [h.s34]; simp)).trans h.s34, (hS _ (by rw [h.s35]; simp)).trans h.s35, (hR (0, 0) 0 (by rw [h.s0]; simp) (by simp) (by simp) (by simp)).trans h.r0_0, (hR (0, 0) 1 (by rw [h.s0]; simp) (by simp) (by simp) (by simp)).trans h.r0_1, (hR (0, 0) 2 (by rw [h.s0]; simp) (by simp) (by simp) (by simp)).trans h.r0_2, (hR (0, 0) 4 (by rw [h.s0]; simp) (by simp) (by simp) (by simp)).trans h.r0_4, (hR (0, 0) 6 (by rw [h.s0]; simp) (by simp) (by simp) (by simp)).trans h.r0_6, (hR (0, 0) 7 (by rw [h.s0]; simp) (by simp) (by simp) (by simp)).trans h.r0_7, (hR (0, 0) 8 (by rw [h.s0]; simp) (by simp) (by simp) (by simp)).trans h.r0_8, (hR (0, 0) 9 (by rw [h.s0]; simp) (by simp) (by simp) (by simp)).trans h.r0_9, (hR (0, 0) 10 (by rw [h.s0]; simp) (by simp) (by simp) (by simp)).trans h.r0_10, (hR (0, 0) 11 (by rw [h.s0]; simp) (by simp) (by simp) (by simp)).trans h.r0_11, (hR (0, 0) 12 (by rw [h.s0]; simp) (by simp) (by simp) (by simp)).trans h.r0_12, (hR (0, 0) 13 (by rw [h.s0]; simp) (by simp) (by simp) (by simp)).trans h.r0_13, (hR (0, 0) 14 (by rw [h.s0]; simp) (by simp) (by simp) (by simp)).trans h.r0_14, (hR (0, 0) 15 (by rw [h.s0]; simp) (by simp) (by simp) (by simp)).trans h.r0_15, (hR (26, 0) 0 (by rw [h.s26]; simp) (by simp) (by simp) (by simp)).trans h.r26_0, (hR (26, 0) 1 (by rw [h.s26]; simp) (by simp) (by simp) (by simp)).trans h.r26_1, (hR (26, 0) 2 (by rw [h.s26]; simp) (by simp) (by simp) (by simp)).trans h.r26_2, (hR (26, 0) 3 (by rw [h.s26]; simp) (by simp) (by simp) (by simp)).trans h.r26_3, (hR (26, 0) 4 (by rw [h.s26]; simp) (by simp) (by simp) (by simp)).trans h.r26_4, (hR (26, 0) 5 (by rw [h.s26]; simp) (by simp) (by simp) (by simp)).trans h.r26_5⟩
theorem MG.ext {S S' : Shp} {R R' : MR} (h : MG S R) (hS : SK S S') (hR : RK S R R') : MG S' R' := ⟨(hS _ (by rw [h.s40]; simp)).trans h.s40, (hS _ (by rw [h.s50]; simp)).trans h.s50, (hS _ (by rw [h.s51]; simp)).trans h.s51, (hS _ (by rw [h.s52]; simp)).trans h.s52, (hS _ (by rw [h.s53]; simp)).trans h.s53, (hS _ (by rw [h.s57]; simp)).trans h.s57, (hS _ (by rw [h.s60]; simp)).trans h.s60, (hS _ (by rw [h.s61]; simp)).trans h.s61, (hS _ (by rw [h.s67]; simp)).trans h.s67, (hS _ (by rw [h.s69]; simp)).trans h.s69, (hS _ (by rw [h.s70]; simp)).trans h.s70, (hS _ (by rw [h.s71]; simp)).trans h.s71, (hS _ (by rw [h.s72]; simp)).trans h.s72, (hS _ (by rw [h.s73]; simp)).trans h.s73, (hS _ (by rw [h.s74]; simp)).trans h.s74, (hS _ (by rw [h.s75]; simp)).trans h.s75, (hS _ (by rw [h.s76]; simp)).trans h.s76, (hS _ (by rw [h.s80]; simp)).trans h.s80, (hS _ (by rw [h.s81]; simp)).trans h.s81, (hS _ (by rw [h.s82]; simp)).trans h.s82, (hS _ (by rw [h.s83]; simp)).trans h.s83, (hS _ (by rw [h.s84]; simp)).trans h.s84, (hS _ (by rw [h.s86]; simp)).trans h.s86, (hS _ (by rw [h.s87]; simp)).trans h.s87, (hS _ (by rw [h.s91]; simp)).trans h.s91, (hS _ (by rw [h.s92]; simp)).trans h.s92, (hS _ (by rw [h.s93]; simp)).trans h.s93, (hS _ (by rw [h.s94]; simp)).trans h.s94, (hR (40, 0) 0 (by rw [h.s40]; simp) (by simp) (by simp) (by simp)).trans h.r40_0, (hR (40, 0) 1 (by rw [h.s40]; simp) (by simp) (by simp) (by simp)).trans h.r40_1, (hR (40, 0) 2 (by rw [h.s40]; simp) (by simp) (by simp) (by simp)).trans h.r40_2, (hR (40, 0) 3 (by rw [h.s40]; simp) (by simp) (by simp) (by simp)).trans h.r40_3, (hR (40, 0) 7 (by rw [h.s40]; simp) (by simp) (by simp) (by simp)).trans h.r40_7, (hR (40, 0) 10 (by rw [h.s40]; simp) (by simp) (by simp) (by simp)).trans h.r40_10, (hR (40, 0) 11 (by rw [h.s40]; simp) (by simp) (by simp) (by simp)).trans h.r40_11, (hR (40, 0) 17 (by rw [h.s40]; simp) (by simp) (by simp) (by simp)).trans h.r40_17, (hR (40, 0) 19 (by rw [h.s40]; simp) (by simp) (by simp) (by simp)).trans h.r40_19, (hR (40, 0) 20 (by rw [h.s40]; simp) (by simp) (by simp) (by simp)).trans h.r40_20, (hR (40, 0) 21 (by rw [h.s40]; simp) (by simp) (by simp) (by simp)).trans h.r40_21, (hR (40, 0) 22 (by rw [h.s40]; simp) (by simp) (by simp) (by simp)).trans h.r40_22, (hR (40, 0) 23 (by rw [h.s40]; simp) (by simp) (by simp) (by simp)).trans h.r40_23, (hR (40, 0) 24 (by rw [h.s40]; simp) (by simp) (by simp) (by simp)).trans h.r40_24, (hR (40, 0) 25 (by rw [h.s40]; simp) (by simp) (by simp) (by simp)).trans h.r40_25, (hR (40, 0) 26 (by rw [h.s40]; simp) (by simp) (by simp) (by simp)).trans h.r40_26, (hR (40, 0) 30 (by rw [h.s40]; simp) (by simp) (by simp) (by simp)).trans h.r40_30, (hR (40, 0) 31 (by rw [h.s40]; simp) (by simp) (by simp) (by simp)).trans h.r40_31, (hR (40, 0) 32 (by rw [h.s40]; simp) (by simp) (by simp) (by simp)).trans h.r40_32, (hR (40, 0) 33 (by rw [h.s40]; simp) (by simp) (by simp) (by simp)).trans h.r40_33, (hR (40, 0) 34 (by rw [h.s40]; simp) (by simp) (by simp) (by simp)).trans h.r40_34, (hR (40, 0) 36 (by rw [h.s40]; simp) (by simp) (by simp) (by simp)).trans h.r40_36, (hR (40, 0) 37 (by rw [h.s40]; simp) (by simp) (by simp) (by simp)).trans h.r40_37, (hR (40, 0) 41 (by rw [h.s40]; simp) (by simp) (by simp) (by simp)).trans h.r40_41, (hR (40, 0) 42 (by rw [h.s40]; simp) (by simp) (by simp) (by simp)).trans h.r40_42, (hR (40, 0) 43 (by rw [h.s40]; simp) (by simp) (by simp) (by simp)).trans h.r40_43, (hR (40, 0) 44 (by rw [h.s40]; simp) (by simp) (by simp) (by simp)).trans h.r40_44⟩
theorem g_nameA {l : Launch} {mi : MInf} {Rm : Room} {Qf : QF} {k n pc : Nat} {S : Shp} {I : MI} {L : ML} {R : MR} {lv : List (Option PV)} {st : List PV} (kk : ∀ S2 J R2, S2 = S → J = I → R2 = R → G l mi Rm Qf k n pc lv st S2 J L R2) : G l mi Rm Qf k n pc lv st S I L R := kk S I R rfl rfl rfl
theorem kN2 {l : Launch} {mi : MInf} {Rm : Room} {Qf : QF} {k n mc ms pc' : Nat} {S S2 : Shp} {I2 : MI} {L2 : ML} {R2 : MR} {lv : List (Option PV)} {st : List PV} (kk : SK S S2 → G l mi Rm Qf (k + mc) (n + ms) pc' lv st S2 I2 L2 R2) : ∀ (r : Option PV) (S' : Shp) (I' : MI) (L' : ML) (R' : MR), PNv S2 I2 L2 R2 r S' I' L' R' → (∀ t, (S t).1 ≠ 0 → S' t = S t) → G l mi Rm Qf (k + mc) (n + ms) pc' lv (r.toList ++ st) S' I' L' R' := by
  rintro r S' I' L' R' ⟨rfl, rfl, rfl, rfl, rfl⟩ h
  exact kk h
/-- a WORLD's parts as they are made -/
def SWn (S : Shp) (m : Nat) : Shp := upT (upT (upT (upT (upT (upT (upT S (11, m) (17, 0)) (12, m) (1, 12)) (13, m) (1, 12)) (14, m) (1, 12)) (15, m) (1, 12)) (16, m) (2, 200)) (17, m) (1, 7)
def IWn (I : MI) (m : Nat) : MI := upT (upT (upT (upT (upT (upT (upT I (11, m) (fun _ => 0)) (12, m) (fun _ => 0)) (13, m) (fun _ => 0)) (14, m) (fun _ => 0)) (15, m) (fun _ => 0)) (16, m) (fun _ => 0)) (17, m) (fun _ => 0)
def wnP (m : Nat) (t : Tok) (_ : Nat) : Prop := 11 ≤ t.1 ∧ t.1 ≤ 17 ∧ t.2 = m
theorem IWn_fr {I : MI} {m : Nat} : Fr (wnP m) I (IWn I m) := by
  unfold IWn
  refine Fr.upT (Fr.upT (Fr.upT (Fr.upT (Fr.upT (Fr.upT (Fr.upT Fr.rf ?_) ?_) ?_) ?_) ?_) ?_) ?_ <;> simp [wnP]
def RWn (R : MR) (m : Nat) : MR := upM (upM (upT (upM (upT (upM (upT (upM (upT (upM (upT (upM (upT (upT R (11, m) (fun _ => none)) (12, m) (fun _ => none)) (11, m) 10 (some (12, m))) (13, m) (fun _ => none)) (11, m) 11 (some (13, m))) (14, m) (fun _ => none)) (11, m) 12 (some (14, m))) (15, m) (fun _ => none)) (11, m) 13 (some (15, m))) (16, m) (fun _ => none)) (11, m) 14 (some (16, m))) (17, m) (fun _ => none)) (11, m) 15 (some (17, m))) (11, m) 0 (some (1, 0))
theorem wg_new (S : Shp) (R : MR) (m : Nat) : WG m (SWn S m) (RWn R m) := by unfold WG SWn RWn; simp [upT, upM]
theorem RWn_k {S : Shp} {R : MR} {m : Nat} (hF : ∀ k, 11 ≤ k → k ≤ 17 → (S (k, m)).1 = 0) : RK S R (RWn R m) := by
  unfold RWn
  have q11 := hF 11 (by omega) (by omega)
  have q12 := hF 12 (by omega) (by omega)
  have q13 := hF 13 (by omega) (by omega)
  have q14 := hF 14 (by omega) (by omega)
  have q15 := hF 15 (by omega) (by omega)
  have q16 := hF 16 (by omega) (by omega)
  have q17 := hF 17 (by omega) (by omega)
  refine RK.new (RK.new (RK.upT (RK.new (RK.upT (RK.new (RK.upT (RK.new (RK.upT (RK.new (RK.upT (RK.new (RK.upT (RK.upT RK.rf ?_) ?_) ?_) ?_) ?_) ?_) ?_) ?_) ?_) ?_) ?_) ?_) ?_) ?_ <;> assumption
theorem SWn_k {S : Shp} {m : Nat} (hF : ∀ k, 11 ≤ k → k ≤ 17 → (S (k, m)).1 = 0) : SK S (SWn S m) := by
  intro t ht
  have key : ∀ k, 11 ≤ k → k ≤ 17 → t ≠ (k, m) := fun k h1 h2 e => ht (by rw [e]; exact hF k h1 h2)
  unfold SWn
  rw [upT_n _ (key 17 (by omega) (by omega)), upT_n _ (key 16 (by omega) (by omega)), upT_n _ (key 15 (by omega) (by omega)), upT_n _ (key 14 (by omega) (by omega)), upT_n _ (key 13 (by omega) (by omega)), upT_n _ (key 12 (by omega) (by omega)), upT_n _ (key 11 (by omega) (by omega))]
theorem c_worldL (l : Launch) {S : Shp} {I : MI} {L : ML} {R : MR} {x y : Int32} (hb : x < 0 ∨ y < 0) (z : Int32) : Ct l mX8_world 1 0 0 [.inr (.inr (some (0, 0))), .inl x, .inl y, .inl z] S I L R (PIp S I L R (-1)) := by
  refine Ct.of [some (.inr (.inr (some (0, 0)))), some (.inl x), some (.inl y), some (.inl z), none, none, none, none, none] (by decide) rfl (Nat.le_of_ble_eq_true rfl) ?_
  refine g_ild1 (pc' := 1) dX8_world_0 rfl ?_
  refine g_iflt (pc' := 4) (tgt := 8) dX8_world_1 (by decide) rfl (fun h1 => ?_) (fun h1 => ?_)
  · refine g_iconst (pc' := 9) (v := (-1)) dX8_world_8 rfl (by decide) ?_
    refine g_iret rfl dX8_world_9 ?_
    exact eIp rfl
  · refine g_ild2 (pc' := 5) dX8_world_4 rfl ?_
    refine g_ifge (pc' := 8) (tgt := 10) dX8_world_5 (by decide) rfl (fun h5 => ?_) (fun h5 => ?_)
    · exact (hb.elim (fun q => h1 q) (fun q => absurd q (Int32.not_lt.mpr h5))).elim
    · refine g_iconst (pc' := 9) (v := (-1)) dX8_world_8 rfl (by decide) ?_
      refine g_iret rfl dX8_world_9 ?_
      exact eIp rfl

theorem c_worldN (l : Launch) {S : Shp} {I : MI} {L : ML} {R : MR} (xg : XG S R) {c : Nat} (hc : I (0, 0) 3 = nI c) (hC : c ≤ 6) {a u : Nat} (ha : a < 2 ^ 31) (hu : u < 2 ^ 31) (hl : c ≤ a / 10) (z : Int32) : Ct l mX8_world 2 0 0 [.inr (.inr (some (0, 0))), .inl (nI a), .inl (nI u), .inl z] S I L R (PIp S I L R (-1)) := by
  have hx : inb (nI (a / 10)) c = false := by rw [inb_nI (by omega) (by omega)]; simp; omega
  refine Ct.of [some (.inr (.inr (some (0, 0)))), some (.inl (nI a)), some (.inl (nI u)), some (.inl z), none, none, none, none, none] (by decide) rfl (Nat.le_of_ble_eq_true rfl) ?_
  refine g_ild1 (pc' := 1) dX8_world_0 rfl ?_
  refine g_ifltN (pc' := 4) (by omega) dX8_world_1 rfl ?_
  refine g_ild2 (pc' := 5) dX8_world_4 rfl ?_
  refine g_ifgeN (by omega) (tgt := 10) dX8_world_5 (by decide) ?_
  refine g_ild1 (pc' := 11) dX8_world_10 rfl ?_
  refine g_bipush (pc' := 13) (v := nI 10) dX8_world_11 rfl (by decide) ?_
  refine g_iremN (pc' := 14) (by omega) dX8_world_13 rfl ?_
  refine g_ist4 (pc' := 16) rfl (by decide) dX8_world_14 rfl ?_
  refine g_ild2 (pc' := 17) dX8_world_16 rfl ?_
  refine g_sipush (pc' := 20) (v := nI 10000) dX8_world_17 rfl (by decide) ?_
  refine g_idivN (pc' := 21) (by omega) dX8_world_20 rfl ?_
  refine g_ist5 (pc' := 23) rfl (by decide) dX8_world_21 rfl ?_
  refine g_ild2 (pc' := 24) dX8_world_23 rfl ?_
  refine g_sipush (pc' := 27) (v := nI 10000) dX8_world_24 rfl (by decide) ?_
  refine g_iremN (pc' := 28) (by omega) dX8_world_27 rfl ?_
  refine g_ist6 (pc' := 30) rfl (by decide) dX8_world_28 rfl ?_
  refine g_ald0 (pc' := 31) dX8_world_30 rfl ?_
  refine g_ild1 (pc' := 32) dX8_world_31 rfl ?_
  refine g_bipush (pc' := 34) (v := nI 10) dX8_world_32 rfl (by decide) ?_
  refine g_idivN (pc' := 35) (by omega) dX8_world_34 rfl ?_
  refine g_callV (pc' := 38) (c_lawOfN l xg hc hx) xg.s0 (by decide) wX8_lawOf lX8_124 rfl rfl (Nat.le_of_ble_eq_true rfl) ⟨Nat.le_of_ble_eq_true rfl, Nat.le_of_ble_eq_true rfl⟩ ⟨Nat.le_of_ble_eq_true rfl, Nat.le_of_ble_eq_true rfl⟩ dX8_world_35 rfl (kRp ?_)
  refine g_ast7 (pc' := 40) rfl (by decide) dX8_world_38 rfl ?_
  refine g_ald7 (pc' := 42) dX8_world_40 rfl ?_
  refine g_ifnullT (tgt := 59) dX8_world_42 (by decide) ?_
  refine g_iconst (pc' := 60) (v := (-1)) dX8_world_59 rfl (by decide) ?_
  refine g_iret rfl dX8_world_60 ?_
  exact eIp rfl

theorem c_worldB (l : Launch) {S : Shp} {I : MI} {L : ML} {R : MR} (xg : XG S R) {c : Nat} (hc : I (0, 0) 3 = nI c) (hC : c ≤ 6) {a u : Nat} (ha : a < 2 ^ 31) (hu : u < 2 ^ 31) (hl : a / 10 < c) (hRl : R (6, 0) (a / 10) = some (7, a / 10)) (hb : 2 < a % 10 ∨ 999 < u / 10000) (z : Int32) : Ct l mX8_world 2 0 0 [.inr (.inr (some (0, 0))), .inl (nI a), .inl (nI u), .inl z] S I L R (PIp S I L R (-1)) := by
  refine Ct.of [some (.inr (.inr (some (0, 0)))), some (.inl (nI a)), some (.inl (nI u)), some (.inl z), none, none, none, none, none] (by decide) rfl (Nat.le_of_ble_eq_true rfl) ?_
  refine g_ild1 (pc' := 1) dX8_world_0 rfl ?_
  refine g_ifltN (pc' := 4) (by omega) dX8_world_1 rfl ?_
  refine g_ild2 (pc' := 5) dX8_world_4 rfl ?_
  refine g_ifgeN (by omega) (tgt := 10) dX8_world_5 (by decide) ?_
  refine g_ild1 (pc' := 11) dX8_world_10 rfl ?_
  refine g_bipush (pc' := 13) (v := nI 10) dX8_world_11 rfl (by decide) ?_
  refine g_iremN (pc' := 14) (by omega) dX8_world_13 rfl ?_
  refine g_ist4 (pc' := 16) rfl (by decide) dX8_world_14 rfl ?_
  refine g_ild2 (pc' := 17) dX8_world_16 rfl ?_
  refine g_sipush (pc' := 20) (v := nI 10000) dX8_world_17 rfl (by decide) ?_
  refine g_idivN (pc' := 21) (by omega) dX8_world_20 rfl ?_
  refine g_ist5 (pc' := 23) rfl (by decide) dX8_world_21 rfl ?_
  refine g_ild2 (pc' := 24) dX8_world_23 rfl ?_
  refine g_sipush (pc' := 27) (v := nI 10000) dX8_world_24 rfl (by decide) ?_
  refine g_iremN (pc' := 28) (by omega) dX8_world_27 rfl ?_
  refine g_ist6 (pc' := 30) rfl (by decide) dX8_world_28 rfl ?_
  refine g_ald0 (pc' := 31) dX8_world_30 rfl ?_
  refine g_ild1 (pc' := 32) dX8_world_31 rfl ?_
  refine g_bipush (pc' := 34) (v := nI 10) dX8_world_32 rfl (by decide) ?_
  refine g_idivN (pc' := 35) (by omega) dX8_world_34 rfl ?_
  refine g_callV (pc' := 38) (c_lawOfS l xg hc hl hC hRl) xg.s0 (by decide) wX8_lawOf lX8_124 rfl rfl (Nat.le_of_ble_eq_true rfl) ⟨Nat.le_of_ble_eq_true rfl, Nat.le_of_ble_eq_true rfl⟩ ⟨Nat.le_of_ble_eq_true rfl, Nat.le_of_ble_eq_true rfl⟩ dX8_world_35 rfl (kRp ?_)
  refine g_ast7 (pc' := 40) rfl (by decide) dX8_world_38 rfl ?_
  refine g_ald7 (pc' := 42) dX8_world_40 rfl ?_
  refine g_ifnullF (pc' := 45) dX8_world_42 rfl ?_
  refine g_ild4 (pc' := 47) dX8_world_45 rfl ?_
  refine g_iconst (pc' := 48) (v := nI 2) dX8_world_47 rfl (by decide) ?_
  refine g_icmpgtN (pc' := 51) (by omega) (by omega) (tgt := 59) dX8_world_48 (by decide) rfl (fun h48 => ?_) (fun h48 => ?_)
  · refine g_iconst (pc' := 60) (v := (-1)) dX8_world_59 rfl (by decide) ?_
    refine g_iret rfl dX8_world_60 ?_
    exact eIp rfl
  · refine g_ild5 (pc' := 53) dX8_world_51 rfl ?_
    refine g_sipush (pc' := 56) (v := nI 999) dX8_world_53 rfl (by decide) ?_
    refine g_icmpleN (pc' := 59) (by omega) (by omega) (tgt := 61) dX8_world_56 (by decide) rfl (fun h56 => ?_) (fun h56 => ?_)
    · exact absurd hb (by omega)
    · refine g_iconst (pc' := 60) (v := (-1)) dX8_world_59 rfl (by decide) ?_
      refine g_iret rfl dX8_world_60 ?_
      exact eIp rfl

theorem c_worldF (l : Launch) {S : Shp} {I : MI} {L : ML} {R : MR} (xg : XG S R) {c : Nat} (hc : I (0, 0) 3 = nI c) (hC : c ≤ 6) {a u : Nat} (ha : a < 2 ^ 31) (hu : u < 2 ^ 31) (hl : a / 10 < c) (hRl : R (6, 0) (a / 10) = some (7, a / 10)) (h2 : a % 10 ≤ 2) (h9 : u / 10000 ≤ 999) {m : Nat} (hm : I (0, 0) 5 = nI m) (hM : m = 9) (z : Int32) : Ct l mX8_world 2 0 0 [.inr (.inr (some (0, 0))), .inl (nI a), .inl (nI u), .inl z] S I L R (PIp S I L R (-3)) := by
  refine Ct.of [some (.inr (.inr (some (0, 0)))), some (.inl (nI a)), some (.inl (nI u)), some (.inl z), none, none, none, none, none] (by decide) rfl (Nat.le_of_ble_eq_true rfl) ?_
  refine g_ild1 (pc' := 1) dX8_world_0 rfl ?_
  refine g_ifltN (pc' := 4) (by omega) dX8_world_1 rfl ?_
  refine g_ild2 (pc' := 5) dX8_world_4 rfl ?_
  refine g_ifgeN (by omega) (tgt := 10) dX8_world_5 (by decide) ?_
  refine g_ild1 (pc' := 11) dX8_world_10 rfl ?_
  refine g_bipush (pc' := 13) (v := nI 10) dX8_world_11 rfl (by decide) ?_
  refine g_iremN (pc' := 14) (by omega) dX8_world_13 rfl ?_
  refine g_ist4 (pc' := 16) rfl (by decide) dX8_world_14 rfl ?_
  refine g_ild2 (pc' := 17) dX8_world_16 rfl ?_
  refine g_sipush (pc' := 20) (v := nI 10000) dX8_world_17 rfl (by decide) ?_
  refine g_idivN (pc' := 21) (by omega) dX8_world_20 rfl ?_
  refine g_ist5 (pc' := 23) rfl (by decide) dX8_world_21 rfl ?_
  refine g_ild2 (pc' := 24) dX8_world_23 rfl ?_
  refine g_sipush (pc' := 27) (v := nI 10000) dX8_world_24 rfl (by decide) ?_
  refine g_iremN (pc' := 28) (by omega) dX8_world_27 rfl ?_
  refine g_ist6 (pc' := 30) rfl (by decide) dX8_world_28 rfl ?_
  refine g_ald0 (pc' := 31) dX8_world_30 rfl ?_
  refine g_ild1 (pc' := 32) dX8_world_31 rfl ?_
  refine g_bipush (pc' := 34) (v := nI 10) dX8_world_32 rfl (by decide) ?_
  refine g_idivN (pc' := 35) (by omega) dX8_world_34 rfl ?_
  refine g_callV (pc' := 38) (c_lawOfS l xg hc hl hC hRl) xg.s0 (by decide) wX8_lawOf lX8_124 rfl rfl (Nat.le_of_ble_eq_true rfl) ⟨Nat.le_of_ble_eq_true rfl, Nat.le_of_ble_eq_true rfl⟩ ⟨Nat.le_of_ble_eq_true rfl, Nat.le_of_ble_eq_true rfl⟩ dX8_world_35 rfl (kRp ?_)
  refine g_ast7 (pc' := 40) rfl (by decide) dX8_world_38 rfl ?_
  refine g_ald7 (pc' := 42) dX8_world_40 rfl ?_
  refine g_ifnullF (pc' := 45) dX8_world_42 rfl ?_
  refine g_ild4 (pc' := 47) dX8_world_45 rfl ?_
  refine g_iconst (pc' := 48) (v := nI 2) dX8_world_47 rfl (by decide) ?_
  refine g_icmpgtN (pc' := 51) (by omega) (by omega) (tgt := 59) dX8_world_48 (by decide) rfl (fun h48 => ?_) (fun h48 => ?_)
  · exact absurd h48 (by omega)
  · refine g_ild5 (pc' := 53) dX8_world_51 rfl ?_
    refine g_sipush (pc' := 56) (v := nI 999) dX8_world_53 rfl (by decide) ?_
    refine g_icmpleN (pc' := 59) (by omega) (by omega) (tgt := 61) dX8_world_56 (by decide) rfl (fun h56 => ?_) (fun h56 => ?_)
    · refine g_ald0 (pc' := 62) dX8_world_61 rfl ?_
      refine g_getI (pc' := 65) xg.s0 (by decide) fX8_128 hm dX8_world_62 rfl ?_
      refine g_bipush (pc' := 67) (v := nI 9) dX8_world_65 rfl (by decide) ?_
      refine g_icmpltN (pc' := 70) (by omega) (by omega) (tgt := 73) dX8_world_67 (by decide) rfl (fun h67 => ?_) (fun h67 => ?_)
      · exact absurd h67 (by omega)
      · refine g_bipush (pc' := 72) (v := (-3)) dX8_world_70 rfl (by decide) ?_
        refine g_iret rfl dX8_world_72 ?_
        exact eIp rfl
    · exact absurd h56 (by omega)

def wrlI (I : MI) (m a u : Nat) (z : Int32) : MI := upM (upM (upM (upM (upM (begI (IWn I m) m z) (11, m) 2 (nI (a / 10))) (11, m) 3 (nI (a % 10))) (11, m) 4 (nI (u / 10000))) (11, m) 5 (nI (u % 10000))) (0, 0) 5 (nI (m + 1))
def wrlR (R : MR) (m a : Nat) : MR := upM (upM (RWn R m) (11, m) 1 (some (7, a / 10))) (10, 0) m (some (11, m))
theorem c_worldS (l : Launch) {S : Shp} {I : MI} {L : ML} {R : MR} (xg : XG S R) {c : Nat} (hc : I (0, 0) 3 = nI c) (hC : c ≤ 6) {a u : Nat} (ha : a < 2 ^ 31) (hu : u < 2 ^ 31) (hl : a / 10 < c) (hRl : R (6, 0) (a / 10) = some (7, a / 10)) (h2 : a % 10 ≤ 2) (h9 : u / 10000 ≤ 999) {m : Nat} (hm : I (0, 0) 5 = nI m) (hM : m < 9) (hF : ∀ k, 11 ≤ k → k ≤ 17 → (S (k, m)).1 = 0) (z : Int32) : Ct l mX8_world 3 7 271 [.inr (.inr (some (0, 0))), .inl (nI a), .inl (nI u), .inl z] S I L R (fun r S' J L' R' => ∃ v, r = some (.inl v) ∧ S' = SWn S m ∧ J = wrlI I m a u z ∧ L' = L ∧ R' = wrlR R m a ∧ v = nI m) := by
  refine Ct.of [some (.inr (.inr (some (0, 0)))), some (.inl (nI a)), some (.inl (nI u)), some (.inl z), none, none, none, none, none] (by decide) rfl (Nat.le_of_ble_eq_true rfl) ?_
  refine g_ild1 (pc' := 1) dX8_world_0 rfl ?_
  refine g_ifltN (pc' := 4) (by omega) dX8_world_1 rfl ?_
  refine g_ild2 (pc' := 5) dX8_world_4 rfl ?_
  refine g_ifgeN (by omega) (tgt := 10) dX8_world_5 (by decide) ?_
  refine g_ild1 (pc' := 11) dX8_world_10 rfl ?_
  refine g_bipush (pc' := 13) (v := nI 10) dX8_world_11 rfl (by decide) ?_
  refine g_iremN (pc' := 14) (by omega) dX8_world_13 rfl ?_
  refine g_ist4 (pc' := 16) rfl (by decide) dX8_world_14 rfl ?_
  refine g_ild2 (pc' := 17) dX8_world_16 rfl ?_
  refine g_sipush (pc' := 20) (v := nI 10000) dX8_world_17 rfl (by decide) ?_
  refine g_idivN (pc' := 21) (by omega) dX8_world_20 rfl ?_
  refine g_ist5 (pc' := 23) rfl (by decide) dX8_world_21 rfl ?_
  refine g_ild2 (pc' := 24) dX8_world_23 rfl ?_
  refine g_sipush (pc' := 27) (v := nI 10000) dX8_world_24 rfl (by decide) ?_
  refine g_iremN (pc' := 28) (by omega) dX8_world_27 rfl ?_
  refine g_ist6 (pc' := 30) rfl (by decide) dX8_world_28 rfl ?_
  refine g_ald0 (pc' := 31) dX8_world_30 rfl ?_
  refine g_ild1 (pc' := 32) dX8_world_31 rfl ?_
  refine g_bipush (pc' := 34) (v := nI 10) dX8_world_32 rfl (by decide) ?_
  refine g_idivN (pc' := 35) (by omega) dX8_world_34 rfl ?_
  refine g_callV (pc' := 38) (c_lawOfS l xg hc hl hC hRl) xg.s0 (by decide) wX8_lawOf lX8_124 rfl rfl (Nat.le_of_ble_eq_true rfl) ⟨Nat.le_of_ble_eq_true rfl, Nat.le_of_ble_eq_true rfl⟩ ⟨Nat.le_of_ble_eq_true rfl, Nat.le_of_ble_eq_true rfl⟩ dX8_world_35 rfl (kRp ?_)
  refine g_ast7 (pc' := 40) rfl (by decide) dX8_world_38 rfl ?_
  refine g_ald7 (pc' := 42) dX8_world_40 rfl ?_
  refine g_ifnullF (pc' := 45) dX8_world_42 rfl ?_
  refine g_ild4 (pc' := 47) dX8_world_45 rfl ?_
  refine g_iconst (pc' := 48) (v := nI 2) dX8_world_47 rfl (by decide) ?_
  refine g_icmpgtN (pc' := 51) (by omega) (by omega) (tgt := 59) dX8_world_48 (by decide) rfl (fun h48 => ?_) (fun h48 => ?_)
  · exact absurd h48 (by omega)
  · refine g_ild5 (pc' := 53) dX8_world_51 rfl ?_
    refine g_sipush (pc' := 56) (v := nI 999) dX8_world_53 rfl (by decide) ?_
    refine g_icmpleN (pc' := 59) (by omega) (by omega) (tgt := 61) dX8_world_56 (by decide) rfl (fun h56 => ?_) (fun h56 => ?_)
    · refine g_ald0 (pc' := 62) dX8_world_61 rfl ?_
      refine g_getI (pc' := 65) xg.s0 (by decide) fX8_128 hm dX8_world_62 rfl ?_
      refine g_bipush (pc' := 67) (v := nI 9) dX8_world_65 rfl (by decide) ?_
      refine g_icmpltN (pc' := 70) (by omega) (by omega) (tgt := 73) dX8_world_67 (by decide) rfl (fun h67 => ?_) (fun h67 => ?_)
      · refine g_new (pc' := 76) (11, m) (hF 11 (by omega) (by omega)) (by decide) ⟨nX8_29, iw7, jw7⟩ (Nat.le_of_ble_eq_true rfl) (Nat.le_of_ble_eq_true rfl) dX8_world_73 rfl ?_
        have xg0 := xg
        have hS1 : SK S (upT S (11, m) (17, 0)) := SK.up (hF 11 (by omega) (by omega))
        have xg := xg.ext hS1 (RK.upT RK.rf (v := fun _ => none) (hF 11 (by omega) (by omega)))
        refine g_dupR (pc' := 77) dX8_world_76 rfl ?_
        refine g_ald0 (pc' := 78) dX8_world_77 rfl ?_
        refine g_getR (pc' := 81) xg.s0 (by decide) fX8_10 xg.r0_0 dX8_world_78 rfl ?_
        refine g_callI (pc' := 84) (c_X7_init l (upT_s _ _ _) (by rw [upT_n _ (by simp)]; exact hF 12 (by omega) (by omega)) (by rw [upT_n _ (by simp)]; exact hF 13 (by omega) (by omega)) (by rw [upT_n _ (by simp)]; exact hF 14 (by omega) (by omega)) (by rw [upT_n _ (by simp)]; exact hF 15 (by omega) (by omega)) (by rw [upT_n _ (by simp)]; exact hF 16 (by omega) (by omega)) (by rw [upT_n _ (by simp)]; exact hF 17 (by omega) (by omega))) wX7_init (Or.inl lX8_55) rfl rfl (Nat.le_of_ble_eq_true rfl) ⟨Nat.le_of_ble_eq_true rfl, Nat.le_of_ble_eq_true rfl⟩ ⟨Nat.le_of_ble_eq_true rfl, Nat.le_of_ble_eq_true rfl⟩ dX8_world_81 rfl (kN ?_)
        refine g_nameA (fun S2 J2 Ra hS2 hI2 hR2 => ?_)
        have hS2 : S2 = SWn S m := hS2
        have hI2 : J2 = IWn I m := hI2
        have hR2 : Ra = RWn R m := hR2
        have wgm : WG m S2 Ra := by rw [hS2, hR2]; exact wg_new S R m
        have xg2 : XG S2 Ra := xg0.ext (by rw [hS2]; exact SWn_k hF) (by rw [hR2]; exact RWn_k hF)
        have hm2 : J2 (0, 0) 5 = nI m := by rw [hI2]; exact (IWn_fr _ _ (by simp [wnP])).trans hm
        refine g_ast8 (pc' := 86) rfl (by decide) dX8_world_84 rfl ?_
        refine g_ald8 (pc' := 88) dX8_world_86 rfl ?_
        refine g_ald7 (pc' := 90) dX8_world_88 rfl ?_
        refine g_ild3 (pc' := 91) dX8_world_90 rfl ?_
        refine g_callV (pc' := 94) (c_begin l wgm z) wgm.s11 (by decide) wX7_begin lX8_131 rfl rfl (Nat.le_of_ble_eq_true rfl) ⟨Nat.le_of_ble_eq_true rfl, Nat.le_of_ble_eq_true rfl⟩ ⟨Nat.le_of_ble_eq_true rfl, Nat.le_of_ble_eq_true rfl⟩ dX8_world_91 rfl (kV (fun J3 hJ3 => ?_))
        have hm3 : J3 (0, 0) 5 = nI m := by rw [hJ3]; exact (beg_fr _ _ (by simp [begP])).trans hm2
        have wgm := wgm.upRg (b := m) (x := some (7, a / 10))
        have xg2 := xg2.upRg (b := m) (x := some (7, a / 10))
        refine g_ald8 (pc' := 96) dX8_world_94 rfl ?_
        refine g_ild1 (pc' := 97) dX8_world_96 rfl ?_
        refine g_bipush (pc' := 99) (v := nI 10) dX8_world_97 rfl (by decide) ?_
        refine g_idivN (pc' := 100) (by omega) dX8_world_99 rfl ?_
        refine g_putI (pc' := 103) wgm.s11 (by decide) ⟨fX8_135, rfl, pI⟩ dX8_world_100 rfl ?_
        refine g_ald8 (pc' := 105) dX8_world_103 rfl ?_
        refine g_ild4 (pc' := 107) dX8_world_105 rfl ?_
        refine g_putI (pc' := 110) wgm.s11 (by decide) ⟨fX8_138, rfl, pI⟩ dX8_world_107 rfl ?_
        refine g_ald8 (pc' := 112) dX8_world_110 rfl ?_
        refine g_ild5 (pc' := 114) dX8_world_112 rfl ?_
        refine g_putI (pc' := 117) wgm.s11 (by decide) ⟨fX8_141, rfl, pI⟩ dX8_world_114 rfl ?_
        refine g_ald8 (pc' := 119) dX8_world_117 rfl ?_
        refine g_ild6 (pc' := 121) dX8_world_119 rfl ?_
        refine g_putI (pc' := 124) wgm.s11 (by decide) ⟨fX8_144, rfl, pI⟩ dX8_world_121 rfl ?_
        refine g_ald0 (pc' := 125) dX8_world_124 rfl ?_
        refine g_getR (pc' := 128) xg2.s0 (by decide) fX8_31 xg2.r0_4 dX8_world_125 rfl ?_
        refine g_ald0 (pc' := 129) dX8_world_128 rfl ?_
        refine g_getI (pc' := 132) xg2.s0 (by decide) fX8_128 (v := nI m) (by simp [upM, hm3]) dX8_world_129 rfl ?_
        refine g_ald8 (pc' := 134) dX8_world_132 rfl ?_
        refine g_aast (pc' := 135) (j := m) (Or.inr (Or.inr ⟨rfl, rfl⟩)) xg2.s10 wgm.s11 rfl (by omega) (by decide) dX8_world_134 rfl ?_
        refine g_ald0 (pc' := 136) dX8_world_135 rfl ?_
        refine g_dupR (pc' := 137) dX8_world_136 rfl ?_
        refine g_getI (pc' := 140) xg2.s0 (by decide) fX8_128 (v := nI m) (by simp [upM, hm3]) dX8_world_137 rfl ?_
        refine g_iconst (pc' := 141) (v := nI 1) dX8_world_140 rfl (by decide) ?_
        refine g_iaddN (pc' := 142) dX8_world_141 rfl ?_
        refine g_putI (pc' := 145) xg2.s0 (by decide) ⟨fX8_128, rfl, pI⟩ dX8_world_142 rfl ?_
        refine g_ald0 (pc' := 146) dX8_world_145 rfl ?_
        refine g_getI (pc' := 149) xg2.s0 (by decide) fX8_128 (v := nI (m + 1)) (by simp [upM]) dX8_world_146 rfl ?_
        refine g_iconst (pc' := 150) (v := nI 1) dX8_world_149 rfl (by decide) ?_
        refine g_isub (pc' := 151) dX8_world_150 rfl ?_
        refine g_topi (v := nI m) (pk_sub (by omega)) ?_
        refine g_iret rfl dX8_world_151 ?_
        exact ⟨_, rfl, by rw [hS2], by rw [hJ3, hI2]; rfl, rfl, by rw [hR2]; rfl, rfl⟩
      · exact absurd h67 (by omega)
    · exact absurd h56 (by omega)
