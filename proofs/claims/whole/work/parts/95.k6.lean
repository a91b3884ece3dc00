/-! the calls, one by one: odds, strong -/
theorem TG.upRg {S : Shp} {R : MR} {b : Nat} {x : Option Tok} (h : TG S R) : TG S (upM R (11, b) 1 x) := by unfold TG at *; simpa [upM] using h
theorem HG.upRg {S : Shp} {R : MR} {b : Nat} {x : Option Tok} (h : HG S R) : HG S (upM R (11, b) 1 x) := by unfold HG at *; simpa [upM] using h
theorem AG.upRg {S : Shp} {R : MR} {b : Nat} {x : Option Tok} (h : AG S R) : AG S (upM R (11, b) 1 x) := by unfold AG at *; simpa [upM] using h
theorem OG.upRg {S : Shp} {R : MR} {b : Nat} {x : Option Tok} (h : OG S R) : OG S (upM R (11, b) 1 x) := by unfold OG at *; simpa [upM] using h
theorem MG.upRg {S : Shp} {R : MR} {b : Nat} {x : Option Tok} (h : MG S R) : MG S (upM R (11, b) 1 x) := by unfold MG at *; simpa [upM] using h
theorem DG.upRg {S : Shp} {R : MR} {j b : Nat} {x : Option Tok} (h : DG j S R) : DG j S (upM R (11, b) 1 x) := by unfold DG at *; simpa [upM] using h
theorem KG.upRg {Ls m c : Nat} {S : Shp} {R : MR} {b : Nat} {x : Option Tok} (h : KG Ls m c S R) : KG Ls m c S (upM R (11, b) 1 x) := KG.mk (xg := h.xg.upRg) (sg := h.sg.upRg) (tg := h.tg.upRg) (hg := h.hg.upRg) (ag := h.ag.upRg) (og := h.og.upRg) (mg := h.mg.upRg) (w9 := h.w9.upRg) (w10 := h.w10.upRg) (dg := fun d hd => (h.dg d hd).upRg) (wg := fun k hk => (h.wg k hk).upRg) (rw := fun k hk => by rw [upM_n _ (by simp)]; exact h.rw k hk) (rl := fun k hk => by rw [upM_n _ (by simp)]; exact h.rl k hk) (fw := h.fw) (fl := h.fl) (s99 := h.s99)
theorem K2.upRg {xs : Nat → Int32} {q n m c b : Nat} {S : Shp} {R : MR} {X Y : MI} {LX LY : ML} {z : Nat} {x : Option Tok} (hz : 9 ≤ z) (h : K2 xs q n m c b S R X Y LX LY) : K2 xs q n m c b S (upM R (11, z) 1 x) X Y LX LY := by
  have hM := h.hM
  exact K2.mk (hN := h.hN) (hM := h.hM) (hC := h.hC) (hB := h.hB) (hq := h.hq) (xn := h.xn) (xm := h.xm) (xc := h.xc) (yn := h.yn) (ym := h.ym) (yc := h.yc) (st := h.st) (at_ := h.at_) (so := h.so) (tp := h.tp) (ch := h.ch) (ac := h.ac) (sh := h.sh) (lw := fun k hk => (h.lw k hk).to (fun _ w => w.upRg) (fun _ => rfl) (fun _ _ _ => rfl) rfl) (wb := fun k hk => (h.wb k hk).to (Nat.le_refl _) (Nat.le_refl _) (Nat.le_refl _) (by rw [upM_n _ (by simp; omega)]) (fun _ => rfl) (fun _ => rfl) (fun _ => rfl) (fun _ _ _ => rfl)) (fs := h.fs) (sc := h.sc)
theorem eX_of {P : Tok → Nat → Prop} {I J : MI} (hf : Fr P I J) (hP : ∀ t i, P t i → cS t i) : eX I J := fun t i _ h2 => hf t i (fun z => h2 (hP t i z))
theorem eY_of {P : Tok → Nat → Prop} {I J : MI} (hf : Fr P I J) (hP : ∀ t i, P t i → t.1 < 40) : eY I J := fun t i h1 _ => hf t i (fun z => absurd (hP t i z) (by omega))
theorem foP_c {lj : Nat} (t : Tok) (i : Nat) (h : foP lj t i) : cS t i ∧ t.1 < 40 := by
  rcases h with (((⟨rfl, h⟩ | rfl) | (⟨rfl, h⟩ | ⟨rfl, h⟩) | (rfl | rfl | rfl | rfl | rfl)) | ⟨rfl, h⟩) <;> simp [cS]
theorem aiP_c {lj : Nat} (t : Tok) (i : Nat) (h : aiP lj t i) : cS t i ∧ t.1 < 40 := by
  unfold aiP begP mcP wldP scW at h
  rcases h with ((⟨rfl, h⟩ | rfl) | (⟨rfl, h⟩ | rfl) | ((⟨rfl, h⟩ | rfl | rfl) | (rfl | rfl | rfl | rfl | rfl)) | ((⟨rfl, h⟩ | rfl | rfl) | (rfl | rfl | rfl | rfl | rfl))) <;> simp [cS]
theorem fvP_m {b : Nat} (t : Tok) (i : Nat) (h : fvP b t i) : mSP t i := by
  rcases h with ((⟨rfl, h⟩ | rfl) | rfl) | ⟨rfl, h⟩ <;> simp [mSP, mS] <;> omega
theorem auP_m (t : Tok) (i : Nat) (h : auP t i) : mSP t i := by
  unfold auP at h
  rcases h with h | h | h | h | h
  · exact fvP_m (b := 0) t i (Or.inl h)
  · unfold bgP at h
    rcases h with ⟨h, h2⟩ | ⟨rfl, h⟩
    · rcases h with rfl | rfl | rfl | rfl | rfl | rfl <;> simp [mSP, mS] <;> omega
    · simp [mSP, mS]; omega
  · unfold owP mwP at h
    rcases h with (⟨rfl, h⟩ | ⟨rfl, h⟩ | ⟨rfl, h⟩ | ⟨rfl, h⟩) | ⟨rfl, h⟩ <;> simp [mSP, mS] <;> omega
  · unfold bgP at h
    rcases h with ⟨h, h2⟩ | ⟨rfl, h⟩
    · rcases h with rfl | rfl | rfl | rfl | rfl | rfl <;> simp [mSP, mS] <;> omega
    · simp [mSP, mS]; omega
  · unfold owP mwP at h
    rcases h with (⟨rfl, h⟩ | ⟨rfl, h⟩ | ⟨rfl, h⟩ | ⟨rfl, h⟩) | ⟨rfl, h⟩ <;> simp [mSP, mS] <;> omega
theorem K2.u4 {xs : Nat → Int32} {q n m c b : Nat} {S : Shp} {R : MR} {X Y : MI} {LX LY : ML} (h : K2 xs q n m c b S R X Y LX LY) {j : Nat} (hj : j < m) : X (11, j) 4 = Y (71, 0) j := by
  obtain ⟨lj, ke, -, -, -, -, -, -, -, h1⟩ := h.wb j hj
  exact h1
theorem ro_0 {xs : Nat → Int32} {q n m c b : Nat} {S : Shp} {R : MR} {I J : MI} {L : ML} (k : K2 xs q n m c b S R I I L L) {j : Nat} (hj : j < m) (hJ : ∀ a i, 40 ≤ a → J (a, 0) i = I (a, 0) i) : RO6 j n 0 (0, 0, 0, 0) I J := by
  obtain ⟨lj, ke, -, -, -, -, -, wa, -⟩ := k.wb j hj
  have hN := k.hN
  obtain ⟨⟨a3, -, a6, a7⟩, ⟨p, hp, p1, p2⟩, ⟨a8, b8⟩, hc, -⟩ := wa
  refine ⟨a3.trans (hJ 70 _ (by omega)).symm, (k.u4 hj).trans (hJ 71 _ (by omega)).symm, ?_, ?_, ⟨p, hp, p1, (hJ 50 _ (by omega)).trans p2⟩, fun s hs => ?_, fun s hs => ((hJ 50 _ (by omega)).trans (k.wo hs)).symm, k.bd hj⟩
  · rw [hJ 73 _ (by omega), ← a7, add_n0]
  · rw [hJ 74 _ (by omega), b8, a8]
    exact (add_n0 _).symm
  · obtain ⟨w, hw, w1, w2⟩ := hc s (by omega)
    unfold cnM ctT
    have h0 : vG (0, 0, 0, 0) s = 0 := by have := vG_le (v := (0, 0, 0, 0)) s; simp [sm] at this; exact this
    rw [hJ 50 _ (by omega), w2, w1, h0, add_n0, minI_n (by omega), show min w 99999 = w by omega]
