/-! the calls that write: body, keep -/

theorem s_body (l : Launch) {Ls : Nat} {xs : Nat → Int32} {q n m c b : Nat} {S : Shp} {I : MI} {L : ML} {R : MR} (g : KG Ls m c S R) (k : K2 xs q n m c b S R I I L L) (hq : q < 600) (x : Int32) : Sr l wI mX8_body mX9_body [.inl x] Ls xs q S I L R := by
  have hN := k.hN
  have hM := k.hM
  have hC := k.hC
  have hB := k.hB
  obtain ⟨a1, a2, a3, r0, a4, a5, a6, a7⟩ := k.ac
  have hc := c_body l (I := I) (S := S) (L := L) (R := R) g.xg g.ag a1 hB x
  by_cases h0 : x < 0
  · rw [if_pos (Or.inl h0), if_pos (Or.inl h0)] at hc
    exact sr1 g k hq (-1) hc (by omega) (qIp rfl) (fun J hJ k1 => ⟨_, _, c_mBodyB l g.mg (Or.inl h0), by omega, qIp rfl⟩)
  by_cases h8 : nI 8 ≤ x
  · rw [if_pos (Or.inr h8), if_pos (Or.inr h8)] at hc
    exact sr1 g k hq (-1) hc (by omega) (qIp rfl) (fun J hJ k1 => ⟨_, _, c_mBodyB l g.mg (Or.inr (Int32.lt_of_lt_of_le (by decide) h8)), by omega, qIp rfl⟩)
  have hno : ¬ (x < 0 ∨ nI 8 ≤ x) := fun z => z.elim h0 h8
  rw [if_neg hno, if_neg hno] at hc
  obtain ⟨p, hp, rfl⟩ := nI_of h0
  rw [nI_leI (by omega) hp] at h8
  have h7 : ¬ nI 7 < nI p := by rw [nI_ltI (by omega) hp]; omega
  by_cases hf : 50 ≤ b
  · rw [if_pos hf, if_pos hf] at hc
    exact sr1 g k hq (-3) hc (by omega) (qIp rfl) (fun J hJ k1 => ⟨_, _, c_mBodyF l g.mg ((hJ 40 _ (by omega)).trans a2) hB h0 h7 (by omega), by omega, qIp rfl⟩)
  rw [if_neg hf, if_neg hf] at hc
  refine sr2 (nI b) (fun J L' => J = upM (upM I (24, 0) b (nI p)) (23, 0) 1 (nI (b + 1)) ∧ L' = L) hc (by omega) (by rintro r S' I' L' R' ⟨v, rfl, rfl, rfl, rfl, rfl, rfl⟩; exact ⟨rfl, rfl, rfl, rfl, rfl⟩) ?_
  rintro J L' ⟨hJ, rfl⟩
  have hJm : ∀ t i, 40 ≤ t.1 → J t i = I t i := fun t i ht => by
    rw [hJ, upM_n _ (fun z => by rw [z] at ht; simp at ht), upM_n _ (fun z => by rw [z] at ht; simp at ht)]
  refine ⟨2, _, c_mBodyS l g.mg ((hJm _ _ (by simp)).trans a2) hB h0 h7 (by omega), by omega, ?_⟩
  rintro r S' I' L2 R' ⟨v, rfl, rfl, rfl, rfl, rfl, rfl⟩
  refine ⟨rfl, rfl, rfl, n, m, c, b + 1, g, ?_⟩
  have hX : ∀ t i, t.1 < 40 → ¬ ((t = (24, 0) ∧ i = b) ∨ (t = (23, 0) ∧ i = 1)) → upM (upM J (86, 0) b (nI p)) (40, 0) 35 (nI (b + 1)) t i = I t i := fun t i ht hw => by
    rw [upM_n _ (fun z => by rw [z] at ht; simp at ht), upM_n _ (fun z => by rw [z] at ht; simp at ht), hJ]
    rw [show upM _ (23, 0) 1 _ t i = _ from if_neg (fun z => hw (Or.inr z)), show upM _ (24, 0) b _ t i = _ from if_neg (fun z => hw (Or.inl z))]
  have hY : ∀ t i, 40 ≤ t.1 → ¬ ((t = (86, 0) ∧ i = b) ∨ (t = (40, 0) ∧ i = 35)) → upM (upM J (86, 0) b (nI p)) (40, 0) 35 (nI (b + 1)) t i = I t i := fun t i ht hw => by
    rw [show upM _ (40, 0) 35 _ t i = _ from if_neg (fun z => hw (Or.inr z)), show upM _ (86, 0) b _ t i = _ from if_neg (fun z => hw (Or.inl z))]
    exact hJm t i ht
  have v1 : upM (upM J (86, 0) b (nI p)) (40, 0) 35 (nI (b + 1)) (23, 0) 1 = nI (b + 1) := by rw [upM_n _ (by simp), upM_n _ (by simp), hJ, upM_s]
  have v2 : upM (upM J (86, 0) b (nI p)) (40, 0) 35 (nI (b + 1)) (40, 0) 35 = nI (b + 1) := upM_s _ _ _ _
  have v3 : upM (upM J (86, 0) b (nI p)) (40, 0) 35 (nI (b + 1)) (24, 0) b = nI p := by rw [upM_n _ (by simp), upM_n _ (by simp), hJ, upM_n _ (by simp), upM_s]
  have v4 : upM (upM J (86, 0) b (nI p)) (40, 0) 35 (nI (b + 1)) (86, 0) b = nI p := by rw [upM_n _ (by simp), upM_s]
  generalize upM (upM J (86, 0) b (nI p)) (40, 0) 35 (nI (b + 1)) = F at *
  have hac : AC (b + 1) F F := by
    refine ⟨v1, v2, fun j hj => ?_, r0, a4, ?_, ?_, fun t h1 h2 => ?_⟩
    · by_cases e : j = b
      · subst e
        exact ⟨p, by omega, v3, v4⟩
      · rw [hX _ _ (by simp) (by simp [e]), hY _ _ (by simp) (by simp [e])]
        exact a3 j (by omega)
    · rw [hX _ _ (by simp) (by simp)]; exact a5
    · rw [hY _ _ (by simp) (by simp)]; exact a6
    · rw [hX _ _ (by simp) (by simp), hY _ _ (by simp) (by simp)]; exact a7 t h1 h2
  exact K2.mk (hN := k.hN) (hM := k.hM) (hC := k.hC) (hB := (by omega)) (hq := (by omega)) (xn := ((hX _ _ (by first | (simp; done) | (simp; omega)) (by first | (simp; done) | (simp; omega))).trans k.xn)) (xm := ((hX _ _ (by first | (simp; done) | (simp; omega)) (by first | (simp; done) | (simp; omega))).trans k.xm)) (xc := ((hX _ _ (by first | (simp; done) | (simp; omega)) (by first | (simp; done) | (simp; omega))).trans k.xc)) (yn := ((hY _ _ (by first | (simp; done) | (simp; omega)) (by first | (simp; done) | (simp; omega))).trans k.yn)) (ym := ((hY _ _ (by first | (simp; done) | (simp; omega)) (by first | (simp; done) | (simp; omega))).trans k.ym)) (yc := ((hY _ _ (by first | (simp; done) | (simp; omega)) (by first | (simp; done) | (simp; omega))).trans k.yc)) (st := (st_to k.st (fun i => (hX _ _ (by first | (simp; done) | (simp; omega)) (by first | (simp; done) | (simp; omega)))))) (at_ := (at_to k.at_ (fun i => (hX _ _ (by first | (simp; done) | (simp; omega)) (by first | (simp; done) | (simp; omega)))) (fun i => (hX _ _ (by first | (simp; done) | (simp; omega)) (by first | (simp; done) | (simp; omega)))))) (so := (k.so.to k.hN (fun i hi => (hX _ _ (by first | (simp; done) | (simp; omega)) (by first | (simp; done) | (simp; omega)))) (fun i hi => (hY _ _ (by first | (simp; done) | (simp; omega)) (by first | (simp; done) | (simp; omega)))))) (tp := (k.tp.to (hX _ _ (by first | (simp; done) | (simp; omega)) (by first | (simp; done) | (simp; omega))) (fun i => (hX _ _ (by first | (simp; done) | (simp; omega)) (by first | (simp; done) | (simp; omega)))) (hY _ _ (by first | (simp; done) | (simp; omega)) (by first | (simp; done) | (simp; omega))) (fun i => (hY _ _ (by first | (simp; done) | (simp; omega)) (by first | (simp; done) | (simp; omega)))))) (ch := ((k.ch.to (fun t i h1 h2 => (hX _ _ (by first | (simp; done) | (simp; omega)) (by first | (simp; done) | (simp; omega)))) (hY _ _ (by first | (simp; done) | (simp; omega)) (by first | (simp; done) | (simp; omega))) (hY _ _ (by first | (simp; done) | (simp; omega)) (by first | (simp; done) | (simp; omega))) (fun t i h1 h2 => (hY _ _ (by first | (simp; done) | (simp; omega)) (by first | (simp; done) | (simp; omega))))).mono (Nat.le_refl _) (Nat.le_refl _))) (ac := hac) (sh := (fun d hd => (k.sh d hd).to (Nat.le_succ b) (by omega) (fun i => (hX _ _ (by first | (simp; done) | (simp; omega)) (by first | (simp; done) | (simp; omega)))) (hY _ _ (by first | (simp; done) | (simp; omega)) (by first | (simp; done) | (simp; omega))) (hY _ _ (by first | (simp; done) | (simp; omega)) (by first | (simp; done) | (simp; omega))) (fun i => rfl) (fun i _ => rfl))) (lw := (fun j hj => (k.lw j hj).to (fun _ z => z) (fun i => (hX _ _ (by first | (simp; done) | (simp; omega)) (by first | (simp; done) | (simp; omega)))) (fun i _ _ => (hY _ _ (by first | (simp; done) | (simp; omega)) (by first | (simp; done) | (simp; omega)))) (hY _ _ (by first | (simp; done) | (simp; omega)) (by first | (simp; done) | (simp; omega))))) (wb := (fun j hj => (k.wb j hj).to (by omega) (Nat.le_refl _) (Nat.le_refl _) rfl (fun i => (hX _ _ (by first | (simp; done) | (simp; omega)) (by first | (simp; done) | (simp; omega)))) (fun i => (hX _ _ (by first | (simp; done) | (simp; omega)) (by first | (simp; done) | (simp; omega)))) (fun i => (hX _ _ (by first | (simp; done) | (simp; omega)) (by first | (simp; done) | (simp; omega)))) (fun t i z => (hY _ _ (by first | (simp; done) | (simp; omega)) (by first | (simp; done) | (simp; omega)))))) (fs := (fun j h1 h2 => (hY _ _ (by first | (simp; done) | (simp; omega)) (by first | (simp; done) | (simp; omega))).trans (k.fs j h1 h2))) (sc := (fun i => (hY _ _ (by first | (simp; done) | (simp; omega)) (by first | (simp; done) | (simp; omega))).trans (k.sc i)))

theorem s_keep (l : Launch) {Ls : Nat} {xs : Nat → Int32} {q n m c b : Nat} {S : Shp} {I : MI} {L : ML} {R : MR} (g : KG Ls m c S R) (k : K2 xs q n m c b S R I I L L) (hq : q < 600) (x y : Int32) : Sr l wI mX8_keep mX9_keep [.inl x, .inl y] Ls xs q S I L R := by
  have hN := k.hN
  have hM := k.hM
  have hC := k.hC
  cases hx : inb x 6 with
  | false => exact sr1 g k hq (-1) (c_keepN l g.xg hx y) (by omega) (qIp rfl) (fun J hJ k1 => ⟨_, _, c_mKeepN l g.mg hx y, by omega, qIp rfl⟩)
  | true =>
    obtain ⟨d, hd6, rfl⟩ := inb_of (by omega) hx
    have hB := k.hB
    obtain ⟨a1, a2, a3, -⟩ := k.ac
    by_cases hy : y = -1 ∨ inb y b = true
    case neg =>
      have h1 : ¬ y = -1 := fun z => hy (Or.inl z)
      have h2 : inb y b = false := by
        cases e : inb y b with
        | false => rfl
        | true => exact absurd (Or.inr e) hy
      exact sr1 g k hq (-1) (c_keepB l g.xg hd6 (xg_26 g.xg hd6) (g.dg d hd6) g.ag a1 hB h1 h2) (by omega) (qIp rfl) (fun J hJ k1 => ⟨_, _, c_mKeepB l g.mg ((hJ 40 _ (by omega)).trans a2) hB hd6 h1 h2, by omega, qIp rfl⟩)
    obtain ⟨h, s, z, bd, hh3, hs4, hz6, e0, e1, e2, e3, hm, hb1, hL, hs0⟩ := k.sh d hd6
    refine sr2 (nI 1) (fun J L' => J = upM (upM I (27, d) 0 (if y < 0 then nI 0 else nI 1)) (27, d) 1 y ∧ L' = L) (c_keepS l g.xg hd6 (xg_26 g.xg hd6) (g.dg d hd6) g.ag a1 hB hy) (by omega) (by rintro r S' I' L' R' ⟨v, rfl, rfl, rfl, rfl, rfl, rfl⟩; exact ⟨rfl, rfl, rfl, rfl, rfl⟩) ?_
    rintro J L' ⟨hJ, rfl⟩
    have hJm : ∀ t i, 40 ≤ t.1 → J t i = I t i := fun t i ht => by
      rw [hJ, upM_n _ (fun z => by rw [z] at ht; simp at ht), upM_n _ (fun z => by rw [z] at ht; simp at ht)]
    refine ⟨3, _, c_mKeepS l g.mg ((hJm _ _ (by simp)).trans a2) hB hd6 hy, by omega, ?_⟩
    rintro r S' I' L2 R' ⟨v, rfl, rfl, rfl, rfl, rfl, rfl⟩
    refine ⟨rfl, rfl, rfl, n, m, c, b, g, ?_⟩
    have hX : ∀ t i, t.1 < 40 → ¬ (t = (27, d) ∧ (i = 0 ∨ i = 1)) → upM (upM J (91, 0) d y) (92, 0) d (nI 0) t i = I t i := fun t i ht hw => by
      rw [upM_n _ (fun z => by rw [z] at ht; simp at ht), upM_n _ (fun z => by rw [z] at ht; simp at ht), hJ]
      rw [show upM _ (27, d) 1 _ t i = _ from if_neg (fun z => hw ⟨z.1, Or.inr z.2⟩), show upM _ (27, d) 0 _ t i = _ from if_neg (fun z => hw ⟨z.1, Or.inl z.2⟩)]
    have hY : ∀ t i, 40 ≤ t.1 → ¬ ((t = (91, 0) ∨ t = (92, 0)) ∧ i = d) → upM (upM J (91, 0) d y) (92, 0) d (nI 0) t i = I t i := fun t i ht hw => by
      rw [show upM _ (92, 0) d _ t i = _ from if_neg (fun z => hw ⟨Or.inr z.1, z.2⟩), show upM _ (91, 0) d _ t i = _ from if_neg (fun z => hw ⟨Or.inl z.1, z.2⟩)]
      exact hJm t i ht
    have v0 : upM (upM J (91, 0) d y) (92, 0) d (nI 0) (27, d) 0 = (if y < 0 then nI 0 else nI 1) := by rw [upM_n _ (by simp), upM_n _ (by simp), hJ, upM_k _ _ (by decide), upM_s]
    have v1 : upM (upM J (91, 0) d y) (92, 0) d (nI 0) (27, d) 1 = y := by rw [upM_n _ (by simp), upM_n _ (by simp), hJ, upM_s]
    have v9 : upM (upM J (91, 0) d y) (92, 0) d (nI 0) (91, 0) d = y := by rw [upM_n _ (by simp), upM_s]
    generalize upM (upM J (91, 0) d y) (92, 0) d (nI 0) = F at *
    have hsd : SH d b F F L2 L2 := by
      have f2 : F (27, d) 2 = nI s := (hX _ _ (by simp) (by simp)).trans e2
      have f3 : F (27, d) 3 = nI z := (hX _ _ (by simp) (by simp)).trans e3
      rcases hy with hy | hy
      · subst hy
        exact ⟨0, s, z, -1, by omega, hs4, hz6, v0, v1, f2, f3, ⟨by omega, fun _ => v9, fun q => absurd q (by omega), fun q => absurd q (by omega)⟩, fun q => absurd q (by omega), hL, fun q => absurd q (by omega)⟩
      · obtain ⟨j, hj, rfl⟩ := inb_of (by omega) hy
        have hn : ¬ nI j < 0 := lt0 (by omega)
        rw [if_neg hn] at v0
        exact ⟨1, s, z, nI j, by omega, hs4, hz6, v0, v1, f2, f3, ⟨by omega, fun q => absurd q (by omega), fun _ => ⟨j, by omega, rfl, v9⟩, fun q => absurd q (by omega)⟩, fun _ => hy, hL, fun q => absurd q (by omega)⟩
    exact K2.mk (hN := k.hN) (hM := k.hM) (hC := k.hC) (hB := k.hB) (hq := (by omega)) (xn := ((hX _ _ (by first | (simp; done) | (simp; omega)) (by first | (simp; done) | (simp; omega))).trans k.xn)) (xm := ((hX _ _ (by first | (simp; done) | (simp; omega)) (by first | (simp; done) | (simp; omega))).trans k.xm)) (xc := ((hX _ _ (by first | (simp; done) | (simp; omega)) (by first | (simp; done) | (simp; omega))).trans k.xc)) (yn := ((hY _ _ (by first | (simp; done) | (simp; omega)) (by first | (simp; done) | (simp; omega))).trans k.yn)) (ym := ((hY _ _ (by first | (simp; done) | (simp; omega)) (by first | (simp; done) | (simp; omega))).trans k.ym)) (yc := ((hY _ _ (by first | (simp; done) | (simp; omega)) (by first | (simp; done) | (simp; omega))).trans k.yc)) (st := (st_to k.st (fun i => (hX _ _ (by first | (simp; done) | (simp; omega)) (by first | (simp; done) | (simp; omega)))))) (at_ := (at_to k.at_ (fun i => (hX _ _ (by first | (simp; done) | (simp; omega)) (by first | (simp; done) | (simp; omega)))) (fun i => (hX _ _ (by first | (simp; done) | (simp; omega)) (by first | (simp; done) | (simp; omega)))))) (so := (k.so.to k.hN (fun i hi => (hX _ _ (by first | (simp; done) | (simp; omega)) (by first | (simp; done) | (simp; omega)))) (fun i hi => (hY _ _ (by first | (simp; done) | (simp; omega)) (by first | (simp; done) | (simp; omega)))))) (tp := (k.tp.to (hX _ _ (by first | (simp; done) | (simp; omega)) (by first | (simp; done) | (simp; omega))) (fun i => (hX _ _ (by first | (simp; done) | (simp; omega)) (by first | (simp; done) | (simp; omega)))) (hY _ _ (by first | (simp; done) | (simp; omega)) (by first | (simp; done) | (simp; omega))) (fun i => (hY _ _ (by first | (simp; done) | (simp; omega)) (by first | (simp; done) | (simp; omega)))))) (ch := ((k.ch.to (fun t i h1 h2 => (hX _ _ (by first | (simp; done) | (simp; omega)) (by first | (simp; done) | (simp; omega)))) (hY _ _ (by first | (simp; done) | (simp; omega)) (by first | (simp; done) | (simp; omega))) (hY _ _ (by first | (simp; done) | (simp; omega)) (by first | (simp; done) | (simp; omega))) (fun t i h1 h2 => (hY _ _ (by first | (simp; done) | (simp; omega)) (by first | (simp; done) | (simp; omega))))).mono (Nat.le_refl _) (Nat.le_refl _))) (ac := (k.ac.to (hX _ _ (by first | (simp; done) | (simp; omega)) (by first | (simp; done) | (simp; omega))) (hX _ _ (by first | (simp; done) | (simp; omega)) (by first | (simp; done) | (simp; omega))) (fun i => (hX _ _ (by first | (simp; done) | (simp; omega)) (by first | (simp; done) | (simp; omega)))) (fun i => (hX _ _ (by first | (simp; done) | (simp; omega)) (by first | (simp; done) | (simp; omega)))) (hY _ _ (by first | (simp; done) | (simp; omega)) (by first | (simp; done) | (simp; omega))) (hY _ _ (by first | (simp; done) | (simp; omega)) (by first | (simp; done) | (simp; omega))) (fun i => (hY _ _ (by first | (simp; done) | (simp; omega)) (by first | (simp; done) | (simp; omega)))) (fun i => (hY _ _ (by first | (simp; done) | (simp; omega)) (by first | (simp; done) | (simp; omega)))))) (sh := (fun d2 hd2 => by
      by_cases e : d2 = d
      · subst e
        exact hsd
      · exact (k.sh d2 hd2).to (Nat.le_refl _) k.hB (fun i => hX _ _ (by simp) (by simp [e])) (hY _ _ (by simp) (by simp [e])) (hY _ _ (by simp) (by simp [e])) (fun i => rfl) (fun i _ => rfl))) (lw := (fun j hj => (k.lw j hj).to (fun _ z => z) (fun i => (hX _ _ (by first | (simp; done) | (simp; omega)) (by first | (simp; done) | (simp; omega)))) (fun i _ _ => (hY _ _ (by first | (simp; done) | (simp; omega)) (by first | (simp; done) | (simp; omega)))) (hY _ _ (by first | (simp; done) | (simp; omega)) (by first | (simp; done) | (simp; omega))))) (wb := (fun j hj => (k.wb j hj).to (by omega) (Nat.le_refl _) (Nat.le_refl _) rfl (fun i => (hX _ _ (by first | (simp; done) | (simp; omega)) (by first | (simp; done) | (simp; omega)))) (fun i => (hX _ _ (by first | (simp; done) | (simp; omega)) (by first | (simp; done) | (simp; omega)))) (fun i => (hX _ _ (by first | (simp; done) | (simp; omega)) (by first | (simp; done) | (simp; omega)))) (fun t i z => (hY _ _ (by first | (simp; done) | (simp; omega)) (by first | (simp; done) | (simp; omega)))))) (fs := (fun j h1 h2 => (hY _ _ (by first | (simp; done) | (simp; omega)) (by first | (simp; done) | (simp; omega))).trans (k.fs j h1 h2))) (sc := (fun i => (hY _ _ (by first | (simp; done) | (simp; omega)) (by first | (simp; done) | (simp; omega))).trans (k.sc i)))
