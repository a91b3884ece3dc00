/-! act on both sides -/

theorem K2.acts {xs : Nat → Int32} {q n m c b : Nat} {S : Shp} {R : MR} {I J F : MI} {L : ML} {r : Nat} (k : K2 xs q n m c b S R I I L L) (hq : q < 600) (hf : Fr acP2 I J) (hf2 : Fr maP2 J F) (hr : r < 2 ^ 30) (j3 : J (23, 0) 3 = nI r) (f38 : F (40, 0) 38 = nI r) (htr : ∀ t, t < r → t < 24 → J (25, 0) t = F (87, 0) t) : K2 xs (q + 1) n m c b S R F F L L := by
  have hN := k.hN
  have hFJ : ∀ t i, t.1 < 40 → F t i = J t i := fun t i ht => hf2 t i (fun z => by
    unfold maP2 maP at z
    rcases z with (⟨rfl, z⟩ | rfl) | ⟨rfl, z⟩ <;> simp at ht)
  have hX : ∀ t i, t.1 < 40 → ¬ ((t = (23, 0) ∧ (i = 3 ∨ i = 4)) ∨ t = (25, 0)) → F t i = I t i := fun t i ht w => (hFJ t i ht).trans (hf t i (fun z => by
    unfold acP2 acP at z
    rcases z with (⟨rfl, z⟩ | rfl) | ⟨rfl, z⟩
    · exact w (Or.inl ⟨rfl, Or.inl z⟩)
    · exact w (Or.inr rfl)
    · exact w (Or.inl ⟨rfl, Or.inr z⟩)))
  have hY : ∀ t i, 40 ≤ t.1 → ¬ ((t = (40, 0) ∧ (i = 38 ∨ i = 39 ∨ i = 40)) ∨ t = (87, 0)) → F t i = I t i := fun t i ht w => (hf2 t i (fun z => by
    unfold maP2 maP at z
    rcases z with (⟨rfl, z⟩ | rfl) | ⟨rfl, z⟩
    · exact w (Or.inl ⟨rfl, Or.inl z⟩)
    · exact w (Or.inr rfl)
    · exact w (Or.inl ⟨rfl, Or.inr z⟩))).trans (hf t i (fun z => by
    unfold acP2 acP at z
    rcases z with (⟨rfl, z⟩ | rfl) | ⟨rfl, z⟩ <;> simp at ht))
  have hac : AC b F F := by
    obtain ⟨a1, a2, a3, -⟩ := k.ac
    refine ⟨(hX _ _ (by simp) (by simp)).trans a1, (hY _ _ (by simp) (by simp)).trans a2, fun j hj => ?_, r, hr, (hFJ _ _ (by simp)).trans j3, f38, fun t h1 h2 => (hFJ _ _ (by simp)).trans (htr t h1 h2)⟩
    rw [hX _ _ (by simp) (by simp), hY _ _ (by simp) (by simp)]
    exact a3 j hj
  exact K2.mk (hN := k.hN) (hM := k.hM) (hC := k.hC) (hB := k.hB) (hq := (by omega)) (xn := ((hX _ _ (by first | (simp; done) | (simp; omega)) (by first | (simp; done) | (simp; omega))).trans k.xn)) (xm := ((hX _ _ (by first | (simp; done) | (simp; omega)) (by first | (simp; done) | (simp; omega))).trans k.xm)) (xc := ((hX _ _ (by first | (simp; done) | (simp; omega)) (by first | (simp; done) | (simp; omega))).trans k.xc)) (yn := ((hY _ _ (by first | (simp; done) | (simp; omega)) (by first | (simp; done) | (simp; omega))).trans k.yn)) (ym := ((hY _ _ (by first | (simp; done) | (simp; omega)) (by first | (simp; done) | (simp; omega))).trans k.ym)) (yc := ((hY _ _ (by first | (simp; done) | (simp; omega)) (by first | (simp; done) | (simp; omega))).trans k.yc)) (st := (st_to k.st (fun i => (hX _ _ (by first | (simp; done) | (simp; omega)) (by first | (simp; done) | (simp; omega)))))) (at_ := (at_to k.at_ (fun i => (hX _ _ (by first | (simp; done) | (simp; omega)) (by first | (simp; done) | (simp; omega)))) (fun i => (hX _ _ (by first | (simp; done) | (simp; omega)) (by first | (simp; done) | (simp; omega)))))) (so := (k.so.to k.hN (fun i hi => (hX _ _ (by first | (simp; done) | (simp; omega)) (by first | (simp; done) | (simp; omega)))) (fun i hi => (hY _ _ (by first | (simp; done) | (simp; omega)) (by first | (simp; done) | (simp; omega)))))) (tp := (k.tp.to (hX _ _ (by first | (simp; done) | (simp; omega)) (by first | (simp; done) | (simp; omega))) (fun i => (hX _ _ (by first | (simp; done) | (simp; omega)) (by first | (simp; done) | (simp; omega)))) (hY _ _ (by first | (simp; done) | (simp; omega)) (by first | (simp; done) | (simp; omega))) (fun i => (hY _ _ (by first | (simp; done) | (simp; omega)) (by first | (simp; done) | (simp; omega)))))) (ch := ((k.ch.to (fun t i h1 h2 => (hX _ _ (by first | (simp; done) | (simp; omega)) (by first | (simp; done) | (simp; omega)))) (hY _ _ (by first | (simp; done) | (simp; omega)) (by first | (simp; done) | (simp; omega))) (hY _ _ (by first | (simp; done) | (simp; omega)) (by first | (simp; done) | (simp; omega))) (fun t i h1 h2 => (hY _ _ (by first | (simp; done) | (simp; omega)) (by first | (simp; done) | (simp; omega))))).mono (Nat.le_refl _) (Nat.le_refl _))) (ac := hac) (sh := (fun d hd => (k.sh d hd).to (Nat.le_refl _) k.hB (fun i => (hX _ _ (by first | (simp; done) | (simp; omega)) (by first | (simp; done) | (simp; omega)))) (hY _ _ (by first | (simp; done) | (simp; omega)) (by first | (simp; done) | (simp; omega))) (hY _ _ (by first | (simp; done) | (simp; omega)) (by first | (simp; done) | (simp; omega))) (fun i => rfl) (fun i _ => rfl))) (lw := (fun j hj => (k.lw j hj).to (fun _ z => z) (fun i => (hX _ _ (by first | (simp; done) | (simp; omega)) (by first | (simp; done) | (simp; omega)))) (fun i _ _ => (hY _ _ (by first | (simp; done) | (simp; omega)) (by first | (simp; done) | (simp; omega)))) (hY _ _ (by first | (simp; done) | (simp; omega)) (by first | (simp; done) | (simp; omega))))) (wb := (fun j hj => (k.wb j hj).to (by omega) (Nat.le_refl _) (Nat.le_refl _) rfl (fun i => (hX _ _ (by first | (simp; done) | (simp; omega)) (by first | (simp; done) | (simp; omega)))) (fun i => (hX _ _ (by first | (simp; done) | (simp; omega)) (by first | (simp; done) | (simp; omega)))) (fun i => (hX _ _ (by first | (simp; done) | (simp; omega)) (by first | (simp; done) | (simp; omega)))) (fun t i z => (hY _ _ (by first | (simp; done) | (simp; omega)) (by first | (simp; done) | (simp; omega)))))) (fs := (fun j h1 h2 => (hY _ _ (by first | (simp; done) | (simp; omega)) (by first | (simp; done) | (simp; omega))).trans (k.fs j h1 h2))) (sc := (fun i => (hY _ _ (by first | (simp; done) | (simp; omega)) (by first | (simp; done) | (simp; omega))).trans (k.sc i)))
theorem s_act (l : Launch) {Ls : Nat} {xs : Nat → Int32} {q n m c b : Nat} {S : Shp} {I : MI} {L : ML} {R : MR} (g : KG Ls m c S R) (k : K2 xs q n m c b S R I I L L) (hq : q < 600) (x y z : Int32) : Sr l wI mX8_act mX9_act [.inl x, .inl y, .inl z] Ls xs q S I L R := by
  have hN := k.hN
  have hM := k.hM
  have hC := k.hC
  have hB := k.hB
  obtain ⟨a1, a2, a3, -⟩ := k.ac
  have none : ∀ (hbad : inb x b = false ∨ y < 0 ∨ ¬ y < nI 4), (∀ J, (∀ a i, 40 ≤ a → J (a, 0) i = I (a, 0) i) → Ct l mX9_act 10 0 0 [.inr (.inr (some (40, 0))), .inl x, .inl y, .inl z] S J L R (PIm S L R (fun v K => v = nI 0 ∧ K (40, 0) 38 = nI 0 ∧ Fr maP2 J K))) → Sr l wI mX8_act mX9_act [.inl x, .inl y, .inl z] Ls xs q S I L R := fun hbad hcm => by
    refine sr2 (nI 0) (fun J L' => (J (23, 0) 3 = nI 0 ∧ Fr acP I J) ∧ L' = L) (c_actN l g.xg g.ag a1 hB z hbad) (by omega) (by rintro r S' I' L' R' ⟨v, rfl, rfl, rfl, rfl, rfl, hh⟩; exact ⟨rfl, rfl, rfl, hh, rfl⟩) ?_
    rintro J L' ⟨⟨j3, jf⟩, rfl⟩
    refine ⟨10, _, hcm J (fun a i ha => jf _ _ (fun w => by unfold acP at w; simp at w; omega)), by omega, ?_⟩
    rintro r S' F L2 R' ⟨v, rfl, rfl, rfl, rfl, rfl, f38, ff⟩
    exact ⟨rfl, rfl, rfl, n, m, c, b, g, k.acts hq (jf.le (fun t i w => Or.inl w)) ff (r := 0) (by omega) j3 f38 (fun t h _ => absurd h (by omega))⟩
  cases hx : inb x b with
  | false => exact none (Or.inl hx) (fun J hJ => c_mActN l g.mg ((hJ 40 _ (by omega)).trans a2) hB hx y z)
  | true =>
    obtain ⟨num, hnum, rfl⟩ := inb_of (by omega) hx
    obtain ⟨kd, hkd, e1, e2⟩ := a3 num hnum
    by_cases hy : y < 0 ∨ ¬ y < nI 4
    · exact none (Or.inr hy) (fun J hJ => c_mActB l g.mg ((hJ 40 _ (by omega)).trans a2) hB hnum ((hJ 86 _ (by omega)).trans e2) hy z)
    have h0 : ¬ y < 0 := fun w => hy (Or.inl w)
    obtain ⟨a, ha', rfl⟩ := nI_of h0
    have ha : a < 4 := (nI_ltI ha' (by omega)).mp (Decidable.not_not.mp (fun w => hy (Or.inr w)))
    have hc := c_actS l (S := S) (L := L) (R := R) g.xg g.ag a1 hB hnum k.at_ e1 hkd ha z
    rw [act_t hkd ha] at hc
    obtain ⟨T, hT⟩ : ∃ T, T = actM num kd a z := ⟨_, rfl⟩
    rw [← hT] at hc
    refine sr2 T.1 (fun J L' => (AM J num kd T.2 ∧ Fr acP2 I J) ∧ L' = L) hc (by omega) (by rintro r S' I' L' R' ⟨v, rfl, rfl, rfl, rfl, rfl, hh⟩; exact ⟨rfl, rfl, rfl, hh, rfl⟩) ?_
    rintro J L' ⟨⟨ja, jf⟩, rfl⟩
    have hJ : ∀ a i, 40 ≤ a → J (a, 0) i = I (a, 0) i := fun a i ha => jf _ _ (fun w => by unfold acP2 acP at w; simp at w; omega)
    have hcm := c_mActS l (S := S) (L := L') (R := R) g.mg ((hJ 40 _ (by omega)).trans a2) hB hnum ((hJ 86 _ (by omega)).trans e2) hkd ha z
    rw [← hT] at hcm
    refine ⟨10, _, hcm, by omega, ?_⟩
    rintro r S' F L2 R' ⟨v, rfl, rfl, rfl, rfl, rfl, fm, ff⟩
    exact ⟨rfl, rfl, rfl, n, m, c, b, g, k.acts hq jf ff (r := T.2.length) (by have := fm.1; omega) ja.2.2.1 fm.2.1 (fun t h1 h2 => (ja.2.2.2 t h1 h2).trans (fm.2.2 t h1 h2).symm)⟩
