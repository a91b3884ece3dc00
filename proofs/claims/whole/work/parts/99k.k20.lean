/-! law on both sides -/
/-- the FAULT lies within the TAPE -/
def Pd (len : Nat) (s : PS) : Prop := s.1 ≤ len ∧ ∀ p, s.2.1 = some p → p ≤ len
def FB (len : Nat) (f : PS → PS) : Prop := ∀ s, Pd len s → Pd len (f s)
theorem Pd.mk {len m x : Nat} {s : PS} (h : Pd len s) : Pd len (psMk m x s) := h
theorem Pd.adv {len : Nat} {s : PS} (hl : s.1 < len) (h : Pd len s) : Pd len (psAdv s) := ⟨hl, h.2⟩
theorem Pd.fail {len : Nat} {s : PS} (h : Pd len s) : Pd len (psFail len s) := by
  refine ⟨Nat.le_refl _, fun p hp => ?_⟩
  unfold psFail at hp
  simp only at hp
  cases e : s.2.1 with
  | none =>
    rw [e] at hp
    simp only [Option.some.injEq] at hp
    have := h.1
    omega
  | some q =>
    rw [e] at hp
    simp only [Option.some.injEq] at hp
    have := h.2 q e
    omega
theorem FB.loop {B : Nat → Nat} {len : Nat} {op : Nat → Option Nat} {sub : PS → PS} (h : FB len sub) : ∀ f, FB len (lpR B len op sub f)
  | 0 => fun s hs => hs
  | f + 1 => fun s hs => by
    unfold lpR
    by_cases hl : s.1 < len
    · rw [if_pos hl]
      cases hop : op (B s.1) with
      | none => exact hs
      | some m => exact FB.loop (B := B) (op := op) h f _ (Pd.mk (h _ (hs.adv hl)))
    · rw [if_neg hl]; exact hs
theorem FB.prod {B : Nat → Nat} {len : Nat} {one : PS → PS} (h : FB len one) : FB len (cProd B len one) := fun s hs => h.loop 121 _ (h s hs)
theorem FB.sum {B : Nat → Nat} {len : Nat} {one : PS → PS} (h : FB len one) : FB len (cSum B len one) := fun s hs => h.prod.loop 121 _ (h.prod s hs)
theorem FB.cmp {B : Nat → Nat} {len : Nat} {one : PS → PS} (h : FB len one) : FB len (cCmp B len one) := fun s hs => by
  have a := h.sum (B := B) s hs
  unfold cCmp
  simp only
  generalize cSum B len one s = t at *
  unfold nxt
  by_cases hl : t.1 < len
  · rw [if_pos hl]
    simp only
    cases hop : opC (B t.1) with
    | none => exact a
    | some m => exact Pd.mk (h.sum (B := B) _ (a.adv hl))
  · rw [if_neg hl]; exact a
theorem FB.all {B : Nat → Nat} {len : Nat} {one : PS → PS} (h : FB len one) : FB len (cAll B len one) := fun s hs => h.cmp.loop 121 _ (h.cmp s hs)
theorem FB.any {B : Nat → Nat} {len : Nat} {one : PS → PS} (h : FB len one) : FB len (cAny B len one) := fun s hs => h.all.loop 121 _ (h.all s hs)
theorem FB.opn {B : Nat → Nat} {len : Nat} {one : PS → PS} (h : FB len one) (c : Nat) : FB len (cOpen B len one c) := fun s hs => by
  unfold cOpen
  by_cases hc : c = 40
  · rw [if_pos hc]
    have a := h.any (B := B) s hs
    generalize cAny B len one s = t at *
    by_cases hn : nxt B len t.1 = some 41
    · rw [if_pos hn]
      have hl : t.1 < len := by
        unfold nxt at hn
        by_cases hl : t.1 < len
        · exact hl
        · rw [if_neg hl] at hn; cases hn
      exact a.adv hl
    · rw [if_neg hn]; exact a.fail
  · rw [if_neg hc]; exact Pd.mk (h s hs)
theorem FB.step {B : Nat → Nat} {len : Nat} {opn : Nat → PS → PS} (h : ∀ c s, s.1 < len → Pd len s → Pd len (opn c s)) : FB len (cStep B len opn) := fun s hs => by
  unfold cStep nxt
  by_cases hl : s.1 < len
  · rw [if_pos hl]
    simp only
    by_cases hd : 48 ≤ B s.1 ∧ B s.1 ≤ 57
    · rw [if_pos hd]
      exact ⟨(digs_le B len 4 0 s.1 hs.1).2, hs.2⟩
    · rw [if_neg hd]
      cases nameC (B s.1) with
      | some q => exact Pd.mk (hs.adv hl)
      | none =>
        simp only
        by_cases hc : B s.1 = 40 ∨ B s.1 = 33 ∨ B s.1 = 45
        · rw [if_pos hc]; exact h _ s hl hs
        · rw [if_neg hc]; exact hs.fail
  · rw [if_neg hl]; exact hs.fail
theorem FB.one (B : Nat → Nat) (len : Nat) : ∀ d, FB len (cOne B len d)
  | 0 => FB.step (fun _ s _ hs => hs.fail)
  | d + 1 => FB.step (fun c s hl hs => (FB.one B len d).opn (B := B) c _ (hs.adv hl))
theorem FB.line {B : Nat → Nat} {len : Nat} {any : PS → PS} (h : FB len any) : FB len (cLine B len any) := fun s hs => by
  have a := h s hs
  unfold cLine
  generalize any s = t at *
  by_cases hn : nxt B len t.1 = some 63
  · rw [if_pos hn]
    have hl : t.1 < len := by
      unfold nxt at hn
      by_cases hl : t.1 < len
      · exact hl
      · rw [if_neg hl] at hn; cases hn
    exact h (psMk 4 0 (psAdv t)) (a.adv hl)
  · rw [if_neg hn]; exact a
theorem FB.lines {B : Nat → Nat} {len : Nat} {any : PS → PS} (h : FB len any) : ∀ f, FB len (lnR B len any f)
  | 0 => fun s hs => hs
  | f + 1 => fun s hs => by
    unfold lnR
    by_cases hl : s.1 < len ∧ B s.1 = 59
    · rw [if_pos hl]; exact FB.lines h f _ (h.line _ (hs.adv hl.1))
    · rw [if_neg hl]; exact hs
theorem cText_le {B : Nat → Nat} {len p : Nat} (hf : (cText B len).2.1 = some p) : p ≤ len := by
  have h : FB len (cAny B len (cOne B len 6)) := (FB.one B len 6).any
  have h0 : Pd len (cText B len) := by
    unfold cText cRead
    have a := FB.lines (B := B) h 121 _ (h.line (B := B) (0, none, []) ⟨Nat.zero_le _, fun p hp => by cases hp⟩)
    split
    · exact a.fail
    · exact a
  exact h0.2 p hf
theorem tpE_x {t : Tok} {i : Nat} (h : tpE t i) : t.1 < 40 := by
  unfold tpE tpP at h
  rcases h with (⟨rfl, -⟩ | rfl) | ⟨rfl, -⟩ <;> simp
theorem lwP_y {t : Tok} {i : Nat} (h : lwP t i) : 40 ≤ t.1 := by
  unfold lwP woP at h
  rcases h with ⟨rfl, -⟩ | ⟨rfl, -⟩ <;> simp
theorem lsP_y {j : Nat} {t : Tok} {i : Nat} (h : lsP j t i) : 40 ≤ t.1 := by
  unfold lsP woP at h
  rcases h with ⟨rfl, -⟩ | ⟨rfl, -⟩ | ⟨rfl, -⟩ | ⟨rfl, -⟩ <;> simp

def laP (c : Nat) (t : Tok) (i : Nat) : Prop := tpE t i ∨ t = (7, c) ∨ t = (8, c) ∨ t = (9, c) ∨ (t = (0, 0) ∧ i = 3)
theorem s_law (l : Launch) {Ls : Nat} {xs : Nat → Int32} {q n m c b : Nat} {S : Shp} {I : MI} {L : ML} {R : MR} (g : KG Ls m c S R) (k : K2 xs q n m c b S R I I L L) (hq : q < 600) : Sr l wI mX8_law mX9_law [] Ls xs q S I L R := by
  have hN := k.hN
  have hM := k.hM
  have hC := k.hC
  by_cases h6 : c = 6
  · exact sr1 g k hq (-3) (c_lawF l g.xg k.xc h6) (by omega) (qIp rfl) (fun J hJ k1 => ⟨_, _, c_mLawF l g.mg (k1.yc.trans (by rw [h6])), by omega, qIp rfl⟩)
  have hc6 : c < 6 := by omega
  obtain ⟨len, B, hlen, hB, h3, h4, h8, h57⟩ := k.tp
  cases hf : (cText B len).2.1 with
  | some p =>
    have hp := cText_le hf
    refine sr2 (-100 - nI p) (fun J L' => (TE J (cText B len) ∧ Fr tpE I J) ∧ L = L') (c_lawX l g.xg k.xc hc6 g.tg hlen hB h3 h4 (by omega) hf) (by omega) (by rintro r S' I' L' R' ⟨v, rfl, rfl, rfl, rfl, rfl, h⟩; exact ⟨rfl, rfl, rfl, h, rfl⟩) ?_
    rintro J L' ⟨⟨hTE, hfr⟩, rfl⟩
    have hJ : ∀ a i, 40 ≤ a → J (a, 0) i = I (a, 0) i := fun a i ha => hfr _ _ (fun z => by have := tpE_x z; simp only at this; omega)
    refine ⟨47, _, c_mLawX l g.mg ((hJ 40 _ (by omega)).trans k.yc) hc6 ((hJ 40 _ (by omega)).trans h8) hlen hB (fun i hi => (hJ 57 _ (by omega)).trans (h57 i hi)) hf (by omega), by omega, ?_⟩
    rintro r S' F L2 R' ⟨v, rfl, rfl, rfl, rfl, rfl, h8F, hf2⟩
    refine ⟨rfl, rfl, rfl, n, m, c, b, g, ?_⟩
    have hX : ∀ t i, t.1 < 40 → ¬ tpE t i → F t i = I t i := fun t i ht q => (hf2 t i (fun z => by have := lwP_y z; omega)).trans (hfr t i q)
    have hY : ∀ t i, 40 ≤ t.1 → ¬ lwP t i → F t i = I t i := fun t i ht q => (hf2 t i q).trans (hfr t i (fun z => by have := tpE_x z; omega))
    have h31 : F (3, 0) 1 = nI 0 := (hf2 _ _ (by simp [lwP, woP])).trans hTE.1
    exact K2.mk (hN := k.hN) (hM := k.hM) (hC := k.hC) (hB := k.hB) (hq := (by omega)) (xn := ((hX _ _ (by first | (simp [tpE, tpP, lwP, woP]; done) | (simp [tpE, tpP, lwP, woP]; omega)) (by first | (simp [tpE, tpP, lwP, woP]; done) | (simp [tpE, tpP, lwP, woP]; omega))).trans k.xn)) (xm := ((hX _ _ (by first | (simp [tpE, tpP, lwP, woP]; done) | (simp [tpE, tpP, lwP, woP]; omega)) (by first | (simp [tpE, tpP, lwP, woP]; done) | (simp [tpE, tpP, lwP, woP]; omega))).trans k.xm)) (xc := ((hX _ _ (by first | (simp [tpE, tpP, lwP, woP]; done) | (simp [tpE, tpP, lwP, woP]; omega)) (by first | (simp [tpE, tpP, lwP, woP]; done) | (simp [tpE, tpP, lwP, woP]; omega))).trans k.xc)) (yn := ((hY _ _ (by first | (simp [tpE, tpP, lwP, woP]; done) | (simp [tpE, tpP, lwP, woP]; omega)) (by first | (simp [tpE, tpP, lwP, woP]; done) | (simp [tpE, tpP, lwP, woP]; omega))).trans k.yn)) (ym := ((hY _ _ (by first | (simp [tpE, tpP, lwP, woP]; done) | (simp [tpE, tpP, lwP, woP]; omega)) (by first | (simp [tpE, tpP, lwP, woP]; done) | (simp [tpE, tpP, lwP, woP]; omega))).trans k.ym)) (yc := ((hY _ _ (by first | (simp [tpE, tpP, lwP, woP]; done) | (simp [tpE, tpP, lwP, woP]; omega)) (by first | (simp [tpE, tpP, lwP, woP]; done) | (simp [tpE, tpP, lwP, woP]; omega))).trans k.yc)) (st := (st_to k.st (fun i => (hX _ _ (by first | (simp [tpE, tpP, lwP, woP]; done) | (simp [tpE, tpP, lwP, woP]; omega)) (by first | (simp [tpE, tpP, lwP, woP]; done) | (simp [tpE, tpP, lwP, woP]; omega)))))) (at_ := (at_to k.at_ (fun i => (hX _ _ (by first | (simp [tpE, tpP, lwP, woP]; done) | (simp [tpE, tpP, lwP, woP]; omega)) (by first | (simp [tpE, tpP, lwP, woP]; done) | (simp [tpE, tpP, lwP, woP]; omega)))) (fun i => (hX _ _ (by first | (simp [tpE, tpP, lwP, woP]; done) | (simp [tpE, tpP, lwP, woP]; omega)) (by first | (simp [tpE, tpP, lwP, woP]; done) | (simp [tpE, tpP, lwP, woP]; omega)))))) (so := (k.so.to k.hN (fun i hi => (hX _ _ (by first | (simp [tpE, tpP, lwP, woP]; done) | (simp [tpE, tpP, lwP, woP]; omega)) (by first | (simp [tpE, tpP, lwP, woP]; done) | (simp [tpE, tpP, lwP, woP]; omega)))) (fun i hi => (hY _ _ (by first | (simp [tpE, tpP, lwP, woP]; done) | (simp [tpE, tpP, lwP, woP]; omega)) (by first | (simp [tpE, tpP, lwP, woP]; done) | (simp [tpE, tpP, lwP, woP]; omega)))))) (tp := ⟨0, fun _ => 0, by omega, fun i hi => absurd hi (by omega), h31, fun i hi => absurd hi (by omega), h8F, fun i hi => absurd hi (by omega)⟩) (ch := ((k.ch.to (fun t i h1 h2 => (hX _ _ (by first | (simp [tpE, tpP, lwP, woP]; done) | (simp [tpE, tpP, lwP, woP]; omega)) (by first | (simp [tpE, tpP, lwP, woP]; done) | (simp [tpE, tpP, lwP, woP]; omega)))) (hY _ _ (by first | (simp [tpE, tpP, lwP, woP]; done) | (simp [tpE, tpP, lwP, woP]; omega)) (by first | (simp [tpE, tpP, lwP, woP]; done) | (simp [tpE, tpP, lwP, woP]; omega))) (hY _ _ (by first | (simp [tpE, tpP, lwP, woP]; done) | (simp [tpE, tpP, lwP, woP]; omega)) (by first | (simp [tpE, tpP, lwP, woP]; done) | (simp [tpE, tpP, lwP, woP]; omega))) (fun t i h1 h2 => (hY _ _ (by first | (simp [tpE, tpP, lwP, woP]; done) | (simp [tpE, tpP, lwP, woP]; omega)) (by first | (simp [tpE, tpP, lwP, woP]; done) | (simp [tpE, tpP, lwP, woP]; omega))))).mono (Nat.le_refl _) (Nat.le_refl _))) (ac := (k.ac.to (hX _ _ (by first | (simp [tpE, tpP, lwP, woP]; done) | (simp [tpE, tpP, lwP, woP]; omega)) (by first | (simp [tpE, tpP, lwP, woP]; done) | (simp [tpE, tpP, lwP, woP]; omega))) (hX _ _ (by first | (simp [tpE, tpP, lwP, woP]; done) | (simp [tpE, tpP, lwP, woP]; omega)) (by first | (simp [tpE, tpP, lwP, woP]; done) | (simp [tpE, tpP, lwP, woP]; omega))) (fun i => (hX _ _ (by first | (simp [tpE, tpP, lwP, woP]; done) | (simp [tpE, tpP, lwP, woP]; omega)) (by first | (simp [tpE, tpP, lwP, woP]; done) | (simp [tpE, tpP, lwP, woP]; omega)))) (fun i => (hX _ _ (by first | (simp [tpE, tpP, lwP, woP]; done) | (simp [tpE, tpP, lwP, woP]; omega)) (by first | (simp [tpE, tpP, lwP, woP]; done) | (simp [tpE, tpP, lwP, woP]; omega)))) (hY _ _ (by first | (simp [tpE, tpP, lwP, woP]; done) | (simp [tpE, tpP, lwP, woP]; omega)) (by first | (simp [tpE, tpP, lwP, woP]; done) | (simp [tpE, tpP, lwP, woP]; omega))) (hY _ _ (by first | (simp [tpE, tpP, lwP, woP]; done) | (simp [tpE, tpP, lwP, woP]; omega)) (by first | (simp [tpE, tpP, lwP, woP]; done) | (simp [tpE, tpP, lwP, woP]; omega))) (fun i => (hY _ _ (by first | (simp [tpE, tpP, lwP, woP]; done) | (simp [tpE, tpP, lwP, woP]; omega)) (by first | (simp [tpE, tpP, lwP, woP]; done) | (simp [tpE, tpP, lwP, woP]; omega)))) (fun i => (hY _ _ (by first | (simp [tpE, tpP, lwP, woP]; done) | (simp [tpE, tpP, lwP, woP]; omega)) (by first | (simp [tpE, tpP, lwP, woP]; done) | (simp [tpE, tpP, lwP, woP]; omega)))))) (sh := (fun d hd => (k.sh d hd).to (Nat.le_refl _) k.hB (fun i => (hX _ _ (by first | (simp [tpE, tpP, lwP, woP]; done) | (simp [tpE, tpP, lwP, woP]; omega)) (by first | (simp [tpE, tpP, lwP, woP]; done) | (simp [tpE, tpP, lwP, woP]; omega)))) (hY _ _ (by first | (simp [tpE, tpP, lwP, woP]; done) | (simp [tpE, tpP, lwP, woP]; omega)) (by first | (simp [tpE, tpP, lwP, woP]; done) | (simp [tpE, tpP, lwP, woP]; omega))) (hY _ _ (by first | (simp [tpE, tpP, lwP, woP]; done) | (simp [tpE, tpP, lwP, woP]; omega)) (by first | (simp [tpE, tpP, lwP, woP]; done) | (simp [tpE, tpP, lwP, woP]; omega))) (fun i => rfl) (fun i _ => rfl))) (lw := (fun j hj => (k.lw j hj).to (fun _ z => z) (fun i => (hX _ _ (by first | (simp [tpE, tpP, lwP, woP]; done) | (simp [tpE, tpP, lwP, woP]; omega)) (by first | (simp [tpE, tpP, lwP, woP]; done) | (simp [tpE, tpP, lwP, woP]; omega)))) (fun i _ _ => (hY _ _ (by first | (simp [tpE, tpP, lwP, woP]; done) | (simp [tpE, tpP, lwP, woP]; omega)) (by first | (simp [tpE, tpP, lwP, woP]; done) | (simp [tpE, tpP, lwP, woP]; omega)))) (hY _ _ (by first | (simp [tpE, tpP, lwP, woP]; done) | (simp [tpE, tpP, lwP, woP]; omega)) (by first | (simp [tpE, tpP, lwP, woP]; done) | (simp [tpE, tpP, lwP, woP]; omega))))) (wb := (fun j hj => (k.wb j hj).to (by omega) (Nat.le_refl _) (Nat.le_refl _) rfl (fun i => (hX _ _ (by first | (simp [tpE, tpP, lwP, woP]; done) | (simp [tpE, tpP, lwP, woP]; omega)) (by first | (simp [tpE, tpP, lwP, woP]; done) | (simp [tpE, tpP, lwP, woP]; omega)))) (fun i => (hX _ _ (by first | (simp [tpE, tpP, lwP, woP]; done) | (simp [tpE, tpP, lwP, woP]; omega)) (by first | (simp [tpE, tpP, lwP, woP]; done) | (simp [tpE, tpP, lwP, woP]; omega)))) (fun i => (hX _ _ (by first | (simp [tpE, tpP, lwP, woP]; done) | (simp [tpE, tpP, lwP, woP]; omega)) (by first | (simp [tpE, tpP, lwP, woP]; done) | (simp [tpE, tpP, lwP, woP]; omega)))) (fun t i z => (hY _ _ (by first | (simp [tpE, tpP, lwP, woP]; done) | (simp [tpE, tpP, lwP, woP]; omega)) (by first | (simp [tpE, tpP, lwP, woP]; done) | (simp [tpE, tpP, lwP, woP]; omega)))))) (fs := (fun j h1 h2 => (hY _ _ (by first | (simp [tpE, tpP, lwP, woP]; done) | (simp [tpE, tpP, lwP, woP]; omega)) (by first | (simp [tpE, tpP, lwP, woP]; done) | (simp [tpE, tpP, lwP, woP]; omega))).trans (k.fs j h1 h2))) (sc := (fun i => (hY _ _ (by first | (simp [tpE, tpP, lwP, woP]; done) | (simp [tpE, tpP, lwP, woP]; omega)) (by first | (simp [tpE, tpP, lwP, woP]; done) | (simp [tpE, tpP, lwP, woP]; omega))).trans (k.sc i)))
  | none =>
    obtain ⟨h7, h8', h9'⟩ := g.fl c (Nat.le_refl _) hc6
    refine ⟨53, 3, 187, _, c_lawS l g.xg k.xc hc6 g.tg hlen hB h3 h4 h7 h8' h9' hf, by omega, by omega, by omega, ?_⟩
    rintro r S1 I1 L1 R1 ⟨v, rfl, J, f, eS, eI, eL, eR, hTE, hfr, hfi, rfl⟩
    have xk : SK S S1 := by rw [eS]; exact SLn_k h7 h8' h9'
    have rk : RK S R R1 := by rw [eR]; exact (RLn_k h7 h8' h9').a6
    have hlg : LG c (lnT B len) S1 R1 := by
      obtain ⟨a1, a2, a3, a4, a5⟩ := lg_new S R c (lnT B len)
      refine ⟨by rw [eS]; exact a1, by rw [eS]; exact a2, by rw [eS]; exact a3, ?_, ?_⟩
      · rw [eR, upM_n _ (by simp)]; exact a4
      · rw [eR, upM_n _ (by simp)]; exact a5
    have sO : ∀ a i, ¬ (i = c ∧ 7 ≤ a ∧ a ≤ 9) → S1 (a, i) = S (a, i) := fun a i q => by
      rw [eS]
      unfold SLn
      rw [upT_n _ (fun z => by injection z with z1 z2; omega), upT_n _ (fun z => by injection z with z1 z2; omega), upT_n _ (fun z => by injection z with z1 z2; omega)]
    have rO : ∀ a i x, ¬ (a = 6) → ¬ (7 ≤ a ∧ a ≤ 9) → R1 (a, i) x = R (a, i) x := fun a i x q1 q2 => by
      rw [eR, upM_n _ (fun z => by injection z with z1 z2; omega)]
      unfold RLn
      rw [upM_n _ (fun z => by injection z with z1 z2; omega), upM_n _ (fun z => by injection z with z1 z2; omega), upT_n _ (fun z => by injection z with z1 z2; omega), upT_n _ (fun z => by injection z with z1 z2; omega), upT_n _ (fun z => by injection z with z1 z2; omega)]
    have r6 : ∀ x, R1 (6, 0) x = if x = c then some (7, c) else R (6, 0) x := fun x => by
      rw [eR]
      by_cases e : x = c
      · rw [if_pos e, e, upM_s]
      · rw [if_neg e, upM_k _ _ e]
        unfold RLn
        rw [upM_n _ (by simp), upM_n _ (by simp), upT_n _ (by simp), upT_n _ (by simp), upT_n _ (by simp)]
    have hI1 : ∀ t i, ¬ laP c t i → I1 t i = I t i := fun t i q => by
      unfold laP at q
      rw [eI]
      unfold lawI
      rw [show upM _ (0, 0) 3 _ t i = _ from if_neg (fun z => q (by simp [z.1, z.2])), upT_n _ (fun z => q (by simp [z])), upT_n _ (fun z => q (by simp [z])), upT_n _ (fun z => q (by simp [z]))]
      exact hfr t i (fun z => q (Or.inl z))
    have laX : ∀ t i, laP c t i → t.1 < 40 := fun t i z => by
      unfold laP at z
      rcases z with z | rfl | rfl | rfl | ⟨rfl, -⟩
      · exact tpE_x z
      all_goals simp
    have hJ : ∀ a i, 40 ≤ a → I1 (a, 0) i = I (a, 0) i := fun a i ha => hI1 _ _ (fun z => by have := laX _ _ z; simp only at this; omega)
    refine ⟨nI c, 47, _, rfl, by omega, c_mLawS l (g.mg.ext xk rk) ((hJ 40 _ (by omega)).trans k.yc) hc6 ((hJ 40 _ (by omega)).trans h8) hlen hB (fun i hi => (hJ 57 _ (by omega)).trans (h57 i hi)) hf, ?_⟩
    rintro r2 S2 F L2 R2 ⟨v, rfl, rfl, rfl, rfl, rfl, h8F, h9F, hTL, hf2⟩
    have hX : ∀ t i, t.1 < 40 → ¬ laP c t i → F t i = I t i := fun t i ht q => (hf2 t i (fun z => by have := lsP_y z; omega)).trans (hI1 t i q)
    have hY : ∀ t i, 40 ≤ t.1 → ¬ lsP c t i → F t i = I t i := fun t i ht q => (hf2 t i q).trans (hI1 t i (fun z => by have := laX _ _ z; omega))
    have hF1 : ∀ t i, t.1 < 40 → F t i = I1 t i := fun t i ht => hf2 t i (fun z => by have := lsP_y z; omega)
    have h31 : F (3, 0) 1 = nI 0 := by
      rw [hF1 _ _ (by simp), eI]
      unfold lawI
      rw [upM_n _ (by simp), upT_n _ (by simp), upT_n _ (by simp), upT_n _ (by simp)]
      exact hTE.1
    have h03 : F (0, 0) 3 = nI (c + 1) := by
      rw [hF1 _ _ (by simp), eI]
      unfold lawI
      rw [upM_s]
    have h8c : ∀ i, F (8, c) i = f i := fun i => by
      rw [hF1 _ _ (by simp), eI]
      unfold lawI
      rw [upM_n _ (by simp), upT_n _ (by simp), upT_s]
    have hLL : L2 = L := eL
    refine ⟨rfl, n, m, c + 1, b, ?_, ?_⟩
    · exact KG.mk (xg := g.xg.ext xk rk) (sg := g.sg.ext xk rk) (tg := g.tg.ext xk rk) (hg := g.hg.ext xk rk) (ag := g.ag.ext xk rk) (og := g.og.ext xk rk) (mg := g.mg.ext xk rk) (w9 := g.w9.ext xk rk) (w10 := g.w10.ext xk rk) (dg := fun d hd => (g.dg d hd).ext xk rk) (wg := fun j hj => (g.wg j hj).ext xk rk)
        (rw := fun j hj => (rO 10 0 j (by omega) (by omega)).trans (g.rw j hj))
        (rl := fun j hj => by
          rw [r6]
          by_cases e : j = c
          · rw [if_pos e, e]
          · rw [if_neg e]; exact g.rl j (by omega))
        (fw := fun j h1 h2 i h3 h4 => by rw [sO _ _ (by omega)]; exact g.fw j h1 h2 i h3 h4)
        (fl := fun j h1 h2 => by rw [sO _ _ (by omega), sO _ _ (by omega), sO _ _ (by omega)]; exact g.fl j (by omega) h2)
        (s99 := by rw [sO _ _ (by omega)]; exact g.s99)
    · rw [hLL]
      exact K2.mk (hN := k.hN) (hM := k.hM) (hC := (by omega)) (hB := k.hB) (hq := (by omega)) (xn := ((hX _ _ (by first | (simp [tpE, tpP, lsP, woP, laP]; done) | (simp [tpE, tpP, lsP, woP, laP]; omega)) (by first | (simp [tpE, tpP, lsP, woP, laP]; done) | (simp [tpE, tpP, lsP, woP, laP]; omega))).trans k.xn)) (xm := ((hX _ _ (by first | (simp [tpE, tpP, lsP, woP, laP]; done) | (simp [tpE, tpP, lsP, woP, laP]; omega)) (by first | (simp [tpE, tpP, lsP, woP, laP]; done) | (simp [tpE, tpP, lsP, woP, laP]; omega))).trans k.xm)) (xc := h03) (yn := ((hY _ _ (by first | (simp [tpE, tpP, lsP, woP, laP]; done) | (simp [tpE, tpP, lsP, woP, laP]; omega)) (by first | (simp [tpE, tpP, lsP, woP, laP]; done) | (simp [tpE, tpP, lsP, woP, laP]; omega))).trans k.yn)) (ym := ((hY _ _ (by first | (simp [tpE, tpP, lsP, woP, laP]; done) | (simp [tpE, tpP, lsP, woP, laP]; omega)) (by first | (simp [tpE, tpP, lsP, woP, laP]; done) | (simp [tpE, tpP, lsP, woP, laP]; omega))).trans k.ym)) (yc := h9F) (st := (st_to k.st (fun i => (hX _ _ (by first | (simp [tpE, tpP, lsP, woP, laP]; done) | (simp [tpE, tpP, lsP, woP, laP]; omega)) (by first | (simp [tpE, tpP, lsP, woP, laP]; done) | (simp [tpE, tpP, lsP, woP, laP]; omega)))))) (at_ := (at_to k.at_ (fun i => (hX _ _ (by first | (simp [tpE, tpP, lsP, woP, laP]; done) | (simp [tpE, tpP, lsP, woP, laP]; omega)) (by first | (simp [tpE, tpP, lsP, woP, laP]; done) | (simp [tpE, tpP, lsP, woP, laP]; omega)))) (fun i => (hX _ _ (by first | (simp [tpE, tpP, lsP, woP, laP]; done) | (simp [tpE, tpP, lsP, woP, laP]; omega)) (by first | (simp [tpE, tpP, lsP, woP, laP]; done) | (simp [tpE, tpP, lsP, woP, laP]; omega)))))) (so := (k.so.to k.hN (fun i hi => (hX _ _ (by first | (simp [tpE, tpP, lsP, woP, laP]; done) | (simp [tpE, tpP, lsP, woP, laP]; omega)) (by first | (simp [tpE, tpP, lsP, woP, laP]; done) | (simp [tpE, tpP, lsP, woP, laP]; omega)))) (fun i hi => (hY _ _ (by first | (simp [tpE, tpP, lsP, woP, laP]; done) | (simp [tpE, tpP, lsP, woP, laP]; omega)) (by first | (simp [tpE, tpP, lsP, woP, laP]; done) | (simp [tpE, tpP, lsP, woP, laP]; omega)))))) (tp := ⟨0, fun _ => 0, by omega, fun i hi => absurd hi (by omega), h31, fun i hi => absurd hi (by omega), h8F, fun i hi => absurd hi (by omega)⟩) (ch := ((k.ch.to (fun t i h1 h2 => (hX _ _ (by first | (simp [tpE, tpP, lsP, woP, laP]; done) | (simp [tpE, tpP, lsP, woP, laP]; omega)) (by first | (simp [tpE, tpP, lsP, woP, laP]; done) | (simp [tpE, tpP, lsP, woP, laP]; omega)))) (hY _ _ (by first | (simp [tpE, tpP, lsP, woP, laP]; done) | (simp [tpE, tpP, lsP, woP, laP]; omega)) (by first | (simp [tpE, tpP, lsP, woP, laP]; done) | (simp [tpE, tpP, lsP, woP, laP]; omega))) (hY _ _ (by first | (simp [tpE, tpP, lsP, woP, laP]; done) | (simp [tpE, tpP, lsP, woP, laP]; omega)) (by first | (simp [tpE, tpP, lsP, woP, laP]; done) | (simp [tpE, tpP, lsP, woP, laP]; omega))) (fun t i h1 h2 => (hY _ _ (by first | (simp [tpE, tpP, lsP, woP, laP]; done) | (simp [tpE, tpP, lsP, woP, laP]; omega)) (by first | (simp [tpE, tpP, lsP, woP, laP]; done) | (simp [tpE, tpP, lsP, woP, laP]; omega))))).mono (Nat.le_refl _) (Nat.le_refl _))) (ac := (k.ac.to (hX _ _ (by first | (simp [tpE, tpP, lsP, woP, laP]; done) | (simp [tpE, tpP, lsP, woP, laP]; omega)) (by first | (simp [tpE, tpP, lsP, woP, laP]; done) | (simp [tpE, tpP, lsP, woP, laP]; omega))) (hX _ _ (by first | (simp [tpE, tpP, lsP, woP, laP]; done) | (simp [tpE, tpP, lsP, woP, laP]; omega)) (by first | (simp [tpE, tpP, lsP, woP, laP]; done) | (simp [tpE, tpP, lsP, woP, laP]; omega))) (fun i => (hX _ _ (by first | (simp [tpE, tpP, lsP, woP, laP]; done) | (simp [tpE, tpP, lsP, woP, laP]; omega)) (by first | (simp [tpE, tpP, lsP, woP, laP]; done) | (simp [tpE, tpP, lsP, woP, laP]; omega)))) (fun i => (hX _ _ (by first | (simp [tpE, tpP, lsP, woP, laP]; done) | (simp [tpE, tpP, lsP, woP, laP]; omega)) (by first | (simp [tpE, tpP, lsP, woP, laP]; done) | (simp [tpE, tpP, lsP, woP, laP]; omega)))) (hY _ _ (by first | (simp [tpE, tpP, lsP, woP, laP]; done) | (simp [tpE, tpP, lsP, woP, laP]; omega)) (by first | (simp [tpE, tpP, lsP, woP, laP]; done) | (simp [tpE, tpP, lsP, woP, laP]; omega))) (hY _ _ (by first | (simp [tpE, tpP, lsP, woP, laP]; done) | (simp [tpE, tpP, lsP, woP, laP]; omega)) (by first | (simp [tpE, tpP, lsP, woP, laP]; done) | (simp [tpE, tpP, lsP, woP, laP]; omega))) (fun i => (hY _ _ (by first | (simp [tpE, tpP, lsP, woP, laP]; done) | (simp [tpE, tpP, lsP, woP, laP]; omega)) (by first | (simp [tpE, tpP, lsP, woP, laP]; done) | (simp [tpE, tpP, lsP, woP, laP]; omega)))) (fun i => (hY _ _ (by first | (simp [tpE, tpP, lsP, woP, laP]; done) | (simp [tpE, tpP, lsP, woP, laP]; omega)) (by first | (simp [tpE, tpP, lsP, woP, laP]; done) | (simp [tpE, tpP, lsP, woP, laP]; omega)))))) (sh := (fun d hd => (k.sh d hd).to (Nat.le_refl _) k.hB (fun i => (hX _ _ (by first | (simp [tpE, tpP, lsP, woP, laP]; done) | (simp [tpE, tpP, lsP, woP, laP]; omega)) (by first | (simp [tpE, tpP, lsP, woP, laP]; done) | (simp [tpE, tpP, lsP, woP, laP]; omega)))) (hY _ _ (by first | (simp [tpE, tpP, lsP, woP, laP]; done) | (simp [tpE, tpP, lsP, woP, laP]; omega)) (by first | (simp [tpE, tpP, lsP, woP, laP]; done) | (simp [tpE, tpP, lsP, woP, laP]; omega))) (hY _ _ (by first | (simp [tpE, tpP, lsP, woP, laP]; done) | (simp [tpE, tpP, lsP, woP, laP]; omega)) (by first | (simp [tpE, tpP, lsP, woP, laP]; done) | (simp [tpE, tpP, lsP, woP, laP]; omega))) (fun i => rfl) (fun i _ => rfl))) (lw := (fun j hj => by
        by_cases e : j = c
        · subst e
          exact ⟨B, len, hTL, hlg, LVt hlen hf (fun i hi => (h8c i).trans (hfi i hi))⟩
        · exact (k.lw j (by omega)).to (fun n z => z.ext xk rk) (fun i => hX _ _ (by simp) (by simp [laP, tpE, tpP, e])) (fun i h1 h2 => hY _ _ (by simp) (by simp [lsP, woP]; omega)) (hY _ _ (by simp) (by simp [lsP, woP, e])))) (wb := (fun j hj => (k.wb j hj).to (by omega) (Nat.le_refl _) (by omega) (rO 11 j 1 (by omega) (by omega)) (fun i => (hX _ _ (by simp) (by first | (simp [tpE, tpP, lsP, woP, laP]; done) | (simp [tpE, tpP, lsP, woP, laP]; omega)))) (fun i => (hX _ _ (by simp) (by first | (simp [tpE, tpP, lsP, woP, laP]; done) | (simp [tpE, tpP, lsP, woP, laP]; omega)))) (fun i => (hX _ _ (by simp) (by first | (simp [tpE, tpP, lsP, woP, laP]; done) | (simp [tpE, tpP, lsP, woP, laP]; omega)))) (fun t i z => hY _ _ (by show 40 ≤ t; omega) (by simp [lsP, woP]; omega)))) (fs := (fun j h1 h2 => (hY _ _ (by first | (simp [tpE, tpP, lsP, woP, laP]; done) | (simp [tpE, tpP, lsP, woP, laP]; omega)) (by first | (simp [tpE, tpP, lsP, woP, laP]; done) | (simp [tpE, tpP, lsP, woP, laP]; omega))).trans (k.fs j h1 h2))) (sc := (fun i => (hY _ _ (by first | (simp [tpE, tpP, lsP, woP, laP]; done) | (simp [tpE, tpP, lsP, woP, laP]; omega)) (by first | (simp [tpE, tpP, lsP, woP, laP]; done) | (simp [tpE, tpP, lsP, woP, laP]; omega))).trans (k.sc i)))
