/-! the calls that write: worth, nothing, crate, shop -/
def chgI (I : MI) (tx : Tok) (ix d : Nat) (w s : Int32) (idx a b : Nat) : MI := bcmI (noteI (upM I tx ix (nI b)) d w s (nI a) (nI b)) d idx (nI a) (nI b)
theorem noteM {I : MI} {u : Tok} {i d : Nat} {w s a b : Int32} (h : 40 ≤ u.1) : noteI I d w s a b u i = I u i := noteI_o ⟨fun z => by rw [z] at h; simp at h, fun z => by rw [z] at h; simp at h, fun z => by rw [z] at h; simp at h, fun z => by rw [z] at h; simp at h, fun z => by rw [z] at h; simp at h⟩
theorem chg_x {I : MI} {tx : Tok} {ix d : Nat} {w s : Int32} {idx a b : Nat} : ∀ t i, t.1 < 40 → ¬ ((t = tx ∧ i = ix) ∨ t = (18, 0) ∨ t = (19, 0) ∨ t = (20, 0) ∨ t = (21, 0) ∨ t = (22, 0)) → chgI I tx ix d w s idx a b t i = I t i := fun t i ht hw => by
  unfold chgI
  rw [bcmI_o (fun z => by rcases z with rfl | rfl | rfl <;> simp at ht) (fun z => by rw [z.1] at ht; simp at ht) (fun z => by rw [z.1] at ht; simp at ht)]
  rw [noteI_o ⟨fun z => hw (Or.inr (Or.inl z)), fun z => hw (Or.inr (Or.inr (Or.inl z))), fun z => hw (Or.inr (Or.inr (Or.inr (Or.inl z)))), fun z => hw (Or.inr (Or.inr (Or.inr (Or.inr (Or.inl z))))), fun z => hw (Or.inr (Or.inr (Or.inr (Or.inr (Or.inr z)))))⟩]
  exact if_neg (fun z => hw (Or.inl z))
theorem chg_xv {I : MI} {tx : Tok} {ix d : Nat} {w s : Int32} {idx a b : Nat} (h : tx.1 < 18) : chgI I tx ix d w s idx a b tx ix = nI b := by
  unfold chgI
  rw [bcmI_o (fun z => by rcases z with rfl | rfl | rfl <;> simp at h) (fun z => by rw [z.1] at h; simp at h) (fun z => by rw [z.1] at h; simp at h)]
  rw [noteI_o ⟨fun z => by rw [z] at h; simp at h, fun z => by rw [z] at h; simp at h, fun z => by rw [z] at h; simp at h, fun z => by rw [z] at h; simp at h, fun z => by rw [z] at h; simp at h⟩]
  exact upM_s _ _ _ _
theorem chg_y {I : MI} {tx : Tok} {ix d : Nat} {w s : Int32} {idx a b : Nat} (h : tx.1 < 18) : ∀ t i, 40 ≤ t.1 → ¬ ((t = (50, 0) ∧ i = idx) ∨ t = (51, 0) ∨ t = (52, 0) ∨ t = (53, 0) ∨ (t = (40, 0) ∧ (i = 4 ∨ i = 5))) → chgI I tx ix d w s idx a b t i = I t i := fun t i ht hw => by
  unfold chgI
  rw [bcmI_o (fun z => hw (Or.inr (by rcases z with z | z | z <;> simp [z]))) (fun z => hw (Or.inr (Or.inr (Or.inr (Or.inr z))))) (fun z => hw (Or.inl z)), noteM ht]
  exact if_neg (fun z => by rw [z.1] at ht; omega)
theorem chg_yv {I : MI} {tx : Tok} {ix d : Nat} {w s : Int32} {idx a b : Nat} (h : tx.1 < 18) (ha : I (50, 0) idx = nI a) : chgI I tx ix d w s idx a b (50, 0) idx = nI b := by
  unfold chgI
  refine bcmI_q ?_
  rw [noteM (by simp), upM_n _ (fun z => by rw [← z] at h; simp at h)]
  exact ha
theorem chg_ch {I : MI} {tx : Tok} {ix d n m : Nat} {w s : Int32} {idx lim a b : Nat} (h : tx.1 < 18) (hc : CH n m I I) (hd : I (18, 0) 4 = nI d) (hd4 : d ≤ 40) (hl : lim < 2 ^ 30) (hx : CX n m w s idx lim) (ha : a ≤ lim) (hb : b ≤ lim) : CH n m (chgI I tx ix d w s idx a b) (chgI I tx ix d w s idx a b) := by
  have hne : ∀ t : Nat, 18 ≤ t → ((t, 0) : Tok) ≠ tx := fun t ht z => by rw [← z] at h; simp at h; omega
  have h0 : CH n m (upM I tx ix (nI b)) (noteI (upM I tx ix (nI b)) d w s (nI a) (nI b)) := by
    refine hc.to (fun t i h1 h2 => by rw [upM_n _ (hne t h1)]) ?_ ?_ (fun t i h1 h2 => ?_)
    · rw [noteM (by simp), upM_n _ (hne 40 (by omega))]
    · rw [noteM (by simp), upM_n _ (hne 40 (by omega))]
    · rw [noteM (by show 40 ≤ t; omega), upM_n _ (hne t (by omega))]
  have h1 := h0.note hl (by rw [upM_n _ (hne 18 (by omega))]; exact hd) hd4 hx ha hb
  refine h1.to (fun t i h1 h2 => ?_) rfl rfl (fun t i h1 h2 => rfl)
  unfold chgI
  exact bcmI_o (by simp; omega) (by simp; omega) (by simp; omega)
theorem K2.d {xs : Nat → Int32} {q n m c b : Nat} {S : Shp} {R : MR} {X Y : MI} {LX LY : ML} (h : K2 xs q n m c b S R X Y LX LY) : ∃ d, d ≤ 40 ∧ X (18, 0) 4 = nI d ∧ Y (40, 0) 5 = nI d := by
  obtain ⟨d, z, a1, a2, a3, a4, a5, a6, -⟩ := h.ch
  exact ⟨d, by omega, a3, a5⟩

theorem s_worth (l : Launch) {Ls : Nat} {xs : Nat → Int32} {q n m c b : Nat} {S : Shp} {I : MI} {L : ML} {R : MR} (g : KG Ls m c S R) (k : K2 xs q n m c b S R I I L L) (hq : q < 600) (x y : Int32) : Sr l wI mX8_worth mX9_worth [.inl x, .inl y] Ls xs q S I L R := by
  have hN := k.hN
  have hM := k.hM
  have hC := k.hC
  cases hx : inb x n with
  | false => exact sr1 g k hq (-1) (c_worthN l g.xg g.sg k.xn hN (Or.inl hx)) (by omega) (qIp rfl) (fun J hJ k1 => ⟨_, _, c_mWorthN l g.mg k1.yn hN (Or.inl hx), by omega, qIp rfl⟩)
  | true =>
    obtain ⟨s, hs, rfl⟩ := inb_of (by omega) hx
    by_cases h0 : y < 0
    · exact sr1 g k hq (-1) (c_worthN l g.xg g.sg k.xn hN (Or.inr (Or.inl h0))) (by omega) (qIp rfl) (fun J hJ k1 => ⟨_, _, c_mWorthN l g.mg k1.yn hN (Or.inr (Or.inl h0)), by omega, qIp rfl⟩)
    by_cases h9 : nI 999 < y
    · exact sr1 g k hq (-1) (c_worthN l g.xg g.sg k.xn hN (Or.inr (Or.inr h9))) (by omega) (qIp rfl) (fun J hJ k1 => ⟨_, _, c_mWorthN l g.mg k1.yn hN (Or.inr (Or.inr h9)), by omega, qIp rfl⟩)
    obtain ⟨p, hp, rfl⟩ := nI_of h0
    have h9' := h9
    rw [nI_ltI (by omega) hp] at h9'
    obtain ⟨d, hd4, hd, hdy⟩ := k.d
    obtain ⟨a, ha, e1, e2⟩ := k.so s hs
    refine sr2 (nI a) (fun J L' => J = noteI (upM I (2, 0) s (nI p)) d (-1) (nI s) (nI a) (nI p) ∧ L' = L) (c_worthS l g.xg g.sg k.xn hN g.hg hd hd4 hs h0 h9) (by omega) (by rintro r S' I' L' R' ⟨v, rfl, rfl, rfl, rfl, rfl, rfl⟩; rw [e1]; exact ⟨rfl, rfl, rfl, rfl, rfl⟩) ?_
    rintro J L' ⟨rfl, rfl⟩
    have hm : ∀ i, noteI (upM I (2, 0) s (nI p)) d (-1) (nI s) (nI a) (nI p) (40, 0) i = I (40, 0) i := fun i => by rw [noteM (by simp), upM_n _ (by simp)]
    refine ⟨3, _, c_mWorthS l g.mg ((hm 6).trans k.yn) hN ((hm 5).trans hdy) hd4 hs (x := nI a) (by rw [noteM (by simp), upM_n _ (by simp)]; exact e2) h0 h9, by omega, ?_⟩
    rintro r S' I' L2 R' ⟨v, rfl, rfl, rfl, rfl, rfl, rfl⟩
    refine ⟨rfl, rfl, rfl, n, m, c, b, g, ?_⟩
    have hX := chg_x (I := I) (tx := (2, 0)) (ix := s) (d := d) (w := -1) (s := nI s) (idx := s) (a := a) (b := p)
    have hY := chg_y (I := I) (tx := (2, 0)) (ix := s) (d := d) (w := -1) (s := nI s) (idx := s) (a := a) (b := p) (by simp)
    have hx0 := chg_xv (I := I) (tx := (2, 0)) (ix := s) (d := d) (w := -1) (s := nI s) (idx := s) (a := a) (b := p) (by simp)
    have hy0 := chg_yv (I := I) (tx := (2, 0)) (ix := s) (d := d) (w := -1) (s := nI s) (idx := s) (a := a) (b := p) (by simp) e2
    have hch := chg_ch (tx := (2, 0)) (ix := s) (w := -1) (s := nI s) (idx := s) (lim := 999) (a := a) (b := p) (by simp) k.ch hd hd4 (by omega) (Or.inl ⟨rfl, rfl, hs, rfl⟩) ha (by omega)
    show K2 xs (q + 1) n m c b _ _ (chgI I (2, 0) s d (-1) (nI s) s a p) (chgI I (2, 0) s d (-1) (nI s) s a p) _ _
    generalize chgI I (2, 0) s d (-1) (nI s) s a p = F at *
    have hso : SO n F F := fun s' hs' => by
      by_cases e : s' = s
      · subst e
        exact ⟨p, by omega, hx0, hy0⟩
      · rw [hX _ _ (by simp) (by simp [e]), hY _ _ (by simp) (by simp [e])]
        exact k.so s' hs'
    exact K2.mk (hN := k.hN) (hM := k.hM) (hC := k.hC) (hB := k.hB) (hq := (by omega)) (xn := ((hX _ _ (by first | (simp; done) | (simp; omega)) (by first | (simp; done) | (simp; omega))).trans k.xn)) (xm := ((hX _ _ (by first | (simp; done) | (simp; omega)) (by first | (simp; done) | (simp; omega))).trans k.xm)) (xc := ((hX _ _ (by first | (simp; done) | (simp; omega)) (by first | (simp; done) | (simp; omega))).trans k.xc)) (yn := ((hY _ _ (by first | (simp; done) | (simp; omega)) (by first | (simp; done) | (simp; omega))).trans k.yn)) (ym := ((hY _ _ (by first | (simp; done) | (simp; omega)) (by first | (simp; done) | (simp; omega))).trans k.ym)) (yc := ((hY _ _ (by first | (simp; done) | (simp; omega)) (by first | (simp; done) | (simp; omega))).trans k.yc)) (st := (st_to k.st (fun i => (hX _ _ (by first | (simp; done) | (simp; omega)) (by first | (simp; done) | (simp; omega)))))) (at_ := (at_to k.at_ (fun i => (hX _ _ (by first | (simp; done) | (simp; omega)) (by first | (simp; done) | (simp; omega)))) (fun i => (hX _ _ (by first | (simp; done) | (simp; omega)) (by first | (simp; done) | (simp; omega)))))) (so := hso) (tp := (k.tp.to (hX _ _ (by first | (simp; done) | (simp; omega)) (by first | (simp; done) | (simp; omega))) (fun i => (hX _ _ (by first | (simp; done) | (simp; omega)) (by first | (simp; done) | (simp; omega)))) (hY _ _ (by first | (simp; done) | (simp; omega)) (by first | (simp; done) | (simp; omega))) (fun i => (hY _ _ (by first | (simp; done) | (simp; omega)) (by first | (simp; done) | (simp; omega)))))) (ch := hch) (ac := (k.ac.to (hX _ _ (by first | (simp; done) | (simp; omega)) (by first | (simp; done) | (simp; omega))) (hX _ _ (by first | (simp; done) | (simp; omega)) (by first | (simp; done) | (simp; omega))) (fun i => (hX _ _ (by first | (simp; done) | (simp; omega)) (by first | (simp; done) | (simp; omega)))) (fun i => (hX _ _ (by first | (simp; done) | (simp; omega)) (by first | (simp; done) | (simp; omega)))) (hY _ _ (by first | (simp; done) | (simp; omega)) (by first | (simp; done) | (simp; omega))) (hY _ _ (by first | (simp; done) | (simp; omega)) (by first | (simp; done) | (simp; omega))) (fun i => (hY _ _ (by first | (simp; done) | (simp; omega)) (by first | (simp; done) | (simp; omega)))) (fun i => (hY _ _ (by first | (simp; done) | (simp; omega)) (by first | (simp; done) | (simp; omega)))))) (sh := (fun d hd => (k.sh d hd).to (Nat.le_refl _) k.hB (fun i => (hX _ _ (by first | (simp; done) | (simp; omega)) (by first | (simp; done) | (simp; omega)))) (hY _ _ (by first | (simp; done) | (simp; omega)) (by first | (simp; done) | (simp; omega))) (hY _ _ (by first | (simp; done) | (simp; omega)) (by first | (simp; done) | (simp; omega))) (fun i => rfl) (fun i _ => rfl))) (lw := (fun j hj => (k.lw j hj).to (fun _ z => z) (fun i => (hX _ _ (by first | (simp; done) | (simp; omega)) (by first | (simp; done) | (simp; omega)))) (fun i _ _ => (hY _ _ (by first | (simp; done) | (simp; omega)) (by first | (simp; done) | (simp; omega)))) (hY _ _ (by first | (simp; done) | (simp; omega)) (by first | (simp; done) | (simp; omega))))) (wb := (fun j hj => (k.wb j hj).to (by omega) (Nat.le_refl _) (Nat.le_refl _) rfl (fun i => (hX _ _ (by first | (simp; done) | (simp; omega)) (by first | (simp; done) | (simp; omega)))) (fun i => (hX _ _ (by first | (simp; done) | (simp; omega)) (by first | (simp; done) | (simp; omega)))) (fun i => (hX _ _ (by first | (simp; done) | (simp; omega)) (by first | (simp; done) | (simp; omega)))) (fun t i z => (hY _ _ (by first | (simp; done) | (simp; omega)) (by first | (simp; done) | (simp; omega)))))) (fs := (fun j h1 h2 => (hY _ _ (by first | (simp; done) | (simp; omega)) (by first | (simp; done) | (simp; omega))).trans (k.fs j h1 h2))) (sc := (fun i => (hY _ _ (by first | (simp; done) | (simp; omega)) (by first | (simp; done) | (simp; omega))).trans (k.sc i)))

theorem s_nothing (l : Launch) {Ls : Nat} {xs : Nat → Int32} {q n m c b : Nat} {S : Shp} {I : MI} {L : ML} {R : MR} (g : KG Ls m c S R) (k : K2 xs q n m c b S R I I L L) (hq : q < 600) (x y : Int32) : Sr l wI mX8_nothing mX9_nothing [.inl x, .inl y] Ls xs q S I L R := by
  have hN := k.hN
  have hM := k.hM
  have hC := k.hC
  cases hx : inb x m with
  | false => exact sr1 g k hq (-1) (c_nothingN l g.xg k.xm hx y) (by omega) (qIp rfl) (fun J hJ k1 => ⟨_, _, c_mNothingN l g.mg k1.ym hM (Or.inl hx), by omega, qIp rfl⟩)
  | true =>
    obtain ⟨j, hj, rfl⟩ := inb_of (by omega) hx
    obtain ⟨d, hd4, hd, hdy⟩ := k.d
    have hc := c_nothingS l (I := I) (S := S) (L := L) (R := R) g.xg g.sg k.xn hN k.xm hj hM (g.rw j hj) (g.wg j hj) g.hg hd hd4 y
    by_cases h0 : y < 0
    · rw [if_pos (Or.inl h0), if_pos (Or.inl h0)] at hc
      exact sr1 g k hq (-1) hc (by omega) (qIp rfl) (fun J hJ k1 => ⟨_, _, c_mNothingN l g.mg k1.ym hM (Or.inr (Or.inl h0)), by omega, qIp rfl⟩)
    by_cases h9 : nI 9999 < y
    · rw [if_pos (Or.inr h9), if_pos (Or.inr h9)] at hc
      exact sr1 g k hq (-1) hc (by omega) (qIp rfl) (fun J hJ k1 => ⟨_, _, c_mNothingN l g.mg k1.ym hM (Or.inr (Or.inr h9)), by omega, qIp rfl⟩)
    have hno : ¬ (y < 0 ∨ nI 9999 < y) := fun z => z.elim h0 h9
    rw [if_neg hno, if_neg hno] at hc
    obtain ⟨p, hp, rfl⟩ := nI_of h0
    have h9' := h9
    rw [nI_ltI (by omega) hp] at h9'
    obtain ⟨lj, ke, w1, w2, w3, w4, w5, wa, w6, w7⟩ := k.wb j hj
    obtain ⟨a, ha, e1, e2⟩ := wa.2.1
    rw [e1] at hc
    refine sr2 (nI a) (fun J L' => J = noteI (upM I (11, j) 5 (nI p)) d (nI j) (-1) (nI a) (nI p) ∧ L' = L) hc (by omega) (by rintro r S' I' L' R' ⟨v, rfl, rfl, rfl, rfl, rfl, rfl⟩; exact ⟨rfl, rfl, rfl, rfl, rfl⟩) ?_
    rintro J L' ⟨rfl, rfl⟩
    have hm : ∀ i, noteI (upM I (11, j) 5 (nI p)) d (nI j) (-1) (nI a) (nI p) (40, 0) i = I (40, 0) i := fun i => by rw [noteM (by simp), upM_n _ (by simp)]
    refine ⟨3, _, c_mNothingS l g.mg ((hm 18).trans k.ym) hM hj ((hm 5).trans hdy) hd4 (x := nI a) (by rw [noteM (by simp), upM_n _ (by simp)]; exact e2) h0 h9, by omega, ?_⟩
    rintro r S' I' L2 R' ⟨v, rfl, rfl, rfl, rfl, rfl, rfl⟩
    refine ⟨rfl, rfl, rfl, n, m, c, b, g, ?_⟩
    have hX := chg_x (I := I) (tx := (11, j)) (ix := 5) (d := d) (w := nI j) (s := -1) (idx := 12 + j) (a := a) (b := p)
    have hY := chg_y (I := I) (tx := (11, j)) (ix := 5) (d := d) (w := nI j) (s := -1) (idx := 12 + j) (a := a) (b := p) (by simp)
    have hx0 := chg_xv (I := I) (tx := (11, j)) (ix := 5) (d := d) (w := nI j) (s := -1) (idx := 12 + j) (a := a) (b := p) (by simp)
    have hy0 := chg_yv (I := I) (tx := (11, j)) (ix := 5) (d := d) (w := nI j) (s := -1) (idx := 12 + j) (a := a) (b := p) (by simp) e2
    have hch := chg_ch (tx := (11, j)) (ix := 5) (w := nI j) (s := -1) (idx := 12 + j) (lim := 9999) (a := a) (b := p) (by simp) k.ch hd hd4 (by omega) (Or.inr (Or.inl ⟨j, hj, rfl, rfl, rfl, rfl⟩)) ha (by omega)
    show K2 xs (q + 1) n m c b _ _ (chgI I (11, j) 5 d (nI j) (-1) (12 + j) a p) (chgI I (11, j) 5 d (nI j) (-1) (12 + j) a p) _ _
    generalize chgI I (11, j) 5 d (nI j) (-1) (12 + j) a p = F at *
    have hwj : WB j (q + 1) n c R' F F := by
      obtain ⟨⟨a3, a4, a6, a7⟩, -, ⟨a8, b8⟩, hcc, hl⟩ := wa
      refine ⟨lj, ke, w1, w2, ?_, ?_, by omega, ⟨⟨?_, ?_, ?_, ?_⟩, ⟨p, by omega, hx0, hy0⟩, ⟨?_, ?_⟩, fun s hs => ?_, fun t ht => ?_⟩, ?_, ?_⟩
      · rw [hX _ _ (by simp) (by simp)]; exact w3
      · rw [hY _ _ (by simp) (by simp)]; exact w4
      · rw [hX _ _ (by simp) (by simp), hY _ _ (by simp) (by simp)]; exact a3
      · rw [hX _ _ (by simp) (by simp), hX _ _ (by simp) (by simp), hY _ _ (by simp) (by simp)]; exact a4
      · rw [hX _ _ (by simp) (by simp), hY _ _ (by simp) (by simp)]; exact a6
      · rw [hX _ _ (by simp) (by simp), hY _ _ (by simp) (by simp)]; exact a7
      · rw [hX _ _ (by simp) (by simp)]; exact a8
      · rw [hY _ _ (by simp) (by simp)]; exact b8
      · rw [hX _ _ (by simp) (by simp), hY _ _ (by simp) (by simp; omega)]; exact hcc s hs
      · rw [hX _ _ (by simp) (by simp), hY _ _ (by simp) (by simp)]; exact hl t ht
      · rw [hX _ _ (by simp) (by simp), hY _ _ (by simp) (by simp)]; exact w6
      · rw [hX _ _ (by simp) (by simp), hY _ _ (by simp) (by simp)]; exact w7
    exact K2.mk (hN := k.hN) (hM := k.hM) (hC := k.hC) (hB := k.hB) (hq := (by omega)) (xn := ((hX _ _ (by first | (simp; done) | (simp; omega)) (by first | (simp; done) | (simp; omega))).trans k.xn)) (xm := ((hX _ _ (by first | (simp; done) | (simp; omega)) (by first | (simp; done) | (simp; omega))).trans k.xm)) (xc := ((hX _ _ (by first | (simp; done) | (simp; omega)) (by first | (simp; done) | (simp; omega))).trans k.xc)) (yn := ((hY _ _ (by first | (simp; done) | (simp; omega)) (by first | (simp; done) | (simp; omega))).trans k.yn)) (ym := ((hY _ _ (by first | (simp; done) | (simp; omega)) (by first | (simp; done) | (simp; omega))).trans k.ym)) (yc := ((hY _ _ (by first | (simp; done) | (simp; omega)) (by first | (simp; done) | (simp; omega))).trans k.yc)) (st := (st_to k.st (fun i => (hX _ _ (by first | (simp; done) | (simp; omega)) (by first | (simp; done) | (simp; omega)))))) (at_ := (at_to k.at_ (fun i => (hX _ _ (by first | (simp; done) | (simp; omega)) (by first | (simp; done) | (simp; omega)))) (fun i => (hX _ _ (by first | (simp; done) | (simp; omega)) (by first | (simp; done) | (simp; omega)))))) (so := (k.so.to k.hN (fun i hi => (hX _ _ (by first | (simp; done) | (simp; omega)) (by first | (simp; done) | (simp; omega)))) (fun i hi => (hY _ _ (by first | (simp; done) | (simp; omega)) (by first | (simp; done) | (simp; omega)))))) (tp := (k.tp.to (hX _ _ (by first | (simp; done) | (simp; omega)) (by first | (simp; done) | (simp; omega))) (fun i => (hX _ _ (by first | (simp; done) | (simp; omega)) (by first | (simp; done) | (simp; omega)))) (hY _ _ (by first | (simp; done) | (simp; omega)) (by first | (simp; done) | (simp; omega))) (fun i => (hY _ _ (by first | (simp; done) | (simp; omega)) (by first | (simp; done) | (simp; omega)))))) (ch := hch) (ac := (k.ac.to (hX _ _ (by first | (simp; done) | (simp; omega)) (by first | (simp; done) | (simp; omega))) (hX _ _ (by first | (simp; done) | (simp; omega)) (by first | (simp; done) | (simp; omega))) (fun i => (hX _ _ (by first | (simp; done) | (simp; omega)) (by first | (simp; done) | (simp; omega)))) (fun i => (hX _ _ (by first | (simp; done) | (simp; omega)) (by first | (simp; done) | (simp; omega)))) (hY _ _ (by first | (simp; done) | (simp; omega)) (by first | (simp; done) | (simp; omega))) (hY _ _ (by first | (simp; done) | (simp; omega)) (by first | (simp; done) | (simp; omega))) (fun i => (hY _ _ (by first | (simp; done) | (simp; omega)) (by first | (simp; done) | (simp; omega)))) (fun i => (hY _ _ (by first | (simp; done) | (simp; omega)) (by first | (simp; done) | (simp; omega)))))) (sh := (fun d hd => (k.sh d hd).to (Nat.le_refl _) k.hB (fun i => (hX _ _ (by first | (simp; done) | (simp; omega)) (by first | (simp; done) | (simp; omega)))) (hY _ _ (by first | (simp; done) | (simp; omega)) (by first | (simp; done) | (simp; omega))) (hY _ _ (by first | (simp; done) | (simp; omega)) (by first | (simp; done) | (simp; omega))) (fun i => rfl) (fun i _ => rfl))) (lw := (fun j hj => (k.lw j hj).to (fun _ z => z) (fun i => (hX _ _ (by first | (simp; done) | (simp; omega)) (by first | (simp; done) | (simp; omega)))) (fun i _ _ => (hY _ _ (by first | (simp; done) | (simp; omega)) (by first | (simp; done) | (simp; omega)))) (hY _ _ (by first | (simp; done) | (simp; omega)) (by first | (simp; done) | (simp; omega))))) (wb := (fun k2 hk2 => by
      by_cases e : k2 = j
      · subst e
        exact hwj
      · exact (k.wb k2 hk2).to (by omega) (Nat.le_refl _) (Nat.le_refl _) rfl (fun i => hX _ _ (by simp) (by simp [e])) (fun i => hX _ _ (by simp) (by simp [e])) (fun i => hX _ _ (by simp) (by simp [e])) (fun t i z => hY _ _ (by show 40 ≤ t; omega) (by simp; omega)))) (fs := (fun j h1 h2 => (hY _ _ (by first | (simp; done) | (simp; omega)) (by first | (simp; done) | (simp; omega))).trans (k.fs j h1 h2))) (sc := (fun i => (hY _ _ (by first | (simp; done) | (simp; omega)) (by first | (simp; done) | (simp; omega))).trans (k.sc i)))
