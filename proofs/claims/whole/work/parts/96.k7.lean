/-! the calls that write: what a CHANGE leaves; song, shop, feed -/
theorem st_to {X X' : MI} (h : ST X) (e : ∀ i, X' (36, 0) i = X (36, 0) i) : ST X' := by
  unfold ST
  rw [e, e, e, e]; exact h
theorem at_to {X X' : MI} (h : AT X) (e : ∀ i, X' (37, 0) i = X (37, 0) i) (e2 : ∀ i, X' (38, 0) i = X (38, 0) i) : AT X' := ⟨fun a ha => (e a).trans (h.1 a ha), fun i hi => (e2 i).trans (h.2 i hi)⟩
theorem CX.mono {n m n' m' : Nat} {w s : Int32} {idx lim : Nat} (hn : n ≤ n') (hm : m ≤ m') (h : CX n m w s idx lim) : CX n' m' w s idx lim := by
  rcases h with ⟨h1, h2, h3, h4⟩ | ⟨k, h1, h2, h3, h4, h5⟩ | ⟨k, o, h1, h2, h3, h4, h5, h6⟩
  · exact Or.inl ⟨h1, h2, by omega, h4⟩
  · exact Or.inr (Or.inl ⟨k, by omega, h2, h3, h4, h5⟩)
  · exact Or.inr (Or.inr ⟨k, o, by omega, by omega, h3, h4, h5, h6⟩)
theorem CH.mono {n m n' m' : Nat} {X Y : MI} (h : CH n m X Y) (hn : n ≤ n') (hm : m ≤ m') : CH n' m' X Y := by
  obtain ⟨d, z, a1, a2, a3, a4, a5, a6, h⟩ := h
  refine ⟨d, z, a1, a2, a3, a4, a5, a6, fun t ht => ?_⟩
  obtain ⟨idx, lim, a, b, c, r⟩ := h t ht
  exact ⟨idx, lim, a, b, c.mono hn hm, r⟩
theorem CH.put {n m d : Nat} {w s : Int32} {idx lim a b : Nat} {X Y : MI} (hd : d < 40) (hx : CX n m w s idx lim) (ha : a ≤ lim) (hb : b ≤ lim) (h : ∀ t, t < d → CE n m X Y t) : CH n m (putI X d w s (nI a) (nI b)) (bcP Y d idx (nI a) (nI b)) := by
  have p1 : ∀ t, putI X d w s (nI a) (nI b) (19, 0) t = if t = d then w else X (19, 0) t := fun t => by unfold putI; by_cases e : t = d <;> simp [upM, e]
  have p2 : ∀ t, putI X d w s (nI a) (nI b) (20, 0) t = if t = d then s else X (20, 0) t := fun t => by unfold putI; by_cases e : t = d <;> simp [upM, e]
  have p3 : ∀ t, putI X d w s (nI a) (nI b) (21, 0) t = if t = d then nI a else X (21, 0) t := fun t => by unfold putI; by_cases e : t = d <;> simp [upM, e]
  have p4 : ∀ t, putI X d w s (nI a) (nI b) (22, 0) t = if t = d then nI b else X (22, 0) t := fun t => by unfold putI; by_cases e : t = d <;> simp [upM, e]
  have q1 : ∀ t, bcP Y d idx (nI a) (nI b) (51, 0) t = if t = d then nI idx else Y (51, 0) t := fun t => by unfold bcP; by_cases e : t = d <;> simp [upM, e]
  have q2 : ∀ t, bcP Y d idx (nI a) (nI b) (52, 0) t = if t = d then nI a else Y (52, 0) t := fun t => by unfold bcP; by_cases e : t = d <;> simp [upM, e]
  have q3 : ∀ t, bcP Y d idx (nI a) (nI b) (53, 0) t = if t = d then nI b else Y (53, 0) t := fun t => by unfold bcP; by_cases e : t = d <;> simp [upM, e]
  refine ⟨d + 1, d + 1, Nat.le_refl _, by omega, by simp [putI, upM], by simp [putI, upM], by simp [bcP, upM], by simp [bcP, upM], fun t ht => ?_⟩
  unfold CE
  rw [p1, p2, p3, p4, q1, q2, q3]
  by_cases e : t = d
  · simp only [if_pos e]
    exact ⟨idx, lim, a, b, hx, rfl, ha, hb, rfl, rfl, rfl, rfl⟩
  · simp only [if_neg e]
    exact h t (by omega)
theorem CH.note {n m d : Nat} {w s : Int32} {idx lim a b : Nat} {X Y : MI} (hl : lim < 2 ^ 30) (h : CH n m X Y) (hd : X (18, 0) 4 = nI d) (hd4 : d ≤ 40) (hx : CX n m w s idx lim) (ha : a ≤ lim) (hb : b ≤ lim) : CH n m (noteI X d w s (nI a) (nI b)) (bcmI Y d idx (nI a) (nI b)) := by
  obtain ⟨d', z, a1, a2, a3, a4, a5, a6, hc⟩ := h
  have e : d' = d := (nI_eq (by omega) (by omega)).mp (a3.symm.trans hd)
  subst e
  unfold noteI bcmI
  by_cases hab : nI a = nI b
  · rw [if_pos hab, if_pos hab]
    exact ⟨d', z, a1, a2, a3, a4, a5, a6, hc⟩
  rw [if_neg hab, if_neg hab]
  by_cases h4 : d' < 40
  · rw [if_pos h4, if_pos h4]
    exact CH.put h4 hx ha hb (fun t ht => hc t (by omega))
  · rw [if_neg h4, if_neg h4]
    refine CH.put (by omega) hx ha hb (fun t ht => ?_)
    obtain ⟨i2, l2, a', b', c1, c2⟩ := hc (t + 1) (by omega)
    have f : ∀ u, u = 19 ∨ u = 20 ∨ u = 21 ∨ u = 22 → fgI X (u, 0) t = X (u, 0) (t + 1) := fun u hu => by
      unfold fgI
      rcases hu with rfl | rfl | rfl | rfl
      · rw [upM_n _ (by simp), fg_o (by simp), fg_o (by simp), fg_o (by simp)]; unfold fg va_cpy; rw [upT_s, if_pos (by omega)]; congr 1; omega
      · rw [upM_n _ (by simp), fg_o (by simp), fg_o (by simp)]; unfold fg va_cpy; rw [upT_s, if_pos (by omega), upT_n _ (by simp)]; congr 1; omega
      · rw [upM_n _ (by simp), fg_o (by simp)]; unfold fg va_cpy; rw [upT_s, if_pos (by omega), upT_n _ (by simp), upT_n _ (by simp)]; congr 1; omega
      · rw [upM_n _ (by simp)]; unfold fg va_cpy; rw [upT_s, if_pos (by omega), upT_n _ (by simp), upT_n _ (by simp), upT_n _ (by simp)]; congr 1; omega
    have g1 : bcF Y (51, 0) t = Y (51, 0) (t + 1) := by unfold bcF; rw [upM_n _ (by simp), bcB_51]; unfold sh1; rw [if_pos (by omega)]
    have g2 : bcF Y (52, 0) t = Y (52, 0) (t + 1) := by unfold bcF; rw [upM_n _ (by simp), bcB_52]; unfold sh1; rw [if_pos (by omega)]
    have g3 : bcF Y (53, 0) t = Y (53, 0) (t + 1) := by unfold bcF; rw [upM_n _ (by simp), bcB_53]; unfold sh1; rw [if_pos (by omega)]
    unfold CE
    rw [f 19 (by simp), f 20 (by simp), f 21 (by simp), f 22 (by simp), g1, g2, g3]
    exact ⟨i2, l2, a', b', c1, c2⟩
theorem bcmI_o {I : MI} {d q i : Nat} {x v : Int32} {u : Tok} (h1 : ¬ (u = (51, 0) ∨ u = (52, 0) ∨ u = (53, 0))) (h2 : ¬ (u = (40, 0) ∧ (i = 4 ∨ i = 5))) (h3 : ¬ (u = (50, 0) ∧ i = q)) : bcmI I d q x v u i = I u i := by
  have hP : ∀ (K : MI) (d : Nat), bcP K d q x v u i = K u i := fun K d => by
    unfold bcP
    rw [show upM _ (50, 0) q v u i = _ from if_neg h3, show upM _ (40, 0) 4 _ u i = _ from if_neg (fun z => h2 ⟨z.1, Or.inl z.2⟩), show upM _ (40, 0) 5 _ u i = _ from if_neg (fun z => h2 ⟨z.1, Or.inr z.2⟩)]
    rw [upM_n _ (fun z => h1 (Or.inr (Or.inr z))), upM_n _ (fun z => h1 (Or.inr (Or.inl z))), upM_n _ (fun z => h1 (Or.inl z))]
  unfold bcmI
  split
  · rfl
  · split
    · exact hP _ _
    · rw [hP]
      unfold bcF
      rw [show upM _ (40, 0) 5 _ u i = _ from if_neg (fun z => h2 ⟨z.1, Or.inr z.2⟩), bcB_n _ _ (fun z => h1 (Or.inl z)) (fun z => h1 (Or.inr (Or.inl z))) (fun z => h1 (Or.inr (Or.inr z)))]
theorem bcmI_q {I : MI} {d q : Nat} {x v : Int32} (h : I (50, 0) q = x) : bcmI I d q x v (50, 0) q = v := by
  unfold bcmI
  split
  · rename_i e
    rw [h, e]
  · split <;> (unfold bcP; rw [upM_s])
/-- a call that writes, and makes no room -/
theorem sr2 {l : Launch} {α : Type} {mk : α → PV} {mx mm : MInf} {as : List PV} {Ls : Nat} {xs : Nat → Int32} {q : Nat} {S : Shp} {I : MI} {L : ML} {R : MR} {d : Nat} {post : PO} (v : α) (PX : MI → ML → Prop) (hx : Ct l mx d 0 0 (.inr (.inr (some (0, 0))) :: as) S I L R post) (hd : d ≤ 99) (hp : ∀ r S' I' L' R', post r S' I' L' R' → r = some (mk v) ∧ S' = S ∧ R' = R ∧ PX I' L') (hm : ∀ J L', PX J L' → ∃ d2 post2, Ct l mm d2 0 0 (.inr (.inr (some (40, 0))) :: as) S J L' R post2 ∧ d2 ≤ 99 ∧ ∀ r S' I' L2 R', post2 r S' I' L2 R' → r = some (mk v) ∧ S' = S ∧ R' = R ∧ ∃ n m c b, KG Ls m c S R ∧ K2 xs (q + 1) n m c b S R I' I' L2 L2) : Sr l mk mx mm as Ls xs q S I L R := by
  refine ⟨d, 0, 0, post, hx, hd, by omega, by omega, fun r S1 I1 L1 R1 h1 => ?_⟩
  obtain ⟨e1, rfl, rfl, hP⟩ := hp _ _ _ _ _ h1
  obtain ⟨d2, post2, c2, hd2, hp2⟩ := hm I1 L1 hP
  refine ⟨v, d2, post2, e1, hd2, c2, fun r2 S2 I2 L2 R2 h2 => ?_⟩
  obtain ⟨e2, rfl, rfl, n, m, c, b, hk⟩ := hp2 _ _ _ _ _ h2
  exact ⟨e2, n, m, c, b, hk⟩

theorem s_song (l : Launch) {Ls : Nat} {xs : Nat → Int32} {q n m c b : Nat} {S : Shp} {I : MI} {L : ML} {R : MR} (g : KG Ls m c S R) (k : K2 xs q n m c b S R I I L L) (hq : q < 600) (x : Int32) : Sr l wI mX8_song mX9_song [.inl x] Ls xs q S I L R := by
  have hN := k.hN
  have hM := k.hM
  have hC := k.hC
  have hc := c_song l (I := I) (S := S) (L := L) (R := R) g.xg g.sg k.xn hN x
  by_cases h0 : x < 0
  · rw [if_pos (Or.inl h0), if_pos (Or.inl h0)] at hc
    exact sr1 g k hq (-1) hc (by omega) (qIp rfl) (fun J hJ k1 => ⟨_, _, c_mSongB l g.mg (Or.inl h0), by omega, qIp rfl⟩)
  by_cases h9 : nI 999 < x
  · rw [if_pos (Or.inr h9), if_pos (Or.inr h9)] at hc
    exact sr1 g k hq (-1) hc (by omega) (qIp rfl) (fun J hJ k1 => ⟨_, _, c_mSongB l g.mg (Or.inr h9), by omega, qIp rfl⟩)
  have hno : ¬ (x < 0 ∨ nI 999 < x) := fun z => z.elim h0 h9
  rw [if_neg hno, if_neg hno] at hc
  by_cases hf : 12 ≤ n
  · rw [if_pos hf, if_pos hf] at hc
    exact sr1 g k hq (-3) hc (by omega) (qIp rfl) (fun J hJ k1 => ⟨_, _, c_mSongF l g.mg k1.yn hN h0 h9 (by omega), by omega, qIp rfl⟩)
  rw [if_neg hf, if_neg hf] at hc
  obtain ⟨p, hp, rfl⟩ := nI_of h0
  rw [nI_ltI (by omega) hp] at h9
  refine sr2 (nI n) (fun J L' => J = upM (upM I (2, 0) n (nI p)) (1, 0) 1 (nI (n + 1)) ∧ L' = L) hc (by omega) (by rintro r S' I' L' R' ⟨v, rfl, rfl, rfl, rfl, rfl, rfl⟩; exact ⟨rfl, rfl, rfl, rfl, rfl⟩) ?_
  rintro J L' ⟨hJ, rfl⟩
  have hJm : ∀ t i, 40 ≤ t.1 → J t i = I t i := fun t i ht => by
    rw [hJ, upM_n _ (fun z => by rw [z] at ht; simp at ht), upM_n _ (fun z => by rw [z] at ht; simp at ht)]
  refine ⟨2, _, c_mSongS l g.mg ((hJm _ _ (by simp)).trans k.yn) hN (Int32.not_lt.mpr (Int32.not_lt.mp h0)) (by rw [nI_ltI (by omega) hp]; exact h9) (by omega), by omega, ?_⟩
  rintro r S' I' L2 R' ⟨v, rfl, rfl, rfl, rfl, rfl, rfl⟩
  refine ⟨rfl, rfl, rfl, n + 1, m, c, b, g, ?_⟩
  have hX : ∀ t i, t.1 < 40 → ¬ ((t = (2, 0) ∧ i = n) ∨ (t = (1, 0) ∧ i = 1)) → upM (upM J (50, 0) n (nI p)) (40, 0) 6 (nI (n + 1)) t i = I t i := fun t i ht hw => by
    rw [upM_n _ (fun z => by rw [z] at ht; simp at ht), upM_n _ (fun z => by rw [z] at ht; simp at ht), hJ]
    rw [show upM _ (1, 0) 1 _ t i = _ from if_neg (fun z => hw (Or.inr z)), show upM _ (2, 0) n _ t i = _ from if_neg (fun z => hw (Or.inl z))]
  have hY : ∀ t i, 40 ≤ t.1 → ¬ ((t = (50, 0) ∧ i = n) ∨ (t = (40, 0) ∧ i = 6)) → upM (upM J (50, 0) n (nI p)) (40, 0) 6 (nI (n + 1)) t i = I t i := fun t i ht hw => by
    rw [show upM _ (40, 0) 6 _ t i = _ from if_neg (fun z => hw (Or.inr z)), show upM _ (50, 0) n _ t i = _ from if_neg (fun z => hw (Or.inl z))]
    exact hJm t i ht
  have hxn : upM (upM J (50, 0) n (nI p)) (40, 0) 6 (nI (n + 1)) (1, 0) 1 = nI (n + 1) := by
    rw [upM_n _ (by simp), upM_n _ (by simp), hJ, upM_s]
  have hso : SO (n + 1) (upM (upM J (50, 0) n (nI p)) (40, 0) 6 (nI (n + 1))) (upM (upM J (50, 0) n (nI p)) (40, 0) 6 (nI (n + 1))) := fun s hs => by
    by_cases e : s = n
    · subst e
      refine ⟨p, by omega, ?_, ?_⟩
      · rw [upM_n _ (by simp), upM_n _ (by simp), hJ, upM_n _ (by simp), upM_s]
      · rw [upM_n _ (by simp), upM_s]
    · rw [hX _ _ (by simp) (by simp [e]), hY _ _ (by simp) (by simp [e])]
      exact k.so s (by omega)
  exact K2.mk (hN := (by omega)) (hM := k.hM) (hC := k.hC) (hB := k.hB) (hq := (by omega)) (xn := hxn) (xm := ((hX _ _ (by first | (simp; done) | (simp; omega)) (by first | (simp; done) | (simp; omega))).trans k.xm)) (xc := ((hX _ _ (by first | (simp; done) | (simp; omega)) (by first | (simp; done) | (simp; omega))).trans k.xc)) (yn := (upM_s _ _ _ _)) (ym := ((hY _ _ (by first | (simp; done) | (simp; omega)) (by first | (simp; done) | (simp; omega))).trans k.ym)) (yc := ((hY _ _ (by first | (simp; done) | (simp; omega)) (by first | (simp; done) | (simp; omega))).trans k.yc)) (st := (st_to k.st (fun i => (hX _ _ (by first | (simp; done) | (simp; omega)) (by first | (simp; done) | (simp; omega)))))) (at_ := (at_to k.at_ (fun i => (hX _ _ (by first | (simp; done) | (simp; omega)) (by first | (simp; done) | (simp; omega)))) (fun i => (hX _ _ (by first | (simp; done) | (simp; omega)) (by first | (simp; done) | (simp; omega)))))) (so := hso) (tp := (k.tp.to (hX _ _ (by first | (simp; done) | (simp; omega)) (by first | (simp; done) | (simp; omega))) (fun i => (hX _ _ (by first | (simp; done) | (simp; omega)) (by first | (simp; done) | (simp; omega)))) (hY _ _ (by first | (simp; done) | (simp; omega)) (by first | (simp; done) | (simp; omega))) (fun i => (hY _ _ (by first | (simp; done) | (simp; omega)) (by first | (simp; done) | (simp; omega)))))) (ch := ((k.ch.to (fun t i h1 h2 => (hX _ _ (by first | (simp; done) | (simp; omega)) (by first | (simp; done) | (simp; omega)))) (hY _ _ (by first | (simp; done) | (simp; omega)) (by first | (simp; done) | (simp; omega))) (hY _ _ (by first | (simp; done) | (simp; omega)) (by first | (simp; done) | (simp; omega))) (fun t i h1 h2 => (hY _ _ (by first | (simp; done) | (simp; omega)) (by first | (simp; done) | (simp; omega))))).mono (Nat.le_succ n) (Nat.le_refl _))) (ac := (k.ac.to (hX _ _ (by first | (simp; done) | (simp; omega)) (by first | (simp; done) | (simp; omega))) (hX _ _ (by first | (simp; done) | (simp; omega)) (by first | (simp; done) | (simp; omega))) (fun i => (hX _ _ (by first | (simp; done) | (simp; omega)) (by first | (simp; done) | (simp; omega)))) (fun i => (hX _ _ (by first | (simp; done) | (simp; omega)) (by first | (simp; done) | (simp; omega)))) (hY _ _ (by first | (simp; done) | (simp; omega)) (by first | (simp; done) | (simp; omega))) (hY _ _ (by first | (simp; done) | (simp; omega)) (by first | (simp; done) | (simp; omega))) (fun i => (hY _ _ (by first | (simp; done) | (simp; omega)) (by first | (simp; done) | (simp; omega)))) (fun i => (hY _ _ (by first | (simp; done) | (simp; omega)) (by first | (simp; done) | (simp; omega)))))) (sh := (fun d hd => (k.sh d hd).to (Nat.le_refl _) k.hB (fun i => (hX _ _ (by first | (simp; done) | (simp; omega)) (by first | (simp; done) | (simp; omega)))) (hY _ _ (by first | (simp; done) | (simp; omega)) (by first | (simp; done) | (simp; omega))) (hY _ _ (by first | (simp; done) | (simp; omega)) (by first | (simp; done) | (simp; omega))) (fun i => rfl) (fun i _ => rfl))) (lw := (fun j hj => (k.lw j hj).to (fun _ z => z) (fun i => (hX _ _ (by first | (simp; done) | (simp; omega)) (by first | (simp; done) | (simp; omega)))) (fun i _ _ => (hY _ _ (by first | (simp; done) | (simp; omega)) (by first | (simp; done) | (simp; omega)))) (hY _ _ (by first | (simp; done) | (simp; omega)) (by first | (simp; done) | (simp; omega))))) (wb := (fun j hj => (k.wb j hj).to (by omega) (Nat.le_succ n) (Nat.le_refl _) rfl (fun i => (hX _ _ (by first | (simp; done) | (simp; omega)) (by first | (simp; done) | (simp; omega)))) (fun i => (hX _ _ (by first | (simp; done) | (simp; omega)) (by first | (simp; done) | (simp; omega)))) (fun i => (hX _ _ (by first | (simp; done) | (simp; omega)) (by first | (simp; done) | (simp; omega)))) (fun t i z => (hY _ _ (by first | (simp; done) | (simp; omega)) (by first | (simp; done) | (simp; omega)))))) (fs := (fun j h1 h2 => (hY _ _ (by first | (simp; done) | (simp; omega)) (by first | (simp; done) | (simp; omega))).trans (k.fs j h1 h2))) (sc := (fun i => (hY _ _ (by first | (simp; done) | (simp; omega)) (by first | (simp; done) | (simp; omega))).trans (k.sc i)))
