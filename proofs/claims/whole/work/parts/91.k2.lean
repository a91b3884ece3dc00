/-! a call on both sides -/
def Inv (Ls : Nat) (xs : Nat → Int32) (q : Nat) (S : Shp) (I : MI) (L : ML) (R : MR) : Prop := ∃ n m c b, KG Ls m c S R ∧ K2 xs q n m c b S R I I L L
def x0 : PV := .inr (.inr (some (0, 0)))
def m0 : PV := .inr (.inr (some (40, 0)))
def Sr (l : Launch) {α : Type} (mk : α → PV) (mx mm : MInf) (as : List PV) (Ls : Nat) (xs : Nat → Int32) (q : Nat) (S : Shp) (I : MI) (L : ML) (R : MR) : Prop := ∃ (d mc ms : Nat) (post : PO), Ct l mx d mc ms (.inr (.inr (some (0, 0))) :: as) S I L R post ∧ d ≤ 99 ∧ mc ≤ 7 ∧ ms ≤ 308 ∧ ∀ r S1 I1 L1 R1, post r S1 I1 L1 R1 → ∃ (w : α) (d2 : Nat) (post2 : PO), r = some (mk w) ∧ d2 ≤ 99 ∧ Ct l mm d2 0 0 (.inr (.inr (some (40, 0))) :: as) S1 I1 L1 R1 post2 ∧ ∀ r2 S2 I2 L2 R2, post2 r2 S2 I2 L2 R2 → r2 = some (mk w) ∧ Inv Ls xs (q + 1) S2 I2 L2 R2
def wI (v : Int32) : PV := .inl v
def wJ (v : Int64) : PV := .inr (.inl v)
def cSP (t : Tok) (i : Nat) : Prop := t.1 < 40 ∧ cS t i
def mSP (t : Tok) (i : Nat) : Prop := 40 ≤ t.1 ∧ mS t i
def Qv (P : Tok → Nat → Prop) (v : PV) (S : Shp) (I : MI) (L : ML) (R : MR) : PO := fun r S' I' L' R' => r = some v ∧ S' = S ∧ L' = L ∧ R' = R ∧ Fr P I I'
theorem qIp {P : Tok → Nat → Prop} {S : Shp} {I : MI} {L : ML} {R : MR} {f v : Int32} (e : f = v) : ∀ r S' I' L' R', PIp S I L R f r S' I' L' R' → Qv P (wI v) S I L R r S' I' L' R' := by
  rintro r S' I' L' R' ⟨v, rfl, rfl, rfl, rfl, rfl, rfl⟩
  subst e
  exact ⟨rfl, rfl, rfl, rfl, Fr.rf⟩
theorem qJp {P : Tok → Nat → Prop} {S : Shp} {I : MI} {L : ML} {R : MR} {f v : Int64} (e : f = v) : ∀ r S' I' L' R', PJp S I L R f r S' I' L' R' → Qv P (wJ v) S I L R r S' I' L' R' := by
  rintro r S' I' L' R' ⟨v, rfl, rfl, rfl, rfl, rfl, rfl⟩
  subst e
  exact ⟨rfl, rfl, rfl, rfl, Fr.rf⟩
theorem qIm {P P' : Tok → Nat → Prop} {S : Shp} {I : MI} {L : ML} {R : MR} {f v : Int32} (e : f = v) (hP : ∀ t i, P' t i → P t i) : ∀ r S' I' L' R', PIm S L R (fun w J => w = f ∧ Fr P' I J) r S' I' L' R' → Qv P (wI v) S I L R r S' I' L' R' := by
  rintro r S' I' L' R' ⟨w, rfl, rfl, rfl, rfl, rfl, h⟩
  subst e
  exact ⟨rfl, rfl, rfl, rfl, h.le hP⟩
theorem K2.q1 {xs : Nat → Int32} {q n m c b : Nat} {S : Shp} {R : MR} {X Y : MI} {LX LY : ML} (h : K2 xs q n m c b S R X Y LX LY) (hq : q < 600) : K2 xs (q + 1) n m c b S R X Y LX LY :=
  K2.mk (hN := h.hN) (hM := h.hM) (hC := h.hC) (hB := h.hB) (hq := hq) (xn := h.xn) (xm := h.xm) (xc := h.xc) (yn := h.yn) (ym := h.ym) (yc := h.yc) (st := h.st) (at_ := h.at_) (so := h.so) (tp := h.tp) (ch := h.ch) (ac := h.ac) (sh := h.sh) (lw := h.lw) (wb := fun k hk => (h.wb k hk).to (by omega) (Nat.le_refl _) (Nat.le_refl _) rfl (fun _ => rfl) (fun _ => rfl) (fun _ => rfl) (fun _ _ _ => rfl)) (fs := h.fs) (sc := h.sc)
theorem K2.frC {xs : Nat → Int32} {q n m c b : Nat} {S : Shp} {R : MR} {I J : MI} {L : ML} (h : K2 xs q n m c b S R I I L L) (hf : Fr cSP I J) : K2 xs q n m c b S R J J L L := h.to (fun t i _ h2 => hf t i (fun z => h2 z.2)) (fun t i h1 _ => hf t i (fun z => absurd z.1 (by omega))) (fun _ _ => rfl) (fun _ => rfl)
theorem K2.frM {xs : Nat → Int32} {q n m c b : Nat} {S : Shp} {R : MR} {I J : MI} {L : ML} (h : K2 xs q n m c b S R I I L L) (hf : Fr mSP I J) : K2 xs q n m c b S R J J L L := h.to (fun t i h1 _ => hf t i (fun z => absurd z.1 (by omega))) (fun t i _ h2 => hf t i (fun z => h2 z.2)) (fun _ _ => rfl) (fun _ => rfl)
/-- a call that changes nothing but what holds nothing between two calls -/
theorem sr1 {l : Launch} {α : Type} {mk : α → PV} {mx mm : MInf} {as : List PV} {Ls : Nat} {xs : Nat → Int32} {q n m c b : Nat} {S : Shp} {I : MI} {L : ML} {R : MR} {d : Nat} {post : PO} (g : KG Ls m c S R) (k : K2 xs q n m c b S R I I L L) (hq : q < 600) (v : α) (hx : Ct l mx d 0 0 (.inr (.inr (some (0, 0))) :: as) S I L R post) (hd : d ≤ 99) (hp : ∀ r S' I' L' R', post r S' I' L' R' → Qv cSP (mk v) S I L R r S' I' L' R') (hm : ∀ J, (∀ a i, 40 ≤ a → J (a, 0) i = I (a, 0) i) → K2 xs q n m c b S R J J L L → ∃ d2 post2, Ct l mm d2 0 0 (.inr (.inr (some (40, 0))) :: as) S J L R post2 ∧ d2 ≤ 99 ∧ ∀ r S' I' L' R', post2 r S' I' L' R' → Qv mSP (mk v) S J L R r S' I' L' R') : Sr l mk mx mm as Ls xs q S I L R := by
  refine ⟨d, 0, 0, post, hx, hd, by omega, by omega, fun r S1 I1 L1 R1 h1 => ?_⟩
  obtain ⟨e1, rfl, rfl, rfl, hf⟩ := hp _ _ _ _ _ h1
  have k1 := k.frC hf
  obtain ⟨d2, post2, c2, hd2, hp2⟩ := hm I1 (fun a i ha => hf _ _ (fun z => absurd z.1 (by show ¬ a < 40; omega))) k1
  refine ⟨v, d2, post2, e1, hd2, c2, fun r2 S2 I2 L2 R2 h2 => ?_⟩
  obtain ⟨e2, rfl, rfl, rfl, hf2⟩ := hp2 _ _ _ _ _ h2
  exact ⟨e2, n, m, c, b, g, (k1.frM hf2).q1 hq⟩
theorem K2.ct {xs : Nat → Int32} {q n m c b : Nat} {S : Shp} {R : MR} {X Y : MI} {LX LY : ML} (h : K2 xs q n m c b S R X Y LX LY) {j : Nat} (hj : j < m) {o : Nat} (ho : o < 12) : Y (50, 0) (23 + 12 * j + o) = X (12, j) o := by
  obtain ⟨lj, ke, -, -, -, -, -, w, -⟩ := h.wb j hj
  exact w.ct ho
theorem K2.bd {xs : Nat → Int32} {q n m c b : Nat} {S : Shp} {R : MR} {X Y : MI} {LX LY : ML} (h : K2 xs q n m c b S R X Y LX LY) {j : Nat} (hj : j < m) : bdN (X (12, j)) n := fun o ho => by
  obtain ⟨lj, ke, -, -, -, -, -, w, -⟩ := h.wb j hj
  have := h.hN
  obtain ⟨c, h1, h2, -⟩ := w.2.2.2.1 o (by omega)
  exact ⟨c, h1, h2⟩
theorem K2.wo {xs : Nat → Int32} {q n m c b : Nat} {S : Shp} {R : MR} {X Y : MI} {LX LY : ML} (h : K2 xs q n m c b S R X Y LX LY) {s : Nat} (hs : s < n) : Y (50, 0) s = X (2, 0) s := by
  obtain ⟨v, -, h1, h2⟩ := h.so s hs
  rw [h1, h2]
theorem K2.wb9 {xs : Nat → Int32} {q n m c b : Nat} {S : Shp} {R : MR} {X Y : MI} {LX LY : ML} (h : K2 xs q n m c b S R X Y LX LY) : bdN (X (2, 0)) n := fun o ho => by
  obtain ⟨v, h0, h1, -⟩ := h.so o ho
  exact ⟨v, by omega, h1⟩
theorem K2.l2 {xs : Nat → Int32} {q n m c b : Nat} {S : Shp} {R : MR} {X Y : MI} {LX LY : ML} (h : K2 xs q n m c b S R X Y LX LY) {j : Nat} (hj : j < m) : Y (69, 0) j = X (11, j) 2 := by
  obtain ⟨lj, ke, -, -, h1, h2, -⟩ := h.wb j hj
  rw [h1, h2]
theorem K2.sp {xs : Nat → Int32} {q n m c b : Nat} {S : Shp} {R : MR} {X Y : MI} {LX LY : ML} (h : K2 xs q n m c b S R X Y LX LY) {j : Nat} (hj : j < m) : Y (82, 0) j = X (11, j) 9 := by
  obtain ⟨lj, ke, -, -, -, -, -, -, h1, -⟩ := h.wb j hj
  exact h1.symm
theorem K2.ke {xs : Nat → Int32} {q n m c b : Nat} {S : Shp} {R : MR} {X Y : MI} {LX LY : ML} (h : K2 xs q n m c b S R X Y LX LY) {j : Nat} (hj : j < m) : ∃ ke, ke ≤ 200 * q ∧ ke < 2 ^ 29 ∧ X (11, j) 8 = nI ke ∧ Y (74, 0) j = nI ke ∧ WA j n ke X Y := by
  obtain ⟨lj, ke, -, -, -, -, h1, w, -⟩ := h.wb j hj
  have := h.hq
  exact ⟨ke, h1, by omega, w.2.2.1.1, w.2.2.1.2, w⟩
