/-! both sides at once: what holds between two calls -/
/-- the component's cells that hold nothing between two calls -/
def cS (t : Tok) (i : Nat) : Prop := t.1 = 9 ∨ t.1 = 13 ∨ t.1 = 14 ∨ t.1 = 15 ∨ t.1 = 17 ∨ t.1 = 29 ∨ t.1 = 30 ∨ t.1 = 31 ∨ t.1 = 32 ∨ t.1 = 33 ∨ t.1 = 34 ∨ t.1 = 35 ∨ ((t.1 = 11 ∨ t.1 = 12 ∨ t.1 = 16) ∧ 9 ≤ t.2) ∨ (t.1 = 3 ∧ ¬ i = 1) ∨ t.1 = 5 ∨ (t.1 = 23 ∧ i = 4)
/-- the model's -/
def mS (t : Tok) (i : Nat) : Prop := (t.1 = 40 ∧ ((12 ≤ i ∧ i ≤ 17) ∨ (27 ≤ i ∧ i ≤ 29) ∨ i = 39 ∨ i = 40)) ∨ t.1 = 67 ∨ t.1 = 76 ∨ t.1 = 80 ∨ t.1 = 81 ∨ t.1 = 83 ∨ t.1 = 84 ∨ (69 ≤ t.1 ∧ t.1 ≤ 74 ∧ 9 ≤ i) ∨ (t.1 = 75 ∧ 1800 ≤ i) ∨ (t.1 = 50 ∧ (i = 21 ∨ i = 22 ∨ 131 ≤ i))
def KG (Ls m c : Nat) (S : Shp) (R : MR) : Prop := (XG S R) ∧ (SG S R) ∧ (TG S R) ∧ (HG S R) ∧ (AG S R) ∧ (OG S R) ∧ (MG S R) ∧ (WG 9 S R) ∧ (WG 10 S R) ∧ (∀ d, d < 6 → DG d S R) ∧ (∀ k, k < m → WG k S R) ∧ (∀ k, k < m → R (10, 0) k = some (11, k)) ∧ (∀ k, k < c → R (6, 0) k = some (7, k)) ∧ (∀ k, m ≤ k → k < 9 → ∀ i, 11 ≤ i → i ≤ 17 → (S (i, k)).1 = 0) ∧ (∀ k, c ≤ k → k < 6 → (S (7, k)).1 = 0 ∧ (S (8, k)).1 = 0 ∧ (S (9, k)).1 = 0) ∧ (S (99, 0) = (7, Ls))
theorem KG.xg {Ls m c : Nat} {S : Shp} {R : MR} (h : KG Ls m c S R) : XG S R := h.1
theorem KG.sg {Ls m c : Nat} {S : Shp} {R : MR} (h : KG Ls m c S R) : SG S R := h.2.1
theorem KG.tg {Ls m c : Nat} {S : Shp} {R : MR} (h : KG Ls m c S R) : TG S R := h.2.2.1
theorem KG.hg {Ls m c : Nat} {S : Shp} {R : MR} (h : KG Ls m c S R) : HG S R := h.2.2.2.1
theorem KG.ag {Ls m c : Nat} {S : Shp} {R : MR} (h : KG Ls m c S R) : AG S R := h.2.2.2.2.1
theorem KG.og {Ls m c : Nat} {S : Shp} {R : MR} (h : KG Ls m c S R) : OG S R := h.2.2.2.2.2.1
theorem KG.mg {Ls m c : Nat} {S : Shp} {R : MR} (h : KG Ls m c S R) : MG S R := h.2.2.2.2.2.2.1
theorem KG.w9 {Ls m c : Nat} {S : Shp} {R : MR} (h : KG Ls m c S R) : WG 9 S R := h.2.2.2.2.2.2.2.1
theorem KG.w10 {Ls m c : Nat} {S : Shp} {R : MR} (h : KG Ls m c S R) : WG 10 S R := h.2.2.2.2.2.2.2.2.1
theorem KG.dg {Ls m c : Nat} {S : Shp} {R : MR} (h : KG Ls m c S R) : ∀ d, d < 6 → DG d S R := h.2.2.2.2.2.2.2.2.2.1
theorem KG.wg {Ls m c : Nat} {S : Shp} {R : MR} (h : KG Ls m c S R) : ∀ k, k < m → WG k S R := h.2.2.2.2.2.2.2.2.2.2.1
theorem KG.rw {Ls m c : Nat} {S : Shp} {R : MR} (h : KG Ls m c S R) : ∀ k, k < m → R (10, 0) k = some (11, k) := h.2.2.2.2.2.2.2.2.2.2.2.1
theorem KG.rl {Ls m c : Nat} {S : Shp} {R : MR} (h : KG Ls m c S R) : ∀ k, k < c → R (6, 0) k = some (7, k) := h.2.2.2.2.2.2.2.2.2.2.2.2.1
theorem KG.fw {Ls m c : Nat} {S : Shp} {R : MR} (h : KG Ls m c S R) : ∀ k, m ≤ k → k < 9 → ∀ i, 11 ≤ i → i ≤ 17 → (S (i, k)).1 = 0 := h.2.2.2.2.2.2.2.2.2.2.2.2.2.1
theorem KG.fl {Ls m c : Nat} {S : Shp} {R : MR} (h : KG Ls m c S R) : ∀ k, c ≤ k → k < 6 → (S (7, k)).1 = 0 ∧ (S (8, k)).1 = 0 ∧ (S (9, k)).1 = 0 := h.2.2.2.2.2.2.2.2.2.2.2.2.2.2.1
theorem KG.s99 {Ls m c : Nat} {S : Shp} {R : MR} (h : KG Ls m c S R) : S (99, 0) = (7, Ls) := h.2.2.2.2.2.2.2.2.2.2.2.2.2.2.2
theorem KG.mk {Ls m c : Nat} {S : Shp} {R : MR} (xg : XG S R) (sg : SG S R) (tg : TG S R) (hg : HG S R) (ag : AG S R) (og : OG S R) (mg : MG S R) (w9 : WG 9 S R) (w10 : WG 10 S R) (dg : ∀ d, d < 6 → DG d S R) (wg : ∀ k, k < m → WG k S R) (rw : ∀ k, k < m → R (10, 0) k = some (11, k)) (rl : ∀ k, k < c → R (6, 0) k = some (7, k)) (fw : ∀ k, m ≤ k → k < 9 → ∀ i, 11 ≤ i → i ≤ 17 → (S (i, k)).1 = 0) (fl : ∀ k, c ≤ k → k < 6 → (S (7, k)).1 = 0 ∧ (S (8, k)).1 = 0 ∧ (S (9, k)).1 = 0) (s99 : S (99, 0) = (7, Ls)) : KG Ls m c S R := ⟨xg, sg, tg, hg, ag, og, mg, w9, w10, dg, wg, rw, rl, fw, fl, s99⟩
def SO (n : Nat) (X Y : MI) : Prop := ∀ s, s < n → ∃ q, q ≤ 999 ∧ X (2, 0) s = nI q ∧ Y (50, 0) s = nI q
def TP (X Y : MI) : Prop := ∃ (len : Nat) (B : Nat → Nat), len ≤ 120 ∧ (∀ i, i < len → B i < 256) ∧ X (3, 0) 1 = nI len ∧ (∀ i, i < len → X (4, 0) i = nI (B i)) ∧ Y (40, 0) 8 = nI len ∧ ∀ i, i < len → Y (57, 0) i = nI (B i)
/-- where a CHANGE lies: the component's two numbers, the model's one, its limit -/
def CX (n m : Nat) (w s : Int32) (idx lim : Nat) : Prop := (w = -1 ∧ s = nI idx ∧ idx < n ∧ lim = 999) ∨ (∃ k, k < m ∧ w = nI k ∧ s = -1 ∧ idx = 12 + k ∧ lim = 9999) ∨ ∃ k o, k < m ∧ o < n ∧ w = nI k ∧ s = nI o ∧ idx = 23 + 12 * k + o ∧ lim = 99999
def CE (n m : Nat) (X Y : MI) (t : Nat) : Prop := ∃ idx lim a b, CX n m (X (19, 0) t) (X (20, 0) t) idx lim ∧ Y (51, 0) t = nI idx ∧ a ≤ lim ∧ b ≤ lim ∧ X (21, 0) t = nI a ∧ Y (52, 0) t = nI a ∧ X (22, 0) t = nI b ∧ Y (53, 0) t = nI b
def CH (n m : Nat) (X Y : MI) : Prop := ∃ d z, d ≤ z ∧ z ≤ 40 ∧ X (18, 0) 4 = nI d ∧ X (18, 0) 5 = nI z ∧ Y (40, 0) 5 = nI d ∧ Y (40, 0) 4 = nI z ∧ ∀ t, t < z → CE n m X Y t
def AC (b : Nat) (X Y : MI) : Prop := X (23, 0) 1 = nI b ∧ Y (40, 0) 35 = nI b ∧ (∀ j, j < b → ∃ kd, kd < 8 ∧ X (24, 0) j = nI kd ∧ Y (86, 0) j = nI kd) ∧ ∃ r, r < 2 ^ 30 ∧ X (23, 0) 3 = nI r ∧ Y (40, 0) 38 = nI r ∧ ∀ t, t < r → t < 24 → X (25, 0) t = Y (87, 0) t
def SH (d b : Nat) (X Y : MI) (LX LY : ML) : Prop := ∃ (h s z : Nat) (bd : Int32), h < 3 ∧ s ≤ 4 ∧ z ≤ 60 ∧ X (27, d) 0 = nI h ∧ X (27, d) 1 = bd ∧ X (27, d) 2 = nI s ∧ X (27, d) 3 = nI z ∧ ShM Y d h s z bd ∧ (h = 1 → inb bd b = true) ∧ (∀ t, t < 60 → LX (28, d) t = LY (93, 0) (60 * d + t)) ∧ (h = 2 → s = 0 → ∀ t, t < 60 → LX (28, d) t = (LX (28, d) t).toInt32.toInt64)
def LW (k : Nat) (S : Shp) (R : MR) (X Y : MI) : Prop := ∃ (B : Nat → Nat) (len : Nat), TL B len k Y ∧ LG k (lnT B len) S R ∧ LV X k (lnT B len) (cdT B len)
def WB (k q n c : Nat) (R : MR) (X Y : MI) : Prop := ∃ lj ke, lj < c ∧ R (11, k) 1 = some (7, lj) ∧ X (11, k) 2 = nI lj ∧ Y (69, 0) k = nI lj ∧ ke ≤ 200 * q ∧ WA k n ke X Y ∧ X (11, k) 9 = Y (82, 0) k ∧ X (11, k) 4 = Y (71, 0) k
def K2 (xs : Nat → Int32) (q n m c b : Nat) (S : Shp) (R : MR) (X Y : MI) (LX LY : ML) : Prop := (n ≤ 12) ∧ (m ≤ 9) ∧ (c ≤ 6) ∧ (b ≤ 50) ∧ (q ≤ 600) ∧ (X (1, 0) 1 = nI n) ∧ (X (0, 0) 5 = nI m) ∧ (X (0, 0) 3 = nI c) ∧ (Y (40, 0) 6 = nI n) ∧ (Y (40, 0) 18 = nI m) ∧ (Y (40, 0) 9 = nI c) ∧ (ST X) ∧ (AT X) ∧ (SO n X Y) ∧ (TP X Y) ∧ (CH n m X Y) ∧ (AC b X Y) ∧ (∀ d, d < 6 → SH d b X Y LX LY) ∧ (∀ k, k < c → LW k S R X Y) ∧ (∀ k, k < m → WB k q n c R X Y) ∧ (∀ k, m ≤ k → k < 9 → Y (82, 0) k = 0) ∧ (∀ i, Y (99, 0) i = xs i)
theorem K2.hN {xs : Nat → Int32} {q n m c b : Nat} {S : Shp} {R : MR} {X Y : MI} {LX LY : ML} (h : K2 xs q n m c b S R X Y LX LY) : n ≤ 12 := h.1
theorem K2.hM {xs : Nat → Int32} {q n m c b : Nat} {S : Shp} {R : MR} {X Y : MI} {LX LY : ML} (h : K2 xs q n m c b S R X Y LX LY) : m ≤ 9 := h.2.1
theorem K2.hC {xs : Nat → Int32} {q n m c b : Nat} {S : Shp} {R : MR} {X Y : MI} {LX LY : ML} (h : K2 xs q n m c b S R X Y LX LY) : c ≤ 6 := h.2.2.1
theorem K2.hB {xs : Nat → Int32} {q n m c b : Nat} {S : Shp} {R : MR} {X Y : MI} {LX LY : ML} (h : K2 xs q n m c b S R X Y LX LY) : b ≤ 50 := h.2.2.2.1
theorem K2.hq {xs : Nat → Int32} {q n m c b : Nat} {S : Shp} {R : MR} {X Y : MI} {LX LY : ML} (h : K2 xs q n m c b S R X Y LX LY) : q ≤ 600 := h.2.2.2.2.1
theorem K2.xn {xs : Nat → Int32} {q n m c b : Nat} {S : Shp} {R : MR} {X Y : MI} {LX LY : ML} (h : K2 xs q n m c b S R X Y LX LY) : X (1, 0) 1 = nI n := h.2.2.2.2.2.1
theorem K2.xm {xs : Nat → Int32} {q n m c b : Nat} {S : Shp} {R : MR} {X Y : MI} {LX LY : ML} (h : K2 xs q n m c b S R X Y LX LY) : X (0, 0) 5 = nI m := h.2.2.2.2.2.2.1
theorem K2.xc {xs : Nat → Int32} {q n m c b : Nat} {S : Shp} {R : MR} {X Y : MI} {LX LY : ML} (h : K2 xs q n m c b S R X Y LX LY) : X (0, 0) 3 = nI c := h.2.2.2.2.2.2.2.1
theorem K2.yn {xs : Nat → Int32} {q n m c b : Nat} {S : Shp} {R : MR} {X Y : MI} {LX LY : ML} (h : K2 xs q n m c b S R X Y LX LY) : Y (40, 0) 6 = nI n := h.2.2.2.2.2.2.2.2.1
theorem K2.ym {xs : Nat → Int32} {q n m c b : Nat} {S : Shp} {R : MR} {X Y : MI} {LX LY : ML} (h : K2 xs q n m c b S R X Y LX LY) : Y (40, 0) 18 = nI m := h.2.2.2.2.2.2.2.2.2.1
theorem K2.yc {xs : Nat → Int32} {q n m c b : Nat} {S : Shp} {R : MR} {X Y : MI} {LX LY : ML} (h : K2 xs q n m c b S R X Y LX LY) : Y (40, 0) 9 = nI c := h.2.2.2.2.2.2.2.2.2.2.1
theorem K2.st {xs : Nat → Int32} {q n m c b : Nat} {S : Shp} {R : MR} {X Y : MI} {LX LY : ML} (h : K2 xs q n m c b S R X Y LX LY) : ST X := h.2.2.2.2.2.2.2.2.2.2.2.1
theorem K2.at_ {xs : Nat → Int32} {q n m c b : Nat} {S : Shp} {R : MR} {X Y : MI} {LX LY : ML} (h : K2 xs q n m c b S R X Y LX LY) : AT X := h.2.2.2.2.2.2.2.2.2.2.2.2.1
theorem K2.so {xs : Nat → Int32} {q n m c b : Nat} {S : Shp} {R : MR} {X Y : MI} {LX LY : ML} (h : K2 xs q n m c b S R X Y LX LY) : SO n X Y := h.2.2.2.2.2.2.2.2.2.2.2.2.2.1
theorem K2.tp {xs : Nat → Int32} {q n m c b : Nat} {S : Shp} {R : MR} {X Y : MI} {LX LY : ML} (h : K2 xs q n m c b S R X Y LX LY) : TP X Y := h.2.2.2.2.2.2.2.2.2.2.2.2.2.2.1
theorem K2.ch {xs : Nat → Int32} {q n m c b : Nat} {S : Shp} {R : MR} {X Y : MI} {LX LY : ML} (h : K2 xs q n m c b S R X Y LX LY) : CH n m X Y := h.2.2.2.2.2.2.2.2.2.2.2.2.2.2.2.1
theorem K2.ac {xs : Nat → Int32} {q n m c b : Nat} {S : Shp} {R : MR} {X Y : MI} {LX LY : ML} (h : K2 xs q n m c b S R X Y LX LY) : AC b X Y := h.2.2.2.2.2.2.2.2.2.2.2.2.2.2.2.2.1
theorem K2.sh {xs : Nat → Int32} {q n m c b : Nat} {S : Shp} {R : MR} {X Y : MI} {LX LY : ML} (h : K2 xs q n m c b S R X Y LX LY) : ∀ d, d < 6 → SH d b X Y LX LY := h.2.2.2.2.2.2.2.2.2.2.2.2.2.2.2.2.2.1
theorem K2.lw {xs : Nat → Int32} {q n m c b : Nat} {S : Shp} {R : MR} {X Y : MI} {LX LY : ML} (h : K2 xs q n m c b S R X Y LX LY) : ∀ k, k < c → LW k S R X Y := h.2.2.2.2.2.2.2.2.2.2.2.2.2.2.2.2.2.2.1
theorem K2.wb {xs : Nat → Int32} {q n m c b : Nat} {S : Shp} {R : MR} {X Y : MI} {LX LY : ML} (h : K2 xs q n m c b S R X Y LX LY) : ∀ k, k < m → WB k q n c R X Y := h.2.2.2.2.2.2.2.2.2.2.2.2.2.2.2.2.2.2.2.1
theorem K2.fs {xs : Nat → Int32} {q n m c b : Nat} {S : Shp} {R : MR} {X Y : MI} {LX LY : ML} (h : K2 xs q n m c b S R X Y LX LY) : ∀ k, m ≤ k → k < 9 → Y (82, 0) k = 0 := h.2.2.2.2.2.2.2.2.2.2.2.2.2.2.2.2.2.2.2.2.1
theorem K2.sc {xs : Nat → Int32} {q n m c b : Nat} {S : Shp} {R : MR} {X Y : MI} {LX LY : ML} (h : K2 xs q n m c b S R X Y LX LY) : ∀ i, Y (99, 0) i = xs i := h.2.2.2.2.2.2.2.2.2.2.2.2.2.2.2.2.2.2.2.2.2
theorem K2.mk {xs : Nat → Int32} {q n m c b : Nat} {S : Shp} {R : MR} {X Y : MI} {LX LY : ML} (hN : n ≤ 12) (hM : m ≤ 9) (hC : c ≤ 6) (hB : b ≤ 50) (hq : q ≤ 600) (xn : X (1, 0) 1 = nI n) (xm : X (0, 0) 5 = nI m) (xc : X (0, 0) 3 = nI c) (yn : Y (40, 0) 6 = nI n) (ym : Y (40, 0) 18 = nI m) (yc : Y (40, 0) 9 = nI c) (st : ST X) (at_ : AT X) (so : SO n X Y) (tp : TP X Y) (ch : CH n m X Y) (ac : AC b X Y) (sh : ∀ d, d < 6 → SH d b X Y LX LY) (lw : ∀ k, k < c → LW k S R X Y) (wb : ∀ k, k < m → WB k q n c R X Y) (fs : ∀ k, m ≤ k → k < 9 → Y (82, 0) k = 0) (sc : ∀ i, Y (99, 0) i = xs i) : K2 xs q n m c b S R X Y LX LY := ⟨hN, hM, hC, hB, hq, xn, xm, xc, yn, ym, yc, st, at_, so, tp, ch, ac, sh, lw, wb, fs, sc⟩
def eX (X X' : MI) : Prop := ∀ t i, t.1 < 40 → ¬ cS t i → X' t i = X t i
def eY (Y Y' : MI) : Prop := ∀ t i, 40 ≤ t.1 → ¬ mS t i → Y' t i = Y t i
theorem SO.to {n : Nat} {X Y X' Y' : MI} (hN : n ≤ 12) (h : SO n X Y) (hX : ∀ i, i < 12 → X' (2, 0) i = X (2, 0) i) (hY : ∀ i, i < 12 → Y' (50, 0) i = Y (50, 0) i) : SO n X' Y' := fun s hs => by
  rw [hX s (by omega), hY s (by omega)]; exact h s hs
theorem TP.to {X Y X' Y' : MI} (h : TP X Y) (h3 : X' (3, 0) 1 = X (3, 0) 1) (h4 : ∀ i, X' (4, 0) i = X (4, 0) i) (h8 : Y' (40, 0) 8 = Y (40, 0) 8) (h57 : ∀ i, Y' (57, 0) i = Y (57, 0) i) : TP X' Y' := by
  obtain ⟨len, B, a, b, c, d, e, f⟩ := h
  exact ⟨len, B, a, b, h3.trans c, fun i hi => (h4 i).trans (d i hi), h8.trans e, fun i hi => (h57 i).trans (f i hi)⟩
theorem CH.to {n m : Nat} {X Y X' Y' : MI} (h : CH n m X Y) (hX : ∀ t i, 18 ≤ t → t ≤ 22 → X' (t, 0) i = X (t, 0) i) (h4 : Y' (40, 0) 4 = Y (40, 0) 4) (h5 : Y' (40, 0) 5 = Y (40, 0) 5) (hY : ∀ t i, 51 ≤ t → t ≤ 53 → Y' (t, 0) i = Y (t, 0) i) : CH n m X' Y' := by
  obtain ⟨d, z, a1, a2, a3, a4, a5, a6, h⟩ := h
  refine ⟨d, z, a1, a2, (hX _ _ (by omega) (by omega)).trans a3, (hX _ _ (by omega) (by omega)).trans a4, h5.trans a5, h4.trans a6, fun t ht => ?_⟩
  obtain ⟨idx, lim, a, b, c⟩ := h t ht
  refine ⟨idx, lim, a, b, ?_⟩
  rw [hX 19 t (by omega) (by omega), hX 20 t (by omega) (by omega), hX 21 t (by omega) (by omega), hX 22 t (by omega) (by omega), hY 51 t (by omega) (by omega), hY 52 t (by omega) (by omega), hY 53 t (by omega) (by omega)]
  exact c
theorem AC.to {b : Nat} {X Y X' Y' : MI} (h : AC b X Y) (h1 : X' (23, 0) 1 = X (23, 0) 1) (h3 : X' (23, 0) 3 = X (23, 0) 3) (h24 : ∀ i, X' (24, 0) i = X (24, 0) i) (h25 : ∀ i, X' (25, 0) i = X (25, 0) i) (y35 : Y' (40, 0) 35 = Y (40, 0) 35) (y38 : Y' (40, 0) 38 = Y (40, 0) 38) (y86 : ∀ i, Y' (86, 0) i = Y (86, 0) i) (y87 : ∀ i, Y' (87, 0) i = Y (87, 0) i) : AC b X' Y' := by
  obtain ⟨a1, a2, a3, r, a4, a5, a6, a7⟩ := h
  refine ⟨h1.trans a1, y35.trans a2, fun j hj => ?_, r, a4, h3.trans a5, y38.trans a6, fun t h h2 => ?_⟩
  · rw [h24, y86]; exact a3 j hj
  · rw [h25, y87]; exact a7 t h h2
theorem SH.to {d b b' : Nat} {X Y X' Y' : MI} {LX LY LX' LY' : ML} (hb : b ≤ b') (hb5 : b' ≤ 50) (h : SH d b X Y LX LY) (hX : ∀ i, X' (27, d) i = X (27, d) i) (h91 : Y' (91, 0) d = Y (91, 0) d) (h92 : Y' (92, 0) d = Y (92, 0) d) (hL : ∀ i, LX' (28, d) i = LX (28, d) i) (hM : ∀ i, i < 60 → LY' (93, 0) (60 * d + i) = LY (93, 0) (60 * d + i)) : SH d b' X' Y' LX' LY' := by
  obtain ⟨g, s, z, bd, a1, a2, a3, a4, a5, a6, a7, a8, a9, a10, a11⟩ := h
  refine ⟨g, s, z, bd, a1, a2, a3, (hX _).trans a4, (hX _).trans a5, (hX _).trans a6, (hX _).trans a7, ?_, fun q => ?_, fun t ht => ?_, fun q1 q2 t ht => ?_⟩
  · unfold ShM at a8 ⊢
    rw [h91, h92]; exact a8
  · obtain ⟨j, hj, rfl⟩ := inb_of (by omega) (a9 q)
    rw [inb_nI (by omega) (by omega), decide_eq_true_eq]; omega
  · rw [hL, hM t ht]; exact a10 t ht
  · rw [hL]; exact a11 q1 q2 t ht
theorem LW.to {k : Nat} {S S' : Shp} {R R' : MR} {X Y X' Y' : MI} (h : LW k S R X Y) (hg : ∀ n, LG k n S R → LG k n S' R') (hX : ∀ i, X' (8, k) i = X (8, k) i) (h60 : ∀ i, 120 * k ≤ i → i < 120 * k + 120 → Y' (60, 0) i = Y (60, 0) i) (h61 : Y' (61, 0) k = Y (61, 0) k) : LW k S' R' X' Y' := by
  obtain ⟨B, len, h1, h2, h3⟩ := h
  refine ⟨B, len, ?_, hg _ h2, h3.to hX⟩
  obtain ⟨a1, a2, a3, a4, a5, a6⟩ := h1
  exact ⟨a1, a2, a3, h61.trans a4, fun i hi => (h60 _ (by omega) (by omega)).trans (a5 i hi), a6⟩
theorem WB.to {k q q' n n' c c' : Nat} {R R' : MR} {X Y X' Y' : MI} (hq : q ≤ q') (hn : n ≤ n') (hc : c ≤ c') (h : WB k q n c R X Y) (hR : R' (11, k) 1 = R (11, k) 1) (h11 : ∀ i, X' (11, k) i = X (11, k) i) (h12 : ∀ i, X' (12, k) i = X (12, k) i) (h16 : ∀ i, X' (16, k) i = X (16, k) i) (hY : ∀ t i, (69 ≤ t ∧ t ≤ 74 ∧ i = k) ∨ (t = 82 ∧ i = k) ∨ (t = 50 ∧ (i = 12 + k ∨ 23 + 12 * k ≤ i ∧ i < 23 + 12 * k + 12)) ∨ (t = 75 ∧ 200 * k ≤ i ∧ i < 200 * k + 200) → Y' (t, 0) i = Y (t, 0) i) : WB k q' n' c' R' X' Y' := by
  obtain ⟨lj, ke, a1, a2, a3, a4, a5, a6, a7⟩ := h
  refine ⟨lj, ke, by omega, hR.trans a2, (h11 2).trans a3, (hY 69 k (by omega)).trans a4, by omega, (a6.mono hn).to (fun i _ _ => h11 i) h12 h16 (fun t i q => hY t i (by omega)), ?_⟩
  rw [h11, h11, hY 82 k (by omega), hY 71 k (by omega)]; exact a7
theorem K2.to {xs : Nat → Int32} {q n m c b : Nat} {S : Shp} {R : MR} {X Y X' Y' : MI} {LX LY LX' LY' : ML} (h : K2 xs q n m c b S R X Y LX LY) (hX : eX X X') (hY : eY Y Y') (hL : ∀ d i, LX' (28, d) i = LX (28, d) i) (hM : ∀ i, LY' (93, 0) i = LY (93, 0) i) : K2 xs q n m c b S R X' Y' LX' LY' := by
  have hN := h.hN
  have hM9 := h.hM
  have hC := h.hC
  exact K2.mk (hN := h.hN)
    (hM := h.hM)
    (hC := h.hC)
    (hB := h.hB)
    (hq := h.hq)
    (xn := (hX _ _ (by simp) (by simp [cS])).trans h.xn)
    (xm := (hX _ _ (by simp) (by simp [cS])).trans h.xm)
    (xc := (hX _ _ (by simp) (by simp [cS])).trans h.xc)
    (yn := (hY _ _ (by simp) (by simp [mS])).trans h.yn)
    (ym := (hY _ _ (by simp) (by simp [mS])).trans h.ym)
    (yc := (hY _ _ (by simp) (by simp [mS])).trans h.yc)
    (st := by
    have e : ∀ i, X' (36, 0) i = X (36, 0) i := fun i => hX _ _ (by simp) (by simp [cS])
    unfold ST
    rw [e, e, e, e]; exact h.st)
    (at_ := ⟨fun a ha => (hX _ _ (by simp) (by simp [cS])).trans (h.at_.1 a ha), fun i hi => (hX _ _ (by simp) (by simp [cS])).trans (h.at_.2 i hi)⟩)
    (so := h.so.to hN (fun i _ => hX _ _ (by simp) (by simp [cS])) (fun i hi => hY _ _ (by simp) (by simp [mS]; omega)))
    (tp := h.tp.to (hX _ _ (by simp) (by simp [cS])) (fun i => hX _ _ (by simp) (by simp [cS])) (hY _ _ (by simp) (by simp [mS])) (fun i => hY _ _ (by simp) (by simp [mS])))
    (ch := h.ch.to (fun t i h1 h2 => hX _ _ (by show t < 40; omega) (by simp [cS]; omega)) (hY _ _ (by simp) (by simp [mS])) (hY _ _ (by simp) (by simp [mS])) (fun t i h1 h2 => hY _ _ (by show 40 ≤ t; omega) (by simp [mS]; omega)))
    (ac := h.ac.to (hX _ _ (by simp) (by simp [cS])) (hX _ _ (by simp) (by simp [cS])) (fun i => hX _ _ (by simp) (by simp [cS])) (fun i => hX _ _ (by simp) (by simp [cS])) (hY _ _ (by simp) (by simp [mS])) (hY _ _ (by simp) (by simp [mS])) (fun i => hY _ _ (by simp) (by simp [mS])) (fun i => hY _ _ (by simp) (by simp [mS])))
    (sh := fun d hd => (h.sh d hd).to (Nat.le_refl _) h.hB (fun i => hX _ _ (by simp) (by simp [cS])) (hY _ _ (by simp) (by simp [mS])) (hY _ _ (by simp) (by simp [mS])) (hL d) (fun i _ => hM _))
    (lw := fun k hk => (h.lw k hk).to (fun _ z => z) (fun i => hX _ _ (by simp) (by simp [cS])) (fun i _ _ => hY _ _ (by simp) (by simp [mS])) (hY _ _ (by simp) (by simp [mS])))
    (wb := fun k hk => (h.wb k hk).to (Nat.le_refl _) (Nat.le_refl _) (Nat.le_refl _) rfl (fun i => hX _ _ (by simp) (by simp [cS]; omega)) (fun i => hX _ _ (by simp) (by simp [cS]; omega)) (fun i => hX _ _ (by simp) (by simp [cS]; omega)) (fun t i q => hY _ _ (by show 40 ≤ t; omega) (by simp [mS]; omega)))
    (fs := fun k h1 h2 => (hY _ _ (by simp) (by simp [mS])).trans (h.fs k h1 h2))
    (sc := fun i => (hY _ _ (by simp) (by simp [mS])).trans (h.sc i))
