/-! Tape: the levels of a TEXT -/
def lpR (B : Nat → Nat) (len : Nat) (op : Nat → Option Nat) (sub : PS → PS) : Nat → PS → PS
  | 0, s => s
  | f + 1, s => if s.1 < len then (match op (B s.1) with | some m => lpR B len op sub f (psMk m 0 (sub (psAdv s))) | none => s) else s
def opP (c : Nat) : Option Nat := if c = 42 then some 13 else if c = 47 then some 14 else if c = 37 then some 15 else none
def opS (c : Nat) : Option Nat := if c = 43 then some 11 else if c = 45 then some 12 else none
def opA (c : Nat) : Option Nat := if c = 38 then some 7 else none
def opO (c : Nat) : Option Nat := if c = 124 then some 6 else none
def opC (c : Nat) : Option Nat := if c = 60 then some 8 else if c = 61 then some 9 else if c = 62 then some 10 else none
theorem op_lt {c m : Nat} : (opP c = some m ∨ opS c = some m ∨ opA c = some m ∨ opO c = some m ∨ opC c = some m) → 6 ≤ m ∧ m < 16 := by
  unfold opP opS opA opO opC
  intro h
  rcases h with h | h | h | h | h <;> (repeat' split at h) <;> first | (cases h; omega) | cases h
def cProd (B : Nat → Nat) (len : Nat) (one : PS → PS) (s : PS) : PS := lpR B len opP one 121 (one s)
def cSum (B : Nat → Nat) (len : Nat) (one : PS → PS) (s : PS) : PS := lpR B len opS (cProd B len one) 121 (cProd B len one s)
def cCmp (B : Nat → Nat) (len : Nat) (one : PS → PS) (s : PS) : PS :=
  let t := cSum B len one s
  match nxt B len t.1 with
  | none => t
  | some c => match opC c with
    | some m => psMk m 0 (cSum B len one (psAdv t))
    | none => t
def cAll (B : Nat → Nat) (len : Nat) (one : PS → PS) (s : PS) : PS := lpR B len opA (cCmp B len one) 121 (cCmp B len one s)
def cAny (B : Nat → Nat) (len : Nat) (one : PS → PS) (s : PS) : PS := lpR B len opO (cAll B len one) 121 (cAll B len one s)
def digs (B : Nat → Nat) (len : Nat) : Nat → Nat → Nat → Nat × Nat
  | 0, v, a => (v, a)
  | f + 1, v, a => if a < len ∧ 48 ≤ B a ∧ B a ≤ 57 then digs B len f (v * 10 + B a - 48) (a + 1) else (v, a)
def cNum (B : Nat → Nat) (len : Nat) (s : PS) : PS := psMk 0 (digs B len 4 0 s.1).1 ((digs B len 4 0 s.1).2, s.2)
def cOpen (B : Nat → Nat) (len : Nat) (one : PS → PS) (c : Nat) (s : PS) : PS :=
  if c = 40 then (if nxt B len (cAny B len one s).1 = some 41 then psAdv (cAny B len one s) else psFail len (cAny B len one s)) else psMk (if c = 33 then 2 else 3) 0 (one s)
def cStep (B : Nat → Nat) (len : Nat) (opn : Nat → PS → PS) (s : PS) : PS :=
  match nxt B len s.1 with
  | none => psFail len s
  | some c => if 48 ≤ c ∧ c ≤ 57 then cNum B len s else match nameC c with
    | some q => psMk 1 q (psAdv s)
    | none => if c = 40 ∨ c = 33 ∨ c = 45 then opn c s else psFail len s
def cOne (B : Nat → Nat) (len : Nat) : Nat → PS → PS
  | 0 => cStep B len (fun _ s => psFail len s)
  | d + 1 => cStep B len (fun c s => cOpen B len (cOne B len d) c (psAdv s))
/-- goes on, keeps within, and writes no more than it reads -/
def Nice (len : Nat) (f : PS → PS) : Prop := ∀ s : PS, s.1 ≤ len → s.1 ≤ (f s).1 ∧ (f s).1 ≤ len ∧ ((f s).2.1 = none → s.2.1 = none ∧ (f s).2.2.length + s.1 ≤ s.2.2.length + (f s).1)
theorem Nice.loop {B : Nat → Nat} {len : Nat} {op : Nat → Option Nat} {sub : PS → PS} (h : Nice len sub) : ∀ f, Nice len (lpR B len op sub f)
  | 0 => fun s hs => ⟨Nat.le_refl _, hs, fun hf => ⟨hf, Nat.le_refl _⟩⟩
  | f + 1 => fun s hs => by
    unfold lpR
    by_cases hl : s.1 < len
    · rw [if_pos hl]
      cases hop : op (B s.1) with
      | none => exact ⟨Nat.le_refl _, hs, fun hf => ⟨hf, Nat.le_refl _⟩⟩
      | some m =>
        obtain ⟨a1, a2, a3⟩ := h (psAdv s) hl
        obtain ⟨b1, b2, b3⟩ := Nice.loop (B := B) (op := op) h f (psMk m 0 (sub (psAdv s))) a2
        simp only [psAdv] at a1
        have e1 : (psMk m 0 (sub (psAdv s))).1 = (sub (psAdv s)).1 := rfl
        rw [e1] at b1
        refine ⟨Nat.le_trans (Nat.le_succ _) (Nat.le_trans a1 b1), b2, fun hf => ?_⟩
        obtain ⟨c1, c2⟩ := b3 hf
        obtain ⟨d1, d2⟩ := a3 c1
        refine ⟨d1, ?_⟩
        simp only [psMk, psAdv, List.length_append, List.length_cons, List.length_nil] at c2 d2 ⊢
        omega
    · rw [if_neg hl]
      exact ⟨Nat.le_refl _, hs, fun hf => ⟨hf, Nat.le_refl _⟩⟩
theorem Nice.comp {len : Nat} {f g : PS → PS} (hf : Nice len f) (hg : Nice len g) : Nice len (fun s => g (f s)) := fun s hs => by
  obtain ⟨a1, a2, a3⟩ := hf s hs
  obtain ⟨b1, b2, b3⟩ := hg (f s) a2
  refine ⟨Nat.le_trans a1 b1, b2, fun h => ?_⟩
  obtain ⟨c1, c2⟩ := b3 h
  obtain ⟨d1, d2⟩ := a3 c1
  exact ⟨d1, by show (g (f s)).2.2.length + s.1 ≤ s.2.2.length + (g (f s)).1; omega⟩
theorem Nice.prod {B : Nat → Nat} {len : Nat} {one : PS → PS} (h : Nice len one) : Nice len (cProd B len one) := h.comp (h.loop 121)
theorem Nice.sum {B : Nat → Nat} {len : Nat} {one : PS → PS} (h : Nice len one) : Nice len (cSum B len one) := h.prod.comp (h.prod.loop 121)
theorem Nice.id {len : Nat} {s : PS} (hs : s.1 ≤ len) : s.1 ≤ s.1 ∧ s.1 ≤ len ∧ (s.2.1 = none → s.2.1 = none ∧ s.2.2.length + s.1 ≤ s.2.2.length + s.1) := ⟨Nat.le_refl _, hs, fun hf => ⟨hf, Nat.le_refl _⟩⟩
theorem Nice.cmp {B : Nat → Nat} {len : Nat} {one : PS → PS} (h : Nice len one) : Nice len (cCmp B len one) := fun s hs => by
  obtain ⟨a1, a2, a3⟩ := h.sum (B := B) s hs
  unfold cCmp
  simp only
  generalize cSum B len one s = t at *
  unfold nxt
  by_cases hl : t.1 < len
  · rw [if_pos hl]
    simp only
    cases hop : opC (B t.1) with
    | none => exact ⟨a1, a2, a3⟩
    | some m =>
      obtain ⟨b1, b2, b3⟩ := h.sum (B := B) (psAdv t) hl
      simp only [psAdv] at b1
      refine ⟨by show s.1 ≤ (cSum B len one (psAdv t)).1; exact Nat.le_trans a1 (Nat.le_trans (Nat.le_succ _) b1), b2, fun hf => ?_⟩
      obtain ⟨c1, c2⟩ := b3 hf
      obtain ⟨d1, d2⟩ := a3 c1
      refine ⟨d1, ?_⟩
      simp only [psMk, psAdv, List.length_append, List.length_cons, List.length_nil] at c2 d2 ⊢
      omega
  · rw [if_neg hl]
    exact ⟨a1, a2, a3⟩
theorem Nice.all {B : Nat → Nat} {len : Nat} {one : PS → PS} (h : Nice len one) : Nice len (cAll B len one) := h.cmp.comp (h.cmp.loop 121)
theorem Nice.any {B : Nat → Nat} {len : Nat} {one : PS → PS} (h : Nice len one) : Nice len (cAny B len one) := h.all.comp (h.all.loop 121)
theorem Nice.fail {len : Nat} {s : PS} (hs : s.1 ≤ len) : s.1 ≤ (psFail len s).1 ∧ (psFail len s).1 ≤ len ∧ ((psFail len s).2.1 = none → s.2.1 = none ∧ (psFail len s).2.2.length + s.1 ≤ s.2.2.length + (psFail len s).1) := by
  refine ⟨hs, Nat.le_refl _, fun hf => ?_⟩
  unfold psFail at hf
  simp only at hf
  split at hf <;> cases hf
theorem digs_le (B : Nat → Nat) (len : Nat) : ∀ f v a, a ≤ len → a ≤ (digs B len f v a).2 ∧ (digs B len f v a).2 ≤ len
  | 0, v, a, h => ⟨Nat.le_refl _, h⟩
  | f + 1, v, a, h => by
    unfold digs
    split
    · have := digs_le B len f (v * 10 + B a - 48) (a + 1) (by omega)
      omega
    · exact ⟨Nat.le_refl _, h⟩
theorem Nice.opn {B : Nat → Nat} {len : Nat} {one : PS → PS} (h : Nice len one) (c : Nat) : ∀ s : PS, s.1 < len → s.1 < (cOpen B len one c (psAdv s)).1 ∧ (cOpen B len one c (psAdv s)).1 ≤ len ∧ ((cOpen B len one c (psAdv s)).2.1 = none → s.2.1 = none ∧ (cOpen B len one c (psAdv s)).2.2.length + s.1 ≤ s.2.2.length + (cOpen B len one c (psAdv s)).1) := fun s hs => by
  unfold cOpen
  by_cases hc : c = 40
  · rw [if_pos hc]
    obtain ⟨a1, a2, a3⟩ := h.any (B := B) (psAdv s) hs
    generalize cAny B len one (psAdv s) = t at *
    simp only [psAdv] at a1
    by_cases hn : nxt B len t.1 = some 41
    · rw [if_pos hn]
      have hl : t.1 < len := by
        unfold nxt at hn
        by_cases hl : t.1 < len
        · exact hl
        · rw [if_neg hl] at hn; cases hn
      refine ⟨by simp only [psAdv]; omega, hl, fun hf => ?_⟩
      obtain ⟨d1, d2⟩ := a3 hf
      refine ⟨d1, ?_⟩
      simp only [psAdv] at d2 ⊢
      omega
    · rw [if_neg hn]
      obtain ⟨b1, b2, b3⟩ := Nice.fail a2
      refine ⟨by omega, b2, fun hf => ?_⟩
      obtain ⟨c1, c2⟩ := b3 hf
      obtain ⟨d1, d2⟩ := a3 c1
      refine ⟨d1, ?_⟩
      simp only [psAdv] at d2
      omega
  · rw [if_neg hc]
    obtain ⟨a1, a2, a3⟩ := h (psAdv s) hs
    simp only [psAdv] at a1
    refine ⟨a1, a2, fun hf => ?_⟩
    obtain ⟨d1, d2⟩ := a3 hf
    refine ⟨d1, ?_⟩
    simp only [psMk, psAdv, List.length_append, List.length_cons, List.length_nil] at d2 ⊢
    omega
theorem Nice.step {B : Nat → Nat} {len : Nat} {opn : Nat → PS → PS} (h : ∀ c s, s.1 < len → s.1 ≤ (opn c s).1 ∧ (opn c s).1 ≤ len ∧ ((opn c s).2.1 = none → s.2.1 = none ∧ (opn c s).2.2.length + s.1 ≤ s.2.2.length + (opn c s).1)) : Nice len (cStep B len opn) := fun s hs => by
  unfold cStep nxt
  by_cases hl : s.1 < len
  · rw [if_pos hl]
    simp only
    by_cases hd : 48 ≤ B s.1 ∧ B s.1 ≤ 57
    · rw [if_pos hd]
      have h1 : digs B len 4 0 s.1 = digs B len 3 (0 * 10 + B s.1 - 48) (s.1 + 1) := by rw [digs, if_pos ⟨hl, hd⟩]
      have h2 := digs_le B len 3 (0 * 10 + B s.1 - 48) (s.1 + 1) hl
      rw [← h1] at h2
      refine ⟨by simp only [cNum, psMk]; omega, h2.2, fun hf => ⟨hf, ?_⟩⟩
      simp only [cNum, psMk, List.length_append, List.length_cons, List.length_nil]
      omega
    · rw [if_neg hd]
      cases nameC (B s.1) with
      | some q =>
        refine ⟨by simp only [psMk, psAdv]; omega, hl, fun hf => ⟨hf, ?_⟩⟩
        simp only [psMk, psAdv, List.length_append, List.length_cons, List.length_nil]
        omega
      | none =>
        simp only
        by_cases hc : B s.1 = 40 ∨ B s.1 = 33 ∨ B s.1 = 45
        · rw [if_pos hc]; exact h _ s hl
        · rw [if_neg hc]; exact Nice.fail hs
  · rw [if_neg hl]; exact Nice.fail hs
theorem Nice.one (B : Nat → Nat) (len : Nat) : ∀ d, Nice len (cOne B len d)
  | 0 => Nice.step (fun _ s hs => Nice.fail (Nat.le_of_lt hs))
  | d + 1 => Nice.step (fun c s hs => by
    have := (Nice.one B len d).opn (B := B) c s hs
    exact ⟨Nat.le_of_lt this.1, this.2⟩)
theorem Nice.keep {len : Nat} {f : PS → PS} (h : Nice len f) {s : PS} (hs : s.1 ≤ len) (g : gd s) : gd (f s) := fun hf => by
  obtain ⟨a1, a2, a3⟩ := h s hs
  obtain ⟨b1, b2⟩ := a3 hf
  have := g b1
  omega
/-- behind the byte of a sign: there is room for its mark -/
theorem Nice.room {len : Nat} {f : PS → PS} (h : Nice len f) (hl : len ≤ 120) {s : PS} (hs : s.1 < len) (g : gd s) (m : Nat) : ((f (psAdv s)).2.1 = none → (f (psAdv s)).2.2.length < 121) ∧ gd (psMk m 0 (f (psAdv s))) := by
  obtain ⟨a1, a2, a3⟩ := h (psAdv s) hs
  refine ⟨fun hf => ?_, fun hf => ?_⟩
  · obtain ⟨b1, b2⟩ := a3 hf
    have := g b1
    have e1 : (psAdv s).1 = s.1 + 1 := rfl
    have e2 : (psAdv s).2.2 = s.2.2 := rfl
    rw [e1, e2] at b2
    omega
  · obtain ⟨b1, b2⟩ := a3 hf
    have := g b1
    have e1 : (psAdv s).1 = s.1 + 1 := rfl
    have e2 : (psAdv s).2.2 = s.2.2 := rfl
    rw [e1, e2] at b2
    show ((f (psAdv s)).2.2 ++ [(m, 0)]).length ≤ (f (psAdv s)).1
    rw [List.length_append]
    simp only [List.length_cons, List.length_nil]
    omega
/-- a method reads as the function f does -/
def Rz (l : Launch) (S : Shp) (L : ML) (R : MR) (B : Nat → Nat) (len : Nat) (mi : MInf) (dp o : Nat) (f : PS → PS) : Prop := ∀ (I : MI) (s : PS), TR B len I s → gd s → Ct l mi dp 0 0 [.inr (.inr (some (3, 0))), .inl (nI o)] S I L R (PVm S L R (fun J => TR B len J (f s) ∧ Fr tpP I J))
theorem lpR_out {B : Nat → Nat} {len : Nat} {op : Nat → Option Nat} {sub : PS → PS} {f : Nat} {s : PS} (h : ¬ s.1 < len ∨ op (B s.1) = none) : lpR B len op sub f s = s := by
  cases f with
  | zero => rfl
  | succ f =>
    unfold lpR
    by_cases hl : s.1 < len
    · rw [if_pos hl, h.resolve_left (fun q => q hl)]
    · rw [if_neg hl]
theorem lpR_in {B : Nat → Nat} {len : Nat} {op : Nat → Option Nat} {sub : PS → PS} {f m : Nat} {s : PS} (hl : s.1 < len) (h : op (B s.1) = some m) : lpR B len op sub (f + 1) s = lpR B len op sub f (psMk m 0 (sub (psAdv s))) := by
  rw [lpR, if_pos hl, h]
theorem rz_readProduct {l : Launch} {S : Shp} {L : ML} {R : MR} (tg : TG S R) {B : Nat → Nat} {len dp o : Nat} {one : PS → PS} (hn1 : Nice len one) (hsub : Rz l S L R B len mX6_readOne dp o (one)) (hdp : 3 ≤ dp) : Rz l S L R B len mX6_readProduct (dp + 1) o (cProd B len one) := by
  intro I s h hg
  have hn : Nice len (one) := hn1
  have hs0 := h.2.2.2.2.1.1
  refine Ct.of [some (.inr (.inr (some (3, 0)))), some (.inl (nI o)), none] (by decide) rfl (Nat.le_of_ble_eq_true rfl) ?_
  refine g_ald0 (pc' := 1) dX6_readProduct_0 rfl ?_
  refine g_ild1 (pc' := 2) dX6_readProduct_1 rfl ?_
  refine g_callV (pc' := 5) (hsub I s h hg) tg.s3 (by decide) wX6_readOne lX6_67 rfl rfl (Nat.le_of_ble_eq_true rfl) (rOk (by omega) (by decide)) ⟨Nat.le_of_ble_eq_true rfl, Nat.le_of_ble_eq_true rfl⟩ dX6_readProduct_2 rfl (kV (fun J1 hq1 => ?_))
  refine g_loopD (σ := PS × MI) (fun f q => TR B len q.2 q.1 ∧ Fr tpP I q.2 ∧ gd q.1 ∧ len - q.1.1 < f ∧ lpR B len opP (one) f q.1 = cProd B len one s) (fun f s => [some (.inr (.inr (some (3, 0)))), some (.inl (nI o)), none]) (fun f s => s.2) 121 (one s, J1) ⟨hq1.1, hq1.2, hn.keep hs0 hg, by have := hq1.1.1; omega, rfl⟩ ?_
  intro f s2 hQ ihD
  obtain ⟨⟨a, fl, out⟩, J⟩ := s2
  simp only at hQ
  obtain ⟨t1, t2, t3, t4, ⟨t5, t5b⟩, t6, t7, t8⟩ := id hQ.1
  simp only at t5 t6 t7
  cases f with
  | zero => exact absurd hQ.2.2.2.1 (by omega)
  | succ f =>
    have hmeas := hQ.2.2.2.1
    have hBa : B a < 256 ∨ len ≤ a := (Nat.lt_or_ge a len).imp (t2 a) id
    refine g_ald0 (pc' := 6) dX6_readProduct_5 rfl ?_
    refine g_getI (pc' := 9) tg.s3 (by decide) fX6_23 t6 dX6_readProduct_6 rfl ?_
    refine g_ald0 (pc' := 10) dX6_readProduct_9 rfl ?_
    refine g_getI (pc' := 13) tg.s3 (by decide) fX6_16 t3 dX6_readProduct_10 rfl ?_
    refine g_icmpgeN (pc' := 16) (by omega) (by omega) (tgt := 115) dX6_readProduct_13 (by decide) rfl (fun h13 => ?_) (fun h13 => ?_)
    · refine g_vret rfl dX6_readProduct_115 ?_
      have e := lpR_out (B := B) (len := len) (op := opP) (sub := one) (f := f + 1) (s := (a, fl, out)) (by first | exact Or.inl (show ¬ a < len by omega) | exact Or.inr (by unfold opP; simp [*]))
      exact eV ⟨by rw [← hQ.2.2.2.2, e]; exact hQ.1, hQ.2.1⟩
    · refine g_ald0 (pc' := 17) dX6_readProduct_16 rfl ?_
      refine g_getR (pc' := 20) tg.s3 (by decide) fX6_9 tg.r3_0 dX6_readProduct_17 rfl ?_
      refine g_ald0 (pc' := 21) dX6_readProduct_20 rfl ?_
      refine g_getI (pc' := 24) tg.s3 (by decide) fX6_23 t6 dX6_readProduct_21 rfl ?_
      refine g_iald (pc' := 25) (j := a) tg.s4 rfl (by omega) (by decide) (v := nI (B a)) (t4 a (by omega)) dX6_readProduct_24 rfl ?_
      refine g_bipush (pc' := 27) (v := nI 42) dX6_readProduct_25 rfl (by decide) ?_
      refine g_icmpeqN (pc' := 30) (by omega) (by omega) (tgt := 58) dX6_readProduct_27 (by decide) rfl (fun h27 => ?_) (fun h27 => ?_)
      · refine g_ald0 (pc' := 59) dX6_readProduct_58 rfl ?_
        refine g_getR (pc' := 62) tg.s3 (by decide) fX6_9 tg.r3_0 dX6_readProduct_59 rfl ?_
        refine g_ald0 (pc' := 63) dX6_readProduct_62 rfl ?_
        refine g_getI (pc' := 66) tg.s3 (by decide) fX6_23 t6 dX6_readProduct_63 rfl ?_
        refine g_iald (pc' := 67) (j := a) tg.s4 rfl (by omega) (by decide) (v := nI (B a)) (t4 a (by omega)) dX6_readProduct_66 rfl ?_
        refine g_ist2 (pc' := 68) rfl (by decide) dX6_readProduct_67 rfl ?_
        refine g_ald0 (pc' := 69) dX6_readProduct_68 rfl ?_
        refine g_dupR (pc' := 70) dX6_readProduct_69 rfl ?_
        refine g_getI (pc' := 73) tg.s3 (by decide) fX6_23 t6 dX6_readProduct_70 rfl ?_
        refine g_iconst (pc' := 74) (v := nI 1) dX6_readProduct_73 rfl (by decide) ?_
        refine g_iaddN (pc' := 75) dX6_readProduct_74 rfl ?_
        refine g_putI (pc' := 78) tg.s3 (by decide) ⟨fX6_23, rfl, pI⟩ dX6_readProduct_75 rfl ?_
        refine g_ald0 (pc' := 79) dX6_readProduct_78 rfl ?_
        refine g_ild1 (pc' := 80) dX6_readProduct_79 rfl ?_
        refine g_callV (pc' := 83) (hsub _ _ (hQ.1.adv (show a < len by omega)) (fun hf => Nat.le_succ_of_le (hQ.2.2.1 hf))) tg.s3 (by decide) wX6_readOne lX6_67 rfl rfl (Nat.le_of_ble_eq_true rfl) (rOk (by omega) (by decide)) ⟨Nat.le_of_ble_eq_true rfl, Nat.le_of_ble_eq_true rfl⟩ dX6_readProduct_80 rfl (kV (fun J2 hq2 => ?_))
        refine g_ald0 (pc' := 84) dX6_readProduct_83 rfl ?_
        refine g_ild2 (pc' := 85) dX6_readProduct_84 rfl ?_
        refine g_bipush (pc' := 87) (v := nI 42) dX6_readProduct_85 rfl (by decide) ?_
        refine g_icmpneN (pc' := 90) (by omega) (by omega) (tgt := 95) dX6_readProduct_87 (by decide) rfl (fun h87 => ?_) (fun h87 => ?_)
        · refine g_ild2 (pc' := 96) dX6_readProduct_95 rfl ?_
          refine g_bipush (pc' := 98) (v := nI 47) dX6_readProduct_96 rfl (by decide) ?_
          refine g_icmpneN (pc' := 101) (by omega) (by omega) (tgt := 106) dX6_readProduct_98 (by decide) rfl (fun h98 => ?_) (fun h98 => ?_)
          · refine g_bipush (pc' := 108) (v := nI 15) dX6_readProduct_106 rfl (by decide) ?_
            refine g_iconst (pc' := 109) (v := nI 0) dX6_readProduct_108 rfl (by decide) ?_
            first
            | (exfalso; omega)
            | (have hop : opP (B a) = some 15 := by unfold opP; simp [*]
               have hrm := hn.room t1 (s := (a, fl, out)) (show a < len by omega) hQ.2.2.1 15
               refine g_callV (pc' := 112) (c_tMark l tg hq2.1 (m := 15) (x := 0) (by decide) (by decide) hrm.1) tg.s3 (by decide) wX6_mark lX6_51 rfl rfl (Nat.le_of_ble_eq_true rfl) (rOk (by omega) (by decide)) ⟨Nat.le_of_ble_eq_true rfl, Nat.le_of_ble_eq_true rfl⟩ dX6_readProduct_109 rfl (kV (fun J3 hq3 => ?_))
               refine g_goto (tgt := 5) dX6_readProduct_112 (by decide) ?_
               refine G.lsub [some (.inr (.inr (some (3, 0)))), some (.inl (nI o)), none] (by intro j v; rcases j with _ | _ | _ | _ | j <;> simp) ?_
               exact ihD f (psMk 15 0 (one (psAdv (a, fl, out))), J3) (by omega) ⟨hq3.1, ((hQ.2.1.tr fr_adv).tr hq2.2).tr hq3.2, hrm.2, by have := (hn (psAdv (a, fl, out)) (show a + 1 ≤ len by omega)).1; exact Nat.lt_of_lt_of_le (Nat.sub_lt_sub_left (show a < len by omega) (Nat.lt_of_lt_of_le (Nat.lt_succ_self a) this)) (by omega), (lpR_in (show a < len by omega) hop).symm.trans hQ.2.2.2.2⟩)
          · refine g_bipush (pc' := 103) (v := nI 14) dX6_readProduct_101 rfl (by decide) ?_
            refine g_goto (tgt := 108) dX6_readProduct_103 (by decide) ?_
            refine g_iconst (pc' := 109) (v := nI 0) dX6_readProduct_108 rfl (by decide) ?_
            first
            | (exfalso; omega)
            | (have hop : opP (B a) = some 14 := by unfold opP; simp [*]
               have hrm := hn.room t1 (s := (a, fl, out)) (show a < len by omega) hQ.2.2.1 14
               refine g_callV (pc' := 112) (c_tMark l tg hq2.1 (m := 14) (x := 0) (by decide) (by decide) hrm.1) tg.s3 (by decide) wX6_mark lX6_51 rfl rfl (Nat.le_of_ble_eq_true rfl) (rOk (by omega) (by decide)) ⟨Nat.le_of_ble_eq_true rfl, Nat.le_of_ble_eq_true rfl⟩ dX6_readProduct_109 rfl (kV (fun J3 hq3 => ?_))
               refine g_goto (tgt := 5) dX6_readProduct_112 (by decide) ?_
               refine G.lsub [some (.inr (.inr (some (3, 0)))), some (.inl (nI o)), none] (by intro j v; rcases j with _ | _ | _ | _ | j <;> simp) ?_
               exact ihD f (psMk 14 0 (one (psAdv (a, fl, out))), J3) (by omega) ⟨hq3.1, ((hQ.2.1.tr fr_adv).tr hq2.2).tr hq3.2, hrm.2, by have := (hn (psAdv (a, fl, out)) (show a + 1 ≤ len by omega)).1; exact Nat.lt_of_lt_of_le (Nat.sub_lt_sub_left (show a < len by omega) (Nat.lt_of_lt_of_le (Nat.lt_succ_self a) this)) (by omega), (lpR_in (show a < len by omega) hop).symm.trans hQ.2.2.2.2⟩)
        · refine g_bipush (pc' := 92) (v := nI 13) dX6_readProduct_90 rfl (by decide) ?_
          refine g_goto (tgt := 108) dX6_readProduct_92 (by decide) ?_
          refine g_iconst (pc' := 109) (v := nI 0) dX6_readProduct_108 rfl (by decide) ?_
          first
          | (exfalso; omega)
          | (have hop : opP (B a) = some 13 := by unfold opP; simp [*]
             have hrm := hn.room t1 (s := (a, fl, out)) (show a < len by omega) hQ.2.2.1 13
             refine g_callV (pc' := 112) (c_tMark l tg hq2.1 (m := 13) (x := 0) (by decide) (by decide) hrm.1) tg.s3 (by decide) wX6_mark lX6_51 rfl rfl (Nat.le_of_ble_eq_true rfl) (rOk (by omega) (by decide)) ⟨Nat.le_of_ble_eq_true rfl, Nat.le_of_ble_eq_true rfl⟩ dX6_readProduct_109 rfl (kV (fun J3 hq3 => ?_))
             refine g_goto (tgt := 5) dX6_readProduct_112 (by decide) ?_
             refine G.lsub [some (.inr (.inr (some (3, 0)))), some (.inl (nI o)), none] (by intro j v; rcases j with _ | _ | _ | _ | j <;> simp) ?_
             exact ihD f (psMk 13 0 (one (psAdv (a, fl, out))), J3) (by omega) ⟨hq3.1, ((hQ.2.1.tr fr_adv).tr hq2.2).tr hq3.2, hrm.2, by have := (hn (psAdv (a, fl, out)) (show a + 1 ≤ len by omega)).1; exact Nat.lt_of_lt_of_le (Nat.sub_lt_sub_left (show a < len by omega) (Nat.lt_of_lt_of_le (Nat.lt_succ_self a) this)) (by omega), (lpR_in (show a < len by omega) hop).symm.trans hQ.2.2.2.2⟩)
      · refine g_ald0 (pc' := 31) dX6_readProduct_30 rfl ?_
        refine g_getR (pc' := 34) tg.s3 (by decide) fX6_9 tg.r3_0 dX6_readProduct_31 rfl ?_
        refine g_ald0 (pc' := 35) dX6_readProduct_34 rfl ?_
        refine g_getI (pc' := 38) tg.s3 (by decide) fX6_23 t6 dX6_readProduct_35 rfl ?_
        refine g_iald (pc' := 39) (j := a) tg.s4 rfl (by omega) (by decide) (v := nI (B a)) (t4 a (by omega)) dX6_readProduct_38 rfl ?_
        refine g_bipush (pc' := 41) (v := nI 47) dX6_readProduct_39 rfl (by decide) ?_
        refine g_icmpeqN (pc' := 44) (by omega) (by omega) (tgt := 58) dX6_readProduct_41 (by decide) rfl (fun h41 => ?_) (fun h41 => ?_)
        · refine g_ald0 (pc' := 59) dX6_readProduct_58 rfl ?_
          refine g_getR (pc' := 62) tg.s3 (by decide) fX6_9 tg.r3_0 dX6_readProduct_59 rfl ?_
          refine g_ald0 (pc' := 63) dX6_readProduct_62 rfl ?_
          refine g_getI (pc' := 66) tg.s3 (by decide) fX6_23 t6 dX6_readProduct_63 rfl ?_
          refine g_iald (pc' := 67) (j := a) tg.s4 rfl (by omega) (by decide) (v := nI (B a)) (t4 a (by omega)) dX6_readProduct_66 rfl ?_
          refine g_ist2 (pc' := 68) rfl (by decide) dX6_readProduct_67 rfl ?_
          refine g_ald0 (pc' := 69) dX6_readProduct_68 rfl ?_
          refine g_dupR (pc' := 70) dX6_readProduct_69 rfl ?_
          refine g_getI (pc' := 73) tg.s3 (by decide) fX6_23 t6 dX6_readProduct_70 rfl ?_
          refine g_iconst (pc' := 74) (v := nI 1) dX6_readProduct_73 rfl (by decide) ?_
          refine g_iaddN (pc' := 75) dX6_readProduct_74 rfl ?_
          refine g_putI (pc' := 78) tg.s3 (by decide) ⟨fX6_23, rfl, pI⟩ dX6_readProduct_75 rfl ?_
          refine g_ald0 (pc' := 79) dX6_readProduct_78 rfl ?_
          refine g_ild1 (pc' := 80) dX6_readProduct_79 rfl ?_
          refine g_callV (pc' := 83) (hsub _ _ (hQ.1.adv (show a < len by omega)) (fun hf => Nat.le_succ_of_le (hQ.2.2.1 hf))) tg.s3 (by decide) wX6_readOne lX6_67 rfl rfl (Nat.le_of_ble_eq_true rfl) (rOk (by omega) (by decide)) ⟨Nat.le_of_ble_eq_true rfl, Nat.le_of_ble_eq_true rfl⟩ dX6_readProduct_80 rfl (kV (fun J2 hq2 => ?_))
          refine g_ald0 (pc' := 84) dX6_readProduct_83 rfl ?_
          refine g_ild2 (pc' := 85) dX6_readProduct_84 rfl ?_
          refine g_bipush (pc' := 87) (v := nI 42) dX6_readProduct_85 rfl (by decide) ?_
          refine g_icmpneN (pc' := 90) (by omega) (by omega) (tgt := 95) dX6_readProduct_87 (by decide) rfl (fun h87 => ?_) (fun h87 => ?_)
          · refine g_ild2 (pc' := 96) dX6_readProduct_95 rfl ?_
            refine g_bipush (pc' := 98) (v := nI 47) dX6_readProduct_96 rfl (by decide) ?_
            refine g_icmpneN (pc' := 101) (by omega) (by omega) (tgt := 106) dX6_readProduct_98 (by decide) rfl (fun h98 => ?_) (fun h98 => ?_)
            · refine g_bipush (pc' := 108) (v := nI 15) dX6_readProduct_106 rfl (by decide) ?_
              refine g_iconst (pc' := 109) (v := nI 0) dX6_readProduct_108 rfl (by decide) ?_
              first
              | (exfalso; omega)
              | (have hop : opP (B a) = some 15 := by unfold opP; simp [*]
                 have hrm := hn.room t1 (s := (a, fl, out)) (show a < len by omega) hQ.2.2.1 15
                 refine g_callV (pc' := 112) (c_tMark l tg hq2.1 (m := 15) (x := 0) (by decide) (by decide) hrm.1) tg.s3 (by decide) wX6_mark lX6_51 rfl rfl (Nat.le_of_ble_eq_true rfl) (rOk (by omega) (by decide)) ⟨Nat.le_of_ble_eq_true rfl, Nat.le_of_ble_eq_true rfl⟩ dX6_readProduct_109 rfl (kV (fun J3 hq3 => ?_))
                 refine g_goto (tgt := 5) dX6_readProduct_112 (by decide) ?_
                 refine G.lsub [some (.inr (.inr (some (3, 0)))), some (.inl (nI o)), none] (by intro j v; rcases j with _ | _ | _ | _ | j <;> simp) ?_
                 exact ihD f (psMk 15 0 (one (psAdv (a, fl, out))), J3) (by omega) ⟨hq3.1, ((hQ.2.1.tr fr_adv).tr hq2.2).tr hq3.2, hrm.2, by have := (hn (psAdv (a, fl, out)) (show a + 1 ≤ len by omega)).1; exact Nat.lt_of_lt_of_le (Nat.sub_lt_sub_left (show a < len by omega) (Nat.lt_of_lt_of_le (Nat.lt_succ_self a) this)) (by omega), (lpR_in (show a < len by omega) hop).symm.trans hQ.2.2.2.2⟩)
            · refine g_bipush (pc' := 103) (v := nI 14) dX6_readProduct_101 rfl (by decide) ?_
              refine g_goto (tgt := 108) dX6_readProduct_103 (by decide) ?_
              refine g_iconst (pc' := 109) (v := nI 0) dX6_readProduct_108 rfl (by decide) ?_
              first
              | (exfalso; omega)
              | (have hop : opP (B a) = some 14 := by unfold opP; simp [*]
                 have hrm := hn.room t1 (s := (a, fl, out)) (show a < len by omega) hQ.2.2.1 14
                 refine g_callV (pc' := 112) (c_tMark l tg hq2.1 (m := 14) (x := 0) (by decide) (by decide) hrm.1) tg.s3 (by decide) wX6_mark lX6_51 rfl rfl (Nat.le_of_ble_eq_true rfl) (rOk (by omega) (by decide)) ⟨Nat.le_of_ble_eq_true rfl, Nat.le_of_ble_eq_true rfl⟩ dX6_readProduct_109 rfl (kV (fun J3 hq3 => ?_))
                 refine g_goto (tgt := 5) dX6_readProduct_112 (by decide) ?_
                 refine G.lsub [some (.inr (.inr (some (3, 0)))), some (.inl (nI o)), none] (by intro j v; rcases j with _ | _ | _ | _ | j <;> simp) ?_
                 exact ihD f (psMk 14 0 (one (psAdv (a, fl, out))), J3) (by omega) ⟨hq3.1, ((hQ.2.1.tr fr_adv).tr hq2.2).tr hq3.2, hrm.2, by have := (hn (psAdv (a, fl, out)) (show a + 1 ≤ len by omega)).1; exact Nat.lt_of_lt_of_le (Nat.sub_lt_sub_left (show a < len by omega) (Nat.lt_of_lt_of_le (Nat.lt_succ_self a) this)) (by omega), (lpR_in (show a < len by omega) hop).symm.trans hQ.2.2.2.2⟩)
          · refine g_bipush (pc' := 92) (v := nI 13) dX6_readProduct_90 rfl (by decide) ?_
            refine g_goto (tgt := 108) dX6_readProduct_92 (by decide) ?_
            refine g_iconst (pc' := 109) (v := nI 0) dX6_readProduct_108 rfl (by decide) ?_
            first
            | (exfalso; omega)
            | (have hop : opP (B a) = some 13 := by unfold opP; simp [*]
               have hrm := hn.room t1 (s := (a, fl, out)) (show a < len by omega) hQ.2.2.1 13
               refine g_callV (pc' := 112) (c_tMark l tg hq2.1 (m := 13) (x := 0) (by decide) (by decide) hrm.1) tg.s3 (by decide) wX6_mark lX6_51 rfl rfl (Nat.le_of_ble_eq_true rfl) (rOk (by omega) (by decide)) ⟨Nat.le_of_ble_eq_true rfl, Nat.le_of_ble_eq_true rfl⟩ dX6_readProduct_109 rfl (kV (fun J3 hq3 => ?_))
               refine g_goto (tgt := 5) dX6_readProduct_112 (by decide) ?_
               refine G.lsub [some (.inr (.inr (some (3, 0)))), some (.inl (nI o)), none] (by intro j v; rcases j with _ | _ | _ | _ | j <;> simp) ?_
               exact ihD f (psMk 13 0 (one (psAdv (a, fl, out))), J3) (by omega) ⟨hq3.1, ((hQ.2.1.tr fr_adv).tr hq2.2).tr hq3.2, hrm.2, by have := (hn (psAdv (a, fl, out)) (show a + 1 ≤ len by omega)).1; exact Nat.lt_of_lt_of_le (Nat.sub_lt_sub_left (show a < len by omega) (Nat.lt_of_lt_of_le (Nat.lt_succ_self a) this)) (by omega), (lpR_in (show a < len by omega) hop).symm.trans hQ.2.2.2.2⟩)
        · refine g_ald0 (pc' := 45) dX6_readProduct_44 rfl ?_
          refine g_getR (pc' := 48) tg.s3 (by decide) fX6_9 tg.r3_0 dX6_readProduct_45 rfl ?_
          refine g_ald0 (pc' := 49) dX6_readProduct_48 rfl ?_
          refine g_getI (pc' := 52) tg.s3 (by decide) fX6_23 t6 dX6_readProduct_49 rfl ?_
          refine g_iald (pc' := 53) (j := a) tg.s4 rfl (by omega) (by decide) (v := nI (B a)) (t4 a (by omega)) dX6_readProduct_52 rfl ?_
          refine g_bipush (pc' := 55) (v := nI 37) dX6_readProduct_53 rfl (by decide) ?_
          refine g_icmpneN (pc' := 58) (by omega) (by omega) (tgt := 115) dX6_readProduct_55 (by decide) rfl (fun h55 => ?_) (fun h55 => ?_)
          · refine g_vret rfl dX6_readProduct_115 ?_
            have e := lpR_out (B := B) (len := len) (op := opP) (sub := one) (f := f + 1) (s := (a, fl, out)) (by first | exact Or.inl (show ¬ a < len by omega) | exact Or.inr (by unfold opP; simp [*]))
            exact eV ⟨by rw [← hQ.2.2.2.2, e]; exact hQ.1, hQ.2.1⟩
          · refine g_ald0 (pc' := 59) dX6_readProduct_58 rfl ?_
            refine g_getR (pc' := 62) tg.s3 (by decide) fX6_9 tg.r3_0 dX6_readProduct_59 rfl ?_
            refine g_ald0 (pc' := 63) dX6_readProduct_62 rfl ?_
            refine g_getI (pc' := 66) tg.s3 (by decide) fX6_23 t6 dX6_readProduct_63 rfl ?_
            refine g_iald (pc' := 67) (j := a) tg.s4 rfl (by omega) (by decide) (v := nI (B a)) (t4 a (by omega)) dX6_readProduct_66 rfl ?_
            refine g_ist2 (pc' := 68) rfl (by decide) dX6_readProduct_67 rfl ?_
            refine g_ald0 (pc' := 69) dX6_readProduct_68 rfl ?_
            refine g_dupR (pc' := 70) dX6_readProduct_69 rfl ?_
            refine g_getI (pc' := 73) tg.s3 (by decide) fX6_23 t6 dX6_readProduct_70 rfl ?_
            refine g_iconst (pc' := 74) (v := nI 1) dX6_readProduct_73 rfl (by decide) ?_
            refine g_iaddN (pc' := 75) dX6_readProduct_74 rfl ?_
            refine g_putI (pc' := 78) tg.s3 (by decide) ⟨fX6_23, rfl, pI⟩ dX6_readProduct_75 rfl ?_
            refine g_ald0 (pc' := 79) dX6_readProduct_78 rfl ?_
            refine g_ild1 (pc' := 80) dX6_readProduct_79 rfl ?_
            refine g_callV (pc' := 83) (hsub _ _ (hQ.1.adv (show a < len by omega)) (fun hf => Nat.le_succ_of_le (hQ.2.2.1 hf))) tg.s3 (by decide) wX6_readOne lX6_67 rfl rfl (Nat.le_of_ble_eq_true rfl) (rOk (by omega) (by decide)) ⟨Nat.le_of_ble_eq_true rfl, Nat.le_of_ble_eq_true rfl⟩ dX6_readProduct_80 rfl (kV (fun J2 hq2 => ?_))
            refine g_ald0 (pc' := 84) dX6_readProduct_83 rfl ?_
            refine g_ild2 (pc' := 85) dX6_readProduct_84 rfl ?_
            refine g_bipush (pc' := 87) (v := nI 42) dX6_readProduct_85 rfl (by decide) ?_
            refine g_icmpneN (pc' := 90) (by omega) (by omega) (tgt := 95) dX6_readProduct_87 (by decide) rfl (fun h87 => ?_) (fun h87 => ?_)
            · refine g_ild2 (pc' := 96) dX6_readProduct_95 rfl ?_
              refine g_bipush (pc' := 98) (v := nI 47) dX6_readProduct_96 rfl (by decide) ?_
              refine g_icmpneN (pc' := 101) (by omega) (by omega) (tgt := 106) dX6_readProduct_98 (by decide) rfl (fun h98 => ?_) (fun h98 => ?_)
              · refine g_bipush (pc' := 108) (v := nI 15) dX6_readProduct_106 rfl (by decide) ?_
                refine g_iconst (pc' := 109) (v := nI 0) dX6_readProduct_108 rfl (by decide) ?_
                first
                | (exfalso; omega)
                | (have hop : opP (B a) = some 15 := by unfold opP; simp [*]
                   have hrm := hn.room t1 (s := (a, fl, out)) (show a < len by omega) hQ.2.2.1 15
                   refine g_callV (pc' := 112) (c_tMark l tg hq2.1 (m := 15) (x := 0) (by decide) (by decide) hrm.1) tg.s3 (by decide) wX6_mark lX6_51 rfl rfl (Nat.le_of_ble_eq_true rfl) (rOk (by omega) (by decide)) ⟨Nat.le_of_ble_eq_true rfl, Nat.le_of_ble_eq_true rfl⟩ dX6_readProduct_109 rfl (kV (fun J3 hq3 => ?_))
                   refine g_goto (tgt := 5) dX6_readProduct_112 (by decide) ?_
                   refine G.lsub [some (.inr (.inr (some (3, 0)))), some (.inl (nI o)), none] (by intro j v; rcases j with _ | _ | _ | _ | j <;> simp) ?_
                   exact ihD f (psMk 15 0 (one (psAdv (a, fl, out))), J3) (by omega) ⟨hq3.1, ((hQ.2.1.tr fr_adv).tr hq2.2).tr hq3.2, hrm.2, by have := (hn (psAdv (a, fl, out)) (show a + 1 ≤ len by omega)).1; exact Nat.lt_of_lt_of_le (Nat.sub_lt_sub_left (show a < len by omega) (Nat.lt_of_lt_of_le (Nat.lt_succ_self a) this)) (by omega), (lpR_in (show a < len by omega) hop).symm.trans hQ.2.2.2.2⟩)
              · refine g_bipush (pc' := 103) (v := nI 14) dX6_readProduct_101 rfl (by decide) ?_
                refine g_goto (tgt := 108) dX6_readProduct_103 (by decide) ?_
                refine g_iconst (pc' := 109) (v := nI 0) dX6_readProduct_108 rfl (by decide) ?_
                first
                | (exfalso; omega)
                | (have hop : opP (B a) = some 14 := by unfold opP; simp [*]
                   have hrm := hn.room t1 (s := (a, fl, out)) (show a < len by omega) hQ.2.2.1 14
                   refine g_callV (pc' := 112) (c_tMark l tg hq2.1 (m := 14) (x := 0) (by decide) (by decide) hrm.1) tg.s3 (by decide) wX6_mark lX6_51 rfl rfl (Nat.le_of_ble_eq_true rfl) (rOk (by omega) (by decide)) ⟨Nat.le_of_ble_eq_true rfl, Nat.le_of_ble_eq_true rfl⟩ dX6_readProduct_109 rfl (kV (fun J3 hq3 => ?_))
                   refine g_goto (tgt := 5) dX6_readProduct_112 (by decide) ?_
                   refine G.lsub [some (.inr (.inr (some (3, 0)))), some (.inl (nI o)), none] (by intro j v; rcases j with _ | _ | _ | _ | j <;> simp) ?_
                   exact ihD f (psMk 14 0 (one (psAdv (a, fl, out))), J3) (by omega) ⟨hq3.1, ((hQ.2.1.tr fr_adv).tr hq2.2).tr hq3.2, hrm.2, by have := (hn (psAdv (a, fl, out)) (show a + 1 ≤ len by omega)).1; exact Nat.lt_of_lt_of_le (Nat.sub_lt_sub_left (show a < len by omega) (Nat.lt_of_lt_of_le (Nat.lt_succ_self a) this)) (by omega), (lpR_in (show a < len by omega) hop).symm.trans hQ.2.2.2.2⟩)
            · refine g_bipush (pc' := 92) (v := nI 13) dX6_readProduct_90 rfl (by decide) ?_
              refine g_goto (tgt := 108) dX6_readProduct_92 (by decide) ?_
              refine g_iconst (pc' := 109) (v := nI 0) dX6_readProduct_108 rfl (by decide) ?_
              first
              | (exfalso; omega)
              | (have hop : opP (B a) = some 13 := by unfold opP; simp [*]
                 have hrm := hn.room t1 (s := (a, fl, out)) (show a < len by omega) hQ.2.2.1 13
                 refine g_callV (pc' := 112) (c_tMark l tg hq2.1 (m := 13) (x := 0) (by decide) (by decide) hrm.1) tg.s3 (by decide) wX6_mark lX6_51 rfl rfl (Nat.le_of_ble_eq_true rfl) (rOk (by omega) (by decide)) ⟨Nat.le_of_ble_eq_true rfl, Nat.le_of_ble_eq_true rfl⟩ dX6_readProduct_109 rfl (kV (fun J3 hq3 => ?_))
                 refine g_goto (tgt := 5) dX6_readProduct_112 (by decide) ?_
                 refine G.lsub [some (.inr (.inr (some (3, 0)))), some (.inl (nI o)), none] (by intro j v; rcases j with _ | _ | _ | _ | j <;> simp) ?_
                 exact ihD f (psMk 13 0 (one (psAdv (a, fl, out))), J3) (by omega) ⟨hq3.1, ((hQ.2.1.tr fr_adv).tr hq2.2).tr hq3.2, hrm.2, by have := (hn (psAdv (a, fl, out)) (show a + 1 ≤ len by omega)).1; exact Nat.lt_of_lt_of_le (Nat.sub_lt_sub_left (show a < len by omega) (Nat.lt_of_lt_of_le (Nat.lt_succ_self a) this)) (by omega), (lpR_in (show a < len by omega) hop).symm.trans hQ.2.2.2.2⟩)

theorem rz_readSum {l : Launch} {S : Shp} {L : ML} {R : MR} (tg : TG S R) {B : Nat → Nat} {len dp o : Nat} {one : PS → PS} (hn1 : Nice len one) (hsub : Rz l S L R B len mX6_readProduct dp o (cProd B len one)) (hdp : 3 ≤ dp) : Rz l S L R B len mX6_readSum (dp + 1) o (cSum B len one) := by
  intro I s h hg
  have hn : Nice len (cProd B len one) := hn1.prod
  have hs0 := h.2.2.2.2.1.1
  refine Ct.of [some (.inr (.inr (some (3, 0)))), some (.inl (nI o)), none] (by decide) rfl (Nat.le_of_ble_eq_true rfl) ?_
  refine g_ald0 (pc' := 1) dX6_readSum_0 rfl ?_
  refine g_ild1 (pc' := 2) dX6_readSum_1 rfl ?_
  refine g_callV (pc' := 5) (hsub I s h hg) tg.s3 (by decide) wX6_readProduct lX6_64 rfl rfl (Nat.le_of_ble_eq_true rfl) (rOk (by omega) (by decide)) ⟨Nat.le_of_ble_eq_true rfl, Nat.le_of_ble_eq_true rfl⟩ dX6_readSum_2 rfl (kV (fun J1 hq1 => ?_))
  refine g_loopD (σ := PS × MI) (fun f q => TR B len q.2 q.1 ∧ Fr tpP I q.2 ∧ gd q.1 ∧ len - q.1.1 < f ∧ lpR B len opS (cProd B len one) f q.1 = cSum B len one s) (fun f s => [some (.inr (.inr (some (3, 0)))), some (.inl (nI o)), none]) (fun f s => s.2) 121 (cProd B len one s, J1) ⟨hq1.1, hq1.2, hn.keep hs0 hg, by have := hq1.1.1; omega, rfl⟩ ?_
  intro f s2 hQ ihD
  obtain ⟨⟨a, fl, out⟩, J⟩ := s2
  simp only at hQ
  obtain ⟨t1, t2, t3, t4, ⟨t5, t5b⟩, t6, t7, t8⟩ := id hQ.1
  simp only at t5 t6 t7
  cases f with
  | zero => exact absurd hQ.2.2.2.1 (by omega)
  | succ f =>
    have hmeas := hQ.2.2.2.1
    have hBa : B a < 256 ∨ len ≤ a := (Nat.lt_or_ge a len).imp (t2 a) id
    refine g_ald0 (pc' := 6) dX6_readSum_5 rfl ?_
    refine g_getI (pc' := 9) tg.s3 (by decide) fX6_23 t6 dX6_readSum_6 rfl ?_
    refine g_ald0 (pc' := 10) dX6_readSum_9 rfl ?_
    refine g_getI (pc' := 13) tg.s3 (by decide) fX6_16 t3 dX6_readSum_10 rfl ?_
    refine g_icmpgeN (pc' := 16) (by omega) (by omega) (tgt := 90) dX6_readSum_13 (by decide) rfl (fun h13 => ?_) (fun h13 => ?_)
    · refine g_vret rfl dX6_readSum_90 ?_
      have e := lpR_out (B := B) (len := len) (op := opS) (sub := cProd B len one) (f := f + 1) (s := (a, fl, out)) (by first | exact Or.inl (show ¬ a < len by omega) | exact Or.inr (by unfold opS; simp [*]))
      exact eV ⟨by rw [← hQ.2.2.2.2, e]; exact hQ.1, hQ.2.1⟩
    · refine g_ald0 (pc' := 17) dX6_readSum_16 rfl ?_
      refine g_getR (pc' := 20) tg.s3 (by decide) fX6_9 tg.r3_0 dX6_readSum_17 rfl ?_
      refine g_ald0 (pc' := 21) dX6_readSum_20 rfl ?_
      refine g_getI (pc' := 24) tg.s3 (by decide) fX6_23 t6 dX6_readSum_21 rfl ?_
      refine g_iald (pc' := 25) (j := a) tg.s4 rfl (by omega) (by decide) (v := nI (B a)) (t4 a (by omega)) dX6_readSum_24 rfl ?_
      refine g_bipush (pc' := 27) (v := nI 43) dX6_readSum_25 rfl (by decide) ?_
      refine g_icmpeqN (pc' := 30) (by omega) (by omega) (tgt := 44) dX6_readSum_27 (by decide) rfl (fun h27 => ?_) (fun h27 => ?_)
      · refine g_ald0 (pc' := 45) dX6_readSum_44 rfl ?_
        refine g_getR (pc' := 48) tg.s3 (by decide) fX6_9 tg.r3_0 dX6_readSum_45 rfl ?_
        refine g_ald0 (pc' := 49) dX6_readSum_48 rfl ?_
        refine g_getI (pc' := 52) tg.s3 (by decide) fX6_23 t6 dX6_readSum_49 rfl ?_
        refine g_iald (pc' := 53) (j := a) tg.s4 rfl (by omega) (by decide) (v := nI (B a)) (t4 a (by omega)) dX6_readSum_52 rfl ?_
        refine g_ist2 (pc' := 54) rfl (by decide) dX6_readSum_53 rfl ?_
        refine g_ald0 (pc' := 55) dX6_readSum_54 rfl ?_
        refine g_dupR (pc' := 56) dX6_readSum_55 rfl ?_
        refine g_getI (pc' := 59) tg.s3 (by decide) fX6_23 t6 dX6_readSum_56 rfl ?_
        refine g_iconst (pc' := 60) (v := nI 1) dX6_readSum_59 rfl (by decide) ?_
        refine g_iaddN (pc' := 61) dX6_readSum_60 rfl ?_
        refine g_putI (pc' := 64) tg.s3 (by decide) ⟨fX6_23, rfl, pI⟩ dX6_readSum_61 rfl ?_
        refine g_ald0 (pc' := 65) dX6_readSum_64 rfl ?_
        refine g_ild1 (pc' := 66) dX6_readSum_65 rfl ?_
        refine g_callV (pc' := 69) (hsub _ _ (hQ.1.adv (show a < len by omega)) (fun hf => Nat.le_succ_of_le (hQ.2.2.1 hf))) tg.s3 (by decide) wX6_readProduct lX6_64 rfl rfl (Nat.le_of_ble_eq_true rfl) (rOk (by omega) (by decide)) ⟨Nat.le_of_ble_eq_true rfl, Nat.le_of_ble_eq_true rfl⟩ dX6_readSum_66 rfl (kV (fun J2 hq2 => ?_))
        refine g_ald0 (pc' := 70) dX6_readSum_69 rfl ?_
        refine g_ild2 (pc' := 71) dX6_readSum_70 rfl ?_
        refine g_bipush (pc' := 73) (v := nI 43) dX6_readSum_71 rfl (by decide) ?_
        refine g_icmpneN (pc' := 76) (by omega) (by omega) (tgt := 81) dX6_readSum_73 (by decide) rfl (fun h73 => ?_) (fun h73 => ?_)
        · refine g_bipush (pc' := 83) (v := nI 12) dX6_readSum_81 rfl (by decide) ?_
          refine g_iconst (pc' := 84) (v := nI 0) dX6_readSum_83 rfl (by decide) ?_
          first
          | (exfalso; omega)
          | (have hop : opS (B a) = some 12 := by unfold opS; simp [*]
             have hrm := hn.room t1 (s := (a, fl, out)) (show a < len by omega) hQ.2.2.1 12
             refine g_callV (pc' := 87) (c_tMark l tg hq2.1 (m := 12) (x := 0) (by decide) (by decide) hrm.1) tg.s3 (by decide) wX6_mark lX6_51 rfl rfl (Nat.le_of_ble_eq_true rfl) (rOk (by omega) (by decide)) ⟨Nat.le_of_ble_eq_true rfl, Nat.le_of_ble_eq_true rfl⟩ dX6_readSum_84 rfl (kV (fun J3 hq3 => ?_))
             refine g_goto (tgt := 5) dX6_readSum_87 (by decide) ?_
             refine G.lsub [some (.inr (.inr (some (3, 0)))), some (.inl (nI o)), none] (by intro j v; rcases j with _ | _ | _ | _ | j <;> simp) ?_
             exact ihD f (psMk 12 0 (cProd B len one (psAdv (a, fl, out))), J3) (by omega) ⟨hq3.1, ((hQ.2.1.tr fr_adv).tr hq2.2).tr hq3.2, hrm.2, by have := (hn (psAdv (a, fl, out)) (show a + 1 ≤ len by omega)).1; exact Nat.lt_of_lt_of_le (Nat.sub_lt_sub_left (show a < len by omega) (Nat.lt_of_lt_of_le (Nat.lt_succ_self a) this)) (by omega), (lpR_in (show a < len by omega) hop).symm.trans hQ.2.2.2.2⟩)
        · refine g_bipush (pc' := 78) (v := nI 11) dX6_readSum_76 rfl (by decide) ?_
          refine g_goto (tgt := 83) dX6_readSum_78 (by decide) ?_
          refine g_iconst (pc' := 84) (v := nI 0) dX6_readSum_83 rfl (by decide) ?_
          first
          | (exfalso; omega)
          | (have hop : opS (B a) = some 11 := by unfold opS; simp [*]
             have hrm := hn.room t1 (s := (a, fl, out)) (show a < len by omega) hQ.2.2.1 11
             refine g_callV (pc' := 87) (c_tMark l tg hq2.1 (m := 11) (x := 0) (by decide) (by decide) hrm.1) tg.s3 (by decide) wX6_mark lX6_51 rfl rfl (Nat.le_of_ble_eq_true rfl) (rOk (by omega) (by decide)) ⟨Nat.le_of_ble_eq_true rfl, Nat.le_of_ble_eq_true rfl⟩ dX6_readSum_84 rfl (kV (fun J3 hq3 => ?_))
             refine g_goto (tgt := 5) dX6_readSum_87 (by decide) ?_
             refine G.lsub [some (.inr (.inr (some (3, 0)))), some (.inl (nI o)), none] (by intro j v; rcases j with _ | _ | _ | _ | j <;> simp) ?_
             exact ihD f (psMk 11 0 (cProd B len one (psAdv (a, fl, out))), J3) (by omega) ⟨hq3.1, ((hQ.2.1.tr fr_adv).tr hq2.2).tr hq3.2, hrm.2, by have := (hn (psAdv (a, fl, out)) (show a + 1 ≤ len by omega)).1; exact Nat.lt_of_lt_of_le (Nat.sub_lt_sub_left (show a < len by omega) (Nat.lt_of_lt_of_le (Nat.lt_succ_self a) this)) (by omega), (lpR_in (show a < len by omega) hop).symm.trans hQ.2.2.2.2⟩)
      · refine g_ald0 (pc' := 31) dX6_readSum_30 rfl ?_
        refine g_getR (pc' := 34) tg.s3 (by decide) fX6_9 tg.r3_0 dX6_readSum_31 rfl ?_
        refine g_ald0 (pc' := 35) dX6_readSum_34 rfl ?_
        refine g_getI (pc' := 38) tg.s3 (by decide) fX6_23 t6 dX6_readSum_35 rfl ?_
        refine g_iald (pc' := 39) (j := a) tg.s4 rfl (by omega) (by decide) (v := nI (B a)) (t4 a (by omega)) dX6_readSum_38 rfl ?_
        refine g_bipush (pc' := 41) (v := nI 45) dX6_readSum_39 rfl (by decide) ?_
        refine g_icmpneN (pc' := 44) (by omega) (by omega) (tgt := 90) dX6_readSum_41 (by decide) rfl (fun h41 => ?_) (fun h41 => ?_)
        · refine g_vret rfl dX6_readSum_90 ?_
          have e := lpR_out (B := B) (len := len) (op := opS) (sub := cProd B len one) (f := f + 1) (s := (a, fl, out)) (by first | exact Or.inl (show ¬ a < len by omega) | exact Or.inr (by unfold opS; simp [*]))
          exact eV ⟨by rw [← hQ.2.2.2.2, e]; exact hQ.1, hQ.2.1⟩
        · refine g_ald0 (pc' := 45) dX6_readSum_44 rfl ?_
          refine g_getR (pc' := 48) tg.s3 (by decide) fX6_9 tg.r3_0 dX6_readSum_45 rfl ?_
          refine g_ald0 (pc' := 49) dX6_readSum_48 rfl ?_
          refine g_getI (pc' := 52) tg.s3 (by decide) fX6_23 t6 dX6_readSum_49 rfl ?_
          refine g_iald (pc' := 53) (j := a) tg.s4 rfl (by omega) (by decide) (v := nI (B a)) (t4 a (by omega)) dX6_readSum_52 rfl ?_
          refine g_ist2 (pc' := 54) rfl (by decide) dX6_readSum_53 rfl ?_
          refine g_ald0 (pc' := 55) dX6_readSum_54 rfl ?_
          refine g_dupR (pc' := 56) dX6_readSum_55 rfl ?_
          refine g_getI (pc' := 59) tg.s3 (by decide) fX6_23 t6 dX6_readSum_56 rfl ?_
          refine g_iconst (pc' := 60) (v := nI 1) dX6_readSum_59 rfl (by decide) ?_
          refine g_iaddN (pc' := 61) dX6_readSum_60 rfl ?_
          refine g_putI (pc' := 64) tg.s3 (by decide) ⟨fX6_23, rfl, pI⟩ dX6_readSum_61 rfl ?_
          refine g_ald0 (pc' := 65) dX6_readSum_64 rfl ?_
          refine g_ild1 (pc' := 66) dX6_readSum_65 rfl ?_
          refine g_callV (pc' := 69) (hsub _ _ (hQ.1.adv (show a < len by omega)) (fun hf => Nat.le_succ_of_le (hQ.2.2.1 hf))) tg.s3 (by decide) wX6_readProduct lX6_64 rfl rfl (Nat.le_of_ble_eq_true rfl) (rOk (by omega) (by decide)) ⟨Nat.le_of_ble_eq_true rfl, Nat.le_of_ble_eq_true rfl⟩ dX6_readSum_66 rfl (kV (fun J2 hq2 => ?_))
          refine g_ald0 (pc' := 70) dX6_readSum_69 rfl ?_
          refine g_ild2 (pc' := 71) dX6_readSum_70 rfl ?_
          refine g_bipush (pc' := 73) (v := nI 43) dX6_readSum_71 rfl (by decide) ?_
          refine g_icmpneN (pc' := 76) (by omega) (by omega) (tgt := 81) dX6_readSum_73 (by decide) rfl (fun h73 => ?_) (fun h73 => ?_)
          · refine g_bipush (pc' := 83) (v := nI 12) dX6_readSum_81 rfl (by decide) ?_
            refine g_iconst (pc' := 84) (v := nI 0) dX6_readSum_83 rfl (by decide) ?_
            first
            | (exfalso; omega)
            | (have hop : opS (B a) = some 12 := by unfold opS; simp [*]
               have hrm := hn.room t1 (s := (a, fl, out)) (show a < len by omega) hQ.2.2.1 12
               refine g_callV (pc' := 87) (c_tMark l tg hq2.1 (m := 12) (x := 0) (by decide) (by decide) hrm.1) tg.s3 (by decide) wX6_mark lX6_51 rfl rfl (Nat.le_of_ble_eq_true rfl) (rOk (by omega) (by decide)) ⟨Nat.le_of_ble_eq_true rfl, Nat.le_of_ble_eq_true rfl⟩ dX6_readSum_84 rfl (kV (fun J3 hq3 => ?_))
               refine g_goto (tgt := 5) dX6_readSum_87 (by decide) ?_
               refine G.lsub [some (.inr (.inr (some (3, 0)))), some (.inl (nI o)), none] (by intro j v; rcases j with _ | _ | _ | _ | j <;> simp) ?_
               exact ihD f (psMk 12 0 (cProd B len one (psAdv (a, fl, out))), J3) (by omega) ⟨hq3.1, ((hQ.2.1.tr fr_adv).tr hq2.2).tr hq3.2, hrm.2, by have := (hn (psAdv (a, fl, out)) (show a + 1 ≤ len by omega)).1; exact Nat.lt_of_lt_of_le (Nat.sub_lt_sub_left (show a < len by omega) (Nat.lt_of_lt_of_le (Nat.lt_succ_self a) this)) (by omega), (lpR_in (show a < len by omega) hop).symm.trans hQ.2.2.2.2⟩)
          · refine g_bipush (pc' := 78) (v := nI 11) dX6_readSum_76 rfl (by decide) ?_
            refine g_goto (tgt := 83) dX6_readSum_78 (by decide) ?_
            refine g_iconst (pc' := 84) (v := nI 0) dX6_readSum_83 rfl (by decide) ?_
            first
            | (exfalso; omega)
            | (have hop : opS (B a) = some 11 := by unfold opS; simp [*]
               have hrm := hn.room t1 (s := (a, fl, out)) (show a < len by omega) hQ.2.2.1 11
               refine g_callV (pc' := 87) (c_tMark l tg hq2.1 (m := 11) (x := 0) (by decide) (by decide) hrm.1) tg.s3 (by decide) wX6_mark lX6_51 rfl rfl (Nat.le_of_ble_eq_true rfl) (rOk (by omega) (by decide)) ⟨Nat.le_of_ble_eq_true rfl, Nat.le_of_ble_eq_true rfl⟩ dX6_readSum_84 rfl (kV (fun J3 hq3 => ?_))
               refine g_goto (tgt := 5) dX6_readSum_87 (by decide) ?_
               refine G.lsub [some (.inr (.inr (some (3, 0)))), some (.inl (nI o)), none] (by intro j v; rcases j with _ | _ | _ | _ | j <;> simp) ?_
               exact ihD f (psMk 11 0 (cProd B len one (psAdv (a, fl, out))), J3) (by omega) ⟨hq3.1, ((hQ.2.1.tr fr_adv).tr hq2.2).tr hq3.2, hrm.2, by have := (hn (psAdv (a, fl, out)) (show a + 1 ≤ len by omega)).1; exact Nat.lt_of_lt_of_le (Nat.sub_lt_sub_left (show a < len by omega) (Nat.lt_of_lt_of_le (Nat.lt_succ_self a) this)) (by omega), (lpR_in (show a < len by omega) hop).symm.trans hQ.2.2.2.2⟩)

theorem rz_readCompared {l : Launch} {S : Shp} {L : ML} {R : MR} (tg : TG S R) {B : Nat → Nat} {len dp o : Nat} {one : PS → PS} (hn1 : Nice len one) (hsub : Rz l S L R B len mX6_readSum dp o (cSum B len one)) (hdp : 3 ≤ dp) : Rz l S L R B len mX6_readCompared (dp + 1) o (cCmp B len one) := by
  intro I s h hg
  have hs0 := h.2.2.2.2.1.1
  have hg1 := (hn1.sum (B := B)).keep hs0 hg
  refine Ct.of [some (.inr (.inr (some (3, 0)))), some (.inl (nI o)), none] (by decide) rfl (Nat.le_of_ble_eq_true rfl) ?_
  refine g_ald0 (pc' := 1) dX6_readCompared_0 rfl ?_
  refine g_ild1 (pc' := 2) dX6_readCompared_1 rfl ?_
  refine g_callV (pc' := 5) (hsub I s h hg) tg.s3 (by decide) wX6_readSum lX6_61 rfl rfl (Nat.le_of_ble_eq_true rfl) (rOk (by omega) (by decide)) ⟨Nat.le_of_ble_eq_true rfl, Nat.le_of_ble_eq_true rfl⟩ dX6_readCompared_2 rfl (kV (fun J1 hq1 => ?_))
  obtain ⟨t1, t2, t3, t4, ⟨t5, t5b⟩, t6, t7, t8⟩ := id hq1.1
  refine g_ald0 (pc' := 6) dX6_readCompared_5 rfl ?_
  refine g_callV (pc' := 9) (c_tNext l tg (a := (cSum B len one s).1) (fl := (cSum B len one s).2.1) (out := (cSum B len one s).2.2) hq1.1) tg.s3 (by decide) wX6_next lX6_45 rfl rfl (Nat.le_of_ble_eq_true rfl) (rOk (by omega) (by decide)) ⟨Nat.le_of_ble_eq_true rfl, Nat.le_of_ble_eq_true rfl⟩ dX6_readCompared_6 rfl (kIp ?_)
  cases hnx : nxt B len (cSum B len one s).1 with
  | none =>
    refine g_ist2 (pc' := 10) rfl (by decide) dX6_readCompared_9 rfl ?_
    refine g_ild2 (pc' := 11) dX6_readCompared_10 rfl ?_
    refine g_bipush (pc' := 13) (v := nI 60) dX6_readCompared_11 rfl (by decide) ?_
    refine g_icmpeq (pc' := 16) (tgt := 28) dX6_readCompared_13 (by decide) rfl (fun h13 => absurd h13 (show ¬ (-1 : Int32) = nI 60 by decide)) (fun h13 => ?_)
    refine g_ild2 (pc' := 17) dX6_readCompared_16 rfl ?_
    refine g_bipush (pc' := 19) (v := nI 61) dX6_readCompared_17 rfl (by decide) ?_
    refine g_icmpeq (pc' := 22) (tgt := 28) dX6_readCompared_19 (by decide) rfl (fun h19 => absurd h19 (show ¬ (-1 : Int32) = nI 61 by decide)) (fun h19 => ?_)
    refine g_ild2 (pc' := 23) dX6_readCompared_22 rfl ?_
    refine g_bipush (pc' := 25) (v := nI 62) dX6_readCompared_23 rfl (by decide) ?_
    refine g_icmpne (pc' := 28) (tgt := 72) dX6_readCompared_25 (by decide) rfl (fun h25 => ?_) (fun h25 => absurd h25 (show ¬ (-1 : Int32) = nI 62 by decide))
    refine g_vret rfl dX6_readCompared_72 ?_
    exact eV ⟨by unfold cCmp; simp only [hnx]; exact hq1.1, hq1.2⟩
  | some b =>
    have hlt : (cSum B len one s).1 < len := by
      unfold nxt at hnx
      by_cases q : (cSum B len one s).1 < len
      · exact q
      · rw [if_neg q] at hnx; cases hnx
    have hb : b < 256 := by
      unfold nxt at hnx
      rw [if_pos hlt] at hnx
      cases hnx
      exact t2 _ hlt
    refine g_ist2 (pc' := 10) rfl (by decide) dX6_readCompared_9 rfl ?_
    refine g_ild2 (pc' := 11) dX6_readCompared_10 rfl ?_
    refine g_bipush (pc' := 13) (v := nI 60) dX6_readCompared_11 rfl (by decide) ?_
    refine g_icmpeqN (pc' := 16) (by omega) (by omega) (tgt := 28) dX6_readCompared_13 (by decide) rfl (fun h13 => ?_) (fun h13 => ?_)
    · refine g_ald0 (pc' := 29) dX6_readCompared_28 rfl ?_
      refine g_dupR (pc' := 30) dX6_readCompared_29 rfl ?_
      refine g_getI (pc' := 33) tg.s3 (by decide) fX6_23 t6 dX6_readCompared_30 rfl ?_
      refine g_iconst (pc' := 34) (v := nI 1) dX6_readCompared_33 rfl (by decide) ?_
      refine g_iaddN (pc' := 35) dX6_readCompared_34 rfl ?_
      refine g_putI (pc' := 38) tg.s3 (by decide) ⟨fX6_23, rfl, pI⟩ dX6_readCompared_35 rfl ?_
      refine g_ald0 (pc' := 39) dX6_readCompared_38 rfl ?_
      refine g_ild1 (pc' := 40) dX6_readCompared_39 rfl ?_
      refine g_callV (pc' := 43) (hsub _ _ (hq1.1.adv hlt) (fun hf => Nat.le_succ_of_le (hg1 hf))) tg.s3 (by decide) wX6_readSum lX6_61 rfl rfl (Nat.le_of_ble_eq_true rfl) (rOk (by omega) (by decide)) ⟨Nat.le_of_ble_eq_true rfl, Nat.le_of_ble_eq_true rfl⟩ dX6_readCompared_40 rfl (kV (fun J2 hq2 => ?_))
      refine g_ald0 (pc' := 44) dX6_readCompared_43 rfl ?_
      refine g_ild2 (pc' := 45) dX6_readCompared_44 rfl ?_
      refine g_bipush (pc' := 47) (v := nI 60) dX6_readCompared_45 rfl (by decide) ?_
      refine g_icmpneN (pc' := 50) (by omega) (by omega) (tgt := 55) dX6_readCompared_47 (by decide) rfl (fun h47 => ?_) (fun h47 => ?_)
      · refine g_ild2 (pc' := 56) dX6_readCompared_55 rfl ?_
        refine g_bipush (pc' := 58) (v := nI 61) dX6_readCompared_56 rfl (by decide) ?_
        refine g_icmpneN (pc' := 61) (by omega) (by omega) (tgt := 66) dX6_readCompared_58 (by decide) rfl (fun h58 => ?_) (fun h58 => ?_)
        · refine g_bipush (pc' := 68) (v := nI 10) dX6_readCompared_66 rfl (by decide) ?_
          refine g_iconst (pc' := 69) (v := nI 0) dX6_readCompared_68 rfl (by decide) ?_
          first
          | (exfalso; omega)
          | (have hop : opC b = some 10 := by unfold opC; simp [*]
             have hrm := (hn1.sum (B := B)).room t1 hlt hg1 10
             refine g_callV (pc' := 72) (c_tMark l tg hq2.1 (m := 10) (x := 0) (by decide) (by decide) hrm.1) tg.s3 (by decide) wX6_mark lX6_51 rfl rfl (Nat.le_of_ble_eq_true rfl) (rOk (by omega) (by decide)) ⟨Nat.le_of_ble_eq_true rfl, Nat.le_of_ble_eq_true rfl⟩ dX6_readCompared_69 rfl (kV (fun J3 hq3 => ?_))
             refine g_vret rfl dX6_readCompared_72 ?_
             exact eV ⟨by unfold cCmp; simp only [hnx, hop]; exact hq3.1, ((hq1.2.tr fr_adv).tr hq2.2).tr hq3.2⟩)
        · refine g_bipush (pc' := 63) (v := nI 9) dX6_readCompared_61 rfl (by decide) ?_
          refine g_goto (tgt := 68) dX6_readCompared_63 (by decide) ?_
          refine g_iconst (pc' := 69) (v := nI 0) dX6_readCompared_68 rfl (by decide) ?_
          first
          | (exfalso; omega)
          | (have hop : opC b = some 9 := by unfold opC; simp [*]
             have hrm := (hn1.sum (B := B)).room t1 hlt hg1 9
             refine g_callV (pc' := 72) (c_tMark l tg hq2.1 (m := 9) (x := 0) (by decide) (by decide) hrm.1) tg.s3 (by decide) wX6_mark lX6_51 rfl rfl (Nat.le_of_ble_eq_true rfl) (rOk (by omega) (by decide)) ⟨Nat.le_of_ble_eq_true rfl, Nat.le_of_ble_eq_true rfl⟩ dX6_readCompared_69 rfl (kV (fun J3 hq3 => ?_))
             refine g_vret rfl dX6_readCompared_72 ?_
             exact eV ⟨by unfold cCmp; simp only [hnx, hop]; exact hq3.1, ((hq1.2.tr fr_adv).tr hq2.2).tr hq3.2⟩)
      · refine g_bipush (pc' := 52) (v := nI 8) dX6_readCompared_50 rfl (by decide) ?_
        refine g_goto (tgt := 68) dX6_readCompared_52 (by decide) ?_
        refine g_iconst (pc' := 69) (v := nI 0) dX6_readCompared_68 rfl (by decide) ?_
        first
        | (exfalso; omega)
        | (have hop : opC b = some 8 := by unfold opC; simp [*]
           have hrm := (hn1.sum (B := B)).room t1 hlt hg1 8
           refine g_callV (pc' := 72) (c_tMark l tg hq2.1 (m := 8) (x := 0) (by decide) (by decide) hrm.1) tg.s3 (by decide) wX6_mark lX6_51 rfl rfl (Nat.le_of_ble_eq_true rfl) (rOk (by omega) (by decide)) ⟨Nat.le_of_ble_eq_true rfl, Nat.le_of_ble_eq_true rfl⟩ dX6_readCompared_69 rfl (kV (fun J3 hq3 => ?_))
           refine g_vret rfl dX6_readCompared_72 ?_
           exact eV ⟨by unfold cCmp; simp only [hnx, hop]; exact hq3.1, ((hq1.2.tr fr_adv).tr hq2.2).tr hq3.2⟩)
    · refine g_ild2 (pc' := 17) dX6_readCompared_16 rfl ?_
      refine g_bipush (pc' := 19) (v := nI 61) dX6_readCompared_17 rfl (by decide) ?_
      refine g_icmpeqN (pc' := 22) (by omega) (by omega) (tgt := 28) dX6_readCompared_19 (by decide) rfl (fun h19 => ?_) (fun h19 => ?_)
      · refine g_ald0 (pc' := 29) dX6_readCompared_28 rfl ?_
        refine g_dupR (pc' := 30) dX6_readCompared_29 rfl ?_
        refine g_getI (pc' := 33) tg.s3 (by decide) fX6_23 t6 dX6_readCompared_30 rfl ?_
        refine g_iconst (pc' := 34) (v := nI 1) dX6_readCompared_33 rfl (by decide) ?_
        refine g_iaddN (pc' := 35) dX6_readCompared_34 rfl ?_
        refine g_putI (pc' := 38) tg.s3 (by decide) ⟨fX6_23, rfl, pI⟩ dX6_readCompared_35 rfl ?_
        refine g_ald0 (pc' := 39) dX6_readCompared_38 rfl ?_
        refine g_ild1 (pc' := 40) dX6_readCompared_39 rfl ?_
        refine g_callV (pc' := 43) (hsub _ _ (hq1.1.adv hlt) (fun hf => Nat.le_succ_of_le (hg1 hf))) tg.s3 (by decide) wX6_readSum lX6_61 rfl rfl (Nat.le_of_ble_eq_true rfl) (rOk (by omega) (by decide)) ⟨Nat.le_of_ble_eq_true rfl, Nat.le_of_ble_eq_true rfl⟩ dX6_readCompared_40 rfl (kV (fun J2 hq2 => ?_))
        refine g_ald0 (pc' := 44) dX6_readCompared_43 rfl ?_
        refine g_ild2 (pc' := 45) dX6_readCompared_44 rfl ?_
        refine g_bipush (pc' := 47) (v := nI 60) dX6_readCompared_45 rfl (by decide) ?_
        refine g_icmpneN (pc' := 50) (by omega) (by omega) (tgt := 55) dX6_readCompared_47 (by decide) rfl (fun h47 => ?_) (fun h47 => ?_)
        · refine g_ild2 (pc' := 56) dX6_readCompared_55 rfl ?_
          refine g_bipush (pc' := 58) (v := nI 61) dX6_readCompared_56 rfl (by decide) ?_
          refine g_icmpneN (pc' := 61) (by omega) (by omega) (tgt := 66) dX6_readCompared_58 (by decide) rfl (fun h58 => ?_) (fun h58 => ?_)
          · refine g_bipush (pc' := 68) (v := nI 10) dX6_readCompared_66 rfl (by decide) ?_
            refine g_iconst (pc' := 69) (v := nI 0) dX6_readCompared_68 rfl (by decide) ?_
            first
            | (exfalso; omega)
            | (have hop : opC b = some 10 := by unfold opC; simp [*]
               have hrm := (hn1.sum (B := B)).room t1 hlt hg1 10
               refine g_callV (pc' := 72) (c_tMark l tg hq2.1 (m := 10) (x := 0) (by decide) (by decide) hrm.1) tg.s3 (by decide) wX6_mark lX6_51 rfl rfl (Nat.le_of_ble_eq_true rfl) (rOk (by omega) (by decide)) ⟨Nat.le_of_ble_eq_true rfl, Nat.le_of_ble_eq_true rfl⟩ dX6_readCompared_69 rfl (kV (fun J3 hq3 => ?_))
               refine g_vret rfl dX6_readCompared_72 ?_
               exact eV ⟨by unfold cCmp; simp only [hnx, hop]; exact hq3.1, ((hq1.2.tr fr_adv).tr hq2.2).tr hq3.2⟩)
          · refine g_bipush (pc' := 63) (v := nI 9) dX6_readCompared_61 rfl (by decide) ?_
            refine g_goto (tgt := 68) dX6_readCompared_63 (by decide) ?_
            refine g_iconst (pc' := 69) (v := nI 0) dX6_readCompared_68 rfl (by decide) ?_
            first
            | (exfalso; omega)
            | (have hop : opC b = some 9 := by unfold opC; simp [*]
               have hrm := (hn1.sum (B := B)).room t1 hlt hg1 9
               refine g_callV (pc' := 72) (c_tMark l tg hq2.1 (m := 9) (x := 0) (by decide) (by decide) hrm.1) tg.s3 (by decide) wX6_mark lX6_51 rfl rfl (Nat.le_of_ble_eq_true rfl) (rOk (by omega) (by decide)) ⟨Nat.le_of_ble_eq_true rfl, Nat.le_of_ble_eq_true rfl⟩ dX6_readCompared_69 rfl (kV (fun J3 hq3 => ?_))
               refine g_vret rfl dX6_readCompared_72 ?_
               exact eV ⟨by unfold cCmp; simp only [hnx, hop]; exact hq3.1, ((hq1.2.tr fr_adv).tr hq2.2).tr hq3.2⟩)
        · refine g_bipush (pc' := 52) (v := nI 8) dX6_readCompared_50 rfl (by decide) ?_
          refine g_goto (tgt := 68) dX6_readCompared_52 (by decide) ?_
          refine g_iconst (pc' := 69) (v := nI 0) dX6_readCompared_68 rfl (by decide) ?_
          first
          | (exfalso; omega)
          | (have hop : opC b = some 8 := by unfold opC; simp [*]
             have hrm := (hn1.sum (B := B)).room t1 hlt hg1 8
             refine g_callV (pc' := 72) (c_tMark l tg hq2.1 (m := 8) (x := 0) (by decide) (by decide) hrm.1) tg.s3 (by decide) wX6_mark lX6_51 rfl rfl (Nat.le_of_ble_eq_true rfl) (rOk (by omega) (by decide)) ⟨Nat.le_of_ble_eq_true rfl, Nat.le_of_ble_eq_true rfl⟩ dX6_readCompared_69 rfl (kV (fun J3 hq3 => ?_))
             refine g_vret rfl dX6_readCompared_72 ?_
             exact eV ⟨by unfold cCmp; simp only [hnx, hop]; exact hq3.1, ((hq1.2.tr fr_adv).tr hq2.2).tr hq3.2⟩)
      · refine g_ild2 (pc' := 23) dX6_readCompared_22 rfl ?_
        refine g_bipush (pc' := 25) (v := nI 62) dX6_readCompared_23 rfl (by decide) ?_
        refine g_icmpneN (pc' := 28) (by omega) (by omega) (tgt := 72) dX6_readCompared_25 (by decide) rfl (fun h25 => ?_) (fun h25 => ?_)
        · refine g_vret rfl dX6_readCompared_72 ?_
          exact eV ⟨by unfold cCmp; simp only [hnx, show opC b = none by unfold opC; simp [*]]; exact hq1.1, hq1.2⟩
        · refine g_ald0 (pc' := 29) dX6_readCompared_28 rfl ?_
          refine g_dupR (pc' := 30) dX6_readCompared_29 rfl ?_
          refine g_getI (pc' := 33) tg.s3 (by decide) fX6_23 t6 dX6_readCompared_30 rfl ?_
          refine g_iconst (pc' := 34) (v := nI 1) dX6_readCompared_33 rfl (by decide) ?_
          refine g_iaddN (pc' := 35) dX6_readCompared_34 rfl ?_
          refine g_putI (pc' := 38) tg.s3 (by decide) ⟨fX6_23, rfl, pI⟩ dX6_readCompared_35 rfl ?_
          refine g_ald0 (pc' := 39) dX6_readCompared_38 rfl ?_
          refine g_ild1 (pc' := 40) dX6_readCompared_39 rfl ?_
          refine g_callV (pc' := 43) (hsub _ _ (hq1.1.adv hlt) (fun hf => Nat.le_succ_of_le (hg1 hf))) tg.s3 (by decide) wX6_readSum lX6_61 rfl rfl (Nat.le_of_ble_eq_true rfl) (rOk (by omega) (by decide)) ⟨Nat.le_of_ble_eq_true rfl, Nat.le_of_ble_eq_true rfl⟩ dX6_readCompared_40 rfl (kV (fun J2 hq2 => ?_))
          refine g_ald0 (pc' := 44) dX6_readCompared_43 rfl ?_
          refine g_ild2 (pc' := 45) dX6_readCompared_44 rfl ?_
          refine g_bipush (pc' := 47) (v := nI 60) dX6_readCompared_45 rfl (by decide) ?_
          refine g_icmpneN (pc' := 50) (by omega) (by omega) (tgt := 55) dX6_readCompared_47 (by decide) rfl (fun h47 => ?_) (fun h47 => ?_)
          · refine g_ild2 (pc' := 56) dX6_readCompared_55 rfl ?_
            refine g_bipush (pc' := 58) (v := nI 61) dX6_readCompared_56 rfl (by decide) ?_
            refine g_icmpneN (pc' := 61) (by omega) (by omega) (tgt := 66) dX6_readCompared_58 (by decide) rfl (fun h58 => ?_) (fun h58 => ?_)
            · refine g_bipush (pc' := 68) (v := nI 10) dX6_readCompared_66 rfl (by decide) ?_
              refine g_iconst (pc' := 69) (v := nI 0) dX6_readCompared_68 rfl (by decide) ?_
              first
              | (exfalso; omega)
              | (have hop : opC b = some 10 := by unfold opC; simp [*]
                 have hrm := (hn1.sum (B := B)).room t1 hlt hg1 10
                 refine g_callV (pc' := 72) (c_tMark l tg hq2.1 (m := 10) (x := 0) (by decide) (by decide) hrm.1) tg.s3 (by decide) wX6_mark lX6_51 rfl rfl (Nat.le_of_ble_eq_true rfl) (rOk (by omega) (by decide)) ⟨Nat.le_of_ble_eq_true rfl, Nat.le_of_ble_eq_true rfl⟩ dX6_readCompared_69 rfl (kV (fun J3 hq3 => ?_))
                 refine g_vret rfl dX6_readCompared_72 ?_
                 exact eV ⟨by unfold cCmp; simp only [hnx, hop]; exact hq3.1, ((hq1.2.tr fr_adv).tr hq2.2).tr hq3.2⟩)
            · refine g_bipush (pc' := 63) (v := nI 9) dX6_readCompared_61 rfl (by decide) ?_
              refine g_goto (tgt := 68) dX6_readCompared_63 (by decide) ?_
              refine g_iconst (pc' := 69) (v := nI 0) dX6_readCompared_68 rfl (by decide) ?_
              first
              | (exfalso; omega)
              | (have hop : opC b = some 9 := by unfold opC; simp [*]
                 have hrm := (hn1.sum (B := B)).room t1 hlt hg1 9
                 refine g_callV (pc' := 72) (c_tMark l tg hq2.1 (m := 9) (x := 0) (by decide) (by decide) hrm.1) tg.s3 (by decide) wX6_mark lX6_51 rfl rfl (Nat.le_of_ble_eq_true rfl) (rOk (by omega) (by decide)) ⟨Nat.le_of_ble_eq_true rfl, Nat.le_of_ble_eq_true rfl⟩ dX6_readCompared_69 rfl (kV (fun J3 hq3 => ?_))
                 refine g_vret rfl dX6_readCompared_72 ?_
                 exact eV ⟨by unfold cCmp; simp only [hnx, hop]; exact hq3.1, ((hq1.2.tr fr_adv).tr hq2.2).tr hq3.2⟩)
          · refine g_bipush (pc' := 52) (v := nI 8) dX6_readCompared_50 rfl (by decide) ?_
            refine g_goto (tgt := 68) dX6_readCompared_52 (by decide) ?_
            refine g_iconst (pc' := 69) (v := nI 0) dX6_readCompared_68 rfl (by decide) ?_
            first
            | (exfalso; omega)
            | (have hop : opC b = some 8 := by unfold opC; simp [*]
               have hrm := (hn1.sum (B := B)).room t1 hlt hg1 8
               refine g_callV (pc' := 72) (c_tMark l tg hq2.1 (m := 8) (x := 0) (by decide) (by decide) hrm.1) tg.s3 (by decide) wX6_mark lX6_51 rfl rfl (Nat.le_of_ble_eq_true rfl) (rOk (by omega) (by decide)) ⟨Nat.le_of_ble_eq_true rfl, Nat.le_of_ble_eq_true rfl⟩ dX6_readCompared_69 rfl (kV (fun J3 hq3 => ?_))
               refine g_vret rfl dX6_readCompared_72 ?_
               exact eV ⟨by unfold cCmp; simp only [hnx, hop]; exact hq3.1, ((hq1.2.tr fr_adv).tr hq2.2).tr hq3.2⟩)

theorem rz_readAll {l : Launch} {S : Shp} {L : ML} {R : MR} (tg : TG S R) {B : Nat → Nat} {len dp o : Nat} {one : PS → PS} (hn1 : Nice len one) (hsub : Rz l S L R B len mX6_readCompared dp o (cCmp B len one)) (hdp : 3 ≤ dp) : Rz l S L R B len mX6_readAll (dp + 1) o (cAll B len one) := by
  intro I s h hg
  have hn : Nice len (cCmp B len one) := hn1.cmp
  have hs0 := h.2.2.2.2.1.1
  refine Ct.of [some (.inr (.inr (some (3, 0)))), some (.inl (nI o))] (by decide) rfl (Nat.le_of_ble_eq_true rfl) ?_
  refine g_ald0 (pc' := 1) dX6_readAll_0 rfl ?_
  refine g_ild1 (pc' := 2) dX6_readAll_1 rfl ?_
  refine g_callV (pc' := 5) (hsub I s h hg) tg.s3 (by decide) wX6_readCompared lX6_58 rfl rfl (Nat.le_of_ble_eq_true rfl) (rOk (by omega) (by decide)) ⟨Nat.le_of_ble_eq_true rfl, Nat.le_of_ble_eq_true rfl⟩ dX6_readAll_2 rfl (kV (fun J1 hq1 => ?_))
  refine g_loopD (σ := PS × MI) (fun f q => TR B len q.2 q.1 ∧ Fr tpP I q.2 ∧ gd q.1 ∧ len - q.1.1 < f ∧ lpR B len opA (cCmp B len one) f q.1 = cAll B len one s) (fun f s => [some (.inr (.inr (some (3, 0)))), some (.inl (nI o))]) (fun f s => s.2) 121 (cCmp B len one s, J1) ⟨hq1.1, hq1.2, hn.keep hs0 hg, by have := hq1.1.1; omega, rfl⟩ ?_
  intro f s2 hQ ihD
  obtain ⟨⟨a, fl, out⟩, J⟩ := s2
  simp only at hQ
  obtain ⟨t1, t2, t3, t4, ⟨t5, t5b⟩, t6, t7, t8⟩ := id hQ.1
  simp only at t5 t6 t7
  cases f with
  | zero => exact absurd hQ.2.2.2.1 (by omega)
  | succ f =>
    have hmeas := hQ.2.2.2.1
    have hBa : B a < 256 ∨ len ≤ a := (Nat.lt_or_ge a len).imp (t2 a) id
    refine g_ald0 (pc' := 6) dX6_readAll_5 rfl ?_
    refine g_getI (pc' := 9) tg.s3 (by decide) fX6_23 t6 dX6_readAll_6 rfl ?_
    refine g_ald0 (pc' := 10) dX6_readAll_9 rfl ?_
    refine g_getI (pc' := 13) tg.s3 (by decide) fX6_16 t3 dX6_readAll_10 rfl ?_
    refine g_icmpgeN (pc' := 16) (by omega) (by omega) (tgt := 55) dX6_readAll_13 (by decide) rfl (fun h13 => ?_) (fun h13 => ?_)
    · refine g_vret rfl dX6_readAll_55 ?_
      have e := lpR_out (B := B) (len := len) (op := opA) (sub := cCmp B len one) (f := f + 1) (s := (a, fl, out)) (by first | exact Or.inl (show ¬ a < len by omega) | exact Or.inr (by unfold opA; simp [*]))
      exact eV ⟨by rw [← hQ.2.2.2.2, e]; exact hQ.1, hQ.2.1⟩
    · refine g_ald0 (pc' := 17) dX6_readAll_16 rfl ?_
      refine g_getR (pc' := 20) tg.s3 (by decide) fX6_9 tg.r3_0 dX6_readAll_17 rfl ?_
      refine g_ald0 (pc' := 21) dX6_readAll_20 rfl ?_
      refine g_getI (pc' := 24) tg.s3 (by decide) fX6_23 t6 dX6_readAll_21 rfl ?_
      refine g_iald (pc' := 25) (j := a) tg.s4 rfl (by omega) (by decide) (v := nI (B a)) (t4 a (by omega)) dX6_readAll_24 rfl ?_
      refine g_bipush (pc' := 27) (v := nI 38) dX6_readAll_25 rfl (by decide) ?_
      refine g_icmpneN (pc' := 30) (by omega) (by omega) (tgt := 55) dX6_readAll_27 (by decide) rfl (fun h27 => ?_) (fun h27 => ?_)
      · refine g_vret rfl dX6_readAll_55 ?_
        have e := lpR_out (B := B) (len := len) (op := opA) (sub := cCmp B len one) (f := f + 1) (s := (a, fl, out)) (by first | exact Or.inl (show ¬ a < len by omega) | exact Or.inr (by unfold opA; simp [*]))
        exact eV ⟨by rw [← hQ.2.2.2.2, e]; exact hQ.1, hQ.2.1⟩
      · refine g_ald0 (pc' := 31) dX6_readAll_30 rfl ?_
        refine g_dupR (pc' := 32) dX6_readAll_31 rfl ?_
        refine g_getI (pc' := 35) tg.s3 (by decide) fX6_23 t6 dX6_readAll_32 rfl ?_
        refine g_iconst (pc' := 36) (v := nI 1) dX6_readAll_35 rfl (by decide) ?_
        refine g_iaddN (pc' := 37) dX6_readAll_36 rfl ?_
        refine g_putI (pc' := 40) tg.s3 (by decide) ⟨fX6_23, rfl, pI⟩ dX6_readAll_37 rfl ?_
        refine g_ald0 (pc' := 41) dX6_readAll_40 rfl ?_
        refine g_ild1 (pc' := 42) dX6_readAll_41 rfl ?_
        refine g_callV (pc' := 45) (hsub _ _ (hQ.1.adv (show a < len by omega)) (fun hf => Nat.le_succ_of_le (hQ.2.2.1 hf))) tg.s3 (by decide) wX6_readCompared lX6_58 rfl rfl (Nat.le_of_ble_eq_true rfl) (rOk (by omega) (by decide)) ⟨Nat.le_of_ble_eq_true rfl, Nat.le_of_ble_eq_true rfl⟩ dX6_readAll_42 rfl (kV (fun J2 hq2 => ?_))
        refine g_ald0 (pc' := 46) dX6_readAll_45 rfl ?_
        refine g_bipush (pc' := 48) (v := nI 7) dX6_readAll_46 rfl (by decide) ?_
        refine g_iconst (pc' := 49) (v := nI 0) dX6_readAll_48 rfl (by decide) ?_
        first
        | (exfalso; omega)
        | (have hop : opA (B a) = some 7 := by unfold opA; simp [*]
           have hrm := hn.room t1 (s := (a, fl, out)) (show a < len by omega) hQ.2.2.1 7
           refine g_callV (pc' := 52) (c_tMark l tg hq2.1 (m := 7) (x := 0) (by decide) (by decide) hrm.1) tg.s3 (by decide) wX6_mark lX6_51 rfl rfl (Nat.le_of_ble_eq_true rfl) (rOk (by omega) (by decide)) ⟨Nat.le_of_ble_eq_true rfl, Nat.le_of_ble_eq_true rfl⟩ dX6_readAll_49 rfl (kV (fun J3 hq3 => ?_))
           refine g_goto (tgt := 5) dX6_readAll_52 (by decide) ?_
           refine G.lsub [some (.inr (.inr (some (3, 0)))), some (.inl (nI o))] (by intro j v; rcases j with _ | _ | _ | _ | j <;> simp) ?_
           exact ihD f (psMk 7 0 (cCmp B len one (psAdv (a, fl, out))), J3) (by omega) ⟨hq3.1, ((hQ.2.1.tr fr_adv).tr hq2.2).tr hq3.2, hrm.2, by have := (hn (psAdv (a, fl, out)) (show a + 1 ≤ len by omega)).1; exact Nat.lt_of_lt_of_le (Nat.sub_lt_sub_left (show a < len by omega) (Nat.lt_of_lt_of_le (Nat.lt_succ_self a) this)) (by omega), (lpR_in (show a < len by omega) hop).symm.trans hQ.2.2.2.2⟩)

theorem rz_readAny {l : Launch} {S : Shp} {L : ML} {R : MR} (tg : TG S R) {B : Nat → Nat} {len dp o : Nat} {one : PS → PS} (hn1 : Nice len one) (hsub : Rz l S L R B len mX6_readAll dp o (cAll B len one)) (hdp : 3 ≤ dp) : Rz l S L R B len mX6_readAny (dp + 1) o (cAny B len one) := by
  intro I s h hg
  have hn : Nice len (cAll B len one) := hn1.all
  have hs0 := h.2.2.2.2.1.1
  refine Ct.of [some (.inr (.inr (some (3, 0)))), some (.inl (nI o))] (by decide) rfl (Nat.le_of_ble_eq_true rfl) ?_
  refine g_ald0 (pc' := 1) dX6_readAny_0 rfl ?_
  refine g_ild1 (pc' := 2) dX6_readAny_1 rfl ?_
  refine g_callV (pc' := 5) (hsub I s h hg) tg.s3 (by decide) wX6_readAll lX6_55 rfl rfl (Nat.le_of_ble_eq_true rfl) (rOk (by omega) (by decide)) ⟨Nat.le_of_ble_eq_true rfl, Nat.le_of_ble_eq_true rfl⟩ dX6_readAny_2 rfl (kV (fun J1 hq1 => ?_))
  refine g_loopD (σ := PS × MI) (fun f q => TR B len q.2 q.1 ∧ Fr tpP I q.2 ∧ gd q.1 ∧ len - q.1.1 < f ∧ lpR B len opO (cAll B len one) f q.1 = cAny B len one s) (fun f s => [some (.inr (.inr (some (3, 0)))), some (.inl (nI o))]) (fun f s => s.2) 121 (cAll B len one s, J1) ⟨hq1.1, hq1.2, hn.keep hs0 hg, by have := hq1.1.1; omega, rfl⟩ ?_
  intro f s2 hQ ihD
  obtain ⟨⟨a, fl, out⟩, J⟩ := s2
  simp only at hQ
  obtain ⟨t1, t2, t3, t4, ⟨t5, t5b⟩, t6, t7, t8⟩ := id hQ.1
  simp only at t5 t6 t7
  cases f with
  | zero => exact absurd hQ.2.2.2.1 (by omega)
  | succ f =>
    have hmeas := hQ.2.2.2.1
    have hBa : B a < 256 ∨ len ≤ a := (Nat.lt_or_ge a len).imp (t2 a) id
    refine g_ald0 (pc' := 6) dX6_readAny_5 rfl ?_
    refine g_getI (pc' := 9) tg.s3 (by decide) fX6_23 t6 dX6_readAny_6 rfl ?_
    refine g_ald0 (pc' := 10) dX6_readAny_9 rfl ?_
    refine g_getI (pc' := 13) tg.s3 (by decide) fX6_16 t3 dX6_readAny_10 rfl ?_
    refine g_icmpgeN (pc' := 16) (by omega) (by omega) (tgt := 55) dX6_readAny_13 (by decide) rfl (fun h13 => ?_) (fun h13 => ?_)
    · refine g_vret rfl dX6_readAny_55 ?_
      have e := lpR_out (B := B) (len := len) (op := opO) (sub := cAll B len one) (f := f + 1) (s := (a, fl, out)) (by first | exact Or.inl (show ¬ a < len by omega) | exact Or.inr (by unfold opO; simp [*]))
      exact eV ⟨by rw [← hQ.2.2.2.2, e]; exact hQ.1, hQ.2.1⟩
    · refine g_ald0 (pc' := 17) dX6_readAny_16 rfl ?_
      refine g_getR (pc' := 20) tg.s3 (by decide) fX6_9 tg.r3_0 dX6_readAny_17 rfl ?_
      refine g_ald0 (pc' := 21) dX6_readAny_20 rfl ?_
      refine g_getI (pc' := 24) tg.s3 (by decide) fX6_23 t6 dX6_readAny_21 rfl ?_
      refine g_iald (pc' := 25) (j := a) tg.s4 rfl (by omega) (by decide) (v := nI (B a)) (t4 a (by omega)) dX6_readAny_24 rfl ?_
      refine g_bipush (pc' := 27) (v := nI 124) dX6_readAny_25 rfl (by decide) ?_
      refine g_icmpneN (pc' := 30) (by omega) (by omega) (tgt := 55) dX6_readAny_27 (by decide) rfl (fun h27 => ?_) (fun h27 => ?_)
      · refine g_vret rfl dX6_readAny_55 ?_
        have e := lpR_out (B := B) (len := len) (op := opO) (sub := cAll B len one) (f := f + 1) (s := (a, fl, out)) (by first | exact Or.inl (show ¬ a < len by omega) | exact Or.inr (by unfold opO; simp [*]))
        exact eV ⟨by rw [← hQ.2.2.2.2, e]; exact hQ.1, hQ.2.1⟩
      · refine g_ald0 (pc' := 31) dX6_readAny_30 rfl ?_
        refine g_dupR (pc' := 32) dX6_readAny_31 rfl ?_
        refine g_getI (pc' := 35) tg.s3 (by decide) fX6_23 t6 dX6_readAny_32 rfl ?_
        refine g_iconst (pc' := 36) (v := nI 1) dX6_readAny_35 rfl (by decide) ?_
        refine g_iaddN (pc' := 37) dX6_readAny_36 rfl ?_
        refine g_putI (pc' := 40) tg.s3 (by decide) ⟨fX6_23, rfl, pI⟩ dX6_readAny_37 rfl ?_
        refine g_ald0 (pc' := 41) dX6_readAny_40 rfl ?_
        refine g_ild1 (pc' := 42) dX6_readAny_41 rfl ?_
        refine g_callV (pc' := 45) (hsub _ _ (hQ.1.adv (show a < len by omega)) (fun hf => Nat.le_succ_of_le (hQ.2.2.1 hf))) tg.s3 (by decide) wX6_readAll lX6_55 rfl rfl (Nat.le_of_ble_eq_true rfl) (rOk (by omega) (by decide)) ⟨Nat.le_of_ble_eq_true rfl, Nat.le_of_ble_eq_true rfl⟩ dX6_readAny_42 rfl (kV (fun J2 hq2 => ?_))
        refine g_ald0 (pc' := 46) dX6_readAny_45 rfl ?_
        refine g_bipush (pc' := 48) (v := nI 6) dX6_readAny_46 rfl (by decide) ?_
        refine g_iconst (pc' := 49) (v := nI 0) dX6_readAny_48 rfl (by decide) ?_
        first
        | (exfalso; omega)
        | (have hop : opO (B a) = some 6 := by unfold opO; simp [*]
           have hrm := hn.room t1 (s := (a, fl, out)) (show a < len by omega) hQ.2.2.1 6
           refine g_callV (pc' := 52) (c_tMark l tg hq2.1 (m := 6) (x := 0) (by decide) (by decide) hrm.1) tg.s3 (by decide) wX6_mark lX6_51 rfl rfl (Nat.le_of_ble_eq_true rfl) (rOk (by omega) (by decide)) ⟨Nat.le_of_ble_eq_true rfl, Nat.le_of_ble_eq_true rfl⟩ dX6_readAny_49 rfl (kV (fun J3 hq3 => ?_))
           refine g_goto (tgt := 5) dX6_readAny_52 (by decide) ?_
           refine G.lsub [some (.inr (.inr (some (3, 0)))), some (.inl (nI o))] (by intro j v; rcases j with _ | _ | _ | _ | j <;> simp) ?_
           exact ihD f (psMk 6 0 (cAll B len one (psAdv (a, fl, out))), J3) (by omega) ⟨hq3.1, ((hQ.2.1.tr fr_adv).tr hq2.2).tr hq3.2, hrm.2, by have := (hn (psAdv (a, fl, out)) (show a + 1 ≤ len by omega)).1; exact Nat.lt_of_lt_of_le (Nat.sub_lt_sub_left (show a < len by omega) (Nat.lt_of_lt_of_le (Nat.lt_succ_self a) this)) (by omega), (lpR_in (show a < len by omega) hop).symm.trans hQ.2.2.2.2⟩)
