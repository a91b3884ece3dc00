/-! TEXT: what a program of marks is worth -/
theorem Nice.run0 {len : Nat} {f : PS → PS} (h : Nice len f) {s : PS} (hs : s.1 ≤ len) (hf : (f s).2.1 = none) : s.2.1 = none := ((h s hs).2.2 hf).1
def stepL (seen : Nat → Int32) (p : Nat × Nat) (st : List Int32) : Option (List Int32) := if 62 ≤ st.length then none else
  match p.1, st with
  | 0, st => some (nI p.2 :: st)
  | 1, st => some (seen p.2 :: st)
  | 2, t :: r => some ((if t = 0 then nI 1 else nI 0) :: r)
  | 3, t :: r => some (-t :: r)
  | 4, _ => none
  | 5, _ => none
  | m + 6, b :: a :: r => some (joinI (m + 6) a b :: r)
  | _, _ => none
def runL (seen : Nat → Int32) : List (Nat × Nat) → List Int32 → Option (List Int32)
  | [], st => some st
  | p :: r, st => (stepL seen p st).bind (runL seen r)
theorem runL_app (seen : Nat → Int32) : ∀ (a b : List (Nat × Nat)) (st : List Int32), runL seen (a ++ b) st = (runL seen a st).bind (runL seen b)
  | [], b, st => rfl
  | p :: r, b, st => by
    show (stepL seen p st).bind (runL seen (r ++ b)) = ((stepL seen p st).bind (runL seen r)).bind (runL seen b)
    cases h : stepL seen p st with
    | none => rfl
    | some st' => exact runL_app seen r b st'
/-- one mark that isn't a jump -/
theorem wR_step {seen : Nat → Int32} {cd : Nat → Nat × Nat} {len f a : Nat} {st st' : List Int32} (ha : a < len) (h : stepL seen (cd a) st = some st') : wR seen cd len (f + 1) a st = wR seen cd len f (a + 1) st' := by
  have hl : ¬ len ≤ a := by omega
  unfold stepL at h
  by_cases h6 : 62 ≤ st.length
  · rw [if_pos h6] at h; cases h
  · rw [if_neg h6] at h
    simp only [wR]
    rw [if_neg hl, if_neg h6]
    generalize cd a = c at *
    obtain ⟨q, x⟩ := c
    simp only at h ⊢
    revert h
    match q, st with
    | 0, st => intro h; simp only [Option.some.injEq] at h; subst h; rfl
    | 1, st => intro h; simp only [Option.some.injEq] at h; subst h; rfl
    | 2, t :: r => intro h; simp only [Option.some.injEq] at h; subst h; rfl
    | 2, [] => intro h; cases h
    | 3, t :: r => intro h; simp only [Option.some.injEq] at h; subst h; rfl
    | 3, [] => intro h; cases h
    | 4, t :: r => intro h; cases h
    | 4, [] => intro h; cases h
    | 5, t :: r => intro h; cases h
    | 5, [] => intro h; cases h
    | m + 6, b :: a' :: r => intro h; simp only [Option.some.injEq] at h; subst h; rfl
    | m + 6, [b] => intro h; cases h
    | m + 6, [] => intro h; cases h
theorem wR_seg {seen : Nat → Int32} {cd : Nat → Nat × Nat} {len : Nat} : ∀ (ms : List (Nat × Nat)) (a f : Nat) (st st' : List Int32), (∀ i, i < ms.length → cd (a + i) = ms.getD i (0, 0)) → a + ms.length ≤ len → runL seen ms st = some st' → wR seen cd len (f + ms.length) a st = wR seen cd len f (a + ms.length) st'
  | [], a, f, st, st', _, _, h => by
    simp only [runL, Option.some.injEq] at h
    subst h
    rfl
  | p :: r, a, f, st, st', hc, hl, h => by
    simp only [List.length_cons] at hl
    have h0 : cd a = p := hc 0 (by simp)
    cases h1 : stepL seen p st with
    | none => rw [runL, h1] at h; cases h
    | some st1 =>
      rw [runL, h1] at h
      have h2 : runL seen r st1 = some st' := h
      rw [List.length_cons, show f + (r.length + 1) = (f + r.length) + 1 by omega, wR_step (by omega) (by rw [h0]; exact h1)]
      rw [wR_seg r (a + 1) f st1 st' (fun i hi => by rw [show a + 1 + i = a + (i + 1) by omega, hc (i + 1) (by simp; omega)]; rfl) (by omega) h2]
      rw [show a + 1 + r.length = a + (r.length + 1) by omega]
def wfM (p : Nat × Nat) : Prop := p.1 < 16 ∧ p.2 < 10000 ∧ (p.1 = 1 → p.2 < 7) ∧ ¬ p.1 = 4
theorem wfJ {m : Nat} (h : 6 ≤ m ∧ m < 16) : wfM (m, 0) := ⟨h.2, (show 0 < 10000 by decide), fun q => absurd (show m = 1 from q) (by omega), fun q => absurd (show m = 4 from q) (by omega)⟩
theorem wf0 {x : Nat} (h : x < 10000) : wfM (0, x) := ⟨(show 0 < 16 by decide), h, fun q => absurd (show 0 = 1 from q) (by decide), fun q => absurd (show 0 = 4 from q) (by decide)⟩
theorem wf1 {x : Nat} (h : x < 7) : wfM (1, x) := ⟨(show 1 < 16 by decide), (show x < 10000 by omega), fun _ => h, fun q => absurd (show 1 = 4 from q) (by decide)⟩
theorem wf2 : wfM (2, 0) ∧ wfM (3, 0) ∧ wfM (5, 0) := by unfold wfM; decide
/-- f writes a program that pushes what fv says -/
def CG (len K : Nat) (f : PS → PS) (fv : (Nat → Int32) → PS → Int32) : Prop := ∀ s : PS, s.1 ≤ len → (f s).2.1 = none → ∃ ms, (f s).2.2 = s.2.2 ++ ms ∧ (∀ p, p ∈ ms → wfM p) ∧ ∀ seen st, st.length + K ≤ 62 → runL seen ms st = some (fv seen s :: st)
theorem CG.mono {len K K' : Nat} {f : PS → PS} {fv : (Nat → Int32) → PS → Int32} (h : CG len K f fv) (hk : K ≤ K') : CG len K' f fv := fun s hs hf => by
  obtain ⟨ms, h1, h2, h3⟩ := h s hs hf
  exact ⟨ms, h1, h2, fun seen st hl => h3 seen st (by omega)⟩
def lpV (B : Nat → Nat) (len : Nat) (op : Nat → Option Nat) (sub : PS → PS) (sv : PS → Int32) : Nat → PS → Int32 → Int32
  | 0, _, v => v
  | f + 1, s, v => if s.1 < len then (match op (B s.1) with | some m => lpV B len op sub sv f (psMk m 0 (sub (psAdv s))) (joinI m v (sv (psAdv s))) | none => v) else v
theorem stepL_join (seen : Nat → Int32) {m : Nat} (hm : 6 ≤ m) (v w : Int32) (st : List Int32) (hl : st.length + 2 < 62) : stepL seen (m, 0) (w :: v :: st) = some (joinI m v w :: st) := by
  obtain ⟨q, rfl⟩ : ∃ q, m = q + 6 := ⟨m - 6, by omega⟩
  unfold stepL
  rw [if_neg (by simp; omega)]
theorem CG.loop {B : Nat → Nat} {len K : Nat} {op : Nat → Option Nat} {sub : PS → PS} {sv : (Nat → Int32) → PS → Int32} (hn : Nice len sub) (hc : CG len K sub sv) (hK : 2 ≤ K) (hop : ∀ c m, op c = some m → 6 ≤ m ∧ m < 16) : ∀ (f : Nat) (s : PS), s.1 ≤ len → (lpR B len op sub f s).2.1 = none → ∃ ms, (lpR B len op sub f s).2.2 = s.2.2 ++ ms ∧ (∀ p, p ∈ ms → wfM p) ∧ ∀ seen st v, st.length + (K + 1) ≤ 62 → runL seen ms (v :: st) = some (lpV B len op sub (sv seen) f s v :: st)
  | 0, s, _, _ => ⟨[], by simp [lpR], by simp, fun seen st v _ => rfl⟩
  | f + 1, s, hs, hf => by
    by_cases hl : s.1 < len
    · cases ho : op (B s.1) with
      | none =>
        refine ⟨[], ?_, by simp, fun seen st v _ => ?_⟩
        · rw [lpR, if_pos hl, ho]; simp
        · rw [lpV, if_pos hl, ho]; rfl
      | some m =>
        have e : lpR B len op sub (f + 1) s = lpR B len op sub f (psMk m 0 (sub (psAdv s))) := by rw [lpR, if_pos hl, ho]
        rw [e] at hf ⊢
        have h1 := hn (psAdv s) hl
        have h2 : (psMk m 0 (sub (psAdv s))).1 ≤ len := h1.2.1
        have hf1 : (sub (psAdv s)).2.1 = none := (hn.loop (B := B) (op := op) f).run0 (s := psMk m 0 (sub (psAdv s))) h2 hf
        obtain ⟨ms1, a1, a2, a3⟩ := hc (psAdv s) hl hf1
        obtain ⟨ms2, b1, b2, b3⟩ := CG.loop hn hc hK hop f _ h2 hf
        have hm := hop _ _ ho
        refine ⟨ms1 ++ [(m, 0)] ++ ms2, ?_, ?_, fun seen st v hst => ?_⟩
        · rw [b1]
          show (sub (psAdv s)).2.2 ++ [(m, 0)] ++ ms2 = s.2.2 ++ (ms1 ++ [(m, 0)] ++ ms2)
          rw [a1]
          show s.2.2 ++ ms1 ++ [(m, 0)] ++ ms2 = _
          simp only [List.append_assoc]
        · intro p hp
          rcases List.mem_append.mp hp with hp | hp
          · rcases List.mem_append.mp hp with hp | hp
            · exact a2 p hp
            · rw [List.mem_singleton.mp hp]
              exact wfJ hm
          · exact b2 p hp
        · rw [runL_app, runL_app, a3 seen (v :: st) (by simp; omega)]
          show ((stepL seen (m, 0) (sv seen (psAdv s) :: v :: st)).bind (runL seen [])).bind (runL seen ms2) = _
          rw [stepL_join seen hm.1 _ _ _ (by omega)]
          show runL seen ms2 (joinI m v (sv seen (psAdv s)) :: st) = _
          rw [b3 seen st _ hst, lpV, if_pos hl, ho]
    · refine ⟨[], ?_, by simp, fun seen st v _ => ?_⟩
      · rw [lpR, if_neg hl]; simp
      · rw [lpV, if_neg hl]; rfl
theorem CG.chain {B : Nat → Nat} {len K : Nat} {op : Nat → Option Nat} {sub : PS → PS} {sv : (Nat → Int32) → PS → Int32} (hn : Nice len sub) (hc : CG len K sub sv) (hK : 2 ≤ K) (hop : ∀ c m, op c = some m → 6 ≤ m ∧ m < 16) : CG len (K + 1) (fun s => lpR B len op sub 121 (sub s)) (fun seen s => lpV B len op sub (sv seen) 121 (sub s) (sv seen s)) := fun s hs hf => by
  have h1 := hn s hs
  have hf1 : (sub s).2.1 = none := (hn.loop (B := B) (op := op) 121).run0 h1.2.1 hf
  obtain ⟨ms1, a1, a2, a3⟩ := hc s hs hf1
  obtain ⟨ms2, b1, b2, b3⟩ := CG.loop (B := B) hn hc hK hop 121 _ h1.2.1 hf
  refine ⟨ms1 ++ ms2, ?_, ?_, fun seen st hst => ?_⟩
  · show (lpR B len op sub 121 (sub s)).2.2 = _
    rw [b1, a1, List.append_assoc]
  · intro p hp
    rcases List.mem_append.mp hp with hp | hp
    · exact a2 p hp
    · exact b2 p hp
  · rw [runL_app, a3 seen st (by omega)]
    exact b3 seen st _ hst
def prodV (B : Nat → Nat) (len : Nat) (one : PS → PS) (ov : PS → Int32) (s : PS) : Int32 := lpV B len opP one ov 121 (one s) (ov s)
def sumV (B : Nat → Nat) (len : Nat) (one : PS → PS) (ov : PS → Int32) (s : PS) : Int32 := lpV B len opS (cProd B len one) (prodV B len one ov) 121 (cProd B len one s) (prodV B len one ov s)
def cmpV (B : Nat → Nat) (len : Nat) (one : PS → PS) (ov : PS → Int32) (s : PS) : Int32 :=
  match nxt B len (cSum B len one s).1 with
  | none => sumV B len one ov s
  | some c => match opC c with
    | some m => joinI m (sumV B len one ov s) (sumV B len one ov (psAdv (cSum B len one s)))
    | none => sumV B len one ov s
def allV (B : Nat → Nat) (len : Nat) (one : PS → PS) (ov : PS → Int32) (s : PS) : Int32 := lpV B len opA (cCmp B len one) (cmpV B len one ov) 121 (cCmp B len one s) (cmpV B len one ov s)
def anyV (B : Nat → Nat) (len : Nat) (one : PS → PS) (ov : PS → Int32) (s : PS) : Int32 := lpV B len opO (cAll B len one) (allV B len one ov) 121 (cAll B len one s) (allV B len one ov s)
def openV (B : Nat → Nat) (len : Nat) (one : PS → PS) (ov : PS → Int32) (c : Nat) (s : PS) : Int32 :=
  if c = 40 then anyV B len one ov s else if c = 33 then (if ov s = 0 then nI 1 else nI 0) else -(ov s)
def stepV (B : Nat → Nat) (len : Nat) (opn : Nat → PS → Int32) (seen : Nat → Int32) (s : PS) : Int32 :=
  match nxt B len s.1 with
  | none => nI 0
  | some c => if 48 ≤ c ∧ c ≤ 57 then nI (digs B len 4 0 s.1).1 else match nameC c with
    | some q => seen q
    | none => if c = 40 ∨ c = 33 ∨ c = 45 then opn c s else nI 0
def oneV (B : Nat → Nat) (len : Nat) : Nat → (Nat → Int32) → PS → Int32
  | 0, seen => stepV B len (fun _ _ => nI 0) seen
  | d + 1, seen => stepV B len (fun c s => openV B len (cOne B len d) (oneV B len d seen) c (psAdv s)) seen
theorem CG.prod {B : Nat → Nat} {len K : Nat} {one : PS → PS} {ov : (Nat → Int32) → PS → Int32} (hn : Nice len one) (h : CG len K one ov) (hK : 2 ≤ K) : CG len (K + 1) (cProd B len one) (fun seen s => prodV B len one (ov seen) s) := CG.chain hn h hK (fun _ _ q => op_lt (Or.inl q))
theorem CG.sum {B : Nat → Nat} {len K : Nat} {one : PS → PS} {ov : (Nat → Int32) → PS → Int32} (hn : Nice len one) (h : CG len K one ov) (hK : 2 ≤ K) : CG len (K + 2) (cSum B len one) (fun seen s => sumV B len one (ov seen) s) := CG.chain (B := B) (hn.prod (B := B)) (CG.prod hn h hK) (by omega) (fun _ _ q => op_lt (Or.inr (Or.inl q)))
theorem CG.cmp {B : Nat → Nat} {len K : Nat} {one : PS → PS} {ov : (Nat → Int32) → PS → Int32} (hn : Nice len one) (h : CG len K one ov) (hK : 2 ≤ K) : CG len (K + 3) (cCmp B len one) (fun seen s => cmpV B len one (ov seen) s) := fun s hs hf => by
  have hS := CG.sum (B := B) hn h hK
  have hN := hn.sum (B := B)
  have h1 := hN s hs
  unfold cCmp at hf ⊢
  unfold cmpV
  simp only at hf ⊢
  by_cases hl : (cSum B len one s).1 < len
  · have e : nxt B len (cSum B len one s).1 = some (B (cSum B len one s).1) := if_pos hl
    rw [e] at hf ⊢
    simp only at hf ⊢
    cases ho : opC (B (cSum B len one s).1) with
    | none =>
      rw [ho] at hf
      simp only at hf ⊢
      exact (hS.mono (by omega)) s hs hf
    | some m =>
      rw [ho] at hf
      simp only at hf ⊢
      have hm : 6 ≤ m ∧ m < 16 := op_lt (Or.inr (Or.inr (Or.inr (Or.inr ho))))
      have hf2 : (cSum B len one (psAdv (cSum B len one s))).2.1 = none := hf
      have hf1 : (cSum B len one s).2.1 = none := hN.run0 (s := psAdv (cSum B len one s)) hl hf2
      obtain ⟨ms1, a1, a2, a3⟩ := hS s hs hf1
      obtain ⟨ms2, b1, b2, b3⟩ := hS (psAdv (cSum B len one s)) hl hf2
      refine ⟨ms1 ++ ms2 ++ [(m, 0)], ?_, ?_, fun seen st hst => ?_⟩
      · show (cSum B len one (psAdv (cSum B len one s))).2.2 ++ [(m, 0)] = _
        rw [b1]
        show (cSum B len one s).2.2 ++ ms2 ++ [(m, 0)] = _
        rw [a1]
        simp only [List.append_assoc]
      · intro p hp
        rcases List.mem_append.mp hp with hp | hp
        · rcases List.mem_append.mp hp with hp | hp
          · exact a2 p hp
          · exact b2 p hp
        · rw [List.mem_singleton.mp hp]
          exact wfJ hm
      · rw [runL_app, runL_app, a3 seen st (by omega)]
        show ((runL seen ms2 (sumV B len one (ov seen) s :: st)).bind (runL seen [(m, 0)])) = _
        rw [b3 seen (_ :: st) (by simp; omega)]
        show (stepL seen (m, 0) (_ :: _ :: st)).bind (runL seen []) = _
        rw [stepL_join seen hm.1 _ _ _ (by omega)]
        rfl
  · have e : nxt B len (cSum B len one s).1 = none := if_neg hl
    rw [e] at hf ⊢
    simp only at hf ⊢
    exact (hS.mono (by omega)) s hs hf
theorem CG.all {B : Nat → Nat} {len K : Nat} {one : PS → PS} {ov : (Nat → Int32) → PS → Int32} (hn : Nice len one) (h : CG len K one ov) (hK : 2 ≤ K) : CG len (K + 4) (cAll B len one) (fun seen s => allV B len one (ov seen) s) := CG.chain (B := B) (hn.cmp (B := B)) (CG.cmp hn h hK) (by omega) (fun _ _ q => op_lt (Or.inr (Or.inr (Or.inl q))))
theorem CG.any {B : Nat → Nat} {len K : Nat} {one : PS → PS} {ov : (Nat → Int32) → PS → Int32} (hn : Nice len one) (h : CG len K one ov) (hK : 2 ≤ K) : CG len (K + 5) (cAny B len one) (fun seen s => anyV B len one (ov seen) s) := CG.chain (B := B) (hn.all (B := B)) (CG.all hn h hK) (by omega) (fun _ _ q => op_lt (Or.inr (Or.inr (Or.inr (Or.inl q)))))
theorem psFail_some (len : Nat) (s : PS) : ¬ (psFail len s).2.1 = none := by
  unfold psFail
  cases h : s.2.1 <;> simp
theorem digs_lt (B : Nat → Nat) (len : Nat) : ∀ (f v a M : Nat), v < 10 ^ M → (digs B len f v a).1 < 10 ^ (M + f)
  | 0, v, a, M, h => h
  | f + 1, v, a, M, h => by
    unfold digs
    split
    · rename_i hd
      have := digs_lt B len f (v * 10 + B a - 48) (a + 1) (M + 1) (by rw [Nat.pow_succ]; omega)
      rw [show M + 1 + f = M + (f + 1) by omega] at this
      exact this
    · exact Nat.lt_of_lt_of_le h (Nat.pow_le_pow_right (by decide) (by omega))
theorem CG.step {B : Nat → Nat} {len K : Nat} {opn : Nat → PS → PS} {ov : (Nat → Int32) → Nat → PS → Int32} (hK : 2 ≤ K) (h : ∀ c s, s.1 < len → (c = 40 ∨ c = 33 ∨ c = 45) → (opn c s).2.1 = none → ∃ ms, (opn c s).2.2 = s.2.2 ++ ms ∧ (∀ p, p ∈ ms → wfM p) ∧ ∀ seen st, st.length + K ≤ 62 → runL seen ms st = some (ov seen c s :: st)) : CG len K (cStep B len opn) (fun seen s => stepV B len (ov seen) seen s) := fun s hs hf => by
  unfold cStep at hf ⊢
  by_cases hl : s.1 < len
  · have e : nxt B len s.1 = some (B s.1) := if_pos hl
    rw [e] at hf ⊢
    simp only at hf ⊢
    by_cases hd : 48 ≤ B s.1 ∧ B s.1 ≤ 57
    · rw [if_pos hd] at hf ⊢
      refine ⟨[(0, (digs B len 4 0 s.1).1)], rfl, ?_, fun seen st hst => ?_⟩
      · intro p hp
        rw [List.mem_singleton.mp hp]
        exact wf0 (digs_lt B len 4 0 s.1 0 (by decide))
      · have ev : stepV B len (ov seen) seen s = nI (digs B len 4 0 s.1).1 := by unfold stepV; rw [e]; simp only; rw [if_pos hd]
        show (stepL seen (0, _) st).bind (runL seen []) = some (stepV B len (ov seen) seen s :: st)
        rw [ev]
        unfold stepL
        rw [if_neg (by omega)]
        rfl
    · rw [if_neg hd] at hf ⊢
      cases hq : nameC (B s.1) with
      | some q =>
        rw [hq] at hf
        simp only at hf ⊢
        refine ⟨[(1, q)], rfl, ?_, fun seen st hst => ?_⟩
        · intro p hp
          rw [List.mem_singleton.mp hp]
          exact wf1 (nameC_lt hq)
        · have ev : stepV B len (ov seen) seen s = seen q := by unfold stepV; rw [e]; simp only; rw [if_neg hd, hq]
          show (stepL seen (1, q) st).bind (runL seen []) = some (stepV B len (ov seen) seen s :: st)
          rw [ev]
          unfold stepL
          rw [if_neg (by omega)]
          rfl
      | none =>
        rw [hq] at hf
        simp only at hf ⊢
        by_cases ho : B s.1 = 40 ∨ B s.1 = 33 ∨ B s.1 = 45
        · rw [if_pos ho] at hf ⊢
          obtain ⟨ms, h1, h2, h3⟩ := h _ s hl ho hf
          refine ⟨ms, h1, h2, fun seen st hst => ?_⟩
          have ev : stepV B len (ov seen) seen s = ov seen (B s.1) s := by unfold stepV; rw [e]; simp only; rw [if_neg hd, hq]; simp only; rw [if_pos ho]
          show _ = some (stepV B len (ov seen) seen s :: st)
          rw [ev]
          exact h3 seen st hst
        · rw [if_neg ho] at hf
          exact absurd hf (psFail_some len s)
  · have e : nxt B len s.1 = none := if_neg hl
    rw [e] at hf
    exact absurd hf (psFail_some len s)
theorem CG.one (B : Nat → Nat) (len : Nat) : ∀ d, CG len (2 + 5 * d) (cOne B len d) (oneV B len d)
  | 0 => CG.step (ov := fun _ _ _ => nI 0) (by decide) (fun c s _ _ hf => absurd hf (psFail_some len s))
  | d + 1 => by
    have ih := CG.one B len d
    have hn := Nice.one B len d
    have hA := CG.any (B := B) hn ih (by omega)
    refine CG.step (ov := fun seen c s => openV B len (cOne B len d) (oneV B len d seen) c (psAdv s)) (by omega) (fun c s hl hc hf => ?_)
    unfold cOpen at hf ⊢
    unfold openV
    by_cases h4 : c = 40
    · rw [if_pos h4] at hf ⊢
      by_cases hp : nxt B len (cAny B len (cOne B len d) (psAdv s)).1 = some 41
      · rw [if_pos hp] at hf ⊢
        obtain ⟨ms, a1, a2, a3⟩ := hA (psAdv s) hl hf
        exact ⟨ms, a1, a2, fun seen st hst => by rw [if_pos h4]; exact a3 seen st (by omega)⟩
      · rw [if_neg hp] at hf
        exact absurd hf (psFail_some len _)
    · rw [if_neg h4] at hf ⊢
      obtain ⟨ms, a1, a2, a3⟩ := ih (psAdv s) hl hf
      refine ⟨ms ++ [(if c = 33 then 2 else 3, 0)], ?_, ?_, fun seen st hst => ?_⟩
      · show (cOne B len d (psAdv s)).2.2 ++ _ = _
        rw [a1]
        show s.2.2 ++ ms ++ _ = _
        rw [List.append_assoc]
      · intro p hp
        rcases List.mem_append.mp hp with hp | hp
        · exact a2 p hp
        · rw [List.mem_singleton.mp hp]
          by_cases h3 : c = 33
          · rw [if_pos h3]; exact wf2.1
          · rw [if_neg h3]; exact wf2.2.1
      · rw [if_neg h4, runL_app, a3 seen st (by omega)]
        show (stepL seen (if c = 33 then 2 else 3, 0) (oneV B len d seen (psAdv s) :: st)).bind (runL seen []) = _
        by_cases h3 : c = 33
        · rw [if_pos h3, if_pos h3]
          unfold stepL
          rw [if_neg (by simp; omega)]
          rfl
        · rw [if_neg h3, if_neg h3]
          unfold stepL
          rw [if_neg (by simp; omega)]
          rfl
