/-! TEXT: lines, and the whole -/
theorem wR_give {seen : Nat → Int32} {cd : Nat → Nat × Nat} {len f a : Nat} {t : Int32} (ha : a < len) (h : (cd a).1 = 5) : wR seen cd len (f + 1) a [t] = some (clampI t) := by
  have hl : ¬ len ≤ a := by omega
  simp only [wR]
  rw [if_neg hl, if_neg (by simp)]
  generalize cd a = c at *
  obtain ⟨q, x⟩ := c
  simp only at h
  subst h
  rfl
theorem wR_ask {seen : Nat → Int32} {cd : Nat → Nat × Nat} {len f a : Nat} {t : Int32} (ha : a < len) (h : (cd a).1 = 4) : wR seen cd len (f + 1) a [t] = wR seen cd len f (if t = 0 then max (a + 1) (cd a).2 else a + 1) [] := by
  have hl : ¬ len ≤ a := by omega
  simp only [wR]
  rw [if_neg hl, if_neg (by simp)]
  generalize cd a = c at *
  obtain ⟨q, x⟩ := c
  simp only at h
  subst h
  rfl
def orV (g x : Option Int32) : Option Int32 := match g with
  | some v => some v
  | none => x
def lineV (B : Nat → Nat) (len : Nat) (any : PS → PS) (av : PS → Int32) (s : PS) : Option Int32 := if nxt B len (any s).1 = some 63 then (if av s = 0 then none else some (av (psMk 4 0 (psAdv (any s))))) else some (av s)
def lnV (B : Nat → Nat) (len : Nat) (any : PS → PS) (av : PS → Int32) : Nat → PS → Option Int32 → Option Int32
  | 0, _, g => g
  | f + 1, s, g => if s.1 < len ∧ B s.1 = 59 then lnV B len any av f (cLine B len any (psAdv s)) (orV g (lineV B len any av (psAdv s))) else g
def txtV (B : Nat → Nat) (len : Nat) (any : PS → PS) (av : PS → Int32) : Option Int32 := lnV B len any av 121 (cLine B len any (0, none, [])) (lineV B len any av (0, none, []))
def resV (seen : Nat → Int32) (cd : Nat → Nat × Nat) (L f n : Nat) (g : Option Int32) : Option Int32 := match g with
  | some v => some (clampI v)
  | none => wR seen cd L f n []
def PG (out : List (Nat × Nat)) (acc : (Nat → Int32) → Option Int32) : Prop := ∀ seen (cd : Nat → Nat × Nat) (L : Nat), (∀ i, i < out.length → cd i = out.getD i (0, 0)) → out.length ≤ L → ∃ k, k ≤ out.length ∧ ∀ f, wR seen cd L (f + k) 0 [] = resV seen cd L f out.length (acc seen)
def wfO (p : Nat × Nat) : Prop := p.1 < 16 ∧ p.2 < 10000 ∧ (p.1 = 1 → p.2 < 7) ∧ (p.1 = 4 → 1 ≤ p.2)
theorem wfM.o {p : Nat × Nat} (h : wfM p) : wfO p := ⟨h.1, h.2.1, h.2.2.1, fun q => absurd q h.2.2.2⟩
theorem getD_app_l {α : Type} {a b : List α} {i : Nat} {x : α} (h : i < a.length) : (a ++ b).getD i x = a.getD i x := by
  simp [List.getD_eq_getElem?_getD, List.getElem?_append_left h]
theorem getD_app_r {α : Type} {a b : List α} {i : Nat} {x : α} : (a ++ b).getD (a.length + i) x = b.getD i x := by
  simp [List.getD_eq_getElem?_getD, List.getElem?_append_right]
theorem PG.line {B : Nat → Nat} {len K : Nat} {any : PS → PS} {av : (Nat → Int32) → PS → Int32} (hn : Nice len any) (hc : CG len K any av) (hK : K ≤ 62) {s : PS} (hs : s.1 ≤ len) (hf : (cLine B len any s).2.1 = none) (hlen : (cLine B len any s).2.2.length < 10000) {acc : (Nat → Int32) → Option Int32} (hp : PG s.2.2 acc) (hw : ∀ p, p ∈ s.2.2 → wfO p) : PG (cLine B len any s).2.2 (fun seen => orV (acc seen) (lineV B len any (av seen) s)) ∧ ∀ p, p ∈ (cLine B len any s).2.2 → wfO p := by
  have h1 := hn s hs
  by_cases hq : nxt B len (any s).1 = some 63
  · have hl : (any s).1 < len := by
      unfold nxt at hq
      by_cases h : (any s).1 < len
      · exact h
      · rw [if_neg h] at hq; cases hq
    have e : cLine B len any s = psPatch (any s).2.2.length (psMk 5 0 (any (psMk 4 0 (psAdv (any s))))) := by unfold cLine; rw [if_pos hq]
    rw [e] at hf hlen ⊢
    have hf2 : (any (psMk 4 0 (psAdv (any s)))).2.1 = none := hf
    have hf1 : (any s).2.1 = none := hn.run0 (s := psMk 4 0 (psAdv (any s))) hl hf2
    obtain ⟨ms1, a1, a2, a3⟩ := hc s hs hf1
    obtain ⟨ms2, b1, b2, b3⟩ := hc (psMk 4 0 (psAdv (any s))) hl hf2
    have b1' : (any (psMk 4 0 (psAdv (any s)))).2.2 = (any s).2.2 ++ [(4, 0)] ++ ms2 := b1
    obtain ⟨N, hN⟩ : ∃ N, N = (psPatch (any s).2.2.length (psMk 5 0 (any (psMk 4 0 (psAdv (any s)))))).2.2.length := ⟨_, rfl⟩
    have eo : (psPatch (any s).2.2.length (psMk 5 0 (any (psMk 4 0 (psAdv (any s)))))).2.2 = s.2.2 ++ (ms1 ++ ((4, N) :: (ms2 ++ [(5, 0)]))) := by
      have hN2 : N = (psMk 5 0 (any (psMk 4 0 (psAdv (any s))))).2.2.length := by rw [hN]; simp [psPatch]
      show ((any (psMk 4 0 (psAdv (any s)))).2.2 ++ [(5, 0)]).set (any s).2.2.length (4, (psMk 5 0 (any (psMk 4 0 (psAdv (any s))))).2.2.length) = _
      rw [← hN2, b1', a1]
      simp [List.set_append]
    have hNl : N = s.2.2.length + (ms1.length + (ms2.length + 1 + 1)) := by rw [hN, eo]; simp
    rw [← hN] at hlen
    rw [eo]
    refine ⟨fun seen cd L hcd hL => ?_, ?_⟩
    · obtain ⟨k, hk, hkf⟩ := hp seen cd L (fun i hi => by rw [hcd i (by simp; omega), getD_app_l hi]) (by simp at hL; omega)
      simp only [List.length_append, List.length_cons, List.length_nil] at hL ⊢
      cases ha : acc seen with
      | some v => exact ⟨k, by omega, fun f => by rw [hkf f, ha]; rfl⟩
      | none =>
        have c1 : ∀ i, i < ms1.length → cd (s.2.2.length + i) = ms1.getD i (0, 0) := fun i hi => by rw [hcd _ (by simp; omega), getD_app_r, getD_app_l hi]
        have c2 : cd (s.2.2.length + ms1.length) = (4, N) := by
          rw [hcd _ (by simp only [List.length_append, List.length_cons, List.length_nil]; omega), getD_app_r]
          have := getD_app_r (a := ms1) (b := (4, N) :: (ms2 ++ [(5, 0)])) (i := 0) (x := (0, 0))
          rw [Nat.add_zero] at this
          rw [this]
          rfl
        have c3 : ∀ i, i < ms2.length → cd (s.2.2.length + ms1.length + 1 + i) = ms2.getD i (0, 0) := fun i hi => by
          rw [show s.2.2.length + ms1.length + 1 + i = s.2.2.length + (ms1.length + (i + 1)) by omega, hcd _ (by simp; omega), getD_app_r, getD_app_r]
          show (ms2 ++ [(5, 0)]).getD i (0, 0) = _
          rw [getD_app_l hi]
        have c4 : cd (s.2.2.length + ms1.length + 1 + ms2.length) = (5, 0) := by
          rw [show s.2.2.length + ms1.length + 1 + ms2.length = s.2.2.length + (ms1.length + (ms2.length + 1)) by omega, hcd _ (by simp only [List.length_append, List.length_cons, List.length_nil]; omega), getD_app_r, getD_app_r]
          show (ms2 ++ [(5, 0)]).getD ms2.length (0, 0) = _
          have := getD_app_r (a := ms2) (b := [(5, 0)]) (i := 0) (x := (0, 0))
          rw [Nat.add_zero] at this
          rw [this]
          rfl
        have r1 : ∀ f, wR seen cd L (f + 1 + ms1.length + k) 0 [] = wR seen cd L (f + 1) (s.2.2.length + ms1.length) [av seen s] := fun f => by
          rw [hkf, ha]
          show wR seen cd L (f + 1 + ms1.length) s.2.2.length [] = _
          exact wR_seg ms1 _ (f + 1) [] _ c1 (by omega) (a3 seen [] (by simp; omega))
        by_cases h0 : av seen s = 0
        · refine ⟨1 + ms1.length + k, by omega, fun f => ?_⟩
          rw [show f + (1 + ms1.length + k) = f + 1 + ms1.length + k by omega, r1 f, wR_ask (by omega) (by rw [c2]), if_pos h0, c2]
          have e1 : lineV B len any (av seen) s = none := by unfold lineV; rw [if_pos hq, if_pos h0]
          show _ = resV seen cd L f _ (orV none (lineV B len any (av seen) s))
          rw [e1]
          show wR seen cd L f (max (s.2.2.length + ms1.length + 1) N) [] = wR seen cd L f _ []
          congr 1
          omega
        · refine ⟨1 + ms2.length + 1 + ms1.length + k, by omega, fun f => ?_⟩
          rw [show f + (1 + ms2.length + 1 + ms1.length + k) = (f + 1 + ms2.length) + 1 + ms1.length + k by omega, r1, wR_ask (by omega) (by rw [c2]), if_neg h0, wR_seg ms2 _ (f + 1) [] _ c3 (by omega) (b3 seen [] (by simp; omega)), wR_give (by omega) (by rw [c4])]
          have e1 : lineV B len any (av seen) s = some (av seen (psMk 4 0 (psAdv (any s)))) := by unfold lineV; rw [if_pos hq, if_neg h0]
          show _ = resV seen cd L f _ (orV none (lineV B len any (av seen) s))
          rw [e1]
          rfl
    · intro p hp2
      rcases List.mem_append.mp hp2 with h | h
      · exact hw p h
      · rcases List.mem_append.mp h with h | h
        · exact (a2 p h).o
        · rcases List.mem_cons.mp h with h | h
          · rw [h]
            exact ⟨(show 4 < 16 by decide), (show N < 10000 from hlen), fun q => absurd (show 4 = 1 from q) (by decide), fun _ => (show 1 ≤ N by omega)⟩
          · rcases List.mem_append.mp h with h | h
            · exact (b2 p h).o
            · rw [List.mem_singleton.mp h]; exact wf2.2.2.o
  · have e : cLine B len any s = psMk 5 0 (any s) := by unfold cLine; rw [if_neg hq]
    rw [e] at hf hlen ⊢
    obtain ⟨ms, a1, a2, a3⟩ := hc s hs hf
    have eo : (psMk 5 0 (any s)).2.2 = s.2.2 ++ (ms ++ [(5, 0)]) := by
      show (any s).2.2 ++ [(5, 0)] = _
      rw [a1, List.append_assoc]
    rw [eo]
    refine ⟨fun seen cd L hcd hL => ?_, ?_⟩
    · obtain ⟨k, hk, hkf⟩ := hp seen cd L (fun i hi => by rw [hcd i (by simp; omega), getD_app_l hi]) (by simp at hL; omega)
      simp only [List.length_append, List.length_cons, List.length_nil] at hL ⊢
      cases ha : acc seen with
      | some v => exact ⟨k, by omega, fun f => by rw [hkf f, ha]; rfl⟩
      | none =>
        have c1 : ∀ i, i < ms.length → cd (s.2.2.length + i) = ms.getD i (0, 0) := fun i hi => by rw [hcd _ (by simp; omega), getD_app_r, getD_app_l hi]
        have c4 : cd (s.2.2.length + ms.length) = (5, 0) := by
          rw [hcd _ (by simp only [List.length_append, List.length_cons, List.length_nil]; omega), getD_app_r]
          have := getD_app_r (a := ms) (b := [(5, 0)]) (i := 0) (x := (0, 0))
          rw [Nat.add_zero] at this
          rw [this]
          rfl
        refine ⟨1 + ms.length + k, by omega, fun f => ?_⟩
        rw [show f + (1 + ms.length + k) = f + 1 + ms.length + k by omega, hkf, ha]
        show wR seen cd L (f + 1 + ms.length) s.2.2.length [] = _
        rw [wR_seg ms _ (f + 1) [] _ c1 (by omega) (a3 seen [] (by simp; omega)), wR_give (by omega) (by rw [c4])]
        have e1 : lineV B len any (av seen) s = some (av seen s) := by unfold lineV; rw [if_neg hq]
        show _ = resV seen cd L f _ (orV none (lineV B len any (av seen) s))
        rw [e1]
        rfl
    · intro p hp2
      rcases List.mem_append.mp hp2 with h | h
      · exact hw p h
      · rcases List.mem_append.mp h with h | h
        · exact (a2 p h).o
        · rw [List.mem_singleton.mp h]; exact wf2.2.2.o
/-- a reader that stays where it failed -/
theorem lnR_run0 {B : Nat → Nat} {len : Nat} {any : PS → PS} (hn : Nice len any) : ∀ (f : Nat) (s : PS), s.1 ≤ len → (s.2.1 = none → s.2.2.length ≤ s.1 + 1) → (lnR B len any f s).2.1 = none → s.2.1 = none
  | 0, s, _, _, h => h
  | f + 1, s, hs, hg, h => by
    unfold lnR at h
    by_cases hq : s.1 < len ∧ B s.1 = 59
    · rw [if_pos hq] at h
      have hl := line_ok (B := B) hn (s := psAdv s) hq.1 (fun q => hg q)
      have := lnR_run0 hn f _ hl.2.1 (fun q => (hl.2.2 q).2) h
      exact (hl.2.2 this).1
    · rw [if_neg hq] at h
      exact h
theorem PG.lines {B : Nat → Nat} {len K : Nat} {any : PS → PS} {av : (Nat → Int32) → PS → Int32} (hn : Nice len any) (hc : CG len K any av) (hK : K ≤ 62) (hlen : len ≤ 120) : ∀ (f : Nat) (s : PS) (acc : (Nat → Int32) → Option Int32), s.1 ≤ len → (s.2.1 = none → s.2.2.length ≤ s.1 + 1) → (lnR B len any f s).2.1 = none → PG s.2.2 acc → (∀ p, p ∈ s.2.2 → wfO p) → PG (lnR B len any f s).2.2 (fun seen => lnV B len any (av seen) f s (acc seen)) ∧ (∀ p, p ∈ (lnR B len any f s).2.2 → wfO p) ∧ (lnR B len any f s).2.2.length ≤ 121
  | 0, s, acc, hs, hg, hf, hp, hw => ⟨hp, hw, by have := hg hf; show s.2.2.length ≤ 121; omega⟩
  | f + 1, s, acc, hs, hg, hf, hp, hw => by
    unfold lnR at hf ⊢
    by_cases hq : s.1 < len ∧ B s.1 = 59
    · rw [if_pos hq] at hf ⊢
      have hl := line_ok (B := B) hn (s := psAdv s) hq.1 (fun q => hg q)
      have h0 := lnR_run0 hn f _ hl.2.1 (fun q => (hl.2.2 q).2) hf
      have h1 := PG.line (B := B) hn hc hK (s := psAdv s) hq.1 h0 (by have := (hl.2.2 h0).2; omega) hp hw
      have h2 := PG.lines hn hc hK hlen f _ _ hl.2.1 (fun q => (hl.2.2 q).2) hf h1.1 h1.2
      have e : (fun seen => lnV B len any (av seen) (f + 1) s (acc seen)) = (fun seen => lnV B len any (av seen) f (cLine B len any (psAdv s)) (orV (acc seen) (lineV B len any (av seen) (psAdv s)))) := by
        funext seen
        rw [lnV, if_pos hq]
      rw [e]
      exact h2
    · rw [if_neg hq] at hf ⊢
      have e : (fun seen => lnV B len any (av seen) (f + 1) s (acc seen)) = acc := by
        funext seen
        rw [lnV, if_neg hq]
      rw [e]
      exact ⟨hp, hw, by have := hg hf; omega⟩
def tAny (B : Nat → Nat) (len : Nat) : PS → PS := cAny B len (cOne B len 6)
def tVal (B : Nat → Nat) (len : Nat) (seen : Nat → Int32) : PS → Int32 := anyV B len (cOne B len 6) (oneV B len 6 seen)
/-- what a TEXT is worth -/
def textV (B : Nat → Nat) (len : Nat) (seen : Nat → Int32) : Option Int32 := txtV B len (tAny B len) (tVal B len seen)
theorem text_ok {B : Nat → Nat} {len : Nat} (hlen : len ≤ 120) (hf : (cText B len).2.1 = none) : (cText B len).2.2.length ≤ 121 ∧ (∀ p, p ∈ (cText B len).2.2 → wfO p) ∧ ∀ seen, wR seen (fun i => (cText B len).2.2.getD i (0, 0)) (cText B len).2.2.length ((cText B len).2.2.length + 1) 0 [] = some (clampI ((textV B len seen).getD (nI 0))) := by
  have hn : Nice len (tAny B len) := niceT B len
  have hc : CG len 37 (tAny B len) (fun seen => tVal B len seen) := CG.any (Nice.one B len 6) (CG.one B len 6) (by decide)
  have e0 : cText B len = cRead B len (tAny B len) := rfl
  rw [e0] at hf ⊢
  unfold cRead at hf ⊢
  by_cases hl : (lnR B len (tAny B len) 121 (cLine B len (tAny B len) (0, none, []))).1 < len
  · rw [if_pos hl] at hf
    exact absurd hf (psFail_some _ _)
  · rw [if_neg hl] at hf ⊢
    have h1 := line_ok (B := B) hn (s := (0, none, [])) (Nat.zero_le _) (fun _ => Nat.le_refl _)
    have h2 := lnR_run0 hn 121 _ h1.2.1 (fun q => (h1.2.2 q).2) hf
    have hP0 : PG ([] : List (Nat × Nat)) (fun _ => none) := fun seen cd L _ _ => ⟨0, Nat.le_refl _, fun f => rfl⟩
    have h3 := PG.line (B := B) hn hc (by decide) (s := (0, none, [])) (Nat.zero_le _) h2 (by have := (h1.2.2 h2).2; omega) hP0 (by simp)
    have h4 := PG.lines (B := B) hn hc (by decide) hlen 121 _ _ h1.2.1 (fun q => (h1.2.2 q).2) hf h3.1 h3.2
    refine ⟨h4.2.2, h4.2.1, fun seen => ?_⟩
    obtain ⟨k, hk, hkf⟩ := h4.1 seen (fun i => (lnR B len (tAny B len) 121 (cLine B len (tAny B len) (0, none, []))).2.2.getD i (0, 0)) _ (fun i _ => rfl) (Nat.le_refl _)
    have h5 := hkf ((lnR B len (tAny B len) 121 (cLine B len (tAny B len) (0, none, []))).2.2.length + 1 - k)
    rw [Nat.sub_add_cancel (by omega)] at h5
    rw [h5]
    show resV _ _ _ _ _ (textV B len seen) = _
    cases hv : textV B len seen with
    | some v => rfl
    | none =>
      show wR _ _ _ _ _ _ = _
      rw [show (lnR B len (tAny B len) 121 (cLine B len (tAny B len) (0, none, []))).2.2.length + 1 - k = ((lnR B len (tAny B len) 121 (cLine B len (tAny B len) (0, none, []))).2.2.length - k) + 1 by omega]
      simp only [wR]
      rw [if_pos (Nat.le_refl _)]
      show some (nI 0) = some (clampI (nI 0))
      rfl
