/-! what stands at the entry: classes, arrays' classes, the static arrays -/
theorem iwc {c : Nat} (h : c < 10) : Cond.instantiable (CN c) (nF c) ∈ GW := c10 (P := fun c => Cond.instantiable (CN c) (nF c) ∈ GW) iw0 iw1 iw2 iw3 iw4 iw5 iw6 iw7 iw8 iw9 h
theorem e_cls {s : State} {args : Array Value} (hG : ∀ w ∈ GW, w.before args s = true) : ∃ (dC : Nat → ClassId) (dI : Nat → Nat → Nat), ∀ (c : Nat) (q : vw_C), vwCl[c]? = some q → u_Kn s q.1 q.2.1 q.2.2 (dC c) (dI c) := by
  have hk : ∀ c, c < 10 → ∃ (cC : ClassId) (iS : Nat → Nat), u_Kn s (CN c) (TC c) (nF c) cC iS := fun c hc => u_known hG (cl_in hc) (hG _ (iwc hc))
  have hk2 : ∀ c, ∃ p : ClassId × (Nat → Nat), c < 10 → u_Kn s (CN c) (TC c) (nF c) p.1 p.2 := fun c => by
    by_cases hc : c < 10
    · obtain ⟨a, b, h⟩ := hk c hc
      exact ⟨(a, b), fun _ => h⟩
    · obtain ⟨a, b, h⟩ := hk 0 (by decide)
      exact ⟨(a, b), fun z => absurd z hc⟩
  refine ⟨fun c => (hk2 c).choose.1, fun c => (hk2 c).choose.2, fun c q h => ?_⟩
  have hc : c < 10 := (List.getElem?_eq_some_iff.mp h).1
  obtain rfl : (CN c, TC c, nF c) = q := Option.some.inj ((cl_at hc).symm.trans h)
  exact (hk2 c).choose_spec hc
theorem e_int {s : State} {args : Array Value} (h : (Cond.arrayClass .int).before args s = true) : ∃ cA : ClassId, ArrOfT s cA .int ∧ va_RA s cA .int := by
  obtain ⟨c, k, comp, h1, h2, h3⟩ := Cond.arrayClass_spec h
  exact ⟨c, fun n z => ⟨(fun k h => by cases h), k, h2, comp, h3⟩, h1⟩
theorem e_byte {s : State} {args : Array Value} (h : (Cond.arrayClass .byte).before args s = true) : ∃ cA : ClassId, ArrOfT s cA .byte ∧ va_RA s cA .byte := by
  obtain ⟨c, k, comp, h1, h2, h3⟩ := Cond.arrayClass_spec h
  exact ⟨c, fun n z => ⟨(fun k h => by cases h), k, h2, comp, h3⟩, h1⟩
theorem e_long {s : State} {args : Array Value} (h : (Cond.arrayClass .long).before args s = true) : ∃ cA : ClassId, ArrOfT s cA .long ∧ va_RA s cA .long := by
  obtain ⟨c, k, comp, h1, h2, h3⟩ := Cond.arrayClass_spec h
  exact ⟨c, fun n z => ⟨(fun k h => by cases h), k, h2, comp, h3⟩, h1⟩
theorem e_obj {s : State} {args : Array Value} {C : String} (h : (Cond.arrayOver (.object C)).before args s = true) : ∃ cA : ClassId, ArrOfT s cA (.object C) ∧ va_RA s cA (.object C) := by
  obtain ⟨comp, c, k, h1, h2, h3, h4, h5⟩ := Cond.arrayOver_spec h
  exact ⟨c, fun n z => ⟨(fun k h => by cases h), k, h3, comp, h4⟩, k, comp, h3, h4, h1, h5⟩
theorem e_arr {s : State} {args : Array Value} (h1 : (Cond.arrayClass .int).before args s = true) (h2 : (Cond.arrayClass .byte).before args s = true) (h3 : (Cond.arrayClass .long).before args s = true) (h4 : (Cond.arrayOver (.object "EightWorlds$Law")).before args s = true) (h5 : (Cond.arrayOver (.object "EightWorlds$Shelf")).before args s = true) (h6 : (Cond.arrayOver (.object "EightWorlds$World")).before args s = true) : ∃ cA : Nat → ClassId, ∀ (k : Nat) (q : ClassId × FieldType), (tysOf cA)[k]? = some q → ArrOfT s q.1 q.2 ∧ va_RA s q.1 q.2 := by
  obtain ⟨a1, r1⟩ := e_int h1
  obtain ⟨a2, r2⟩ := e_byte h2
  obtain ⟨a3, r3⟩ := e_long h3
  obtain ⟨a4, r4⟩ := e_obj h4
  obtain ⟨a5, r5⟩ := e_obj h5
  obtain ⟨a6, r6⟩ := e_obj h6
  refine ⟨fun i => if i = 0 then a1 else if i = 1 then a2 else if i = 2 then a3 else if i = 3 then a4 else if i = 4 then a5 else a6, fun k q h => ?_⟩
  match k, h with
  | 0, h => obtain rfl : (a1, FieldType.int) = q := Option.some.inj h; exact r1
  | 1, h => obtain rfl : (a2, FieldType.byte) = q := Option.some.inj h; exact r2
  | 2, h => obtain rfl : (a3, FieldType.long) = q := Option.some.inj h; exact r3
  | 3, h => obtain rfl : (a4, FieldType.object "EightWorlds$Law") = q := Option.some.inj h; exact r4
  | 4, h => obtain rfl : (a5, FieldType.object "EightWorlds$Shelf") = q := Option.some.inj h; exact r5
  | 5, h => obtain rfl : (a6, FieldType.object "EightWorlds$World") = q := Option.some.inj h; exact r6
  | k + 6, h => simp [tysOf] at h
theorem e_eqi {args : Array Value} {s : State} {tm : Term} {z : Int32} (h : (Cond.eq tm (.int z)).before args s = true) : tm.eval args s none [] s = some (.int z) := by
  cases hv : tm.eval args s none [] s with
  | none => simp [Cond.before, Cond.holds, Cond.value, hv] at h
  | some w =>
    have hz : (Term.int z).eval args s none [] s = some (.int z) := rfl
    simp only [Cond.before, Cond.holds, Cond.value, hv, hz] at h
    cases w <;> simp_all
theorem e_stat {args : Array Value} {s : State} {tm : Term} {N : Nat} {f : Nat → Int32} (hN : N < 2 ^ 31) (harr : (Cond.arrayOf tm .int).before args s = true) (hlen : (Term.length tm).eval args s none [] s = some (.int (Int32.ofNat N))) (hel : ∀ j : Nat, j < N → (Term.elem tm (.int (Int32.ofNat j))).eval args s none [] s = some (.int (f j))) : ∃ t : Nat, tm.eval args s none [] s = some (.ref t) ∧ va_X t N f s s.heap ∧ t < s.heap.size := by
  obtain ⟨t, cell, ht, hat, hv⟩ := Term.length_spec hlen
  have hsz : cell.slots.size < 2 ^ 31 := by
    simp only [Term.eval, ht, hat, Option.bind_eq_bind, Option.bind_some] at hlen
    by_cases hlt : cell.slots.size < 2147483648
    · exact hlt
    · simp [hlt] at hlen
  obtain ⟨hcell, hkn, -, -⟩ := State.arrayAt?_spec hat
  obtain ⟨hof, -⟩ := Cond.arrayOf_spec harr ht hcell
  have hs : cell.slots.size = N := ((nI_eq hN hsz).mp (Value.int.inj hv)).symm
  refine ⟨t, ht, ⟨cell, hcell, hof, hkn, hs, fun j hj => ?_⟩, (Array.getElem?_eq_some_iff.mp hcell).1⟩
  obtain ⟨a, i, cell2, h1, h2, h3, h4, h5⟩ := Term.elem_spec (hel j hj)
  cases ht.symm.trans h1
  cases hat.symm.trans h3
  have hi : i = Int32.ofNat j := by
    have e : (Term.int (Int32.ofNat j)).eval args s none [] s = some (.int (Int32.ofNat j)) := rfl
    cases h2.symm.trans e
    rfl
  have hc : i.toNatClampNeg = j := by rw [hi]; exact Int32.toNatClampNeg_ofNat_of_lt (Nat.lt_trans hj hN)
  rw [hc] at h5
  exact h5
def adS (b a1 a2 a3 : Nat) : Tok → Nat := fun t => if t = (99, 0) then b else if t = (36, 0) then a1 else if t = (37, 0) then a2 else a3
theorem zzS_or {Ls : Nat} (t : Tok) : (zzS Ls t).1 = 0 ∨ t = (99, 0) ∨ t = (36, 0) ∨ t = (37, 0) ∨ t = (38, 0) := by
  unfold zzS
  by_cases h1 : t = (99, 0)
  · exact Or.inr (Or.inl h1)
  by_cases h2 : t = (36, 0)
  · exact Or.inr (Or.inr (Or.inl h2))
  by_cases h3 : t = (37, 0)
  · exact Or.inr (Or.inr (Or.inr (Or.inl h3)))
  by_cases h4 : t = (38, 0)
  · exact Or.inr (Or.inr (Or.inr (Or.inr h4)))
  rw [if_neg h1, if_neg h2, if_neg h3, if_neg h4]
  exact Or.inl rfl
theorem zzS_wr {Ls : Nat} (t : Tok) : ¬ wr (zzS Ls t) := fun h => by
  rcases zzS_or (Ls := Ls) t with z | rfl | rfl | rfl | rfl
  · exact h.1 z
  all_goals exact h.2 rfl
/-- what holds at the law's entry: the machine, the code, the tables' words, the script of L ints xs at the cell b, what the Statement gives of the start, the method's name -/
def lw_At (p : Program) (s : State) (m : MethodId) (meth : Method) (c : Code) (b L : Nat) (xs : Nat → Int32) : Prop :=
  p.tables.exec = Jvm.exec ∧ c.code = code ∧ meth.sig.returnType = ret ∧ c.maxLocals = 4 ∧ s.vm.findClass R_law = some m.cls ∧ (∀ w ∈ lw_tbl, w.before #[Value.ref b] s = true) ∧ va_X b L xs s s.heap ∧ b < s.heap.size ∧ meth.locks = false ∧ (Jvm.Cond.and given_1 narrow_1).before #[Value.ref b] s = true ∧ meth.name = "law"
theorem e_three {s : State} {b : Nat} {xs : Nat → Int32} (hs : ∀ w ∈ flatC (Jvm.Cond.and given_1 narrow_1), w.before #[Value.ref b] s = true) : (∃ t : Nat, (Term.static "EightWorlds$Odds" "STEPS" "[I").eval #[Value.ref b] s none [] s = some (.ref t) ∧ va_X t 4 (zzI xs (36, 0)) s s.heap ∧ t < s.heap.size) ∧ (∃ t : Nat, (Term.static "EightWorlds$Acts" "ABOVE" "[I").eval #[Value.ref b] s none [] s = some (.ref t) ∧ va_X t 8 (zzI xs (37, 0)) s s.heap ∧ t < s.heap.size) ∧ (∃ t : Nat, (Term.static "EightWorlds$Acts" "BODIES" "[I").eval #[Value.ref b] s none [] s = some (.ref t) ∧ va_X t 32 (zzI xs (38, 0)) s s.heap ∧ t < s.heap.size) := by
  have steps : ∃ t : Nat, (Term.static "EightWorlds$Odds" "STEPS" "[I").eval #[Value.ref b] s none [] s = some (.ref t) ∧ va_X t 4 (zzI xs (36, 0)) s s.heap ∧ t < s.heap.size := by
    refine e_stat (N := 4) (by omega) (hs _ (by decide +kernel)) (e_eqi (z := Int32.ofNat 4) (hs _ (by decide +kernel))) (fun j hj => ?_)
    rcases (show j = 0 ∨ j = 1 ∨ j = 2 ∨ j = 3 by omega) with rfl | rfl | rfl | rfl
    · exact e_eqi (z := 1) (hs _ (by decide +kernel))
    · exact e_eqi (z := 7) (hs _ (by decide +kernel))
    · exact e_eqi (z := 49) (hs _ (by decide +kernel))
    · exact e_eqi (z := 343) (hs _ (by decide +kernel))
  have above : ∃ t : Nat, (Term.static "EightWorlds$Acts" "ABOVE" "[I").eval #[Value.ref b] s none [] s = some (.ref t) ∧ va_X t 8 (zzI xs (37, 0)) s s.heap ∧ t < s.heap.size := by
    refine e_stat (N := 8) (by omega) (hs _ (by decide +kernel)) (e_eqi (z := Int32.ofNat 8) (hs _ (by decide +kernel))) (fun j hj => ?_)
    rcases (show j = 0 ∨ j = 1 ∨ j = 2 ∨ j = 3 ∨ j = 4 ∨ j = 5 ∨ j = 6 ∨ j = 7 by omega) with rfl | rfl | rfl | rfl | rfl | rfl | rfl | rfl
    · exact e_eqi (z := (-1)) (hs _ (by decide +kernel))
    · exact e_eqi (z := 0) (hs _ (by decide +kernel))
    · exact e_eqi (z := 0) (hs _ (by decide +kernel))
    · exact e_eqi (z := 2) (hs _ (by decide +kernel))
    · exact e_eqi (z := 0) (hs _ (by decide +kernel))
    · exact e_eqi (z := 2) (hs _ (by decide +kernel))
    · exact e_eqi (z := 1) (hs _ (by decide +kernel))
    · exact e_eqi (z := 0) (hs _ (by decide +kernel))
  have bodies : ∃ t : Nat, (Term.static "EightWorlds$Acts" "BODIES" "[I").eval #[Value.ref b] s none [] s = some (.ref t) ∧ va_X t 32 (zzI xs (38, 0)) s s.heap ∧ t < s.heap.size := by
    refine e_stat (N := 32) (by omega) (hs _ (by decide +kernel)) (e_eqi (z := Int32.ofNat 32) (hs _ (by decide +kernel))) (fun j hj => ?_)
    rcases (show j = 0 ∨ j = 1 ∨ j = 2 ∨ j = 3 ∨ j = 4 ∨ j = 5 ∨ j = 6 ∨ j = 7 ∨ j = 8 ∨ j = 9 ∨ j = 10 ∨ j = 11 ∨ j = 12 ∨ j = 13 ∨ j = 14 ∨ j = 15 ∨ j = 16 ∨ j = 17 ∨ j = 18 ∨ j = 19 ∨ j = 20 ∨ j = 21 ∨ j = 22 ∨ j = 23 ∨ j = 24 ∨ j = 25 ∨ j = 26 ∨ j = 27 ∨ j = 28 ∨ j = 29 ∨ j = 30 ∨ j = 31 by omega) with rfl | rfl | rfl | rfl | rfl | rfl | rfl | rfl | rfl | rfl | rfl | rfl | rfl | rfl | rfl | rfl | rfl | rfl | rfl | rfl | rfl | rfl | rfl | rfl | rfl | rfl | rfl | rfl | rfl | rfl | rfl | rfl
    · exact e_eqi (z := 1) (hs _ (by decide +kernel))
    · exact e_eqi (z := 10) (hs _ (by decide +kernel))
    · exact e_eqi (z := 11) (hs _ (by decide +kernel))
    · exact e_eqi (z := 2) (hs _ (by decide +kernel))
    · exact e_eqi (z := 20) (hs _ (by decide +kernel))
    · exact e_eqi (z := 0) (hs _ (by decide +kernel))
    · exact e_eqi (z := 0) (hs _ (by decide +kernel))
    · exact e_eqi (z := 0) (hs _ (by decide +kernel))
    · exact e_eqi (z := 0) (hs _ (by decide +kernel))
    · exact e_eqi (z := 30) (hs _ (by decide +kernel))
    · exact e_eqi (z := 0) (hs _ (by decide +kernel))
    · exact e_eqi (z := 0) (hs _ (by decide +kernel))
    · exact e_eqi (z := 0) (hs _ (by decide +kernel))
    · exact e_eqi (z := 41) (hs _ (by decide +kernel))
    · exact e_eqi (z := 40) (hs _ (by decide +kernel))
    · exact e_eqi (z := 0) (hs _ (by decide +kernel))
    · exact e_eqi (z := 0) (hs _ (by decide +kernel))
    · exact e_eqi (z := 0) (hs _ (by decide +kernel))
    · exact e_eqi (z := 50) (hs _ (by decide +kernel))
    · exact e_eqi (z := 0) (hs _ (by decide +kernel))
    · exact e_eqi (z := 0) (hs _ (by decide +kernel))
    · exact e_eqi (z := 0) (hs _ (by decide +kernel))
    · exact e_eqi (z := 0) (hs _ (by decide +kernel))
    · exact e_eqi (z := 60) (hs _ (by decide +kernel))
    · exact e_eqi (z := 70) (hs _ (by decide +kernel))
    · exact e_eqi (z := 0) (hs _ (by decide +kernel))
    · exact e_eqi (z := 0) (hs _ (by decide +kernel))
    · exact e_eqi (z := 0) (hs _ (by decide +kernel))
    · exact e_eqi (z := 0) (hs _ (by decide +kernel))
    · exact e_eqi (z := 80) (hs _ (by decide +kernel))
    · exact e_eqi (z := 0) (hs _ (by decide +kernel))
    · exact e_eqi (z := 81) (hs _ (by decide +kernel))
  exact ⟨steps, above, bodies⟩
