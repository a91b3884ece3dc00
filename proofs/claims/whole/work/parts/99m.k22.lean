/-! a call, and that what is never written still stands -/
section CallsX
variable {l : Launch} {mi mi' : MInf} {Rm : Room} {Qf : QF} {post : PO} {d mc ms k n pc pc' : Nat} {S : Shp} {I : MI} {L : ML} {R : MR} {lv : List (Option PV)} {st st0 av : List PV}
theorem g_runX (hrun : ∀ (D : va_G) (cA : Nat → ClassId) (B : Nat) (p : Program) (e : Env) (s : State) (m : MethodId) (args : Array Value) (below : List Frame) (meth : Method) (c : Code) (ad : Tok → Nat) (tk : List Tok) (H : Heap) (locs : List Loc) (ls : Array Slot), Cx mi p s m args meth c → REL D cA B ad tk S I L R s H → lv_has ls mi.2.2.1 (lvl ad 0 lv) → wfs S st0 →
      va_Run p l e Rm s m args below meth c H locs k n mc ms (F0 m pc ls (st0.map (cv ad))) (st.map (cv ad)) (QC D cA B ad S post #[]) (fun q => B ≤ q))
    (wf : wfs S st0 → wfs S st) (hp : pc + 3 = pc') (kk : ∀ (r : Option PV) (S' : Shp) (I' : MI) (L' : ML) (R' : MR), post r S' I' L' R' → (∀ t, (S t).1 ≠ 0 → S' t = S t) → (∀ t j, (S t).1 = 7 → j < (S t).2 → I' t j = I t j) → G l mi Rm Qf (k + mc) (n + ms) pc' lv (r.toList ++ st) S' I' L' R') : G l mi Rm Qf k n pc lv st0 S I L R := by
  subst hp
  intro D cA B ad0 S0 p e s m args below meth c ad tk H locs ls C hm hr hS hB hl wl ws
  intro T hT X
  obtain ⟨v, st₀, t, T', L', h0, X', hL, e1, e2, ⟨⟨r, S', I', L'', R', ad', tk', hv, hpost, hrel, hmono, hwf⟩, hF⟩, stp⟩ := hrun D cA B p e s m args below meth c ad tk H locs ls C hr hl ws T hT X
  cases hv
  have hAl : s.vm.Alike t.vm := by rw [← e2]; exact X'.warmed.alike
  rw [h0.symm] at hr hS
  have hz : st₀.heap.size ≤ t.heap.size := hF.1
  have hk : ∀ q : Nat, q < st₀.heap.size → ¬ B ≤ q → t.heap[q]? = st₀.heap[q]? := hF.2
  have hS' : va_S (fun q => B ≤ q) s.heap T'.heap (locs ++ L') := by
    refine ⟨Nat.le_trans hS.1 (by rw [e1]; exact hz), fun q h1 h2 => ?_, fun q hq => ?_⟩
    · rw [e1, hk q (Nat.lt_of_lt_of_le h1 hS.1) h2]
      exact hS.2.1 q h1 h2
    · rcases List.mem_append.mp hq with h | h
      · exact hS.2.2 q h
      · exact hL q h
  have hext : ∀ v, wfv S v → cv ad' v = cv ad v := fun v hv => cv_ext (fun t ht => (hmono t ht).2) hv
  have hst : st.map (cv ad') = st.map (cv ad) := List.map_congr_left fun v hv => hext v (wf ws v hv)
  have hwst : wfs S' (r.toList ++ st) := by
    intro v hv
    rcases List.mem_append.mp hv with h | h
    · cases r with
      | none => cases h
      | some w =>
        rw [Option.toList_some, List.mem_singleton] at h
        subst h
        exact hwf _ rfl
    · exact wf_ext (fun t ht => (hmono t ht).1) (wf ws v h)
  have hrel' : REL D cA B ad' tk' S' I' L'' R' s T'.heap := by
    rw [e1]
    exact hrel.moved hAl.symm
  have hro : ∀ t j, (S t).1 = 7 → j < (S t).2 → I' t j = I t j := fun t' j h7 hj => by
    obtain ⟨b1, scr, x1, x2, x3, x4, x5⟩ := hr.2.2.2.2.2.2.1.2.2 t' h7
    have hm' := hmono t' (by rw [h7]; decide)
    obtain ⟨c1, scr', y1, y2, y3, y4, y5⟩ := hrel.2.2.2.2.2.2.1.2.2 t' (by rw [hm'.1]; exact h7)
    rw [hm'.2, hk (ad t') (Array.getElem?_eq_some_iff.mp x1).1 (Nat.not_le.mpr b1)] at y1
    cases x1.symm.trans y1
    have e := (x5 j hj).symm.trans (y5 j (by rw [hm'.1]; exact hj))
    injection e with e
    injection e with e
    exact e.symm
  have K := kk r S' I' L'' R' hpost (fun t ht => (hmono t ht).1) hro D cA B ad0 S0 p e s m args below meth c ad' tk' T'.heap (locs ++ L') ls C (fun t ht => by
    have h1 := hm t ht
    have h2 := hmono t (by rw [h1.1]; exact ht)
    exact ⟨h2.1.trans h1.1, h2.2.trans h1.2⟩) hrel' hS' hB (lvl_up hext wl hl) (fun v hv => wf_ext (fun t ht => (hmono t ht).1) (wl v hv)) hwst
  obtain ⟨t2, a1, b1⟩ := K T' rfl X'
  refine ⟨t2, stp t2 ?_, b1⟩
  have e3 : (r.toList ++ st).map (cv ad') = (r.map (cv ad')).toList ++ st.map (cv ad) := by
    rw [List.map_append, hst]
    cases r <;> rfl
  rw [e3] at a1
  exact a1
theorem g_callVX {ci ix na : Nat} {t : Tok} (hc : Ct l mi' d mc ms (.inr (.inr (some t)) :: av) S I L R post) (hS : S t = (ci + 10, 0)) (hci : ci < 10) (hmw : MWv mi' (CN ci) na) (hml : Cond.methodLink mi.1.cls ix mi'.1 ∈ GW) (hna : av.length = na) (hst : st0 = av.reverse ++ .inr (.inr (some t)) :: st) (hcat : catS st ≤ 8) (hR : d + 1 ≤ Rm.frames ∧ 8 + (mi'.2.2.1 + 11) + (64 * d + 40) ≤ Rm.locals) (hf : k + mc ≤ Rm.cells ∧ n + ms ≤ Rm.slots) (hd : decode mi.2.1 pc = .ok (.invokevirtual ix, 3)) (hp : pc + 3 = pc')
    (kk : ∀ (r : Option PV) (S' : Shp) (I' : MI) (L' : ML) (R' : MR), post r S' I' L' R' → (∀ t, (S t).1 ≠ 0 → S' t = S t) → (∀ t j, (S t).1 = 7 → j < (S t).2 → I' t j = I t j) → G l mi Rm Qf (k + mc) (n + ms) pc' lv (r.toList ++ st) S' I' L' R') : G l mi Rm Qf k n pc lv st0 S I L R := by
  subst hst
  refine g_runX (fun D cA B p e s m args below meth c ad tk H locs ls C hr hl ws => ?_) (fun h v hv => h v (List.mem_append_right _ (List.mem_cons_of_mem _ hv))) hp kk
  obtain ⟨q0, -, hq⟩ := G.at hr (t := t) (wrN hS wr10)
  rw [hS, cellOf_obj] at hq
  obtain ⟨w1, w2, w3, w4, w5⟩ := hmw
  have hwa : wfs S (.inr (.inr (some t)) :: av) := by
    intro v hv
    rcases List.mem_cons.mp hv with rfl | hv
    · exact ws _ (List.mem_append_right _ List.mem_cons_self)
    · exact ws _ (List.mem_append_left _ (List.mem_reverse.mpr hv))
  exact va_runV (As := av.map (cv ad)) (rest := st.map (cv ad)) (b := ad t) ⟨C.1, C.2.1, C.2.2.1, C.2.2.2.2.1, C.2.2.2.2.2.1⟩ (hc D cA B ad tk) (cwV na C.2.2.2.2.2.1 (tbl_gi _ (by
      intro w hw
      simp only [wsV, List.mem_append, List.mem_cons, List.not_mem_nil, or_false] at hw
      rcases hw with (rfl | rfl | rfl | rfl) | rfl | hw <;> assumption)) rfl rfl rfl w5 hR) ⟨blindP, va_recv hr.2.2.1 hr.1 (cl_at hci) hq, fun U hU hW => ⟨rfl, by rw [hU]; exact hr.moved hW.alike, hwa, C.2.2.2.2.2.2.2.2.warm hW⟩⟩ rfl (by rw [List.length_map]; exact hna) hl.1 (by show List.map _ _ = _; rw [List.map_append, List.map_reverse]; rfl) (lv_room (by rw [catS_ok]; exact hcat)) hd hf
end CallsX
