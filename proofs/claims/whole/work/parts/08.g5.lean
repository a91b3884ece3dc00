/-! calls -/
section Calls
variable {l : Launch} {mi mi' : MInf} {Rm : Room} {Qf : QF} {post : PO} {d mc ms k n pc pc' : Nat} {S : Shp} {I : MI} {L : ML} {R : MR} {lv : List (Option PV)} {st st0 av : List PV}
theorem cv_ext {S : Shp} {ad ad' : Tok → Nat} (h : ∀ t, (S t).1 ≠ 0 → ad' t = ad t) {v : PV} (hv : wfv S v) : cv ad' v = cv ad v := by
  rcases v with x | x | r
  · rfl
  · rfl
  · cases r with
    | none => rfl
    | some t => show va_rf (some (ad' t)) = va_rf (some (ad t)); rw [h t hv]
theorem wf_ext {S S' : Shp} (h : ∀ t, (S t).1 ≠ 0 → S' t = S t) {v : PV} (hv : wfv S v) : wfv S' v := by
  rcases v with x | x | r
  · trivial
  · trivial
  · cases r with
    | none => trivial
    | some t => show (S' t).1 ≠ 0; rw [h t hv]; exact hv
theorem g_run (hrun : ∀ (D : va_G) (cA : Nat → ClassId) (B : Nat) (p : Program) (e : Env) (s : State) (m : MethodId) (args : Array Value) (below : List Frame) (meth : Method) (c : Code) (ad : Tok → Nat) (tk : List Tok) (H : Heap) (locs : List Loc) (ls : Array Slot), Cx mi p s m args meth c → REL D cA B ad tk S I L R s H → lv_has ls mi.2.2.1 (lvl ad 0 lv) → wfs S st0 →
      va_Run p l e Rm s m args below meth c H locs k n mc ms (F0 m pc ls (st0.map (cv ad))) (st.map (cv ad)) (QC D cA B ad S post #[]) (fun q => B ≤ q))
    (wf : wfs S st0 → wfs S st) (hp : pc + 3 = pc') (kk : ∀ (r : Option PV) (S' : Shp) (I' : MI) (L' : ML) (R' : MR), post r S' I' L' R' → (∀ t, (S t).1 ≠ 0 → S' t = S t) → G l mi Rm Qf (k + mc) (n + ms) pc' lv (r.toList ++ st) S' I' L' R') : G l mi Rm Qf k n pc lv st0 S I L R := by
  subst hp
  intro D cA B ad0 S0 p e s m args below meth c ad tk H locs ls C hm hr hS hB hl wl ws
  intro T hT X
  obtain ⟨v, st₀, t, T', L', h0, X', hL, e1, e2, ⟨⟨r, S', I', L'', R', ad', tk', hv, hpost, hrel, hmono, hwf⟩, hF⟩, stp⟩ := hrun D cA B p e s m args below meth c ad tk H locs ls C hr hl ws T hT X
  cases hv
  have hAl : s.vm.Alike t.vm := by rw [← e2]; exact X'.warmed.alike
  rw [h0.symm] at hr hS
  have hz : st₀.heap.size ≤ t.heap.size := hF.1
  have hk : ∀ q : Nat, q < st₀.heap.size → ¬ B ≤ q → t.heap[q]? = st₀.heap[q]? := hF.2
  have hS' : va_S (fun q => B ≤ q) s.heap T'.heap (locs ++ L') := by
    refine ⟨Nat.le_trans hS.1 (by rw [e1]; exact hz), fun q h1 h2 => ?_, fun q hq => ?_⟩
    · rw [e1, hk q (Nat.lt_of_lt_of_le h1 hS.1) h2]
      exact hS.2.1 q h1 h2
    · rcases List.mem_append.mp hq with h | h
      · exact hS.2.2 q h
      · exact hL q h
  have hext : ∀ v, wfv S v → cv ad' v = cv ad v := fun v hv => cv_ext (fun t ht => (hmono t ht).2) hv
  have hst : st.map (cv ad') = st.map (cv ad) := List.map_congr_left fun v hv => hext v (wf ws v hv)
  have hwst : wfs S' (r.toList ++ st) := by
    intro v hv
    rcases List.mem_append.mp hv with h | h
    · cases r with
      | none => cases h
      | some w =>
        rw [Option.toList_some, List.mem_singleton] at h
        subst h
        exact hwf _ rfl
    · exact wf_ext (fun t ht => (hmono t ht).1) (wf ws v h)
  have hrel' : REL D cA B ad' tk' S' I' L'' R' s T'.heap := by
    rw [e1]
    exact hrel.moved hAl.symm
  have K := kk r S' I' L'' R' hpost (fun t ht => (hmono t ht).1) D cA B ad0 S0 p e s m args below meth c ad' tk' T'.heap (locs ++ L') ls C (fun t ht => by
    have h1 := hm t ht
    have h2 := hmono t (by rw [h1.1]; exact ht)
    exact ⟨h2.1.trans h1.1, h2.2.trans h1.2⟩) hrel' hS' hB (lvl_up hext wl hl) (fun v hv => wf_ext (fun t ht => (hmono t ht).1) (wl v hv)) hwst
  obtain ⟨t2, a1, b1⟩ := K T' rfl X'
  refine ⟨t2, stp t2 ?_, b1⟩
  have e3 : (r.toList ++ st).map (cv ad') = (r.map (cv ad')).toList ++ st.map (cv ad) := by
    rw [List.map_append, hst]
    cases r <;> rfl
  rw [e3] at a1
  exact a1
/-- what a virtual call wants of the tables -/
def MWv (mi' : MInf) (C : String) (n : Nat) : Prop := Cond.instanceMethod mi'.1 ∈ GW ∧ Cond.selects C mi'.1 mi'.1 ∈ GW ∧ Cond.initialized C ∈ GW ∧ Cond.code mi'.1 mi'.2.1 mi'.2.2.1 mi'.2.2.2 ∈ GW ∧ mi'.1.cls = C ∧ mi'.1.cls ≠ "java/lang/invoke/MethodHandle" ∧ mi'.1.cls ≠ "java/lang/invoke/VarHandle" ∧ (parseMethodDescriptor mi'.1.desc).map (fun d => d.parameters.length) = some n
def MWs (mi' : MInf) (n : Nat) : Prop := Cond.static mi'.1 ∈ GW ∧ Cond.initialized mi'.1.cls ∈ GW ∧ Cond.code mi'.1 mi'.2.1 mi'.2.2.1 mi'.2.2.2 ∈ GW ∧ mi'.1.cls ≠ "java/lang/invoke/MethodHandle" ∧ mi'.1.cls ≠ "java/lang/invoke/VarHandle" ∧ (parseMethodDescriptor mi'.1.desc).map (fun d => d.parameters.length) = some n
def MWi (mi' : MInf) (n : Nat) : Prop := Cond.instanceMethod mi'.1 ∈ GW ∧ Cond.initialized mi'.1.cls ∈ GW ∧ Cond.code mi'.1 mi'.2.1 mi'.2.2.1 mi'.2.2.2 ∈ GW ∧ mi'.1.name = "<init>" ∧ mi'.2.2.2 = none ∧ mi'.1.cls ≠ "java/lang/invoke/MethodHandle" ∧ mi'.1.cls ≠ "java/lang/invoke/VarHandle" ∧ (parseMethodDescriptor mi'.1.desc).map (fun d => d.parameters.length) = some n
theorem blindP {D : va_G} {cA : Nat → ClassId} {B : Nat} {ad : Tok → Nat} {tk : List Tok} {vs : List Value} : FrameBlind (va_Pc vs (fun U => REL D cA B ad tk S I L R U U.heap ∧ wfs S av ∧ XW U)) := fun a U g mk q => by
  obtain ⟨h1, h2, h3, h4⟩ := q
  exact ⟨h1, h2.moved (u := U) (U := U.calling g mk a) (Vm.Alike.refl U.vm), h3, h4.same (u := U) (U := U.calling g mk a) rfl⟩
theorem g_callV {ci ix na : Nat} {t : Tok} (hc : Ct l mi' d mc ms (.inr (.inr (some t)) :: av) S I L R post) (hS : S t = (ci + 10, 0)) (hci : ci < 10) (hmw : MWv mi' (CN ci) na) (hml : Cond.methodLink mi.1.cls ix mi'.1 ∈ GW) (hna : av.length = na) (hst : st0 = av.reverse ++ .inr (.inr (some t)) :: st) (hcat : catS st ≤ 8) (hR : d + 1 ≤ Rm.frames ∧ 8 + (mi'.2.2.1 + 11) + (64 * d + 40) ≤ Rm.locals) (hf : k + mc ≤ Rm.cells ∧ n + ms ≤ Rm.slots) (hd : decode mi.2.1 pc = .ok (.invokevirtual ix, 3)) (hp : pc + 3 = pc')
    (kk : ∀ (r : Option PV) (S' : Shp) (I' : MI) (L' : ML) (R' : MR), post r S' I' L' R' → (∀ t, (S t).1 ≠ 0 → S' t = S t) → G l mi Rm Qf (k + mc) (n + ms) pc' lv (r.toList ++ st) S' I' L' R') : G l mi Rm Qf k n pc lv st0 S I L R := by
  subst hst
  refine g_run (fun D cA B p e s m args below meth c ad tk H locs ls C hr hl ws => ?_) (fun h v hv => h v (List.mem_append_right _ (List.mem_cons_of_mem _ hv))) hp kk
  obtain ⟨q0, -, hq⟩ := G.at hr (t := t) (wrN hS wr10)
  rw [hS, cellOf_obj] at hq
  obtain ⟨w1, w2, w3, w4, w5⟩ := hmw
  have hwa : wfs S (.inr (.inr (some t)) :: av) := by
    intro v hv
    rcases List.mem_cons.mp hv with rfl | hv
    · exact ws _ (List.mem_append_right _ List.mem_cons_self)
    · exact ws _ (List.mem_append_left _ (List.mem_reverse.mpr hv))
  exact va_runV (As := av.map (cv ad)) (rest := st.map (cv ad)) (b := ad t) ⟨C.1, C.2.1, C.2.2.1, C.2.2.2.2.1, C.2.2.2.2.2.1⟩ (hc D cA B ad tk) (cwV na C.2.2.2.2.2.1 (tbl_gi _ (by
      intro w hw
      simp only [wsV, List.mem_append, List.mem_cons, List.not_mem_nil, or_false] at hw
      rcases hw with (rfl | rfl | rfl | rfl) | rfl | hw <;> assumption)) rfl rfl rfl w5 hR) ⟨blindP, va_recv hr.2.2.1 hr.1 (cl_at hci) hq, fun U hU hW => ⟨rfl, by rw [hU]; exact hr.moved hW.alike, hwa, C.2.2.2.2.2.2.2.2.warm hW⟩⟩ rfl (by rw [List.length_map]; exact hna) hl.1 (by show List.map _ _ = _; rw [List.map_append, List.map_reverse]; rfl) (lv_room (by rw [catS_ok]; exact hcat)) hd hf
theorem g_callS {ix na : Nat} (hc : Ct l mi' d mc ms av S I L R post) (hmw : MWs mi' na) (hml : Cond.methodLink mi.1.cls ix mi'.1 ∈ GW) (hna : av.length = na) (hst : st0 = av.reverse ++ st) (hcat : catS st ≤ 8) (hR : d + 1 ≤ Rm.frames ∧ 8 + (mi'.2.2.1 + 11) + (64 * d + 40) ≤ Rm.locals) (hf : k + mc ≤ Rm.cells ∧ n + ms ≤ Rm.slots) (hd : decode mi.2.1 pc = .ok (.invokestatic ix, 3)) (hp : pc + 3 = pc')
    (kk : ∀ (r : Option PV) (S' : Shp) (I' : MI) (L' : ML) (R' : MR), post r S' I' L' R' → (∀ t, (S t).1 ≠ 0 → S' t = S t) → G l mi Rm Qf (k + mc) (n + ms) pc' lv (r.toList ++ st) S' I' L' R') : G l mi Rm Qf k n pc lv st0 S I L R := by
  subst hst
  refine g_run (fun D cA B p e s m args below meth c ad tk H locs ls C hr hl ws => ?_) (fun h v hv => h v (List.mem_append_right _ hv)) hp kk
  obtain ⟨w1, w2, w3, w4⟩ := hmw
  have hwa : wfs S av := fun v hv => ws _ (List.mem_append_left _ (List.mem_reverse.mpr hv))
  exact va_runS (As := av.map (cv ad)) (rest := st.map (cv ad)) ⟨C.1, C.2.1, C.2.2.1, C.2.2.2.2.1, C.2.2.2.2.2.1⟩ (hc D cA B ad tk) (va_cwS na C.2.2.2.2.2.1 (tbl_gi _ (by
      intro w hw
      simp only [va_wsS, List.mem_append, List.mem_cons, List.not_mem_nil, or_false] at hw
      rcases hw with (rfl | rfl | rfl) | rfl | hw <;> assumption)) rfl rfl rfl w4 hR) ⟨blindP, fun U hU hW => ⟨rfl, by rw [hU]; exact hr.moved hW.alike, hwa, C.2.2.2.2.2.2.2.2.warm hW⟩⟩ rfl (by rw [List.length_map]; exact hna) hl.1 (by show List.map _ _ = _; rw [List.map_append, List.map_reverse]) (lv_room (by rw [catS_ok]; exact hcat)) hd hf
theorem g_callI {ix na : Nat} {t : Tok} {y : MethodName} {cc : ByteArray} {nL : Nat} (hc : Ct l (y, cc, nL, none) d mc ms (.inr (.inr (some t)) :: av) S I L R post) (hmw : MWi (y, cc, nL, none) na) (hml : Cond.methodLink mi.1.cls ix y ∈ GW ∨ ∀ {s : State}, XW s → va_Nw (.methodLinkNest mi.1.cls ix y RX8) s) (hna : av.length = na) (hst : st0 = av.reverse ++ .inr (.inr (some t)) :: st) (hcat : catS st ≤ 8) (hR : d + 1 ≤ Rm.frames ∧ 8 + (nL + 11) + (64 * d + 40) ≤ Rm.locals) (hf : k + mc ≤ Rm.cells ∧ n + ms ≤ Rm.slots) (hd : decode mi.2.1 pc = .ok (.invokespecial ix, 3)) (hp : pc + 3 = pc')
    (kk : ∀ (r : Option PV) (S' : Shp) (I' : MI) (L' : ML) (R' : MR), post r S' I' L' R' → (∀ t, (S t).1 ≠ 0 → S' t = S t) → G l mi Rm Qf (k + mc) (n + ms) pc' lv (r.toList ++ st) S' I' L' R') : G l mi Rm Qf k n pc lv st0 S I L R := by
  subst hst
  refine g_run (fun D cA B p e s m args below meth c ad tk H locs ls C hr hl ws => ?_) (fun h v hv => h v (List.mem_append_right _ (List.mem_cons_of_mem _ hv))) hp kk
  obtain ⟨w1, w2, w3, w4, -, w5⟩ := hmw
  have hwa : wfs S (.inr (.inr (some t)) :: av) := by
    intro v hv
    rcases List.mem_cons.mp hv with rfl | hv
    · exact ws _ (List.mem_append_right _ List.mem_cons_self)
    · exact ws _ (List.mem_append_left _ (List.mem_reverse.mpr hv))
  have hG : GoodIn GW (Cond.code y cc nL none :: GW) := tbl_gi _ (by
      intro w hw
      rcases List.mem_cons.mp hw with rfl | hw <;> assumption)
  rcases hml with hml | hml
  · exact va_runI (As := av.map (cv ad)) (rest := st.map (cv ad)) (b := ad t) ⟨C.1, C.2.1, C.2.2.1, C.2.2.2.2.1, C.2.2.2.2.2.1⟩ (hc D cA B ad tk) (cwI na C.2.2.2.2.2.1 hG rfl rfl rfl (C.2.2.2.2.2.1 _ w2) (C.2.2.2.2.2.1 _ hml) (C.2.2.2.2.2.1 _ w1) w4 w5 hR) ⟨blindP, fun U hU hW => ⟨rfl, by rw [hU]; exact hr.moved hW.alike, hwa, C.2.2.2.2.2.2.2.2.warm hW⟩⟩ rfl (by rw [List.length_map]; exact hna) hl.1 (by show List.map _ _ = _; rw [List.map_append, List.map_reverse]; rfl) (lv_room (by rw [catS_ok]; exact hcat)) hd hf
  · exact va_runIN (As := av.map (cv ad)) (rest := st.map (cv ad)) (b := ad t) ⟨C.1, C.2.1, C.2.2.1, C.2.2.2.2.1, C.2.2.2.2.2.1⟩ (hc D cA B ad tk) ⟨va_cnB na C.2.2.2.2.2.1 hG rfl rfl rfl (hml C.2.2.2.2.2.2.2.2) (C.2.2.2.2.2.1 _ w2) w5 hR, w4, C.2.2.2.2.2.1 _ w1⟩ ⟨blindP, fun U hU hW => ⟨rfl, by rw [hU]; exact hr.moved hW.alike, hwa, C.2.2.2.2.2.2.2.2.warm hW⟩⟩ rfl (by rw [List.length_map]; exact hna) hl.1 (by show List.map _ _ = _; rw [List.map_append, List.map_reverse]; rfl) (lv_room (by rw [catS_ok]; exact hcat)) hd hf
/-! ends of a method that makes no cell and writes ints alone -/
def PIm (S : Shp) (L : ML) (R : MR) (q : Int32 → MI → Prop) : PO := fun r S' I' L' R' => ∃ v, r = some (.inl v) ∧ S' = S ∧ L' = L ∧ R' = R ∧ q v I'
def PJm (S : Shp) (L : ML) (R : MR) (q : Int64 → MI → Prop) : PO := fun r S' I' L' R' => ∃ v, r = some (.inr (.inl v)) ∧ S' = S ∧ L' = L ∧ R' = R ∧ q v I'
def PRm (S : Shp) (L : ML) (R : MR) (q : Option Tok → MI → Prop) : PO := fun r S' I' L' R' => ∃ v, r = some (.inr (.inr v)) ∧ S' = S ∧ L' = L ∧ R' = R ∧ q v I'
def PVm (S : Shp) (L : ML) (R : MR) (q : MI → Prop) : PO := fun r S' I' L' R' => r = none ∧ S' = S ∧ L' = L ∧ R' = R ∧ q I'
theorem kI {S : Shp} {L : ML} {R : MR} {q : Int32 → MI → Prop} (kk : ∀ v I', q v I' → G l mi Rm Qf k n pc' lv (.inl v :: st) S I' L R) : ∀ (r : Option PV) (S' : Shp) (I' : MI) (L' : ML) (R' : MR), PIm S L R q r S' I' L' R' → (∀ t, (S t).1 ≠ 0 → S' t = S t) → G l mi Rm Qf (k + 0) (n + 0) pc' lv (r.toList ++ st) S' I' L' R' := by
  rintro r S' I' L' R' ⟨v, rfl, rfl, rfl, rfl, h⟩ _
  exact kk v I' h
theorem kJ {S : Shp} {L : ML} {R : MR} {q : Int64 → MI → Prop} (kk : ∀ v I', q v I' → G l mi Rm Qf k n pc' lv (.inr (.inl v) :: st) S I' L R) : ∀ (r : Option PV) (S' : Shp) (I' : MI) (L' : ML) (R' : MR), PJm S L R q r S' I' L' R' → (∀ t, (S t).1 ≠ 0 → S' t = S t) → G l mi Rm Qf (k + 0) (n + 0) pc' lv (r.toList ++ st) S' I' L' R' := by
  rintro r S' I' L' R' ⟨v, rfl, rfl, rfl, rfl, h⟩ _
  exact kk v I' h
theorem kR {S : Shp} {L : ML} {R : MR} {q : Option Tok → MI → Prop} (kk : ∀ v I', q v I' → G l mi Rm Qf k n pc' lv (.inr (.inr v) :: st) S I' L R) : ∀ (r : Option PV) (S' : Shp) (I' : MI) (L' : ML) (R' : MR), PRm S L R q r S' I' L' R' → (∀ t, (S t).1 ≠ 0 → S' t = S t) → G l mi Rm Qf (k + 0) (n + 0) pc' lv (r.toList ++ st) S' I' L' R' := by
  rintro r S' I' L' R' ⟨v, rfl, rfl, rfl, rfl, h⟩ _
  exact kk v I' h
theorem kV {S : Shp} {L : ML} {R : MR} {q : MI → Prop} (kk : ∀ I', q I' → G l mi Rm Qf k n pc' lv st S I' L R) : ∀ (r : Option PV) (S' : Shp) (I' : MI) (L' : ML) (R' : MR), PVm S L R q r S' I' L' R' → (∀ t, (S t).1 ≠ 0 → S' t = S t) → G l mi Rm Qf (k + 0) (n + 0) pc' lv (r.toList ++ st) S' I' L' R' := by
  rintro r S' I' L' R' ⟨rfl, rfl, rfl, rfl, h⟩ _
  exact kk I' h
theorem eI {q : Int32 → MI → Prop} {v : Int32} (h : q v I) : PIm S L R q (some (.inl v)) S I L R := ⟨v, rfl, rfl, rfl, rfl, h⟩
theorem eJ {q : Int64 → MI → Prop} {v : Int64} (h : q v I) : PJm S L R q (some (.inr (.inl v))) S I L R := ⟨v, rfl, rfl, rfl, rfl, h⟩
theorem eR {q : Option Tok → MI → Prop} {v : Option Tok} (h : q v I) : PRm S L R q (some (.inr (.inr v))) S I L R := ⟨v, rfl, rfl, rfl, rfl, h⟩
theorem eV {q : MI → Prop} (h : q I) : PVm S L R q none S I L R := ⟨rfl, rfl, rfl, rfl, h⟩
end Calls
