/-! rules that end a method, make cells, and call -/
section Ends
variable {l : Launch} {mi : MInf} {Rm : Room} {Qf : QF} {post : PO} {mc ms k n pc pc' : Nat} {S : Shp} {I : MI} {L : ML} {R : MR} {lv : List (Option PV)} {st : List PV}
theorem QC.mk {D : va_G} {cA : Nat → ClassId} {B : Nat} {ad0 ad : Tok → Nat} {S0 : Shp} {tk : List Tok} {s t : State} {H : Heap} {locs : List Loc} {args : Array Value} (hm : ∀ t, (S0 t).1 ≠ 0 → S t = S0 t ∧ ad t = ad0 t) (hr : REL D cA B ad tk S I L R s H) (hS : va_S (fun q => B ≤ q) s.heap H locs) (ht : t.heap = H) (hW : s.WarmedH t.vm) {r : Option PV} (hp : post r S I L R) (hwf : ∀ v, r = some v → wfv S v) : QC D cA B ad0 S0 post args s (.returned (r.map (cv ad))) t :=
  ⟨⟨r, S, I, L, R, ad, tk, rfl, hp, by rw [ht]; exact hr.moved hW.alike, hm, hwf⟩, hS.F ht⟩
theorem g_zret {ty : FieldType} {v : Int32} (hret : mi.2.2.2 = some ty) (hn : narrow ty (.int v) = .int v) (hd : decode mi.2.1 pc = .ok (.ireturn, 1)) (hp : post (some (.inl v)) S I L R) : G l mi Rm (QM post k n) k n pc lv [.inl v] S I L R :=
  fun D cA B ad0 S0 p e s m args below meth c ad tk H locs ls C hm hr hS hB hl wl ws => W.zret C.1 C.2.1 (C.2.2.2.1.trans hret) hn (fun _ ht hW => QC.mk hm hr hS ht hW (r := some (.inl v)) hp (fun _ h => by cases h; exact trivial)) (fun q hq => hS.2.2 q hq) hd C.2.2.2.2.2.2.1
theorem g_iret {v : Int32} (hret : mi.2.2.2 = some .int) (hd : decode mi.2.1 pc = .ok (.ireturn, 1)) (hp : post (some (.inl v)) S I L R) : G l mi Rm (QM post k n) k n pc lv [.inl v] S I L R := g_zret hret rfl hd hp
theorem g_lret {v : Int64} (hret : mi.2.2.2 = some .long) (hd : decode mi.2.1 pc = .ok (.lreturn, 1)) (hp : post (some (.inr (.inl v))) S I L R) : G l mi Rm (QM post k n) k n pc lv [.inr (.inl v)] S I L R :=
  fun D cA B ad0 S0 p e s m args below meth c ad tk H locs ls C hm hr hS hB hl wl ws => W.lret C.1 C.2.1 (C.2.2.2.1.trans hret) (fun _ ht hW => QC.mk hm hr hS ht hW (r := some (.inr (.inl v))) hp (fun _ h => by cases h; exact trivial)) (fun q hq => hS.2.2 q hq) hd C.2.2.2.2.2.2.1
theorem g_vret (hret : mi.2.2.2 = none) (hd : decode mi.2.1 pc = .ok (.return_, 1)) (hp : post none S I L R) : G l mi Rm (QM post k n) k n pc lv [] S I L R :=
  fun D cA B ad0 S0 p e s m args below meth c ad tk H locs ls C hm hr hS hB hl wl ws => W.vret C.1 C.2.1 (C.2.2.2.1.trans hret) (fun _ ht hW => QC.mk hm hr hS ht hW (r := none) hp (fun _ h => by cases h)) (fun q hq => hS.2.2 q hq) hd C.2.2.2.2.2.2.1
theorem g_aret {v : Option Tok} {rt : FieldType} (hret : mi.2.2.2 = some rt) (hrt : (∃ n, rt = .object n) ∨ ∃ t, rt = .array t) (hd : decode mi.2.1 pc = .ok (.areturn, 1)) (hp : post (some (.inr (.inr v))) S I L R) : G l mi Rm (QM post k n) k n pc lv [.inr (.inr v)] S I L R :=
  fun D cA B ad0 S0 p e s m args below meth c ad tk H locs ls C hm hr hS hB hl wl ws => W.aret C.1 C.2.1 (C.2.2.2.1.trans hret) hrt (by
    cases v with
    | none => exact Or.inl rfl
    | some t => exact Or.inr ⟨_, rfl⟩) (fun _ ht hW => QC.mk hm hr hS ht hW (r := some (.inr (.inr v))) hp (fun _ h => by cases h; exact ws _ List.mem_cons_self)) (fun q hq => hS.2.2 q hq) hd C.2.2.2.2.2.2.1
/-- the static arrays -/
theorem g_st0 {C' nm : String} {tq : Tok} (hz : ∀ {B : Nat} {ad : Tok → Nat} {U : State} {H : Heap}, RO B ad S I U H → va_Z C' nm "[I" (.ref (ad tq)) (fun q => B ≤ q) U H ∧ (S tq).1 = 7) {ix : Nat} (hw : Cond.fieldLink mi.1.cls ix C' nm "[I" ∈ GW) (hd : decode mi.2.1 pc = .ok (.getstatic ix, 3)) (hp : pc + 3 = pc') (kk : G l mi Rm Qf k n pc' lv (.inr (.inr (some tq)) :: st) S I L R) : G l mi Rm Qf k n pc lv st S I L R := by
  subst hp
  intro D cA B ad0 S0 p e s m args below meth c ad tk H locs ls C hm hr hS hB hl wl ws
  obtain ⟨⟨cf, kf, fi, f, a, cell, h1, h2, h3, h4, h5, h6, h7, h8⟩, h9⟩ := hz hr.2.2.2.2.2.2.1
  refine W.gets C.1 C.2.1 C.2.2.2.2.1 (C.2.2.2.2.2.1 _ hw) h1 h2 h3 h4 h5 (fun e => by rw [e] at h6; cases h6) h7 rfl hd ?_
  exact kk D cA B ad0 S0 p e s m args below meth c ad tk H locs ls C hm hr hS hB hl wl (wsC (v := .inr (.inr (some tq))) (by show (S tq).1 ≠ 0; rw [h9]; decide) ws)
theorem g_steps {ix : Nat} (hw : Cond.fieldLink mi.1.cls ix "EightWorlds$Odds" "STEPS" "[I" ∈ GW) (hd : decode mi.2.1 pc = .ok (.getstatic ix, 3)) (hp : pc + 3 = pc') (kk : G l mi Rm Qf k n pc' lv (.inr (.inr (some (36, 0))) :: st) S I L R) : G l mi Rm Qf k n pc lv st S I L R := g_st0 (fun h => ⟨h.1.1, h.2.1.1⟩) hw hd hp kk
theorem g_above {ix : Nat} (hw : Cond.fieldLink mi.1.cls ix "EightWorlds$Acts" "ABOVE" "[I" ∈ GW) (hd : decode mi.2.1 pc = .ok (.getstatic ix, 3)) (hp : pc + 3 = pc') (kk : G l mi Rm Qf k n pc' lv (.inr (.inr (some (37, 0))) :: st) S I L R) : G l mi Rm Qf k n pc lv st S I L R := g_st0 (fun h => ⟨h.1.2.1, h.2.1.2.1⟩) hw hd hp kk
theorem g_bodies {ix : Nat} (hw : Cond.fieldLink mi.1.cls ix "EightWorlds$Acts" "BODIES" "[I" ∈ GW) (hd : decode mi.2.1 pc = .ok (.getstatic ix, 3)) (hp : pc + 3 = pc') (kk : G l mi Rm Qf k n pc' lv (.inr (.inr (some (38, 0))) :: st) S I L R) : G l mi Rm Qf k n pc lv st S I L R := g_st0 (fun h => ⟨h.1.2.2, h.2.1.2.2⟩) hw hd hp kk
/-! new cells -/
theorem def_ok {c : Nat} (h : c < 10) : ∀ j, j < nF c → defaultValue (tyC c j) = if isI (tyC c j) = true then .int 0 else .null := c10 (P := fun c => ∀ j, j < nF c → defaultValue (tyC c j) = if isI (tyC c j) = true then .int 0 else .null) (by decide) (by decide) (by decide) (by decide) (by decide) (by decide) (by decide) (by decide) (by decide) (by decide) h
theorem fs_none {ad ad' : Tok → Nat} {c : Nat} {i : Nat → Int32} : fsOf ad c i (fun _ => none) = fsOf ad' c i (fun _ => none) := rfl
theorem g_new {ci ix : Nat} (t : Tok) (ht : (S t).1 = 0) (hc : ci < 10) (hw : Cond.classLink mi.1.cls ix (CN ci) ∈ GW ∧ Cond.instantiable (CN ci) (nF ci) ∈ GW ∧ Cond.initialized (CN ci) ∈ GW) (hcells : k + 1 ≤ Rm.cells) (hslots : n + nF ci ≤ Rm.slots) (hd : decode mi.2.1 pc = .ok (.new ix, 3)) (hp : pc + 3 = pc') (kk : G l mi Rm Qf (k + 1) (n + nF ci) pc' lv (.inr (.inr (some t)) :: st) (upT S t (ci + 10, 0)) (upT I t (fun _ => 0)) L (upT R t (fun _ => none))) : G l mi Rm Qf k n pc lv st S I L R := by
  subst hp
  intro D cA B ad0 S0 p e s m args below meth c ad tk H locs ls C hm hr hS hB hl wl ws
  refine va_new (ci := ci) (fs := fsOf ad ci (fun _ => 0) (fun _ => none)) C.1 C.2.1 (fun w h => C.2.2.2.2.2.1 w h) (cl_in hc) (tyC ci) (cl_ty hc) C.2.2.2.2.1 (C.2.2.2.2.2.1 _ hw.1) (C.2.2.2.2.2.1 _ hw.2.1) (C.2.2.2.2.2.1 _ hw.2.2) hr.2.2.1 hr.1 hr.2.1 hS (fun q h => Nat.le_trans hB h) (cl_at hc) (fun j hj => ?_) hcells hslots hd (fun q H1 hP hD hS1 => ?_)
  · rw [def_ok hc j hj]
    show _ = (fsOf ad ci (fun _ => 0) (fun _ => none)).getD j .null
    rw [List.getD_eq_getElem?_getD, fs_at hj]
    split <;> rfl
  · have hwr : wr (ci + 10, 0) := wr10
    have K := kk D cA B ad0 S0 p e s m args below meth c (upT ad t q) (tk ++ [t]) H1 locs ls C (S0keep hm ht) (hr.push ht hwr (q := q) (fun t' h => upT_n I h _) (fun _ _ => rfl) (fun t' h => upT_n R h _) (fun k' => by rw [upT_s]) (by rw [upT_s, upT_s, cellOf_obj, fs_none (ad' := ad)]; exact hP) (by rw [upT_s, upT_s, cellOf_obj, fs_none (ad' := ad)]; exact hD) hS hS1 hB) hS1 hB (lvl_up (fun v hv => cv_up ht hv) wl hl) (fun v hv => wf_up hwr ht (wl v hv)) (wsC (v := .inr (.inr (some t))) (by show (upT S t _ t).1 ≠ 0; rw [upT_s]; exact hwr.1) (fun v hv => wf_up hwr ht (ws v hv)))
    rw [List.map_cons, st_up ht ws, show cv (upT ad t q) (.inr (.inr (some t))) = Value.ref q from congrArg Value.ref (upT_s ad t q)] at K
    exact K
theorem g_newI {len : Nat} {i : Int32} (t : Tok) (ht : (S t).1 = 0) (hi : i = nI len) (hlen : len ≤ 100000) (hw : Cond.arrayClass .int ∈ GW) (hcells : k + 1 ≤ Rm.cells) (hslots : n + len ≤ Rm.slots) (hd : decode mi.2.1 pc = .ok (.newarray .int, 2)) (hp : pc + 2 = pc') (kk : G l mi Rm Qf (k + 1) (n + len) pc' lv (.inr (.inr (some t)) :: st) (upT S t (1, len)) (upT I t (fun _ => 0)) L (upT R t (fun _ => none))) : G l mi Rm Qf k n pc lv (.inl i :: st) S I L R := by
  subst hp
  subst hi
  intro D cA B ad0 S0 p e s m args below meth c ad tk H locs ls C hm hr hS hB hl wl ws
  refine va_newa (atype := .int) (ty := .int) (a0 := (len, .inl (fun _ => 0))) (N' := len) C.1 C.2.1 (C.2.2.2.2.2.1 _ hw) rfl hr.2.2.1 hr.1 hr.2.1 hS (fun q h => Nat.le_trans hB h) (fun _ => rfl) (nI_pos (by omega)) (nI_clamp (by omega)) (by show len * 4 ≤ _; omega) hcells hslots hd (fun q cA' H1 hK hP hD hS1 => ?_)
  have e1 : s.vm.findClass ("[" ++ FieldType.int.toString) = some cA' := (hK.2 6 _ rfl).2
  have e2 : s.vm.findClass ("[" ++ FieldType.int.toString) = some (cA 0) := (hK.2 0 _ rfl).2
  have e3 : cA' = cA 0 := Option.some.inj (e1.symm.trans e2)
  subst e3
  have hwr : wr (1, len) := ⟨by simp, by simp⟩
  have K := kk D cA B ad0 S0 p e s m args below meth c (upT ad t q) (tk ++ [t]) H1 locs ls C (S0keep hm ht) (hr.push ht hwr (q := q) (fun t' h => upT_n I h _) (fun _ _ => rfl) (fun t' h => upT_n R h _) (fun k' => by rw [upT_s]) (by rw [upT_s]; exact hP) (by rw [upT_s]; exact hD) hS hS1 hB) hS1 hB (lvl_up (fun v hv => cv_up ht hv) wl hl) (fun v hv => wf_up hwr ht (wl v hv)) (wsC (v := .inr (.inr (some t))) (by show (upT S t _ t).1 ≠ 0; rw [upT_s]; exact hwr.1) (fun v hv => wf_up hwr ht (wsT ws v hv)))
  rw [List.map_cons, st_up ht (wsT ws), show cv (upT ad t q) (.inr (.inr (some t))) = Value.ref q from congrArg Value.ref (upT_s ad t q)] at K
  exact K
theorem g_newB {len : Nat} {i : Int32} (t : Tok) (ht : (S t).1 = 0) (hi : i = nI len) (hlen : len ≤ 100000) (hw : Cond.arrayClass .byte ∈ GW) (hcells : k + 1 ≤ Rm.cells) (hslots : n + len ≤ Rm.slots) (hd : decode mi.2.1 pc = .ok (.newarray .byte, 2)) (hp : pc + 2 = pc') (kk : G l mi Rm Qf (k + 1) (n + len) pc' lv (.inr (.inr (some t)) :: st) (upT S t (2, len)) (upT I t (fun _ => 0)) L (upT R t (fun _ => none))) : G l mi Rm Qf k n pc lv (.inl i :: st) S I L R := by
  subst hp
  subst hi
  intro D cA B ad0 S0 p e s m args below meth c ad tk H locs ls C hm hr hS hB hl wl ws
  refine va_newa (atype := .byte) (ty := .byte) (a0 := (len, .inl (fun _ => 0))) (N' := len) C.1 C.2.1 (C.2.2.2.2.2.1 _ hw) rfl hr.2.2.1 hr.1 hr.2.1 hS (fun q h => Nat.le_trans hB h) (fun _ => rfl) (nI_pos (by omega)) (nI_clamp (by omega)) (by show len * 1 ≤ _; omega) hcells hslots hd (fun q cA' H1 hK hP hD hS1 => ?_)
  have e1 : s.vm.findClass ("[" ++ FieldType.byte.toString) = some cA' := (hK.2 6 _ rfl).2
  have e2 : s.vm.findClass ("[" ++ FieldType.byte.toString) = some (cA 1) := (hK.2 1 _ rfl).2
  have e3 : cA' = cA 1 := Option.some.inj (e1.symm.trans e2)
  subst e3
  have hwr : wr (2, len) := ⟨by simp, by simp⟩
  have K := kk D cA B ad0 S0 p e s m args below meth c (upT ad t q) (tk ++ [t]) H1 locs ls C (S0keep hm ht) (hr.push ht hwr (q := q) (fun t' h => upT_n I h _) (fun _ _ => rfl) (fun t' h => upT_n R h _) (fun k' => by rw [upT_s]) (by rw [upT_s]; exact hP) (by rw [upT_s]; exact hD) hS hS1 hB) hS1 hB (lvl_up (fun v hv => cv_up ht hv) wl hl) (fun v hv => wf_up hwr ht (wl v hv)) (wsC (v := .inr (.inr (some t))) (by show (upT S t _ t).1 ≠ 0; rw [upT_s]; exact hwr.1) (fun v hv => wf_up hwr ht (wsT ws v hv)))
  rw [List.map_cons, st_up ht (wsT ws), show cv (upT ad t q) (.inr (.inr (some t))) = Value.ref q from congrArg Value.ref (upT_s ad t q)] at K
  exact K
theorem g_newJ {len : Nat} {i : Int32} (t : Tok) (ht : (S t).1 = 0) (hi : i = nI len) (hlen : len ≤ 100000) (hw : Cond.arrayClass .long ∈ GW) (hcells : k + 1 ≤ Rm.cells) (hslots : n + len ≤ Rm.slots) (hd : decode mi.2.1 pc = .ok (.newarray .long, 2)) (hp : pc + 2 = pc') (kk : G l mi Rm Qf (k + 1) (n + len) pc' lv (.inr (.inr (some t)) :: st) (upT S t (3, len)) I (upT L t (fun _ => 0)) (upT R t (fun _ => none))) : G l mi Rm Qf k n pc lv (.inl i :: st) S I L R := by
  subst hp
  subst hi
  intro D cA B ad0 S0 p e s m args below meth c ad tk H locs ls C hm hr hS hB hl wl ws
  refine va_newa (atype := .long) (ty := .long) (a0 := (len, .inr (.inl (fun _ => 0)))) (N' := len) C.1 C.2.1 (C.2.2.2.2.2.1 _ hw) rfl hr.2.2.1 hr.1 hr.2.1 hS (fun q h => Nat.le_trans hB h) (fun _ => rfl) (nI_pos (by omega)) (nI_clamp (by omega)) (by show len * 8 ≤ _; omega) hcells hslots hd (fun q cA' H1 hK hP hD hS1 => ?_)
  have e1 : s.vm.findClass ("[" ++ FieldType.long.toString) = some cA' := (hK.2 6 _ rfl).2
  have e2 : s.vm.findClass ("[" ++ FieldType.long.toString) = some (cA 2) := (hK.2 2 _ rfl).2
  have e3 : cA' = cA 2 := Option.some.inj (e1.symm.trans e2)
  subst e3
  have hwr : wr (3, len) := ⟨by simp, by simp⟩
  have K := kk D cA B ad0 S0 p e s m args below meth c (upT ad t q) (tk ++ [t]) H1 locs ls C (S0keep hm ht) (hr.push ht hwr (q := q) (fun _ _ => rfl) (fun t' h => upT_n L h _) (fun t' h => upT_n R h _) (fun k' => by rw [upT_s]) (by rw [upT_s]; exact hP) (by rw [upT_s]; exact hD) hS hS1 hB) hS1 hB (lvl_up (fun v hv => cv_up ht hv) wl hl) (fun v hv => wf_up hwr ht (wl v hv)) (wsC (v := .inr (.inr (some t))) (by show (upT S t _ t).1 ≠ 0; rw [upT_s]; exact hwr.1) (fun v hv => wf_up hwr ht (wsT ws v hv)))
  rw [List.map_cons, st_up ht (wsT ws), show cv (upT ad t q) (.inr (.inr (some t))) = Value.ref q from congrArg Value.ref (upT_s ad t q)] at K
  exact K
theorem g_newA {x len ix : Nat} {C' : String} {i : Int32} (hx : (x = 4 ∧ C' = "EightWorlds$Law") ∨ (x = 5 ∧ C' = "EightWorlds$Shelf") ∨ (x = 6 ∧ C' = "EightWorlds$World")) (t : Tok) (ht : (S t).1 = 0) (hi : i = nI len) (hlen : len ≤ 100000) (hw : Cond.classLink mi.1.cls ix C' ∈ GW) (hcells : k + 1 ≤ Rm.cells) (hslots : n + len ≤ Rm.slots) (hd : decode mi.2.1 pc = .ok (.anewarray ix, 3)) (hp : pc + 3 = pc') (kk : G l mi Rm Qf (k + 1) (n + len) pc' lv (.inr (.inr (some t)) :: st) (upT S t (x, len)) I L (upT R t (fun _ => none))) : G l mi Rm Qf k n pc lv (.inl i :: st) S I L R := by
  subst hp
  subst hi
  intro D cA B ad0 S0 p e s m args below meth c ad tk H locs ls C hm hr hS hB hl wl ws
  have hAO : va_AO C' s := by
    have h := C.2.2.2.2.2.2.2.2.2.1
    rcases hx with ⟨-, rfl⟩ | ⟨-, rfl⟩ | ⟨-, rfl⟩
    · exact h.1
    · exact h.2.2
    · exact h.2.1
  refine va_newq (N' := len) C.1 C.2.1 C.2.2.2.2.1 (C.2.2.2.2.2.1 _ hw) hAO hr.2.2.1 hr.1 hr.2.1 hS (fun q h => Nat.le_trans hB h) (nI_pos (by omega)) (nI_clamp (by omega)) (by omega) hcells hslots hd (fun q cA' H1 hK hP hD hS1 => ?_)
  have hwr : wr (x, len) := by rcases hx with ⟨rfl, -⟩ | ⟨rfl, -⟩ | ⟨rfl, -⟩ <;> exact ⟨by simp, by simp⟩
  have key : ∀ (j : Nat), (tysOf cA)[j]? = some (cA (j), .object C') → cA' = cA j := by
    intro j hj
    obtain ⟨k1, c1, -, -, -, e1⟩ := (hK.2 6 _ rfl).2
    have hj6 : j < 6 := (List.getElem?_eq_some_iff.mp hj).1
    obtain ⟨k2, c2, -, -, -, e2⟩ := (hK.2 j _ (by rw [List.getElem?_append_left (by exact hj6)]; exact hj)).2
    exact Option.some.inj (e1.symm.trans e2)
  have hcell : cellOf cA (upT ad t q) (x, len) (I t) (L t) (fun _ => none) = .inl (cA', len, .inr (.inr (.inr (.inr (fun _ => none))))) := by
    rcases hx with ⟨rfl, rfl⟩ | ⟨rfl, rfl⟩ | ⟨rfl, rfl⟩
    · rw [key 3 rfl]; rfl
    · rw [key 4 rfl]; rfl
    · rw [key 5 rfl]; rfl
  have K := kk D cA B ad0 S0 p e s m args below meth c (upT ad t q) (tk ++ [t]) H1 locs ls C (S0keep hm ht) (hr.push ht hwr (q := q) (fun _ _ => rfl) (fun _ _ => rfl) (fun t' h => upT_n R h _) (fun k' => by rw [upT_s]) (by rw [upT_s, hcell]; exact hP) (by rw [upT_s, hcell]; exact hD) hS hS1 hB) hS1 hB (lvl_up (fun v hv => cv_up ht hv) wl hl) (fun v hv => wf_up hwr ht (wl v hv)) (wsC (v := .inr (.inr (some t))) (by show (upT S t _ t).1 ≠ 0; rw [upT_s]; exact hwr.1) (fun v hv => wf_up hwr ht (wsT ws v hv)))
  rw [List.map_cons, st_up ht (wsT ws), show cv (upT ad t q) (.inr (.inr (some t))) = Value.ref q from congrArg Value.ref (upT_s ad t q)] at K
  exact K
def catS : List PV → Nat
  | [] => 0
  | .inr (.inl _) :: r => 2 + catS r
  | _ :: r => 1 + catS r
theorem catS_ok {ad : Tok → Nat} : ∀ (st : List PV), ((st.map (cv ad)).map fun v => v.category).sum = catS st
  | [] => rfl
  | .inl x :: r => by
    have ih := catS_ok (ad := ad) r
    simp only [List.map_cons, List.sum_cons, ih]
    rfl
  | .inr (.inl x) :: r => by
    have ih := catS_ok (ad := ad) r
    simp only [List.map_cons, List.sum_cons, ih]
    rfl
  | .inr (.inr x) :: r => by
    have ih := catS_ok (ad := ad) r
    simp only [List.map_cons, List.sum_cons, ih]
    cases x <;> rfl
theorem g_oinit {ix : Nat} {t : Tok} (hw : Cond.methodLink mi.1.cls ix Lib.objectInit ∈ GW ∧ Cond.instanceMethod Lib.objectInit ∈ GW ∧ Cond.code Lib.objectInit ⟨#[0xb1]⟩ 1 none ∈ GW) (hR : 1 ≤ Rm.frames ∧ catS st + 12 ≤ Rm.locals) (hd : decode mi.2.1 pc = .ok (.invokespecial ix, 3)) (hp : pc + 3 = pc') (kk : G l mi Rm Qf k n pc' lv st S I L R) : G l mi Rm Qf k n pc lv (.inr (.inr (some t)) :: st) S I L R := by
  subst hp
  intro D cA B ad0 S0 p e s m args below meth c ad tk H locs ls C hm hr hS hB hl wl ws
  refine W.objInit C.1 C.2.1 C.2.2.2.2.1 (C.2.2.2.2.2.1 _ hw.1) (C.2.2.2.2.2.1 _ hw.2.1) (C.2.2.2.2.2.1 _ hw.2.2) rfl (hl.1.trans C.2.2.1.symm) rfl hd hR.1 (by rw [catS_ok]; show 2 * 0 + _ + 12 ≤ _; omega) ?_
  exact kk D cA B ad0 S0 p e s m args below meth c ad tk H locs ls C hm hr hS hB hl wl (wsT ws)
/-! System.arraycopy -/
theorem g_copyI {ix : Nat} {t u : Tok} {l0 l1 a b d : Nat} {i j z : Int32} (hS0 : S t = (1, l0)) (hS1 : S u = (1, l1)) (hi : i = nI a) (hj : j = nI b) (hz : z = nI d) (h1 : a + d ≤ l0) (h2 : b + d ≤ l1) (hb1 : l0 < 2 ^ 31) (hb2 : l1 < 2 ^ 31) (hw : Cond.methodLink mi.1.cls ix arraycopyName ∈ GW ∧ Cond.native arraycopyName ∈ GW ∧ Cond.static arraycopyName ∈ GW ∧ Cond.initialized "java/lang/System" ∈ GW) (hR : 1 ≤ Rm.frames ∧ catS st + (nativeFrameWords "java/lang/System" "arraycopy" 5 + 11) ≤ Rm.locals) (hd : decode mi.2.1 pc = .ok (.invokestatic ix, 3)) (hp : pc + 3 = pc')
    (kk : G l mi Rm Qf k n pc' lv st S (upT I u (va_cpy (I t) (I u) a b d)) L R) : G l mi Rm Qf k n pc lv (.inl z :: .inl j :: .inr (.inr (some u)) :: .inl i :: .inr (.inr (some t)) :: st) S I L R := by
  subst hp; subst hi; subst hj; subst hz
  intro D cA B ad0 S0 p e s m args below meth c ad tk H locs ls C hm hr hS hB hl wl ws
  obtain ⟨q0, -, hq0⟩ := G.at hr (t := t) (wrN hS0 ⟨by simp, by simp⟩)
  obtain ⟨q1, hq1', hq1⟩ := G.at hr (t := u) (wrN hS1 ⟨by simp, by simp⟩)
  rw [hS0] at hq0
  rw [hS1] at hq1
  have ca : (nI a).toNatClampNeg = a := nI_clamp (by omega)
  have cb : (nI b).toNatClampNeg = b := nI_clamp (by omega)
  have cd : (nI d).toNatClampNeg = d := nI_clamp (by omega)
  refine va_copyi C.1 C.2.1 (C.2.2.1.trans hl.1.symm) C.2.2.2.2.1 (C.2.2.2.2.2.1 _ hw.1) (C.2.2.2.2.2.1 _ hw.2.1) (C.2.2.2.2.2.1 _ hw.2.2.1) (C.2.2.2.2.2.1 _ hw.2.2.2) hr.2.2.1 hr.1 hr.2.1 hS q0 q1 0 0 hq0 hq1 rfl rfl rfl (nI_pos (by omega)) (nI_pos (by omega)) (nI_pos (by omega)) (by rw [ca, cd]; exact h1) (by rw [cb, cd]; exact h2) (fun _ _ => rfl) hR.1 (by rw [catS_ok]; exact hR.2) hd (fun H1 locs1 hP hD hS1' => ?_)
  rw [ca, cb, cd] at hP hD
  refine kk D cA B ad0 S0 p e s m args below meth c ad tk H1 locs1 ls C hm (hr.put hq1' (t := u) (fun t' h => upT_n I h _) (fun _ _ => rfl) (fun _ _ => rfl) (fun k' t' h => hr.2.2.2.2.2.2.2 u k' t' (wsH (wsT (wsT ws))) h) ?_ ?_ hS hS1' hB) hS1' hB hl wl (wsT (wsT (wsT (wsT (wsT ws)))))
  · rw [hS1, upT_s]; exact hP
  · rw [hS1, upT_s]; exact hD
theorem g_copyJ {ix : Nat} {t u : Tok} {l0 l1 a b d : Nat} {i j z : Int32} (hS0 : S t = (3, l0)) (hS1 : S u = (3, l1)) (hi : i = nI a) (hj : j = nI b) (hz : z = nI d) (h1 : a + d ≤ l0) (h2 : b + d ≤ l1) (hb1 : l0 < 2 ^ 31) (hb2 : l1 < 2 ^ 31) (hw : Cond.methodLink mi.1.cls ix arraycopyName ∈ GW ∧ Cond.native arraycopyName ∈ GW ∧ Cond.static arraycopyName ∈ GW ∧ Cond.initialized "java/lang/System" ∈ GW) (hR : 1 ≤ Rm.frames ∧ catS st + (nativeFrameWords "java/lang/System" "arraycopy" 5 + 11) ≤ Rm.locals) (hd : decode mi.2.1 pc = .ok (.invokestatic ix, 3)) (hp : pc + 3 = pc')
    (kk : G l mi Rm Qf k n pc' lv st S I (upT L u (va_cpy (L t) (L u) a b d)) R) : G l mi Rm Qf k n pc lv (.inl z :: .inl j :: .inr (.inr (some u)) :: .inl i :: .inr (.inr (some t)) :: st) S I L R := by
  subst hp; subst hi; subst hj; subst hz
  intro D cA B ad0 S0 p e s m args below meth c ad tk H locs ls C hm hr hS hB hl wl ws
  obtain ⟨q0, -, hq0⟩ := G.at hr (t := t) (wrN hS0 ⟨by simp, by simp⟩)
  obtain ⟨q1, hq1', hq1⟩ := G.at hr (t := u) (wrN hS1 ⟨by simp, by simp⟩)
  rw [hS0] at hq0
  rw [hS1] at hq1
  have ca : (nI a).toNatClampNeg = a := nI_clamp (by omega)
  have cb : (nI b).toNatClampNeg = b := nI_clamp (by omega)
  have cd : (nI d).toNatClampNeg = d := nI_clamp (by omega)
  refine va_copyl C.1 C.2.1 (C.2.2.1.trans hl.1.symm) C.2.2.2.2.1 (C.2.2.2.2.2.1 _ hw.1) (C.2.2.2.2.2.1 _ hw.2.1) (C.2.2.2.2.2.1 _ hw.2.2.1) (C.2.2.2.2.2.1 _ hw.2.2.2) hr.2.2.1 hr.1 hr.2.1 hS q0 q1 2 2 hq0 hq1 rfl rfl rfl (nI_pos (by omega)) (nI_pos (by omega)) (nI_pos (by omega)) (by rw [ca, cd]; exact h1) (by rw [cb, cd]; exact h2) (fun _ _ => rfl) hR.1 (by rw [catS_ok]; exact hR.2) hd (fun H1 locs1 hP hD hS1' => ?_)
  rw [ca, cb, cd] at hP hD
  refine kk D cA B ad0 S0 p e s m args below meth c ad tk H1 locs1 ls C hm (hr.put hq1' (t := u) (fun _ _ => rfl) (fun t' h => upT_n L h _) (fun _ _ => rfl) (fun k' t' h => hr.2.2.2.2.2.2.2 u k' t' (wsH (wsT (wsT ws))) h) ?_ ?_ hS hS1' hB) hS1' hB hl wl (wsT (wsT (wsT (wsT (wsT ws)))))
  · rw [hS1, upT_s]; exact hP
  · rw [hS1, upT_s]; exact hD
/-! clone of an int array, and the cast behind it -/
theorem g_clone {ix len : Nat} {t : Tok} (u : Tok) (hu : (S u).1 = 0) (hS0 : S t = (1, len)) (hw : Cond.methodLink mi.1.cls ix ⟨"[I", "clone", "()Ljava/lang/Object;"⟩ ∈ GW ∧ Cond.sameMethod "[I" "java/lang/Object" "clone" "()Ljava/lang/Object;" ∈ GW ∧ Cond.native ⟨"java/lang/Object", "clone", "()Ljava/lang/Object;"⟩ ∈ GW ∧ Cond.instanceMethod ⟨"java/lang/Object", "clone", "()Ljava/lang/Object;"⟩ ∈ GW ∧ Cond.selects "[I" ⟨"[I", "clone", "()Ljava/lang/Object;"⟩ ⟨"java/lang/Object", "clone", "()Ljava/lang/Object;"⟩ ∈ GW) (hR : 1 ≤ Rm.frames ∧ catS st + 14 ≤ Rm.locals) (hcells : k + 1 ≤ Rm.cells) (hslots : n + len ≤ Rm.slots) (hd : decode mi.2.1 pc = .ok (.invokevirtual ix, 3)) (hp : pc + 3 = pc')
    (kk : G l mi Rm Qf (k + 1) (n + len) pc' lv (.inr (.inr (some u)) :: st) (upT S u (1, len)) (upT I u (I t)) L (upT R u (fun _ => none))) : G l mi Rm Qf k n pc lv (.inr (.inr (some t)) :: st) S I L R := by
  subst hp
  intro D cA B ad0 S0 p e s m args below meth c ad tk H locs ls C hm hr hS hB hl wl ws
  obtain ⟨q0, -, hq0⟩ := G.at hr (t := t) (wrN hS0 ⟨by simp, by simp⟩)
  rw [hS0] at hq0
  have e2 : s.vm.findClass ("[" ++ FieldType.int.toString) = some (cA 0) := (hr.2.2.1.2 0 _ rfl).2
  refine va_clone C.1 C.2.1 (C.2.2.1.trans hl.1.symm) C.2.2.2.2.1 (C.2.2.2.2.2.1 _ hw.1) (C.2.2.2.2.2.1 _ hw.2.1) (C.2.2.2.2.2.1 _ hw.2.2.1) (C.2.2.2.2.2.1 _ hw.2.2.2.1) (C.2.2.2.2.2.1 _ hw.2.2.2.2) C.2.2.2.2.2.2.2.2.2.2 hr.2.2.1 hr.1 hr.2.1 hS (fun q h => Nat.le_trans hB h) q0 0 hq0 rfl e2 (fun i v h => ?_) hR.1 (by rw [catS_ok]; exact hR.2) hcells hslots hd (fun q H1 hK hP hD hS1 => ?_)
  · rw [vp_cell_i] at h
    have hi : i < len := by
      have := (Array.getElem?_eq_some_iff.mp h).1
      rwa [arrV_size] at this
    rw [arrV_read _ _ hi] at h
    cases h
    rfl
  · have hwr : wr (1, len) := ⟨by simp, by simp⟩
    have K := kk D cA B ad0 S0 p e s m args below meth c (upT ad u q) (tk ++ [u]) H1 locs ls C (S0keep hm hu) (hr.push hu hwr (q := q) (fun t' h => upT_n I h _) (fun _ _ => rfl) (fun t' h => upT_n R h _) (fun k' => by rw [upT_s]) (by rw [upT_s]; exact hP) (by rw [upT_s]; exact hD) hS hS1 hB) hS1 hB (lvl_up (fun v hv => cv_up hu hv) wl hl) (fun v hv => wf_up hwr hu (wl v hv)) (wsC (v := .inr (.inr (some u))) (by show (upT S u _ u).1 ≠ 0; rw [upT_s]; exact hwr.1) (fun v hv => wf_up hwr hu (wsT ws v hv)))
    rw [List.map_cons, st_up hu (wsT ws), show cv (upT ad u q) (.inr (.inr (some u))) = Value.ref q from congrArg Value.ref (upT_s ad u q)] at K
    exact K
theorem g_castI {ix len : Nat} {t : Tok} (hS0 : S t = (1, len)) (hw : Cond.classLink mi.1.cls ix "[I" ∈ GW) (hd : decode mi.2.1 pc = .ok (.checkcast ix, 3)) (hp : pc + 3 = pc') (kk : G l mi Rm Qf k n pc' lv (.inr (.inr (some t)) :: st) S I L R) : G l mi Rm Qf k n pc lv (.inr (.inr (some t)) :: st) S I L R := by
  subst hp
  intro D cA B ad0 S0 p e s m args below meth c ad tk H locs ls C hm hr hS hB hl wl ws
  obtain ⟨q0, -, hq0⟩ := G.at hr (t := t) (wrN hS0 ⟨by simp, by simp⟩)
  rw [hS0] at hq0
  have e2 : s.vm.findClass ("[" ++ FieldType.int.toString) = some (cA 0) := (hr.2.2.1.2 0 _ rfl).2
  refine va_castA (nm := "[I") C.1 C.2.1 C.2.2.2.2.1 (C.2.2.2.2.2.1 _ hw) hr.1 q0 hq0 e2 hd ?_
  exact kk D cA B ad0 S0 p e s m args below meth c ad tk H locs ls C hm hr hS hB hl wl ws
end Ends
