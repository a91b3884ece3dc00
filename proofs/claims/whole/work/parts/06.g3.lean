/-! rules that touch the heap -/
theorem G.at {D : va_G} {cA : Nat → ClassId} {B : Nat} {ad : Tok → Nat} {tk : List Tok} {S : Shp} {I : MI} {L : ML} {R : MR} {U : State} {H : Heap} (h : REL D cA B ad tk S I L R U H) {t : Tok} (ht : wr (S t)) : ∃ q0 : Nat, tk[q0]? = some t ∧ (wsOf cA ad tk S I L R)[q0]? = some (ad t, cellOf cA ad (S t) (I t) (L t) (R t)) := ws_at ((h.2.2.2.2.2.1 t).mpr ht)
theorem vp_inN {i : Int32} {j n : Nat} (hi : i = nI j) (hj : j < n) (hn : n < 2 ^ 31) : vp_in i n ∧ i.toNatClampNeg = j := by
  subst hi
  exact ⟨vp_in_nI hj hn, nI_clamp (Nat.lt_trans hj hn)⟩
theorem wrN {S : Shp} {t : Tok} {sh : Nat × Nat} (h : S t = sh) (h2 : wr sh) : wr (S t) := h ▸ h2
theorem wr10 {c n : Nat} : wr (c + 10, n) := ⟨by show c + 10 ≠ 0; omega, by show c + 10 ≠ 7; omega⟩
theorem S0keep {S S0 : Shp} {ad ad0 : Tok → Nat} {t : Tok} {sh : Nat × Nat} {q : Nat} (hm : ∀ t, (S0 t).1 ≠ 0 → S t = S0 t ∧ ad t = ad0 t) (ht : (S t).1 = 0) : ∀ t', (S0 t').1 ≠ 0 → upT S t sh t' = S0 t' ∧ upT ad t q t' = ad0 t' := by
  intro t' h'
  have hne : t' ≠ t := by
    intro e
    subst e
    rw [← (hm t' h').1] at h'
    exact h' ht
  rw [upT_n _ hne, upT_n _ hne]
  exact hm t' h'
theorem cv_up {S : Shp} {ad : Tok → Nat} {t : Tok} {q : Nat} {v : PV} (ht : (S t).1 = 0) (hv : wfv S v) : cv (upT ad t q) v = cv ad v := by
  rcases v with x | x | r
  · rfl
  · rfl
  · cases r with
    | none => rfl
    | some t' =>
      have hne : t' ≠ t := fun e => hv (e ▸ ht)
      show va_rf (some (upT ad t q t')) = va_rf (some (ad t'))
      rw [upT_n _ hne]
theorem st_up {S : Shp} {ad : Tok → Nat} {t : Tok} {q : Nat} (ht : (S t).1 = 0) {st : List PV} (h : wfs S st) : st.map (cv (upT ad t q)) = st.map (cv ad) := List.map_congr_left fun v hv => cv_up ht (h v hv)
theorem lvl_up {S : Shp} {ad ad' : Tok → Nat} {ls : Array Slot} {nL : Nat} {lv : List (Option PV)} (he : ∀ v, wfv S v → cv ad' v = cv ad v) (wl : wfl S lv) (h : lv_has ls nL (lvl ad 0 lv)) : lv_has ls nL (lvl ad' 0 lv) := by
  refine ⟨h.1, h.2.1, fun q hq => h.2.2 q ?_⟩
  obtain ⟨i, x⟩ := q
  obtain ⟨j, v, h1, h2, h3⟩ := lvl_mem.mp hq
  rw [he v (wl v (List.mem_of_getElem? h2))] at h3
  exact lvl_mem.mpr ⟨j, v, h1, h2, h3⟩
theorem wf_up {S : Shp} {t : Tok} {sh : Nat × Nat} (hsh : wr sh) (ht : (S t).1 = 0) {v : PV} (hv : wfv S v) : wfv (upT S t sh) v := by
  rcases v with x | x | r
  · trivial
  · trivial
  · cases r with
    | none => trivial
    | some t' =>
      have hne : t' ≠ t := fun e => hv (e ▸ ht)
      show (upT S t sh t').1 ≠ 0
      rw [upT_n _ hne]
      exact hv
section Mem
variable {l : Launch} {mi : MInf} {Rm : Room} {Qf : QF} {k n pc pc' : Nat} {S : Shp} {I : MI} {L : ML} {R : MR} {lv : List (Option PV)} {st : List PV}
/-- a field, read -/
theorem g_getI {ci f ix : Nat} {t : Tok} {v : Int32} (hS : S t = (ci + 10, 0)) (hc : ci < 10 ∧ f < nF ci ∧ isI (tyC ci f) = true) (hw : Cond.fieldLink mi.1.cls ix (CN ci) (TC ci f).2.1 (TC ci f).2.2.1 ∈ GW ∧ (TC ci f).1 = CN ci) (hv : I t f = v) (hd : decode mi.2.1 pc = .ok (.getfield ix, 3)) (hp : pc + 3 = pc') (kk : G l mi Rm Qf k n pc' lv (.inl v :: st) S I L R) : G l mi Rm Qf k n pc lv (.inr (.inr (some t)) :: st) S I L R := by
  subst hp
  subst hv
  intro D cA B ad0 S0 p e s m args below meth c ad tk H locs ls C hm hr hS0 hB hl wl ws
  obtain ⟨q0, -, hq⟩ := G.at hr (t := t) (wrN hS wr10)
  rw [hS, cellOf_obj] at hq
  refine va_get C.1 C.2.1 (fun w h => C.2.2.2.2.2.1 w h) (cl_in hc.1) C.2.2.2.2.1 hr.2.2.1 hr.1 q0 hq (cl_at hc.1) f hc.2.1 (C.2.2.2.2.2.1 _ hw.1) (fun x h => by rw [hw.2] at h; exact h) (fs_at hc.2.1) hd ?_
  rw [if_pos hc.2.2]
  exact kk D cA B ad0 S0 p e s m args below meth c ad tk H locs ls C hm hr hS0 hB hl wl (wsI (wsT ws))
theorem g_getR {ci f ix : Nat} {t : Tok} {v : Option Tok} (hS : S t = (ci + 10, 0)) (hc : ci < 10 ∧ f < nF ci ∧ isI (tyC ci f) = false) (hw : Cond.fieldLink mi.1.cls ix (CN ci) (TC ci f).2.1 (TC ci f).2.2.1 ∈ GW ∧ (TC ci f).1 = CN ci) (hv : R t f = v) (hd : decode mi.2.1 pc = .ok (.getfield ix, 3)) (hp : pc + 3 = pc') (kk : G l mi Rm Qf k n pc' lv (.inr (.inr v) :: st) S I L R) : G l mi Rm Qf k n pc lv (.inr (.inr (some t)) :: st) S I L R := by
  subst hp
  subst hv
  intro D cA B ad0 S0 p e s m args below meth c ad tk H locs ls C hm hr hS0 hB hl wl ws
  obtain ⟨q0, -, hq⟩ := G.at hr (t := t) (wrN hS wr10)
  rw [hS, cellOf_obj] at hq
  refine va_get C.1 C.2.1 (fun w h => C.2.2.2.2.2.1 w h) (cl_in hc.1) C.2.2.2.2.1 hr.2.2.1 hr.1 q0 hq (cl_at hc.1) f hc.2.1 (C.2.2.2.2.2.1 _ hw.1) (fun x h => by rw [hw.2] at h; exact h) (fs_at hc.2.1) hd ?_
  rw [if_neg (by rw [hc.2.2]; decide)]
  refine kk D cA B ad0 S0 p e s m args below meth c ad tk H locs ls C hm hr hS0 hB hl wl (wsC ?_ (wsT ws))
  cases h : R t f with
  | none => trivial
  | some t' => exact hr.2.2.2.2.2.2.2 t f t' (wsH ws) h
theorem fs_setI {ad : Tok → Nat} {ci f : Nat} {i : Nat → Int32} {r : Nat → Option Tok} {x : Int32} (hf : f < nF ci) (hi : isI (tyC ci f) = true) : (fsOf ad ci i r).set f (.int x) = fsOf ad ci (fun j => if j = f then x else i j) r := by
  apply List.ext_getElem?
  intro q
  by_cases hq : f = q
  · subst hq
    rw [List.getElem?_set_self (by rw [fs_len]; exact hf), fs_at hf, if_pos hi, if_pos rfl]
  · rw [List.getElem?_set_ne hq]
    by_cases hl : q < nF ci
    · rw [fs_at hl, fs_at hl, if_neg (show ¬ q = f from fun e => hq e.symm)]
    · rw [List.getElem?_eq_none (by rw [fs_len]; omega), List.getElem?_eq_none (by rw [fs_len]; omega)]
theorem fs_setR {ad : Tok → Nat} {ci f : Nat} {i : Nat → Int32} {r : Nat → Option Tok} {x : Option Tok} (hf : f < nF ci) (hi : isI (tyC ci f) = false) : (fsOf ad ci i r).set f (va_rf (x.map ad)) = fsOf ad ci i (fun j => if j = f then x else r j) := by
  have hi' : ¬ isI (tyC ci f) = true := by rw [hi]; decide
  apply List.ext_getElem?
  intro q
  by_cases hq : f = q
  · subst hq
    rw [List.getElem?_set_self (by rw [fs_len]; exact hf), fs_at hf, if_neg hi', if_pos rfl]
  · rw [List.getElem?_set_ne hq]
    by_cases hl : q < nF ci
    · rw [fs_at hl, fs_at hl, if_neg (show ¬ q = f from fun e => hq e.symm)]
    · rw [List.getElem?_eq_none (by rw [fs_len]; omega), List.getElem?_eq_none (by rw [fs_len]; omega)]
/-- a field, written -/
theorem g_putI {ci f ix : Nat} {t : Tok} {v : Int32} (hS : S t = (ci + 10, 0)) (hc : ci < 10 ∧ f < nF ci ∧ isI (tyC ci f) = true) (hw : (Cond.fieldLink mi.1.cls ix (CN ci) (TC ci f).2.1 (TC ci f).2.2.1 ∈ GW ∧ (TC ci f).1 = CN ci) ∧ (TC ci f).2.2.2 = false ∧ parseFieldDescriptor (TC ci f).2.2.1 = some .int) (hd : decode mi.2.1 pc = .ok (.putfield ix, 3)) (hp : pc + 3 = pc') (kk : G l mi Rm Qf k n pc' lv st S (upM I t f v) L R) : G l mi Rm Qf k n pc lv (.inl v :: .inr (.inr (some t)) :: st) S I L R := by
  subst hp
  intro D cA B ad0 S0 p e s m args below meth c ad tk H locs ls C hm hr hS0 hB hl wl ws
  obtain ⟨q0, hq', hq⟩ := G.at hr (t := t) (wrN hS wr10)
  rw [hS, cellOf_obj] at hq
  refine va_put C.1 C.2.1 (fun w h => C.2.2.2.2.2.1 w h) (cl_in hc.1) (tyC ci) (cl_ty hc.1) (cl_nm hc.1) C.2.2.2.2.1 hr.2.2.1 hr.1 hr.2.1 hS0 q0 hq (cl_at hc.1) f hc.2.1 (C.2.2.2.2.2.1 _ hw.1.1) (fun x h => by rw [hw.1.2] at h; exact h) hw.2.1 (ty := .int) (v := .int v) hw.2.2 rfl rfl (by rw [fs_len]; exact hc.2.1) hd (fun H1 locs1 hP hD hS1 => ?_)
  refine kk D cA B ad0 S0 p e s m args below meth c ad tk H1 locs1 ls C hm (hr.put hq' (t := t) (fun t' h => upM_n I h f v) (fun _ _ => rfl) (fun _ _ => rfl) (fun k' t' h => hr.2.2.2.2.2.2.2 t k' t' (wsH (wsT ws)) h) ?_ ?_ hS0 hS1 hB) hS1 hB hl wl (wsT (wsT ws))
  · rw [hS, cellOf_obj, upM_r, ← fs_setI hc.2.1 hc.2.2]; exact hP
  · rw [hS, cellOf_obj, upM_r, ← fs_setI hc.2.1 hc.2.2]; exact hD
theorem narR {ty : FieldType} {r : Option Nat} (h : (∃ c, ty = .object c) ∨ ∃ c, ty = .array c) : narrow ty (va_rf r) = va_rf r ∧ fits ty (va_rf r) = true := by
  rcases h with ⟨c, rfl⟩ | ⟨c, rfl⟩ <;> cases r <;> exact ⟨rfl, rfl⟩
theorem g_putR {ci f ix : Nat} {t : Tok} {v : Option Tok} (hS : S t = (ci + 10, 0)) (hc : ci < 10 ∧ f < nF ci ∧ isI (tyC ci f) = false) (hw : (Cond.fieldLink mi.1.cls ix (CN ci) (TC ci f).2.1 (TC ci f).2.2.1 ∈ GW ∧ (TC ci f).1 = CN ci) ∧ ((TC ci f).2.2.2 = false ∨ (mi.1.name = "<init>" ∧ mi.1.cls = CN ci))) {ty : FieldType} (hty : parseFieldDescriptor (TC ci f).2.2.1 = some ty) (hrt : (∃ c, ty = .object c) ∨ ∃ c, ty = .array c) (hd : decode mi.2.1 pc = .ok (.putfield ix, 3)) (hp : pc + 3 = pc') (kk : G l mi Rm Qf k n pc' lv st S I L (upM R t f v)) : G l mi Rm Qf k n pc lv (.inr (.inr v) :: .inr (.inr (some t)) :: st) S I L R := by
  subst hp
  intro D cA B ad0 S0 p e s m args below meth c ad tk H locs ls C hm hr hS0 hB hl wl ws
  obtain ⟨q0, hq', hq⟩ := G.at hr (t := t) (wrN hS wr10)
  rw [hS, cellOf_obj] at hq
  have kk2 : ∀ (H1 : Heap) (locs1 : List Loc), va_P D vwCl ((wsOf cA ad tk S I L R).set q0 (ad t, .inr (ci, (fsOf ad ci (I t) (R t)).set f (va_rf (v.map ad))))) H1 → va_D (fun q => B ≤ q) ((wsOf cA ad tk S I L R).set q0 (ad t, .inr (ci, (fsOf ad ci (I t) (R t)).set f (va_rf (v.map ad))))) → va_S (fun q => B ≤ q) s.heap H1 locs1 → W p l e Rm s m args below meth c H1 locs1 k n (Qf s args below D cA B ad0 S0) (F0 m (pc + 3) ls (st.map (cv ad))) := by
    intro H1 locs1 hP hD hS1
    refine kk D cA B ad0 S0 p e s m args below meth c ad tk H1 locs1 ls C hm (hr.put hq' (t := t) (fun _ _ => rfl) (fun _ _ => rfl) (fun t' h => upM_n R h f v) (fun k' t' h => ?_) ?_ ?_ hS0 hS1 hB) hS1 hB hl wl (wsT (wsT ws))
    · by_cases hk : k' = f
      · subst hk
        rw [upM_s] at h
        subst h
        exact wsH ws
      · rw [upM_k _ _ hk] at h
        exact hr.2.2.2.2.2.2.2 t k' t' (wsH (wsT ws)) h
    · rw [hS, cellOf_obj, upM_r, ← fs_setR hc.2.1 hc.2.2]; exact hP
    · rw [hS, cellOf_obj, upM_r, ← fs_setR hc.2.1 hc.2.2]; exact hD
  rcases hw.2 with hfin | ⟨hin, hcl⟩
  · exact va_put C.1 C.2.1 (fun w h => C.2.2.2.2.2.1 w h) (cl_in hc.1) (tyC ci) (cl_ty hc.1) (cl_nm hc.1) C.2.2.2.2.1 hr.2.2.1 hr.1 hr.2.1 hS0 q0 hq (cl_at hc.1) f hc.2.1 (C.2.2.2.2.2.1 _ hw.1.1) (fun x h => by rw [hw.1.2] at h; exact h) hfin (ty := ty) (v := va_rf (v.map ad)) hty (narR hrt).1 (narR hrt).2 (by rw [fs_len]; exact hc.2.1) hd kk2
  · cases hfin : (TC ci f).2.2.2 with
    | false => exact va_put C.1 C.2.1 (fun w h => C.2.2.2.2.2.1 w h) (cl_in hc.1) (tyC ci) (cl_ty hc.1) (cl_nm hc.1) C.2.2.2.2.1 hr.2.2.1 hr.1 hr.2.1 hS0 q0 hq (cl_at hc.1) f hc.2.1 (C.2.2.2.2.2.1 _ hw.1.1) (fun x h => by rw [hw.1.2] at h; exact h) hfin (ty := ty) (v := va_rf (v.map ad)) hty (narR hrt).1 (narR hrt).2 (by rw [fs_len]; exact hc.2.1) hd kk2
    | true => exact va_putF C.1 C.2.1 (fun w h => C.2.2.2.2.2.1 w h) (cl_in hc.1) (tyC ci) (cl_ty hc.1) (cl_nm hc.1) C.2.2.2.2.1 hr.2.2.1 hr.1 hr.2.1 hS0 q0 hq (cl_at hc.1) f hc.2.1 (C.2.2.2.2.2.1 _ hw.1.1) (fun x h => by rw [hw.1.2] at h; exact h) hfin (C.2.2.2.2.2.2.2.1.trans hin) (hw.1.2.trans hcl.symm) (ty := ty) (v := va_rf (v.map ad)) hty (narR hrt).1 (narR hrt).2 (by rw [fs_len]; exact hc.2.1) hd kk2
/-- arrays, read -/
theorem g_iald {t : Tok} {len j : Nat} {i v : Int32} (hS : S t = (1, len)) (hi : i = nI j) (hj : j < len) (hn : len < 2 ^ 31) (hv : I t j = v) (hd : decode mi.2.1 pc = .ok (.iaload, 1)) (hp : pc + 1 = pc') (kk : G l mi Rm Qf k n pc' lv (.inl v :: st) S I L R) : G l mi Rm Qf k n pc lv (.inl i :: .inr (.inr (some t)) :: st) S I L R := by
  subst hp
  subst hv
  intro D cA B ad0 S0 p e s m args below meth c ad tk H locs ls C hm hr hS0 hB hl wl ws
  obtain ⟨q0, -, hq⟩ := G.at hr (t := t) (wrN hS ⟨by simp, by simp⟩)
  rw [hS] at hq
  obtain ⟨h1, h2⟩ := vp_inN hi hj hn
  refine va_iald C.1 C.2.1 hr.2.2.1 hr.1 q0 0 hq rfl h1 hd ?_
  rw [h2]
  exact kk D cA B ad0 S0 p e s m args below meth c ad tk H locs ls C hm hr hS0 hB hl wl (wsI (wsT (wsT ws)))
theorem g_bald {t : Tok} {len j : Nat} {i v : Int32} (hS : S t = (2, len)) (hi : i = nI j) (hj : j < len) (hn : len < 2 ^ 31) (hv : I t j = v) (hd : decode mi.2.1 pc = .ok (.baload, 1)) (hp : pc + 1 = pc') (kk : G l mi Rm Qf k n pc' lv (.inl v :: st) S I L R) : G l mi Rm Qf k n pc lv (.inl i :: .inr (.inr (some t)) :: st) S I L R := by
  subst hp
  subst hv
  intro D cA B ad0 S0 p e s m args below meth c ad tk H locs ls C hm hr hS0 hB hl wl ws
  obtain ⟨q0, -, hq⟩ := G.at hr (t := t) (wrN hS ⟨by simp, by simp⟩)
  rw [hS] at hq
  obtain ⟨h1, h2⟩ := vp_inN hi hj hn
  refine va_bald C.1 C.2.1 hr.2.2.1 hr.1 q0 1 hq rfl h1 hd ?_
  rw [h2]
  exact kk D cA B ad0 S0 p e s m args below meth c ad tk H locs ls C hm hr hS0 hB hl wl (wsI (wsT (wsT ws)))
theorem g_lald {t : Tok} {len j : Nat} {i : Int32} {v : Int64} (hS : S t = (3, len)) (hi : i = nI j) (hj : j < len) (hn : len < 2 ^ 31) (hv : L t j = v) (hd : decode mi.2.1 pc = .ok (.laload, 1)) (hp : pc + 1 = pc') (kk : G l mi Rm Qf k n pc' lv (.inr (.inl v) :: st) S I L R) : G l mi Rm Qf k n pc lv (.inl i :: .inr (.inr (some t)) :: st) S I L R := by
  subst hp
  subst hv
  intro D cA B ad0 S0 p e s m args below meth c ad tk H locs ls C hm hr hS0 hB hl wl ws
  obtain ⟨q0, -, hq⟩ := G.at hr (t := t) (wrN hS ⟨by simp, by simp⟩)
  rw [hS] at hq
  obtain ⟨h1, h2⟩ := vp_inN hi hj hn
  refine va_lald C.1 C.2.1 hr.2.2.1 hr.1 q0 2 hq rfl h1 hd ?_
  rw [h2]
  exact kk D cA B ad0 S0 p e s m args below meth c ad tk H locs ls C hm hr hS0 hB hl wl (wsL (wsT (wsT ws)))
theorem g_aald {t : Tok} {x len j : Nat} {i : Int32} {v : Option Tok} (hx : x = 4 ∨ x = 5 ∨ x = 6) (hS : S t = (x, len)) (hi : i = nI j) (hj : j < len) (hn : len < 2 ^ 31) (hv : R t j = v) (hd : decode mi.2.1 pc = .ok (.aaload, 1)) (hp : pc + 1 = pc') (kk : G l mi Rm Qf k n pc' lv (.inr (.inr v) :: st) S I L R) : G l mi Rm Qf k n pc lv (.inl i :: .inr (.inr (some t)) :: st) S I L R := by
  subst hp
  subst hv
  intro D cA B ad0 S0 p e s m args below meth c ad tk H locs ls C hm hr hS0 hB hl wl ws
  have hwr : wr (S t) := by
    rw [hS]
    rcases hx with rfl | rfl | rfl <;> exact ⟨by simp, by simp⟩
  obtain ⟨q0, -, hq⟩ := G.at hr (t := t) hwr
  rw [hS] at hq
  obtain ⟨h1, h2⟩ := vp_inN hi hj hn
  have kw := kk D cA B ad0 S0 p e s m args below meth c ad tk H locs ls C hm hr hS0 hB hl wl (wsC (by
    cases h : R t j with
    | none => trivial
    | some t' => exact hr.2.2.2.2.2.2.2 t j t' (wsH (wsT ws)) h) (wsT (wsT ws)))
  rcases hx with rfl | rfl | rfl
  · refine va_aldq C.1 C.2.1 hr.2.2.1 hr.1 q0 3 hq rfl h1 hd ?_
    rw [h2]; exact kw
  · refine va_aldq C.1 C.2.1 hr.2.2.1 hr.1 q0 4 hq rfl h1 hd ?_
    rw [h2]; exact kw
  · refine va_aldq C.1 C.2.1 hr.2.2.1 hr.1 q0 5 hq rfl h1 hd ?_
    rw [h2]; exact kw
/-- an array that is read only -/
theorem g_xald {t : Tok} {len j : Nat} {i v : Int32} (hS : S t = (7, len)) (hi : i = nI j) (hj : j < len) (hn : len < 2 ^ 31) (hv : I t j = v) (hd : decode mi.2.1 pc = .ok (.iaload, 1)) (hp : pc + 1 = pc') (kk : G l mi Rm Qf k n pc' lv (.inl v :: st) S I L R) : G l mi Rm Qf k n pc lv (.inl i :: .inr (.inr (some t)) :: st) S I L R := by
  subst hp
  subst hv
  intro D cA B ad0 S0 p e s m args below meth c ad tk H locs ls C hm hr hS0 hB hl wl ws
  obtain ⟨hlt, scr, x1, x2, x3, x4, x5⟩ := hr.2.2.2.2.2.2.1.2.2 t (by rw [hS])
  rw [hS] at x4 x5
  obtain ⟨h1, h2⟩ := vp_inN hi hj hn
  refine W.iald (v := .int (I t j)) C.1 C.2.1 x1 x2 x3 (by rw [x4]; exact h1) (by rw [h2]; exact x5 j hj) rfl rfl hd ?_
  exact kk D cA B ad0 S0 p e s m args below meth c ad tk H locs ls C hm hr hS0 hB hl wl (wsI (wsT (wsT ws)))
theorem g_xlen {t : Tok} {len : Nat} (hS : S t = (7, len)) (hd : decode mi.2.1 pc = .ok (.arraylength, 1)) (hp : pc + 1 = pc') (kk : G l mi Rm Qf k n pc' lv (.inl (nI len) :: st) S I L R) : G l mi Rm Qf k n pc lv (.inr (.inr (some t)) :: st) S I L R := by
  subst hp
  intro D cA B ad0 S0 p e s m args below meth c ad tk H locs ls C hm hr hS0 hB hl wl ws
  obtain ⟨hlt, scr, x1, x2, x3, x4, x5⟩ := hr.2.2.2.2.2.2.1.2.2 t (by rw [hS])
  rw [hS] at x4 x5
  refine W.alen (n := nI len) C.1 C.2.1 x1 x2 (by rw [x4]; rfl) rfl rfl hd ?_
  exact kk D cA B ad0 S0 p e s m args below meth c ad tk H locs ls C hm hr hS0 hB hl wl (wsI (wsT ws))
theorem g_alen {t : Tok} {x len : Nat} (hx : x = 1 ∨ x = 2 ∨ x = 3) (hS : S t = (x, len)) (hd : decode mi.2.1 pc = .ok (.arraylength, 1)) (hp : pc + 1 = pc') (kk : G l mi Rm Qf k n pc' lv (.inl (nI len) :: st) S I L R) : G l mi Rm Qf k n pc lv (.inr (.inr (some t)) :: st) S I L R := by
  subst hp
  intro D cA B ad0 S0 p e s m args below meth c ad tk H locs ls C hm hr hS0 hB hl wl ws
  have hwr : wr (S t) := by
    rw [hS]
    rcases hx with rfl | rfl | rfl <;> exact ⟨by simp, by simp⟩
  obtain ⟨q0, -, hq⟩ := G.at hr (t := t) hwr
  rw [hS] at hq
  have kw := kk D cA B ad0 S0 p e s m args below meth c ad tk H locs ls C hm hr hS0 hB hl wl (wsI (wsT ws))
  rcases hx with rfl | rfl | rfl
  · exact va_alen C.1 C.2.1 hr.2.2.1 hr.1 q0 0 hq rfl rfl hd kw
  · exact va_alen C.1 C.2.1 hr.2.2.1 hr.1 q0 1 hq rfl rfl hd kw
  · exact va_alen C.1 C.2.1 hr.2.2.1 hr.1 q0 2 hq rfl rfl hd kw
/-- arrays, written -/
theorem g_iast {t : Tok} {len j : Nat} {i v : Int32} (hS : S t = (1, len)) (hi : i = nI j) (hj : j < len) (hn : len < 2 ^ 31) (hd : decode mi.2.1 pc = .ok (.iastore, 1)) (hp : pc + 1 = pc') (kk : G l mi Rm Qf k n pc' lv st S (upM I t j v) L R) : G l mi Rm Qf k n pc lv (.inl v :: .inl i :: .inr (.inr (some t)) :: st) S I L R := by
  subst hp
  intro D cA B ad0 S0 p e s m args below meth c ad tk H locs ls C hm hr hS0 hB hl wl ws
  obtain ⟨q0, hq', hq⟩ := G.at hr (t := t) (wrN hS ⟨by simp, by simp⟩)
  rw [hS] at hq
  obtain ⟨h1, h2⟩ := vp_inN hi hj hn
  refine va_iast C.1 C.2.1 hr.2.2.1 hr.1 hr.2.1 hS0 q0 0 hq rfl h1 hd (fun H1 locs1 hP hD hS1 => ?_)
  rw [h2] at hP hD
  refine kk D cA B ad0 S0 p e s m args below meth c ad tk H1 locs1 ls C hm (hr.put hq' (t := t) (fun t' h => upM_n I h j v) (fun _ _ => rfl) (fun _ _ => rfl) (fun k' t' h => hr.2.2.2.2.2.2.2 t k' t' (wsH (wsT (wsT ws))) h) ?_ ?_ hS0 hS1 hB) hS1 hB hl wl (wsT (wsT (wsT ws)))
  · rw [hS, upM_r]; exact hP
  · rw [hS, upM_r]; exact hD
theorem g_bast {t : Tok} {len j : Nat} {i v : Int32} (hS : S t = (2, len)) (hi : i = nI j) (hj : j < len) (hn : len < 2 ^ 31) (hd : decode mi.2.1 pc = .ok (.bastore, 1)) (hp : pc + 1 = pc') (kk : G l mi Rm Qf k n pc' lv st S (upM I t j v.toInt8.toInt32) L R) : G l mi Rm Qf k n pc lv (.inl v :: .inl i :: .inr (.inr (some t)) :: st) S I L R := by
  subst hp
  intro D cA B ad0 S0 p e s m args below meth c ad tk H locs ls C hm hr hS0 hB hl wl ws
  obtain ⟨q0, hq', hq⟩ := G.at hr (t := t) (wrN hS ⟨by simp, by simp⟩)
  rw [hS] at hq
  obtain ⟨h1, h2⟩ := vp_inN hi hj hn
  refine va_bast C.1 C.2.1 hr.2.2.1 hr.1 hr.2.1 hS0 q0 1 hq rfl h1 hd (fun H1 locs1 hP hD hS1 => ?_)
  rw [h2, vp_nar_byte] at hP hD
  refine kk D cA B ad0 S0 p e s m args below meth c ad tk H1 locs1 ls C hm (hr.put hq' (t := t) (fun t' h => upM_n I h j _) (fun _ _ => rfl) (fun _ _ => rfl) (fun k' t' h => hr.2.2.2.2.2.2.2 t k' t' (wsH (wsT (wsT ws))) h) ?_ ?_ hS0 hS1 hB) hS1 hB hl wl (wsT (wsT (wsT ws)))
  · rw [hS, upM_r]; exact hP
  · rw [hS, upM_r]; exact hD
theorem g_last {t : Tok} {len j : Nat} {i : Int32} {v : Int64} (hS : S t = (3, len)) (hi : i = nI j) (hj : j < len) (hn : len < 2 ^ 31) (hd : decode mi.2.1 pc = .ok (.lastore, 1)) (hp : pc + 1 = pc') (kk : G l mi Rm Qf k n pc' lv st S I (upM L t j v) R) : G l mi Rm Qf k n pc lv (.inr (.inl v) :: .inl i :: .inr (.inr (some t)) :: st) S I L R := by
  subst hp
  intro D cA B ad0 S0 p e s m args below meth c ad tk H locs ls C hm hr hS0 hB hl wl ws
  obtain ⟨q0, hq', hq⟩ := G.at hr (t := t) (wrN hS ⟨by simp, by simp⟩)
  rw [hS] at hq
  obtain ⟨h1, h2⟩ := vp_inN hi hj hn
  refine va_last C.1 C.2.1 hr.2.2.1 hr.1 hr.2.1 hS0 q0 2 hq rfl h1 hd (fun H1 locs1 hP hD hS1 => ?_)
  rw [h2] at hP hD
  refine kk D cA B ad0 S0 p e s m args below meth c ad tk H1 locs1 ls C hm (hr.put hq' (t := t) (fun _ _ => rfl) (fun t' h => upM_n L h j v) (fun _ _ => rfl) (fun k' t' h => hr.2.2.2.2.2.2.2 t k' t' (wsH (wsT (wsT ws))) h) ?_ ?_ hS0 hS1 hB) hS1 hB hl wl (wsT (wsT (wsT ws)))
  · rw [hS, upM_r]; exact hP
  · rw [hS, upM_r]; exact hD
theorem mapUp {ad : Tok → Nat} {r : Nat → Option Tok} {j : Nat} {v : Tok} : (va_up (fun j => (r j).map ad) j (some (ad v))) = fun q => ((if q = j then some v else r q).map ad) := by
  funext q
  by_cases h : q = j <;> simp [va_up, h]
theorem g_aast {t v : Tok} {x ci len j : Nat} {i : Int32} (hx : (x = 4 ∧ ci = 2) ∨ (x = 5 ∧ ci = 4) ∨ (x = 6 ∧ ci = 7)) (hS : S t = (x, len)) (hV : S v = (ci + 10, 0)) (hi : i = nI j) (hj : j < len) (hn : len < 2 ^ 31) (hd : decode mi.2.1 pc = .ok (.aastore, 1)) (hp : pc + 1 = pc') (kk : G l mi Rm Qf k n pc' lv st S I L (upM R t j (some v))) : G l mi Rm Qf k n pc lv (.inr (.inr (some v)) :: .inl i :: .inr (.inr (some t)) :: st) S I L R := by
  subst hp
  intro D cA B ad0 S0 p e s m args below meth c ad tk H locs ls C hm hr hS0 hB hl wl ws
  have hwr : wr (S t) := by
    rw [hS]
    rcases hx with ⟨rfl, -⟩ | ⟨rfl, -⟩ | ⟨rfl, -⟩ <;> exact ⟨by simp, by simp⟩
  obtain ⟨q0, hq', hq⟩ := G.at hr (t := t) hwr
  obtain ⟨qv, -, hqv⟩ := G.at hr (t := v) (wrN hV wr10)
  rw [hS] at hq
  rw [hV, cellOf_obj] at hqv
  obtain ⟨h1, h2⟩ := vp_inN hi hj hn
  have hcl : ∀ k' t', upM R t j (some v) t k' = some t' → (S t').1 ≠ 0 := by
    intro k' t' h
    by_cases hk : k' = j
    · subst hk
      rw [upM_s] at h
      cases h
      exact wsH ws
    · rw [upM_k _ _ hk] at h
      exact hr.2.2.2.2.2.2.2 t k' t' (wsH (wsT (wsT ws))) h
  have kk2 : ∀ (H1 : Heap) (locs1 : List Loc), va_P D vwCl ((wsOf cA ad tk S I L R).set q0 (ad t, cellOf cA ad (S t) (I t) (L t) (upM R t j (some v) t))) H1 → va_D (fun q => B ≤ q) ((wsOf cA ad tk S I L R).set q0 (ad t, cellOf cA ad (S t) (I t) (L t) (upM R t j (some v) t))) → va_S (fun q => B ≤ q) s.heap H1 locs1 → W p l e Rm s m args below meth c H1 locs1 k n (Qf s args below D cA B ad0 S0) (F0 m (pc + 1) ls (st.map (cv ad))) :=
    fun H1 locs1 hP hD hS1 => kk D cA B ad0 S0 p e s m args below meth c ad tk H1 locs1 ls C hm (hr.put hq' (t := t) (fun _ _ => rfl) (fun _ _ => rfl) (fun t' h => upM_n R h j _) hcl hP hD hS0 hS1 hB) hS1 hB hl wl (wsT (wsT (wsT ws)))
  rw [hS, upM_r] at kk2
  rcases hx with ⟨rfl, rfl⟩ | ⟨rfl, rfl⟩ | ⟨rfl, rfl⟩
  · refine va_astq C.1 C.2.1 hr.2.2.1 hr.1 hr.2.1 hS0 q0 3 qv 2 hq rfl hqv rfl h1 hd (fun H1 locs1 hP hD hS1 => kk2 H1 locs1 ?_ ?_ hS1)
    · rw [h2, mapUp] at hP; exact hP
    · rw [h2, mapUp] at hD; exact hD
  · refine va_astq C.1 C.2.1 hr.2.2.1 hr.1 hr.2.1 hS0 q0 4 qv 4 hq rfl hqv rfl h1 hd (fun H1 locs1 hP hD hS1 => kk2 H1 locs1 ?_ ?_ hS1)
    · rw [h2, mapUp] at hP; exact hP
    · rw [h2, mapUp] at hD; exact hD
  · refine va_astq C.1 C.2.1 hr.2.2.1 hr.1 hr.2.1 hS0 q0 5 qv 7 hq rfl hqv rfl h1 hd (fun H1 locs1 hP hD hS1 => kk2 H1 locs1 ?_ ?_ hS1)
    · rw [h2, mapUp] at hP; exact hP
    · rw [h2, mapUp] at hD; exact hD
/-- two references, compared -/
theorem adInj {D : va_G} {cA : Nat → ClassId} {B : Nat} {ad : Tok → Nat} {tk : List Tok} {S : Shp} {I : MI} {L : ML} {R : MR} {U : State} {H : Heap} (h : REL D cA B ad tk S I L R U H) {t u : Tok} (ht : wr (S t)) (hu : wr (S u)) (he : ad t = ad u) : t = u := by
  obtain ⟨a, a1, a2⟩ := G.at h ht
  obtain ⟨b, b1, b2⟩ := G.at h hu
  have := h.2.1.1 a b _ _ a2 b2 he
  subst this
  exact Option.some.inj (a1.symm.trans b1)
theorem rfInj {D : va_G} {cA : Nat → ClassId} {B : Nat} {ad : Tok → Nat} {tk : List Tok} {S : Shp} {I : MI} {L : ML} {R : MR} {U : State} {H : Heap} (h : REL D cA B ad tk S I L R U H) {a b : Option Tok} (ha : ∀ t, a = some t → wr (S t)) (hb : ∀ t, b = some t → wr (S t)) : a.map ad = b.map ad ↔ a = b := by
  constructor
  · intro e
    cases a with
    | none => cases b with
      | none => rfl
      | some u => cases e
    | some t => cases b with
      | none => cases e
      | some u => rw [adInj h (ha t rfl) (hb u rfl) (Option.some.inj e)]
  · intro e; rw [e]
theorem g_acmpeq {a b : Option Tok} {off : Int} {tgt : Nat} (ha : ∀ t, a = some t → wr (S t)) (hb : ∀ t, b = some t → wr (S t)) (hd : decode mi.2.1 pc = .ok (.if_acmp .eq off, 3)) (ht : (pc : Int) + off = (tgt : Int)) (hp : pc + 3 = pc') (kt : a = b → G l mi Rm Qf k n tgt lv st S I L R) (kf : ¬ a = b → G l mi Rm Qf k n pc' lv st S I L R) : G l mi Rm Qf k n pc lv (.inr (.inr b) :: .inr (.inr a) :: st) S I L R := by
  subst hp
  intro D cA B ad0 S0 p e s m args below meth c ad tk H locs ls C hm hr hS0 hB hl wl ws
  have hi := rfInj hr ha hb
  exact lv_acmp_eq C.1 C.2.1 hd ht (fun q => kt (hi.mp q) D cA B ad0 S0 p e s m args below meth c ad tk H locs ls C hm hr hS0 hB hl wl (wsT (wsT ws))) (fun q => kf (fun z => q (hi.mpr z)) D cA B ad0 S0 p e s m args below meth c ad tk H locs ls C hm hr hS0 hB hl wl (wsT (wsT ws)))
theorem g_acmpne {a b : Option Tok} {off : Int} {tgt : Nat} (ha : ∀ t, a = some t → wr (S t)) (hb : ∀ t, b = some t → wr (S t)) (hd : decode mi.2.1 pc = .ok (.if_acmp .ne off, 3)) (ht : (pc : Int) + off = (tgt : Int)) (hp : pc + 3 = pc') (kt : ¬ a = b → G l mi Rm Qf k n tgt lv st S I L R) (kf : a = b → G l mi Rm Qf k n pc' lv st S I L R) : G l mi Rm Qf k n pc lv (.inr (.inr b) :: .inr (.inr a) :: st) S I L R := by
  subst hp
  intro D cA B ad0 S0 p e s m args below meth c ad tk H locs ls C hm hr hS0 hB hl wl ws
  have hi := rfInj hr ha hb
  exact lv_acmp_ne C.1 C.2.1 hd ht (fun q => kt (fun z => q (hi.mpr z)) D cA B ad0 S0 p e s m args below meth c ad tk H locs ls C hm hr hS0 hB hl wl (wsT (wsT ws))) (fun q => kf (hi.mp q) D cA B ad0 S0 p e s m args below meth c ad tk H locs ls C hm hr hS0 hB hl wl (wsT (wsT ws)))
end Mem
