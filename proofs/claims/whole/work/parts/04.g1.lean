/-! the layer over the kit's W: a heap of tokens -/
abbrev Tok : Type := Nat × Nat
abbrev PV : Type := Int32 ⊕ (Int64 ⊕ Option Tok)
abbrev Shp : Type := Tok → Nat × Nat
abbrev MI : Type := Tok → Nat → Int32
abbrev ML : Type := Tok → Nat → Int64
abbrev MR : Type := Tok → Nat → Option Tok
abbrev MInf : Type := MethodName × ByteArray × Nat × Option FieldType
def cv (ad : Tok → Nat) (v : PV) : Value := match v with
  | .inl x => .int x
  | .inr (.inl x) => .long x
  | .inr (.inr r) => va_rf (r.map ad)
def CN (c : Nat) : String := match c with
  | 0 => RX0 | 1 => RX1 | 2 => RX2 | 3 => RX3 | 4 => RX4 | 5 => RX5 | 6 => RX6 | 7 => RX7 | 8 => RX8 | _ => RX9
def TC (c : Nat) : u_T := match c with
  | 0 => TX0 | 1 => TX1 | 2 => TX2 | 3 => TX3 | 4 => TX4 | 5 => TX5 | 6 => TX6 | 7 => TX7 | 8 => TX8 | _ => TX9
def tyC (c : Nat) : Nat → FieldType := match c with
  | 0 => tyX0 | 1 => tyX1 | 2 => tyX2 | 3 => tyX3 | 4 => tyX4 | 5 => tyX5 | 6 => tyX6 | 7 => tyX7 | 8 => tyX8 | _ => tyX9
def nF (c : Nat) : Nat := match c with
  | 0 => 5 | 1 => 6 | 2 => 2 | 3 => 6 | 4 => 5 | 5 => 2 | 6 => 6 | 7 => 16 | 8 => 16 | _ => 45
def isI (t : FieldType) : Bool := match t with
  | .int => true
  | _ => false
theorem c10 {P : Nat → Prop} (h0 : P 0) (h1 : P 1) (h2 : P 2) (h3 : P 3) (h4 : P 4) (h5 : P 5) (h6 : P 6) (h7 : P 7) (h8 : P 8) (h9 : P 9) {c : Nat} (h : c < 10) : P c := by
  rcases (show c = 0 ∨ c = 1 ∨ c = 2 ∨ c = 3 ∨ c = 4 ∨ c = 5 ∨ c = 6 ∨ c = 7 ∨ c = 8 ∨ c = 9 by omega) with rfl | rfl | rfl | rfl | rfl | rfl | rfl | rfl | rfl | rfl <;> assumption
theorem cl_at {c : Nat} (h : c < 10) : vwCl[c]? = some (CN c, TC c, nF c) := c10 (P := fun c => vwCl[c]? = some (CN c, TC c, nF c)) rfl rfl rfl rfl rfl rfl rfl rfl rfl rfl h
theorem cl_jn0 : ∀ w ∈ u_ws RX0 TX0 5, w ∈ lw_tbl := by decide +kernel
theorem cl_kn0 : (u_ws RX0 TX0 5).all goodWord = true := by decide +kernel
theorem cl_jn1 : ∀ w ∈ u_ws RX1 TX1 6, w ∈ lw_tbl := by decide +kernel
theorem cl_kn1 : (u_ws RX1 TX1 6).all goodWord = true := by decide +kernel
theorem cl_jn2 : ∀ w ∈ u_ws RX2 TX2 2, w ∈ lw_tbl := by decide +kernel
theorem cl_kn2 : (u_ws RX2 TX2 2).all goodWord = true := by decide +kernel
theorem cl_jn3 : ∀ w ∈ u_ws RX3 TX3 6, w ∈ lw_tbl := by decide +kernel
theorem cl_kn3 : (u_ws RX3 TX3 6).all goodWord = true := by decide +kernel
theorem cl_jn4 : ∀ w ∈ u_ws RX4 TX4 5, w ∈ lw_tbl := by decide +kernel
theorem cl_kn4 : (u_ws RX4 TX4 5).all goodWord = true := by decide +kernel
theorem cl_jn5 : ∀ w ∈ u_ws RX5 TX5 2, w ∈ lw_tbl := by decide +kernel
theorem cl_kn5 : (u_ws RX5 TX5 2).all goodWord = true := by decide +kernel
theorem cl_jn6 : ∀ w ∈ u_ws RX6 TX6 6, w ∈ lw_tbl := by decide +kernel
theorem cl_kn6 : (u_ws RX6 TX6 6).all goodWord = true := by decide +kernel
theorem cl_jn7 : ∀ w ∈ u_ws RX7 TX7 16, w ∈ lw_tbl := by decide +kernel
theorem cl_kn7 : (u_ws RX7 TX7 16).all goodWord = true := by decide +kernel
theorem cl_jn8 : ∀ w ∈ u_ws RX8 TX8 16, w ∈ lw_tbl := by decide +kernel
theorem cl_kn8 : (u_ws RX8 TX8 16).all goodWord = true := by decide +kernel
theorem cl_jn9 : ∀ w ∈ u_ws RX9 TX9 45, w ∈ lw_tbl := by decide +kernel
theorem cl_kn9 : (u_ws RX9 TX9 45).all goodWord = true := by decide +kernel
/-- the words that go with every method -/
def GW : List Cond := lw_tbl.filter goodWord
theorem mg {w : Cond} (h : w ∈ lw_tbl) (g : goodWord w = true) : w ∈ GW := List.mem_filter.mpr ⟨h, g⟩
theorem tbl_gi (ws : List Cond) (h : ∀ w ∈ ws, w ∈ GW) : GoodIn GW ws := fun w hw => ⟨h w hw, good_of_word (List.mem_filter.mp (h w hw)).2⟩
/-- the words that go by themselves -/
def XW (U : State) : Prop := (va_Nw (.methodLinkNest RX8 9 yX5_init RX8) U ∧ va_Nw (.methodLinkNest RX8 18 yX6_init RX8) U ∧ va_Nw (.methodLinkNest RX8 37 yX1_init RX8) U ∧ va_Nw (.methodLinkNest RX8 44 yX0_init RX8) U ∧ va_Nw (.methodLinkNest RX8 87 yX4_init RX8) U) ∧ (va_AO "EightWorlds$Law" U ∧ va_AO "EightWorlds$World" U ∧ va_AO "EightWorlds$Shelf" U) ∧ va_Nw (.castable "[I" "java/lang/Cloneable") U
theorem XW.warm {s U : State} (hW : s.WarmedH U.vm) (h : XW s) : XW U := by
  obtain ⟨⟨h1, h2, h3, h4, h5⟩, ⟨h6, h7, h8⟩, h9⟩ := h
  exact ⟨⟨va_Nw.warmM hW h1, va_Nw.warmM hW h2, va_Nw.warmM hW h3, va_Nw.warmM hW h4, va_Nw.warmM hW h5⟩, ⟨h6.moved hW.alike, h7.moved hW.alike, h8.moved hW.alike⟩, va_Nw.warmC hW h9⟩
theorem XW.same {u U : State} (e : u.vm = U.vm) (h : XW u) : XW U := by
  obtain ⟨⟨h1, h2, h3, h4, h5⟩, ⟨h6, h7, h8⟩, h9⟩ := h
  have ha : u.vm.Alike U.vm := by rw [e]; exact Vm.Alike.refl U.vm
  exact ⟨⟨h1.same rfl e, h2.same rfl e, h3.same rfl e, h4.same rfl e, h5.same rfl e⟩, ⟨h6.moved ha, h7.moved ha, h8.moved ha⟩, h9.same rfl e⟩
theorem cl_in {c : Nat} (h : c < 10) : ∀ w ∈ u_ws (CN c) (TC c) (nF c), w ∈ GW := c10 (P := fun c => ∀ w ∈ u_ws (CN c) (TC c) (nF c), w ∈ GW) (fun w h => mg (cl_jn0 w h) (List.all_eq_true.mp cl_kn0 w h)) (fun w h => mg (cl_jn1 w h) (List.all_eq_true.mp cl_kn1 w h)) (fun w h => mg (cl_jn2 w h) (List.all_eq_true.mp cl_kn2 w h)) (fun w h => mg (cl_jn3 w h) (List.all_eq_true.mp cl_kn3 w h)) (fun w h => mg (cl_jn4 w h) (List.all_eq_true.mp cl_kn4 w h)) (fun w h => mg (cl_jn5 w h) (List.all_eq_true.mp cl_kn5 w h)) (fun w h => mg (cl_jn6 w h) (List.all_eq_true.mp cl_kn6 w h)) (fun w h => mg (cl_jn7 w h) (List.all_eq_true.mp cl_kn7 w h)) (fun w h => mg (cl_jn8 w h) (List.all_eq_true.mp cl_kn8 w h)) (fun w h => mg (cl_jn9 w h) (List.all_eq_true.mp cl_kn9 w h)) h
theorem cl_ty {c : Nat} (h : c < 10) : ∀ k, k < nF c → parseFieldDescriptor (TC c k).2.2.1 = some (tyC c k) := c10 (P := fun c => ∀ k, k < nF c → parseFieldDescriptor (TC c k).2.2.1 = some (tyC c k)) tyX0_ok tyX1_ok tyX2_ok tyX3_ok tyX4_ok tyX5_ok tyX6_ok tyX7_ok tyX8_ok tyX9_ok h
theorem cl_nm {c : Nat} (h : c < 10) : ∀ a, a < nF c → ∀ b, b < nF c → a ≠ b → (TC c a).2.1 ≠ (TC c b).2.1 := c10 (P := fun c => ∀ a, a < nF c → ∀ b, b < nF c → a ≠ b → (TC c a).2.1 ≠ (TC c b).2.1) nmX0 nmX1 nmX2 nmX3 nmX4 nmX5 nmX6 nmX7 nmX8 nmX9 h
def fsOf (ad : Tok → Nat) (c : Nat) (i : Nat → Int32) (r : Nat → Option Tok) : List Value := (List.range (nF c)).map (fun k => if isI (tyC c k) = true then .int (i k) else va_rf ((r k).map ad))
theorem fs_at {ad : Tok → Nat} {c : Nat} {i : Nat → Int32} {r : Nat → Option Tok} {k : Nat} (hk : k < nF c) : (fsOf ad c i r)[k]? = some (if isI (tyC c k) = true then .int (i k) else va_rf ((r k).map ad)) := by
  unfold fsOf
  rw [List.getElem?_map, List.getElem?_range hk]
  rfl
theorem fs_len {ad : Tok → Nat} {c : Nat} {i : Nat → Int32} {r : Nat → Option Tok} : (fsOf ad c i r).length = nF c := by
  unfold fsOf
  rw [List.length_map, List.length_range]
def cellOf (cA : Nat → ClassId) (ad : Tok → Nat) (sh : Nat × Nat) (i : Nat → Int32) (l : Nat → Int64) (r : Nat → Option Tok) : va_E := match sh.1 with
  | 1 => .inl (cA 0, sh.2, .inl i)
  | 2 => .inl (cA 1, sh.2, .inl i)
  | 3 => .inl (cA 2, sh.2, .inr (.inl l))
  | 4 => .inl (cA 3, sh.2, .inr (.inr (.inr (.inr (fun j => (r j).map ad)))))
  | 5 => .inl (cA 4, sh.2, .inr (.inr (.inr (.inr (fun j => (r j).map ad)))))
  | 6 => .inl (cA 5, sh.2, .inr (.inr (.inr (.inr (fun j => (r j).map ad)))))
  | n + 10 => .inr (n, fsOf ad n i r)
  | _ => .inr (0, [])
theorem cellOf_obj {cA : Nat → ClassId} {ad : Tok → Nat} {c n : Nat} {i : Nat → Int32} {l : Nat → Int64} {r : Nat → Option Tok} : cellOf cA ad (c + 10, n) i l r = .inr (c, fsOf ad c i r) := rfl
def tysOf (cA : Nat → ClassId) : List (ClassId × FieldType) := [(cA 0, .int), (cA 1, .byte), (cA 2, .long), (cA 3, .object "EightWorlds$Law"), (cA 4, .object "EightWorlds$Shelf"), (cA 5, .object "EightWorlds$World")]
def wsOf (cA : Nat → ClassId) (ad : Tok → Nat) (tk : List Tok) (S : Shp) (I : MI) (L : ML) (R : MR) : va_W := tk.map (fun t => (ad t, cellOf cA ad (S t) (I t) (L t) (R t)))
def wr (sh : Nat × Nat) : Prop := sh.1 ≠ 0 ∧ sh.1 ≠ 7
def upT {α : Type} (f : Tok → α) (t : Tok) (v : α) : Tok → α := fun t' => if t' = t then v else f t'
theorem upT_s {α : Type} (f : Tok → α) (t : Tok) (v : α) : upT f t v t = v := if_pos rfl
theorem upT_n {α : Type} (f : Tok → α) {t t' : Tok} (h : t' ≠ t) (v : α) : upT f t v t' = f t' := if_neg h
def upM {α : Type} (I : Tok → Nat → α) (t : Tok) (k : Nat) (v : α) : Tok → Nat → α := fun t' j => if t' = t ∧ j = k then v else I t' j
theorem upM_s {α : Type} (I : Tok → Nat → α) (t : Tok) (k : Nat) (v : α) : upM I t k v t k = v := if_pos ⟨rfl, rfl⟩
theorem upM_n {α : Type} (I : Tok → Nat → α) {t t' : Tok} (h : t' ≠ t) (k : Nat) (v : α) : upM I t k v t' = I t' := funext fun _ => if_neg fun q => h q.1
theorem upM_k {α : Type} (I : Tok → Nat → α) (t : Tok) {j k : Nat} (h : j ≠ k) (v : α) : upM I t k v t j = I t j := if_neg fun q => h q.2
theorem upM_r {α : Type} (I : Tok → Nat → α) (t : Tok) (k : Nat) (v : α) : upM I t k v t = fun j => if j = k then v else I t j := funext fun j => by
  by_cases h : j = k
  · subst h; simp [upM]
  · simp [upM, h]
def RO (B : Nat) (ad : Tok → Nat) (S : Shp) (I : MI) (U : State) (H : Heap) : Prop :=
  (va_Z "EightWorlds$Odds" "STEPS" "[I" (.ref (ad (36, 0))) (fun q => B ≤ q) U H ∧ va_Z "EightWorlds$Acts" "ABOVE" "[I" (.ref (ad (37, 0))) (fun q => B ≤ q) U H ∧ va_Z "EightWorlds$Acts" "BODIES" "[I" (.ref (ad (38, 0))) (fun q => B ≤ q) U H) ∧ ((S (36, 0)).1 = 7 ∧ (S (37, 0)).1 = 7 ∧ (S (38, 0)).1 = 7) ∧ ∀ t, (S t).1 = 7 → ad t < B ∧ va_X (ad t) (S t).2 (I t) U H
def REL (D : va_G) (cA : Nat → ClassId) (B : Nat) (ad : Tok → Nat) (tk : List Tok) (S : Shp) (I : MI) (L : ML) (R : MR) (U : State) (H : Heap) : Prop :=
  va_P D vwCl (wsOf cA ad tk S I L R) H ∧ va_D (fun q => B ≤ q) (wsOf cA ad tk S I L R) ∧ va_K D vwCl (tysOf cA) U ∧ B ≤ H.size ∧ tk.Nodup ∧ (∀ t, t ∈ tk ↔ wr (S t)) ∧ RO B ad S I U H ∧ ∀ t k t', (S t).1 ≠ 0 → R t k = some t' → (S t').1 ≠ 0
theorem RO.moved {B : Nat} {ad : Tok → Nat} {S : Shp} {I : MI} {u U : State} {H : Heap} (hvm : u.vm.Alike U.vm) (h : RO B ad S I u H) : RO B ad S I U H := by
  obtain ⟨⟨h1, h2, h3⟩, h4, h5⟩ := h
  exact ⟨⟨h1.moved hvm, h2.moved hvm, h3.moved hvm⟩, h4, fun t ht => ⟨(h5 t ht).1, (h5 t ht).2.moved hvm⟩⟩
theorem RO.kept {B : Nat} {ad : Tok → Nat} {S : Shp} {I : MI} {U : State} {H H1 : Heap} (hB : B ≤ H.size) (h : RO B ad S I U H) (hq : ∀ a : Nat, a < B → H1[a]? = H[a]?) : RO B ad S I U H1 := by
  obtain ⟨⟨h1, h2, h3⟩, h4, h5⟩ := h
  have hq' : ∀ a : Nat, a < H.size → ¬ B ≤ a → H1[a]? = H[a]? := fun a _ hn => hq a (Nat.not_le.mp hn)
  exact ⟨⟨h1.kept hq', h2.kept hq', h3.kept hq'⟩, h4, fun t ht => ⟨(h5 t ht).1, (h5 t ht).2.kept (hq _ (h5 t ht).1)⟩⟩
theorem REL.moved {D : va_G} {cA : Nat → ClassId} {B : Nat} {ad : Tok → Nat} {tk : List Tok} {S : Shp} {I : MI} {L : ML} {R : MR} {u U : State} {H : Heap} (hvm : u.vm.Alike U.vm) (h : REL D cA B ad tk S I L R u H) : REL D cA B ad tk S I L R U H := by
  obtain ⟨h1, h2, h3, h4, h5, h6, h7, h8⟩ := h
  exact ⟨h1, h2, va_K.moved hvm h3, h4, h5, h6, h7.moved hvm, h8⟩
/-- a list of cells, one changed -/
theorem map_set {α β : Type} {tk : List α} (hn : tk.Nodup) {q0 : Nat} {t : α} (hq : tk[q0]? = some t) {f g : α → β} (h : ∀ t', t' ≠ t → g t' = f t') : (tk.map f).set q0 (g t) = tk.map g := by
  apply List.ext_getElem?
  intro i
  have hl := (List.getElem?_eq_some_iff.mp hq).1
  by_cases hi : q0 = i
  · subst hi
    rw [List.getElem?_set_self (by rw [List.length_map]; exact hl), List.getElem?_map, hq]
    rfl
  · rw [List.getElem?_set_ne hi, List.getElem?_map, List.getElem?_map]
    cases h' : tk[i]? with
    | none => rfl
    | some t' =>
      have hne : t' ≠ t := by
        intro e
        subst e
        exact hi ((List.getElem?_inj hl hn).mp (hq.trans h'.symm))
      show some (f t') = some (g t')
      rw [h t' hne]
theorem ws_at {cA : Nat → ClassId} {ad : Tok → Nat} {tk : List Tok} {S : Shp} {I : MI} {L : ML} {R : MR} {t : Tok} (h : t ∈ tk) : ∃ q0 : Nat, tk[q0]? = some t ∧ (wsOf cA ad tk S I L R)[q0]? = some (ad t, cellOf cA ad (S t) (I t) (L t) (R t)) := by
  obtain ⟨q0, hq⟩ := List.getElem?_of_mem h
  exact ⟨q0, hq, by unfold wsOf; rw [List.getElem?_map, hq]; rfl⟩
/-- a write to one cell of the heap's own -/
theorem REL.put {D : va_G} {cA : Nat → ClassId} {B : Nat} {ad : Tok → Nat} {tk : List Tok} {S : Shp} {I I' : MI} {L L' : ML} {R R' : MR} {U : State} {H H1 H0 : Heap} {locs locs1 : List Loc} (h : REL D cA B ad tk S I L R U H) {t : Tok} {q0 : Nat} (hq : tk[q0]? = some t)
    (hI : ∀ t', t' ≠ t → I' t' = I t') (hL : ∀ t', t' ≠ t → L' t' = L t') (hR : ∀ t', t' ≠ t → R' t' = R t') (hcl : ∀ k t', R' t k = some t' → (S t').1 ≠ 0)
    (hP : va_P D vwCl ((wsOf cA ad tk S I L R).set q0 (ad t, cellOf cA ad (S t) (I' t) (L' t) (R' t))) H1) (hD : va_D (fun q => B ≤ q) ((wsOf cA ad tk S I L R).set q0 (ad t, cellOf cA ad (S t) (I' t) (L' t) (R' t))))
    (hS : va_S (fun q => B ≤ q) H0 H locs) (hS1 : va_S (fun q => B ≤ q) H0 H1 locs1) (hB : B ≤ H0.size) : REL D cA B ad tk S I' L' R' U H1 := by
  obtain ⟨-, -, h3, h4, h5, h6, h7, h8⟩ := h
  have e : (wsOf cA ad tk S I L R).set q0 (ad t, cellOf cA ad (S t) (I' t) (L' t) (R' t)) = wsOf cA ad tk S I' L' R' :=
    map_set h5 hq (f := fun t => (ad t, cellOf cA ad (S t) (I t) (L t) (R t))) (g := fun t => (ad t, cellOf cA ad (S t) (I' t) (L' t) (R' t))) (fun t' hne => by show (ad t', _) = (ad t', _); rw [hI t' hne, hL t' hne, hR t' hne])
  rw [e] at hP hD
  have ht := (h6 t).mp (List.mem_of_getElem? hq)
  refine ⟨hP, hD, h3, Nat.le_trans hB hS1.1, h5, h6, ?_, ?_⟩
  · have h9 := h7.kept h4 (H1 := H1) (fun a ha => (hS1.2.1 a (Nat.lt_of_lt_of_le ha hB) (Nat.not_le.mpr ha)).trans (hS.2.1 a (Nat.lt_of_lt_of_le ha hB) (Nat.not_le.mpr ha)).symm)
    refine ⟨h9.1, h9.2.1, fun t' ht' => ?_⟩
    rw [hI t' (fun e => ht.2 (e ▸ ht'))]
    exact h9.2.2 t' ht'
  · intro t' k t'' hs hr
    by_cases e : t' = t
    · subst e; exact hcl k t'' hr
    · rw [hR t' e] at hr; exact h8 t' k t'' hs hr
/-- a new cell -/
theorem REL.push {D : va_G} {cA : Nat → ClassId} {B : Nat} {ad : Tok → Nat} {tk : List Tok} {S : Shp} {I I' : MI} {L L' : ML} {R R' : MR} {U : State} {H H1 H0 : Heap} {locs locs1 : List Loc} (h : REL D cA B ad tk S I L R U H) {t : Tok} {q : Nat} {sh : Nat × Nat} (ht : (S t).1 = 0) (hsh : wr sh)
    (hI : ∀ t', t' ≠ t → I' t' = I t') (hL : ∀ t', t' ≠ t → L' t' = L t') (hR : ∀ t', t' ≠ t → R' t' = R t') (hcl : ∀ k, R' t k = none)
    (hP : va_P D vwCl (wsOf cA ad tk S I L R ++ [(q, cellOf cA (upT ad t q) sh (I' t) (L' t) (R' t))]) H1) (hD : va_D (fun q => B ≤ q) (wsOf cA ad tk S I L R ++ [(q, cellOf cA (upT ad t q) sh (I' t) (L' t) (R' t))]))
    (hS : va_S (fun q => B ≤ q) H0 H locs) (hS1 : va_S (fun q => B ≤ q) H0 H1 locs1) (hB : B ≤ H0.size) : REL D cA B (upT ad t q) (tk ++ [t]) (upT S t sh) I' L' R' U H1 := by
  obtain ⟨-, -, h3, h4, h5, h6, h7, h8⟩ := h
  have hnt : t ∉ tk := fun hm => ((h6 t).mp hm).1 ht
  have hmap : ∀ (r : Nat → Option Tok), (∀ k t', r k = some t' → (S t').1 ≠ 0) → (fun j => (r j).map (upT ad t q)) = fun j => (r j).map ad := by
    intro r hr
    funext j
    cases e : r j with
    | none => rfl
    | some t' =>
      have hne : t' ≠ t := fun e2 => hr j t' e (e2 ▸ ht)
      show some (upT ad t q t') = some (ad t')
      rw [upT_n _ hne]
  have hcell : ∀ (x : Nat × Nat) (i : Nat → Int32) (l : Nat → Int64) (r : Nat → Option Tok), (∀ k t', r k = some t' → (S t').1 ≠ 0) → cellOf cA (upT ad t q) x i l r = cellOf cA ad x i l r := by
    intro x i l r hr
    have e := hmap r hr
    have e2 : ∀ c, fsOf (upT ad t q) c i r = fsOf ad c i r := by
      intro c
      unfold fsOf
      apply List.map_congr_left
      intro k _
      rw [show (r k).map (upT ad t q) = (r k).map ad from congrFun e k]
    unfold cellOf
    split <;> first | rfl | rw [e] | rw [e2]
  have e : wsOf cA ad tk S I L R ++ [(q, cellOf cA (upT ad t q) sh (I' t) (L' t) (R' t))] = wsOf cA (upT ad t q) (tk ++ [t]) (upT S t sh) I' L' R' := by
    unfold wsOf
    rw [List.map_append]
    congr 1
    · apply List.map_congr_left
      intro t' hm
      have hne : t' ≠ t := fun e2 => hnt (e2 ▸ hm)
      rw [upT_n _ hne, upT_n _ hne, hI t' hne, hL t' hne, hR t' hne, hcell _ _ _ _ (fun k t'' hk => h8 t' k t'' ((h6 t').mp hm).1 hk)]
    · simp [upT_s]
  rw [e] at hP hD
  refine ⟨hP, hD, h3, Nat.le_trans hB hS1.1, ?_, ?_, ?_, ?_⟩
  · rw [List.nodup_append]
    refine ⟨h5, by simp, ?_⟩
    intro a ha b hb e2
    rw [List.mem_singleton.mp hb] at e2
    exact hnt (e2 ▸ ha)
  · intro t'
    by_cases e2 : t' = t
    · subst e2
      rw [upT_s]
      exact ⟨fun _ => hsh, fun _ => by simp⟩
    · rw [upT_n _ e2, ← h6 t']
      simp [e2]
  · have h9 := h7.kept h4 (H1 := H1) (fun a ha => (hS1.2.1 a (Nat.lt_of_lt_of_le ha hB) (Nat.not_le.mpr ha)).trans (hS.2.1 a (Nat.lt_of_lt_of_le ha hB) (Nat.not_le.mpr ha)).symm)
    have key : ∀ t', (S t').1 ≠ 0 → upT ad t q t' = ad t' ∧ upT S t sh t' = S t' ∧ t' ≠ t := by
      intro t' h'
      have hne : t' ≠ t := fun e2 => h' (e2 ▸ ht)
      exact ⟨upT_n _ hne _, upT_n _ hne _, hne⟩
    have n7 : ∀ t', (S t').1 = 7 → (S t').1 ≠ 0 := fun t' h' => by rw [h']; decide
    obtain ⟨⟨z1, z2, z3⟩, ⟨s1, s2, s3⟩, z4⟩ := h9
    refine ⟨⟨?_, ?_, ?_⟩, ⟨?_, ?_, ?_⟩, ?_⟩
    · rw [(key _ (n7 _ s1)).1]; exact z1
    · rw [(key _ (n7 _ s2)).1]; exact z2
    · rw [(key _ (n7 _ s3)).1]; exact z3
    · rw [(key _ (n7 _ s1)).2.1]; exact s1
    · rw [(key _ (n7 _ s2)).2.1]; exact s2
    · rw [(key _ (n7 _ s3)).2.1]; exact s3
    · intro t' ht'
      have hne : t' ≠ t := by
        intro e2
        subst e2
        rw [upT_s] at ht'
        exact hsh.2 ht'
      rw [upT_n _ hne] at ht' ⊢
      rw [upT_n _ hne, hI t' hne]
      exact z4 t' ht'
  · intro t' k t'' hs hr
    by_cases e2 : t' = t
    · subst e2
      rw [hcl k] at hr
      cases hr
    · rw [upT_n _ e2] at hs
      rw [hR t' e2] at hr
      have hs2 := h8 t' k t'' hs hr
      have hne : t'' ≠ t := fun e3 => hs2 (e3 ▸ ht)
      rw [upT_n _ hne]
      exact hs2

/-! the judgement -/
def nl (x : Option PV) : Bool := match x with
  | some (.inr (.inl _)) => false
  | _ => true
def lvl (ad : Tok → Nat) : Nat → List (Option PV) → List (Nat × Value)
  | _, [] => []
  | i, none :: r => lvl ad (i + 1) r
  | i, some v :: r => (i, cv ad v) :: lvl ad (i + 1) r
theorem lvl_mem {ad : Tok → Nat} : ∀ {lv : List (Option PV)} {b i : Nat} {q : Value}, (i, q) ∈ lvl ad b lv ↔ ∃ j v, i = b + j ∧ lv[j]? = some (some v) ∧ q = cv ad v
  | [], b, i, q => by
    constructor
    · intro h; cases h
    · rintro ⟨j, v, -, h, -⟩; simp at h
  | none :: r, b, i, q => by
    rw [show lvl ad b (none :: r) = lvl ad (b + 1) r from rfl, lvl_mem]
    constructor
    · rintro ⟨j, v, h1, h2, h3⟩
      exact ⟨j + 1, v, by omega, by simpa using h2, h3⟩
    · rintro ⟨j, v, h1, h2, h3⟩
      cases j with
      | zero => simp at h2
      | succ j => exact ⟨j, v, by omega, by simpa using h2, h3⟩
  | some x :: r, b, i, q => by
    rw [show lvl ad b (some x :: r) = (b, cv ad x) :: lvl ad (b + 1) r from rfl, List.mem_cons, lvl_mem]
    constructor
    · rintro (h | ⟨j, v, h1, h2, h3⟩)
      · cases h
        exact ⟨0, x, by omega, by simp, rfl⟩
      · exact ⟨j + 1, v, by omega, by simpa using h2, h3⟩
    · rintro ⟨j, v, h1, h2, h3⟩
      cases j with
      | zero =>
        simp at h2
        subst h2
        exact Or.inl (by rw [h1, h3]; rfl)
      | succ j => exact Or.inr ⟨j, v, by omega, by simpa using h2, h3⟩
theorem lvl_get {ad : Tok → Nat} {ls : Array Slot} {nL : Nat} {lv : List (Option PV)} (h : lv_has ls nL (lvl ad 0 lv)) {j : Nat} {v : PV} (hj : lv[j]? = some (some v)) : ls[j]? = some (.val (cv ad v)) :=
  h.2.2 (j, cv ad v) (lvl_mem.mpr ⟨j, v, (Nat.zero_add j).symm, hj, rfl⟩)
theorem cv_cat {ad : Tok → Nat} {v : PV} (h : (cv ad v).category = 2) : nl (some v) = false := by
  rcases v with x | x | r
  · simp [cv, Value.category] at h
  · rfl
  · cases r <;> simp [cv, va_rf, Value.category] at h
theorem lvl_sub {ad : Tok → Nat} {ls : Array Slot} {nL : Nat} {lv lv' : List (Option PV)} (h : lv_has ls nL (lvl ad 0 lv)) (hs : ∀ (j : Nat) (v : PV), lv'[j]? = some (some v) → lv[j]? = some (some v)) : lv_has ls nL (lvl ad 0 lv') := by
  refine ⟨h.1, h.2.1, fun q hq => ?_⟩
  obtain ⟨i, x⟩ := q
  obtain ⟨j, v, h1, h2, h3⟩ := lvl_mem.mp hq
  exact h.2.2 _ (lvl_mem.mpr ⟨j, v, h1, hs j v h2, h3⟩)
/-- one slot stored -/
theorem lvl_st1 {ad : Tok → Nat} {ls' : Array Slot} {nL i : Nat} {lv : List (Option PV)} {v : PV} {V : Value} (hV : V = cv ad v) (h : lv_has ls' nL ((i, V) :: (lvl ad 0 lv).filter (fun q => !(q.1 == i) && !(q.1 + 1 == i && q.2.category == 2)))) (hp : ∀ j x, j + 1 = i → lv[j]? = some x → nl x = true) : lv_has ls' nL (lvl ad 0 (lv.set i (some v))) := by
  refine ⟨h.1, h.2.1, fun q hq => ?_⟩
  obtain ⟨k, x⟩ := q
  obtain ⟨j, w, h1, h2, h3⟩ := lvl_mem.mp hq
  rw [Nat.zero_add] at h1
  subst h1
  refine h.2.2 _ ?_
  by_cases e : i = k
  · subst e
    rw [List.getElem?_set_self'] at h2
    cases hh : lv[i]? with
    | none => rw [hh] at h2; simp at h2
    | some y =>
      rw [hh] at h2
      simp at h2
      subst h2
      rw [h3, ← hV]
      exact List.mem_cons_self
  · rw [List.getElem?_set_ne e] at h2
    refine List.mem_cons_of_mem _ (List.mem_filter.mpr ⟨lvl_mem.mpr ⟨k, w, (Nat.zero_add k).symm, h2, h3⟩, ?_⟩)
    have a1 : (k == i) = false := by simp; exact fun q => e q.symm
    have a2 : (k + 1 == i && x.category == 2) = false := by
      by_cases e2 : k + 1 = i
      · have hn := hp k (some w) e2 h2
        have : ¬ x.category = 2 := fun hc => by
          rw [h3] at hc
          rw [cv_cat hc] at hn
          cases hn
        simp [this]
      · simp [e2]
    simp only [a1, a2]
    rfl
/-- two slots stored -/
theorem lvl_st2 {ad : Tok → Nat} {ls' : Array Slot} {nL i : Nat} {lv : List (Option PV)} {v : PV} {V : Value} (hV : V = cv ad v) (h : lv_has ls' nL ((i, V) :: (lvl ad 0 lv).filter (fun q => !(q.1 == i) && (!(q.1 == i + 1) && !(q.1 + 1 == i && q.2.category == 2))))) (hp : ∀ j x, j + 1 = i → lv[j]? = some x → nl x = true) : lv_has ls' nL (lvl ad 0 ((lv.set i (some v)).set (i + 1) none)) := by
  refine ⟨h.1, h.2.1, fun q hq => ?_⟩
  obtain ⟨k, x⟩ := q
  obtain ⟨j, w, h1, h2, h3⟩ := lvl_mem.mp hq
  rw [Nat.zero_add] at h1
  subst h1
  refine h.2.2 _ ?_
  by_cases e0 : i + 1 = k
  · subst e0
    rw [List.getElem?_set_self'] at h2
    cases hh : (lv.set i (some v))[i + 1]? with
    | none => rw [hh] at h2; simp at h2
    | some y => rw [hh] at h2; simp at h2
  · rw [List.getElem?_set_ne e0] at h2
    by_cases e : i = k
    · subst e
      rw [List.getElem?_set_self'] at h2
      cases hh : lv[i]? with
      | none => rw [hh] at h2; simp at h2
      | some y =>
        rw [hh] at h2
        simp at h2
        subst h2
        rw [h3, ← hV]
        exact List.mem_cons_self
    · rw [List.getElem?_set_ne e] at h2
      refine List.mem_cons_of_mem _ (List.mem_filter.mpr ⟨lvl_mem.mpr ⟨k, w, (Nat.zero_add k).symm, h2, h3⟩, ?_⟩)
      have a1 : (k == i) = false := by simp; exact fun q => e q.symm
      have a0 : (k == i + 1) = false := by simp; exact fun q => e0 q.symm
      have a2 : (k + 1 == i && x.category == 2) = false := by
        by_cases e2 : k + 1 = i
        · have hn := hp k (some w) e2 h2
          have : ¬ x.category = 2 := fun hc => by
            rw [h3] at hc
            rw [cv_cat hc] at hn
            cases hn
          simp [this]
        · simp [e2]
      simp only [a0, a1, a2]
      rfl
def wfv (S : Shp) (v : PV) : Prop := match v with
  | .inr (.inr (some t)) => (S t).1 ≠ 0
  | _ => True
def wfl (S : Shp) (lv : List (Option PV)) : Prop := ∀ v, some v ∈ lv → wfv S v
def wfs (S : Shp) (st : List PV) : Prop := ∀ v, v ∈ st → wfv S v
def Cx (mi : MInf) (p : Program) (s : State) (m : MethodId) (args : Array Value) (meth : Method) (c : Code) : Prop :=
  p.tables.exec = Jvm.exec ∧ c.code = mi.2.1 ∧ c.maxLocals = mi.2.2.1 ∧ meth.sig.returnType = mi.2.2.2 ∧ s.vm.findClass mi.1.cls = some m.cls ∧ (∀ w ∈ GW, w.before args s = true) ∧ meth.locks = false ∧ meth.name = mi.1.name ∧ XW s
abbrev QF : Type := State → Array Value → List Frame → va_G → (Nat → ClassId) → Nat → (Tok → Nat) → Shp → State → Prop
abbrev PO : Type := Option PV → Shp → MI → ML → MR → Prop
def G (l : Launch) (mi : MInf) (Rm : Room) (Qf : QF) (k n pc : Nat) (lv : List (Option PV)) (st : List PV) (S : Shp) (I : MI) (L : ML) (R : MR) : Prop :=
  ∀ (D : va_G) (cA : Nat → ClassId) (B : Nat) (ad0 : Tok → Nat) (S0 : Shp) (p : Program) (e : Env) (s : State) (m : MethodId) (args : Array Value) (below : List Frame) (meth : Method) (c : Code) (ad : Tok → Nat) (tk : List Tok) (H : Heap) (locs : List Loc) (ls : Array Slot),
    Cx mi p s m args meth c → (∀ t, (S0 t).1 ≠ 0 → S t = S0 t ∧ ad t = ad0 t) → REL D cA B ad tk S I L R s H → va_S (fun q => B ≤ q) s.heap H locs → B ≤ s.heap.size → lv_has ls mi.2.2.1 (lvl ad 0 lv) → wfl S lv → wfs S st →
    W p l e Rm s m args below meth c H locs k n (Qf s args below D cA B ad0 S0) (F0 m pc ls (st.map (cv ad)))
def QC (D : va_G) (cA : Nat → ClassId) (B : Nat) (ad0 : Tok → Nat) (S0 : Shp) (post : PO) : Array Value → State → Outcome → State → Prop := fun _ st oc t =>
  (∃ (r : Option PV) (S' : Shp) (I' : MI) (L' : ML) (R' : MR) (ad' : Tok → Nat) (tk' : List Tok), oc = .returned (r.map (cv ad')) ∧ post r S' I' L' R' ∧ REL D cA B ad' tk' S' I' L' R' t t.heap ∧ (∀ t, (S0 t).1 ≠ 0 → S' t = S0 t ∧ ad' t = ad0 t) ∧ ∀ v, r = some v → wfv S' v) ∧ va_F (fun q => B ≤ q) st t
def QM (post : PO) (mc ms : Nat) : QF := fun s args below D cA B ad0 S0 => MQ below (QC D cA B ad0 S0 post) args s mc ms (fun q => B ≤ q)
def rmd (d mc ms : Nat) : Room := { frames := d, cells := mc, slots := ms, locals := 64 * d + 40 }
def Ct (l : Launch) (mi : MInf) (d mc ms : Nat) (av : List PV) (S : Shp) (I : MI) (L : ML) (R : MR) (post : PO) : Prop :=
  ∀ (D : va_G) (cA : Nat → ClassId) (B : Nat) (ad : Tok → Nat) (tk : List Tok), Met l mi.1 (Cond.code mi.1 mi.2.1 mi.2.2.1 mi.2.2.2 :: GW) (rmd d mc ms) (va_Pc (av.map (cv ad)) (fun U => REL D cA B ad tk S I L R U U.heap ∧ wfs S av ∧ XW U)) (QC D cA B ad S post) mc ms (fun q => B ≤ q)
/-- the locals at the entry -/
def lvE : List PV → List (Option PV)
  | [] => []
  | .inr (.inl x) :: r => some (.inr (.inl x)) :: none :: lvE r
  | v :: r => some v :: lvE r
theorem lvE_mem {ad : Tok → Nat} : ∀ (av : List PV) (b j : Nat) (v : PV), (lvE av)[j]? = some (some v) → (b + j, cv ad v) ∈ lv_args b (av.map (cv ad))
  | [], b, j, v, h => by simp [lvE] at h
  | .inl x :: r, b, j, v, h => by
    cases j with
    | zero =>
      simp [lvE] at h
      subst h
      simp [lv_args]
    | succ j =>
      have ih := lvE_mem (ad := ad) r (b + 1) j v (by simpa [lvE] using h)
      rw [show b + (j + 1) = b + 1 + j by omega]
      refine List.mem_cons_of_mem _ ?_
      simpa [lv_args, cv, Value.category] using ih
  | .inr (.inl x) :: r, b, j, v, h => by
    match j with
    | 0 =>
      simp [lvE] at h
      subst h
      simp [lv_args]
    | 1 => simp [lvE] at h
    | j + 2 =>
      have ih := lvE_mem (ad := ad) r (b + 2) j v (by simpa [lvE] using h)
      rw [show b + (j + 2) = b + 2 + j by omega]
      refine List.mem_cons_of_mem _ ?_
      simpa [lv_args, cv, Value.category] using ih
  | .inr (.inr x) :: r, b, j, v, h => by
    cases j with
    | zero =>
      simp [lvE] at h
      subst h
      simp [lv_args]
    | succ j =>
      have ih := lvE_mem (ad := ad) r (b + 1) j v (by simpa [lvE] using h)
      rw [show b + (j + 1) = b + 1 + j by omega]
      refine List.mem_cons_of_mem _ ?_
      cases x <;> simpa [lv_args, cv, va_rf, Value.category] using ih
theorem lvE_len {ad : Tok → Nat} : ∀ (av : List PV), (lg_sl (av.map (cv ad))).length = (lvE av).length
  | [] => rfl
  | .inl x :: r => by
    have ih := lvE_len (ad := ad) r
    simpa [lg_sl, lvE, cv, Value.category] using ih
  | .inr (.inl x) :: r => by
    have ih := lvE_len (ad := ad) r
    simpa [lg_sl, lvE, cv, Value.category] using ih
  | .inr (.inr x) :: r => by
    have ih := lvE_len (ad := ad) r
    cases x <;> simpa [lg_sl, lvE, cv, va_rf, Value.category] using ih
theorem lvE_wf {S : Shp} : ∀ (av : List PV), wfs S av → wfl S (lvE av)
  | [], _ => fun v h => by cases h
  | x :: r, h => by
    have ih := lvE_wf (S := S) r (fun v hv => h v (List.mem_cons_of_mem _ hv))
    have hx := h x List.mem_cons_self
    intro v hv
    rcases x with x | x | x <;> simp [lvE] at hv
    · rcases hv with rfl | hv
      · exact hx
      · exact ih v hv
    · rcases hv with rfl | hv
      · exact hx
      · exact ih v hv
    · rcases hv with rfl | hv
      · exact hx
      · exact ih v hv
/-- a contract out of a walk of the body -/
theorem Ct.of {l : Launch} {y : MethodName} {cc : ByteArray} {nL : Nat} {ret : Option FieldType} {d mc ms : Nat} {av : List PV} {S : Shp} {I : MI} {L : ML} {R : MR} {post : PO} (lv : List (Option PV)) (hy : plainName y.cls = true) (hlv : lvE av ++ List.replicate (nL - (lvE av).length) none = lv) (hle : (lvE av).length ≤ nL)
    (body : G l (y, cc, nL, ret) (rmd d mc ms) (QM post mc ms) 0 0 0 lv [] S I L R) : Ct l (y, cc, nL, ret) d mc ms av S I L R post := by
  intro D cA B ad tk
  refine Met.ofW (cc := cc) (maxL := nL) (ret := ret) hy rfl ?_
  intro p e s m args below meth c s₁ Bd hml hv
  obtain ⟨rfl, hrel, hwf, hxw⟩ := hv
  have hts := atoms_spec (ws := Cond.code y cc nL ret :: GW) Bd.pre
  have hl := lv_entry (av.map (cv ad)) (n := nL) (by rw [lvE_len]; exact hle)
  rw [lg_entry_eq]
  refine body D cA B ad S p e s m _ below meth c ad tk s.heap [] _ ⟨Bd.exec, Bd.bytes, hml, Bd.returns, findClass_of_methodNamed Bd.named, fun w hw => hts w (List.mem_cons_of_mem _ hw), Bd.notSynchronized, (name_of_methodNamed Bd.named Bd.method).1, hxw⟩ (fun t _ => ⟨rfl, rfl⟩) hrel va_S.rf hrel.2.2.2.1 ?_ ?_ (fun v hv => by cases hv)
  · refine ⟨hl.1, hl.2.1, fun q hq => hl.2.2 q ?_⟩
    obtain ⟨i, x⟩ := q
    obtain ⟨j, v, h1, h2, h3⟩ := lvl_mem.mp hq
    rw [Nat.zero_add] at h1
    subst h1
    rw [h3]
    have h4 : (lvE av)[i]? = some (some v) := by
      rw [← hlv] at h2
      by_cases hi : i < (lvE av).length
      · rwa [List.getElem?_append_left hi] at h2
      · rw [List.getElem?_append_right (Nat.not_lt.mp hi)] at h2
        have := List.mem_of_getElem? h2
        simp at this
    have := lvE_mem (ad := ad) av 0 i v h4
    rwa [Nat.zero_add] at this
  · intro v hv
    rw [← hlv] at hv
    rcases List.mem_append.mp hv with hv | hv
    · exact lvE_wf av hwf v hv
    · simp at hv
