theorem g_loop {l : Launch} {mi : MInf} {Rm : Room} {Qf : QF} {k n pc : Nat} {S : Shp} {L : ML} {R : MR} {st : List PV} {σ : Type} (P : Nat → σ → Prop) (lvf : Nat → σ → List (Option PV)) (If : Nat → σ → MI) (N i0 : Nat) (s0 : σ) (hle : i0 ≤ N) (h0 : P i0 s0)
    (step : ∀ i s, i < N → P i s → (∀ s', P (i + 1) s' → G l mi Rm Qf k n pc (lvf (i + 1) s') st S (If (i + 1) s') L R) → G l mi Rm Qf k n pc (lvf i s) st S (If i s) L R)
    (exit : ∀ s, P N s → G l mi Rm Qf k n pc (lvf N s) st S (If N s) L R) : G l mi Rm Qf k n pc (lvf i0 s0) st S (If i0 s0) L R := by
  have key : ∀ (j i : Nat) (s : σ), j + i = N → P i s → G l mi Rm Qf k n pc (lvf i s) st S (If i s) L R := by
    intro j
    induction j with
    | zero =>
      intro i s hi hP
      have e : i = N := by omega
      subst e
      exact exit s hP
    | succ j ih => exact fun i s hi hP => step i s (by omega) hP (fun s' h' => ih (i + 1) s' (by omega) h')
  exact key (N - i0) i0 s0 (by omega) h0
theorem Met.ofWF {l : Launch} {y : MethodName} {ws ws' : List Cond} {rm : Room} {Pc : Array Value → State → Prop} {Qc : Array Value → State → Outcome → State → Prop} {mc ms : Nat} {free : Addr → Prop} {cc : ByteArray} {maxL : Nat} {ret : Option FieldType}
    (hy : plainFor y = true) (hw : ws = Cond.code y cc maxL ret :: ws')
    (body : ∀ p e s m args below meth c s₁, BodyLoose p l y (headSpec ws rm) cc maxL ret e s m args below meth c s₁ → c.maxLocals = maxL → Pc args s →
      W p l e (headSpec ws rm).room s m args below meth c s.heap [] 0 0 (MQ below Qc args s mc ms free) (entryFrame m args maxL)) : Met l y ws rm Pc Qc mc ms free := by
  refine MetFree.of_bodyRF (code := cc) (maxLocals := maxL) (ret := ret) hy ?_ ?_
  · intro args s m h hn
    obtain ⟨meth, c, h1, h2, h3, h4, h5, h6, -, -⟩ := Cond.code_spec hn (atoms_spec (ws := ws) h _ (by rw [hw]; exact List.mem_cons_self))
    exact ⟨meth, c, h1, h2, h3, h4, h5, h6⟩
  · intro p e s m args below meth c s₁ B hml hP _ hst
    have hh0 : s₁.heap = s.heap := by rw [B.state]; rfl
    obtain ⟨t, a1, o, b1, b2, b3⟩ := body p e s m args below meth c s₁ B hml hP s₁ hh0 (Stand.of_body B)
    exact ⟨t, o, hst.trans a1, b1, b2, ⟨b3.1, b3.2⟩⟩
theorem Ct.ofF {l : Launch} {y : MethodName} {cc : ByteArray} {nL : Nat} {ret : Option FieldType} {d mc ms : Nat} {av : List PV} {S : Shp} {I : MI} {L : ML} {R : MR} {post : PO} (lv : List (Option PV)) (hy : plainFor y = true) (hlv : lvE av ++ List.replicate (nL - (lvE av).length) none = lv) (hle : (lvE av).length ≤ nL)
    (body : G l (y, cc, nL, ret) (rmd d mc ms) (QM post mc ms) 0 0 0 lv [] S I L R) : Ct l (y, cc, nL, ret) d mc ms av S I L R post := by
  intro D cA B ad tk
  refine Met.ofWF (cc := cc) (maxL := nL) (ret := ret) hy rfl ?_
  intro p e s m args below meth c s₁ Bd hml hv
  obtain ⟨rfl, hrel, hwf, hxw⟩ := hv
  have hts := atoms_spec (ws := Cond.code y cc nL ret :: GW) Bd.pre
  have hl := lv_entry (av.map (cv ad)) (n := nL) (by rw [lvE_len]; exact hle)
  rw [lg_entry_eq]
  refine body D cA B ad S p e s m _ below meth c ad tk s.heap [] _ ⟨Bd.exec, Bd.bytes, hml, Bd.returns, findClass_of_methodNamed Bd.named, fun w hw => hts w (List.mem_cons_of_mem _ hw), Bd.notSynchronized, (name_of_methodNamed Bd.named Bd.method).1, hxw⟩ (fun t _ => ⟨rfl, rfl⟩) hrel va_S.rf hrel.2.2.2.1 ?_ ?_ (fun v hv => by cases hv)
  · refine ⟨hl.1, hl.2.1, fun q hq => hl.2.2 q ?_⟩
    obtain ⟨i, x⟩ := q
    obtain ⟨j, v, h1, h2, h3⟩ := lvl_mem.mp hq
    rw [Nat.zero_add] at h1
    subst h1
    rw [h3]
    have h4 : (lvE av)[i]? = some (some v) := by
      rw [← hlv] at h2
      by_cases hi : i < (lvE av).length
      · rwa [List.getElem?_append_left hi] at h2
      · rw [List.getElem?_append_right (Nat.not_lt.mp hi)] at h2
        have := List.mem_of_getElem? h2
        simp at this
    have := lvE_mem (ad := ad) av 0 i v h4
    rwa [Nat.zero_add] at this
  · intro v hv
    rw [← hlv] at hv
    rcases List.mem_append.mp hv with hv | hv
    · exact lvE_wf av hwf v hv
    · simp at hv
def absI (x : Int32) : Int32 := if 0 ≤ x then x else -x
def maxI (a b : Int32) : Int32 := if a < b then b else a
def minI (a b : Int32) : Int32 := if b < a then b else a
def cmpI (a b : Int32) : Int32 := if b ≤ a then (if a = b then nI 0 else nI 1) else (-1)
def filN {α : Type} (len : Nat) (v : α) (f : Nat → α) : Nat → α := fun j => if j < len then v else f j
theorem c_J9_abs (l : Launch) (S : Shp) (I : MI) (L : ML) (R : MR) (x : Int32) : Ct l mJ9_abs_0f7a4 1 0 0 [.inl x] S I L R (PIp S I L R (absI x)) := by
  refine Ct.ofF [some (.inl x)] (by decide +kernel) rfl (Nat.le_of_ble_eq_true rfl) ?_
  refine g_ild0 (pc' := 1) dJ9_abs_0f7a4_0 rfl ?_
  refine g_ifge (pc' := 4) (tgt := 9) dJ9_abs_0f7a4_1 (by decide) rfl (fun h1 => ?_) (fun h1 => ?_)
  · refine g_ild0 (pc' := 10) dJ9_abs_0f7a4_9 rfl ?_
    refine g_iret rfl dJ9_abs_0f7a4_10 ?_
    exact eIp (by simp [absI, *])
  · refine g_ild0 (pc' := 5) dJ9_abs_0f7a4_4 rfl ?_
    refine g_ineg (pc' := 6) dJ9_abs_0f7a4_5 rfl ?_
    refine g_goto (tgt := 10) dJ9_abs_0f7a4_6 (by decide) ?_
    refine g_iret rfl dJ9_abs_0f7a4_10 ?_
    exact eIp (by simp [absI, *])

theorem c_J9_max (l : Launch) (S : Shp) (I : MI) (L : ML) (R : MR) (x y : Int32) : Ct l mJ9_max_7cf53 1 0 0 [.inl x, .inl y] S I L R (PIp S I L R (maxI x y)) := by
  refine Ct.ofF [some (.inl x), some (.inl y)] (by decide +kernel) rfl (Nat.le_of_ble_eq_true rfl) ?_
  refine g_ild0 (pc' := 1) dJ9_max_7cf53_0 rfl ?_
  refine g_ild1 (pc' := 2) dJ9_max_7cf53_1 rfl ?_
  refine g_icmplt (pc' := 5) (tgt := 9) dJ9_max_7cf53_2 (by decide) rfl (fun h2 => ?_) (fun h2 => ?_)
  · refine g_ild1 (pc' := 10) dJ9_max_7cf53_9 rfl ?_
    refine g_iret rfl dJ9_max_7cf53_10 ?_
    exact eIp (by simp [maxI, *])
  · refine g_ild0 (pc' := 6) dJ9_max_7cf53_5 rfl ?_
    refine g_goto (tgt := 10) dJ9_max_7cf53_6 (by decide) ?_
    refine g_iret rfl dJ9_max_7cf53_10 ?_
    exact eIp (by simp [maxI, *])

theorem c_J9_min (l : Launch) (S : Shp) (I : MI) (L : ML) (R : MR) (x y : Int32) : Ct l mJ9_min_7cf53 1 0 0 [.inl x, .inl y] S I L R (PIp S I L R (minI x y)) := by
  refine Ct.ofF [some (.inl x), some (.inl y)] (by decide +kernel) rfl (Nat.le_of_ble_eq_true rfl) ?_
  refine g_ild0 (pc' := 1) dJ9_min_7cf53_0 rfl ?_
  refine g_ild1 (pc' := 2) dJ9_min_7cf53_1 rfl ?_
  refine g_icmpgt (pc' := 5) (tgt := 9) dJ9_min_7cf53_2 (by decide) rfl (fun h2 => ?_) (fun h2 => ?_)
  · refine g_ild1 (pc' := 10) dJ9_min_7cf53_9 rfl ?_
    refine g_iret rfl dJ9_min_7cf53_10 ?_
    exact eIp (by simp [minI, *])
  · refine g_ild0 (pc' := 6) dJ9_min_7cf53_5 rfl ?_
    refine g_goto (tgt := 10) dJ9_min_7cf53_6 (by decide) ?_
    refine g_iret rfl dJ9_min_7cf53_10 ?_
    exact eIp (by simp [minI, *])

theorem c_J6_compare (l : Launch) (S : Shp) (I : MI) (L : ML) (R : MR) (x y : Int32) : Ct l mJ6_compare_7cf53 1 0 0 [.inl x, .inl y] S I L R (PIp S I L R (cmpI x y)) := by
  refine Ct.of [some (.inl x), some (.inl y)] (by decide) rfl (Nat.le_of_ble_eq_true rfl) ?_
  refine g_ild0 (pc' := 1) dJ6_compare_7cf53_0 rfl ?_
  refine g_ild1 (pc' := 2) dJ6_compare_7cf53_1 rfl ?_
  refine g_icmpge (pc' := 5) (tgt := 9) dJ6_compare_7cf53_2 (by decide) rfl (fun h2 => ?_) (fun h2 => ?_)
  · refine g_ild0 (pc' := 10) dJ6_compare_7cf53_9 rfl ?_
    refine g_ild1 (pc' := 11) dJ6_compare_7cf53_10 rfl ?_
    refine g_icmpne (pc' := 14) (tgt := 18) dJ6_compare_7cf53_11 (by decide) rfl (fun h11 => ?_) (fun h11 => ?_)
    · refine g_iconst (pc' := 19) (v := nI 1) dJ6_compare_7cf53_18 rfl (by decide) ?_
      refine g_iret rfl dJ6_compare_7cf53_19 ?_
      exact eIp (by simp [cmpI, *])
    · refine g_iconst (pc' := 15) (v := nI 0) dJ6_compare_7cf53_14 rfl (by decide) ?_
      refine g_goto (tgt := 19) dJ6_compare_7cf53_15 (by decide) ?_
      refine g_iret rfl dJ6_compare_7cf53_19 ?_
      exact eIp (by simp [cmpI, *])
  · refine g_iconst (pc' := 6) (v := (-1)) dJ6_compare_7cf53_5 rfl (by decide) ?_
    refine g_goto (tgt := 19) dJ6_compare_7cf53_6 (by decide) ?_
    refine g_iret rfl dJ6_compare_7cf53_19 ?_
    exact eIp (by simp [cmpI, *])

def ush (x : Int32) (n : Int32) : Int32 := (x.toUInt32 >>> (n.toUInt32 &&& Int32.toUInt32 31)).toInt32
def bcI (x : Int32) : Int32 :=
  let a := x - (ush x (nI 1) &&& 1431655765)
  let b := (a &&& 858993459) + (ush a (nI 2) &&& 858993459)
  let c := (b + ush b (nI 4)) &&& 252645135
  let d := c + ush c (nI 8)
  let e := d + ush d (nI 16)
  e &&& nI 63
theorem c_J6_bitCount (l : Launch) (S : Shp) (I : MI) (L : ML) (R : MR) (x : Int32) : Ct l mJ6_bitCount_0f7a4 1 0 0 [.inl x] S I L R (PIp S I L R (bcI x)) := by
  refine Ct.of [some (.inl x)] (by decide) rfl (Nat.le_of_ble_eq_true rfl) ?_
  refine g_ild0 (pc' := 1) dJ6_bitCount_0f7a4_0 rfl ?_
  refine g_ild0 (pc' := 2) dJ6_bitCount_0f7a4_1 rfl ?_
  refine g_iconst (pc' := 3) (v := nI 1) dJ6_bitCount_0f7a4_2 rfl (by decide) ?_
  refine g_iushr (pc' := 4) dJ6_bitCount_0f7a4_3 rfl ?_
  refine g_ldcw (pc' := 7) dJ6_bitCount_0f7a4_4 rfl kJ6_265 ?_
  refine g_iand (pc' := 8) dJ6_bitCount_0f7a4_7 rfl ?_
  refine g_isub (pc' := 9) dJ6_bitCount_0f7a4_8 rfl ?_
  refine g_ist0 (pc' := 10) (by decide) dJ6_bitCount_0f7a4_9 rfl ?_
  refine g_ild0 (pc' := 11) dJ6_bitCount_0f7a4_10 rfl ?_
  refine g_ldcw (pc' := 14) dJ6_bitCount_0f7a4_11 rfl kJ6_266 ?_
  refine g_iand (pc' := 15) dJ6_bitCount_0f7a4_14 rfl ?_
  refine g_ild0 (pc' := 16) dJ6_bitCount_0f7a4_15 rfl ?_
  refine g_iconst (pc' := 17) (v := nI 2) dJ6_bitCount_0f7a4_16 rfl (by decide) ?_
  refine g_iushr (pc' := 18) dJ6_bitCount_0f7a4_17 rfl ?_
  refine g_ldcw (pc' := 21) dJ6_bitCount_0f7a4_18 rfl kJ6_266 ?_
  refine g_iand (pc' := 22) dJ6_bitCount_0f7a4_21 rfl ?_
  refine g_iadd (pc' := 23) dJ6_bitCount_0f7a4_22 rfl ?_
  refine g_ist0 (pc' := 24) (by decide) dJ6_bitCount_0f7a4_23 rfl ?_
  refine g_ild0 (pc' := 25) dJ6_bitCount_0f7a4_24 rfl ?_
  refine g_ild0 (pc' := 26) dJ6_bitCount_0f7a4_25 rfl ?_
  refine g_iconst (pc' := 27) (v := nI 4) dJ6_bitCount_0f7a4_26 rfl (by decide) ?_
  refine g_iushr (pc' := 28) dJ6_bitCount_0f7a4_27 rfl ?_
  refine g_iadd (pc' := 29) dJ6_bitCount_0f7a4_28 rfl ?_
  refine g_ldcw (pc' := 32) dJ6_bitCount_0f7a4_29 rfl kJ6_267 ?_
  refine g_iand (pc' := 33) dJ6_bitCount_0f7a4_32 rfl ?_
  refine g_ist0 (pc' := 34) (by decide) dJ6_bitCount_0f7a4_33 rfl ?_
  refine g_ild0 (pc' := 35) dJ6_bitCount_0f7a4_34 rfl ?_
  refine g_ild0 (pc' := 36) dJ6_bitCount_0f7a4_35 rfl ?_
  refine g_bipush (pc' := 38) (v := nI 8) dJ6_bitCount_0f7a4_36 rfl (by decide) ?_
  refine g_iushr (pc' := 39) dJ6_bitCount_0f7a4_38 rfl ?_
  refine g_iadd (pc' := 40) dJ6_bitCount_0f7a4_39 rfl ?_
  refine g_ist0 (pc' := 41) (by decide) dJ6_bitCount_0f7a4_40 rfl ?_
  refine g_ild0 (pc' := 42) dJ6_bitCount_0f7a4_41 rfl ?_
  refine g_ild0 (pc' := 43) dJ6_bitCount_0f7a4_42 rfl ?_
  refine g_bipush (pc' := 45) (v := nI 16) dJ6_bitCount_0f7a4_43 rfl (by decide) ?_
  refine g_iushr (pc' := 46) dJ6_bitCount_0f7a4_45 rfl ?_
  refine g_iadd (pc' := 47) dJ6_bitCount_0f7a4_46 rfl ?_
  refine g_ist0 (pc' := 48) (by decide) dJ6_bitCount_0f7a4_47 rfl ?_
  refine g_ild0 (pc' := 49) dJ6_bitCount_0f7a4_48 rfl ?_
  refine g_bipush (pc' := 51) (v := nI 63) dJ6_bitCount_0f7a4_49 rfl (by decide) ?_
  refine g_iand (pc' := 52) dJ6_bitCount_0f7a4_51 rfl ?_
  refine g_iret rfl dJ6_bitCount_0f7a4_52 ?_
  exact eIp rfl

theorem filN_0 {α : Type} (v : α) (f : Nat → α) : filN 0 v f = f := funext fun j => if_neg (Nat.not_lt_zero j)
theorem upT_up {α : Type} {I : Tok → Nat → α} {t : Tok} {i : Nat} {v : α} (h : True) : upM (upT I t (filN i v (I t))) t i v = upT I t (filN (i + 1) v (I t)) := by
  funext t' j
  by_cases e : t' = t
  · subst e
    rw [upT_s, upM_r, upT_s]
    show (if j = i then v else if j < i then v else _) = if j < i + 1 then v else _
    by_cases h1 : j = i
    · subst h1; simp
    · rw [if_neg h1]
      by_cases h2 : j < i
      · rw [if_pos h2, if_pos (by omega)]
      · rw [if_neg h2, if_neg (by omega)]
  · rw [upT_n _ e, upM_n _ e, upT_n _ e]
theorem upT_self {α : Type} {I : Tok → α} {t : Tok} : upT I t (I t) = I := by
  funext t'
  by_cases e : t' = t
  · subst e; rw [upT_s]
  · rw [upT_n _ e]
theorem c_fillI (l : Launch) (S : Shp) (I : MI) (L : ML) (R : MR) {ta tb len : Nat} {v : Int32} (hS : S (ta, tb) = (1, len)) (hl : len < 2 ^ 31) : Ct l mJ7_fill_53178 1 0 0 [.inr (.inr (some (ta, tb))), .inl v] S I L R (PVm S L R (fun I' => I' = upT I (ta, tb) (filN len v (I (ta, tb))))) := by
  refine Ct.of [some (.inr (.inr (some (ta, tb)))), some (.inl v), none, none] (by decide) rfl (Nat.le_of_ble_eq_true rfl) ?_
  refine g_iconst (pc' := 1) (v := nI 0) dJ7_fill_53178_0 rfl (by decide) ?_
  refine g_ist2 (pc' := 2) rfl (by decide) dJ7_fill_53178_1 rfl ?_
  refine g_ald0 (pc' := 3) dJ7_fill_53178_2 rfl ?_
  refine g_alen (pc' := 4) (by decide) hS dJ7_fill_53178_3 rfl ?_
  refine g_ist3 (pc' := 5) rfl (by decide) dJ7_fill_53178_4 rfl ?_
  have e0 : I = upT I (ta, tb) (filN 0 v (I (ta, tb))) := by rw [filN_0, upT_self]
  refine g_mem e0 ?_
  refine g_loop (σ := Unit) (fun _ _ => True) (fun i s => [some (.inr (.inr (some (ta, tb)))), some (.inl v), some (.inl (nI i)), some (.inl (nI len))]) (fun i s => upT I (ta, tb) (filN i v (I (ta, tb)))) (len) (0) () (by omega) (trivial) ?_ ?_
  · intro i s hi hP ih
    refine g_ild2 (pc' := 6) dJ7_fill_53178_5 rfl ?_
    refine g_ild3 (pc' := 7) dJ7_fill_53178_6 rfl ?_
    refine g_icmpgeN (pc' := 10) (by omega) (by omega) (tgt := 20) dJ7_fill_53178_7 (by decide) rfl (fun h7 => ?_) (fun h7 => ?_)
    · exact absurd h7 (by omega)
    · refine g_ald0 (pc' := 11) dJ7_fill_53178_10 rfl ?_
      refine g_ild2 (pc' := 12) dJ7_fill_53178_11 rfl ?_
      refine g_ild1 (pc' := 13) dJ7_fill_53178_12 rfl ?_
      refine g_iast (pc' := 14) (j := i) hS rfl (by omega) (by omega) dJ7_fill_53178_13 rfl ?_
      refine g_inc2 (pc' := 17) rfl (by decide) (v := nI (i + 1)) (nI_1 _) dJ7_fill_53178_14 rfl ?_
      refine g_goto (tgt := 5) dJ7_fill_53178_17 (by decide) ?_
      rw [upT_up trivial]
      exact ih () trivial
  · intro s hP
    refine g_ild2 (pc' := 6) dJ7_fill_53178_5 rfl ?_
    refine g_ild3 (pc' := 7) dJ7_fill_53178_6 rfl ?_
    refine g_icmpgeN (pc' := 10) (by omega) (by omega) (tgt := 20) dJ7_fill_53178_7 (by decide) rfl (fun h7 => ?_) (fun h7 => ?_)
    · refine g_vret rfl dJ7_fill_53178_20 ?_
      exact eV rfl
    · exact absurd h7 (by omega)
