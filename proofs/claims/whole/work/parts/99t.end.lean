/-! the claim out of the walk -/
/-- from the entry, for every script of at most 3072 ints, the law comes to its end with true -/
theorem whole_start {p : Program} {e : Env} {s : State} {m : MethodId} {below : List Frame} {meth : Method} {c : Code} (l : Launch) {b L : Nat} {xs : Nat → Int32} (hL : L ≤ 3072) (C0 : lw_At p s m meth c b L xs) : W p l e room_1 s m #[Value.ref b] below meth c s.heap [] 0 0 (lw_Z below #[Value.ref b] s) (entryFrame m ([Value.ref b] : List Value).toArray 4) := by
  obtain ⟨hx, hb, hr, hml, hown, hts, hX, hbl, hlocks, hgv, hname⟩ := C0
  have hG : ∀ w ∈ GW, w.before #[Value.ref b] s = true := fun w hw => hts w (List.mem_filter.mp hw).1
  obtain ⟨dC, dI, hKc⟩ := e_cls hG
  obtain ⟨cA, hKa⟩ := e_arr (hG _ aw_int) (hG _ aw_byte) (hG _ aw_long) (hts (.arrayOver (.object "EightWorlds$Law")) (by decide +kernel)) (hts (.arrayOver (.object "EightWorlds$Shelf")) (by decide +kernel)) (hts (.arrayOver (.object "EightWorlds$World")) (by decide +kernel))
  obtain ⟨⟨t1, v1, x1, l1⟩, ⟨t2, v2, x2, l2⟩, ⟨t3, v3, x3, l3⟩⟩ := e_three (xs := xs) (flat_of_before _ hgv)
  have hA : ∀ a : Nat, a < s.heap.size → ¬ (fun q : Nat => s.heap.size ≤ q) a := fun a h => Nat.not_le.mpr h
  have hXW : XW s := ⟨⟨va_Nw.of rfl (hts (.methodLinkNest RX8 9 yX5_init RX8) (by decide +kernel)), va_Nw.of rfl (hts (.methodLinkNest RX8 18 yX6_init RX8) (by decide +kernel)), va_Nw.of rfl (hts (.methodLinkNest RX8 37 yX1_init RX8) (by decide +kernel)), va_Nw.of rfl (hts (.methodLinkNest RX8 44 yX0_init RX8) (by decide +kernel)), va_Nw.of rfl (hts (.methodLinkNest RX8 87 yX4_init RX8) (by decide +kernel))⟩, ⟨va_AO.of (hts (.arrayOver (.object "EightWorlds$Law")) (by decide +kernel)), va_AO.of (hts (.arrayOver (.object "EightWorlds$World")) (by decide +kernel)), va_AO.of (hts (.arrayOver (.object "EightWorlds$Shelf")) (by decide +kernel))⟩, va_Nw.of rfl (hts (.castable "[I" "java/lang/Cloneable") (by decide +kernel))⟩
  have hCx : Cx mL_law p s m #[Value.ref b] meth c := ⟨hx, hb, hml, hr, hown, hG, hlocks, hname, hXW⟩
  have hRO : RO s.heap.size (adS b t1 t2 t3) (zzS L) (zzI xs) s s.heap := by
    refine ⟨⟨va_Zof (hts (.laysStatic "EightWorlds$Odds" "STEPS" "[I") (by decide +kernel)) (hG _ jw3) v1 hA, va_Zof (hts (.laysStatic "EightWorlds$Acts" "ABOVE" "[I") (by decide +kernel)) (hG _ jw0) v2 hA, va_Zof (hts (.laysStatic "EightWorlds$Acts" "BODIES" "[I") (by decide +kernel)) (hG _ jw0) v3 hA⟩, ⟨rfl, rfl, rfl⟩, fun t ht => ?_⟩
    rcases zzS_or (Ls := L) t with z | rfl | rfl | rfl | rfl
    · rw [z] at ht; cases ht
    · exact ⟨hbl, hX⟩
    · exact ⟨l1, x1⟩
    · exact ⟨l2, x2⟩
    · exact ⟨l3, x3⟩
  have hREL : REL (dC, dI) cA s.heap.size (adS b t1 t2 t3) [] (zzS L) (zzI xs) zzL zzR s s.heap :=
    ⟨fun k q h => by simp [wsOf] at h, ⟨fun i j p q h => by simp [wsOf] at h, fun k q h => by simp [wsOf] at h⟩, ⟨hKc, hKa⟩, Nat.le_refl _, List.nodup_nil, fun t => ⟨fun h => absurd h List.not_mem_nil, fun h => absurd h (zzS_wr t)⟩, hRO, fun t k t' _ h => by cases h⟩
  have hl := lv_entry ([.ref b]) (n := 4) (Nat.le_of_ble_eq_true rfl)
  rw [lg_entry_eq]
  generalize (lg_sl ([.ref b]) ++ List.replicate (4 - (lg_sl ([.ref b])).length) Slot.unset).toArray = ls at hl ⊢
  have hl : lv_has ls 4 (lvl (adS b t1 t2 t3) 0 [some (.inr (.inr (some (99, 0)))), none, none, none]) := hl
  intro T hT X
  obtain ⟨t, a, h⟩ := law_start l (xs := xs) hL (dC, dI) cA s.heap.size (adS b t1 t2 t3) (zzS L) p e s m #[Value.ref b] below meth c (adS b t1 t2 t3) [] s.heap [] ls hCx (fun _ _ => ⟨rfl, rfl⟩) hREL va_S.rf (Nat.le_refl _) hl (fun v hv => by
    rcases List.mem_cons.mp hv with q | q
    · cases q
      show (zzS L (99, 0)).1 ≠ 0
      exact (by decide : (7 : Nat) ≠ 0)
    · simp at q) (fun v hv => absurd hv List.not_mem_nil) T hT X
  exact ⟨t, a, h (Nat.le_refl _)⟩
set_option maxHeartbeats 4000000 in
theorem lw_walk (l : Launch) (hflags : l.flags = flags0) (b : Addr) (xs : List Int32) : MetFree l x (headSpec (Jvm.Cond.code x code maxLocals ret :: tables_1) room_1) (lw_P b xs) (fun _ _ _ _ _ => True) lw_Q := by
  refine MetFree.of_bodyS (code := code) (maxLocals := maxLocals) (ret := ret) (by decide) ?_ ?_
  · intro args s m h hn
    obtain ⟨meth, c, h1, h2, h3, h4, h5, h6, -, -⟩ := Cond.code_spec hn (atoms_spec (ws := Jvm.Cond.code x code maxLocals ret :: tables_1) h _ List.mem_cons_self)
    exact ⟨meth, c, h1, h2, h3, h4, h5, h6⟩
  · intro p e s m args below meth c s₁ B hml0 hP _
    obtain ⟨rfl, hx, hbd, hgv⟩ := hP
    obtain ⟨scr, harrAt, hlist, hof, hsmall⟩ := hx
    obtain ⟨hcb, hkn, -, -⟩ := State.arrayAt?_spec harrAt
    have hown : s.vm.findClass R_law = some m.cls := findClass_of_methodNamed B.named
    have hts0 : ∀ c ∈ (Jvm.Cond.code x code maxLocals ret :: tables_1), c.before #[Value.ref b] s = true := atoms_spec (ws := Jvm.Cond.code x code maxLocals ret :: tables_1) B.pre
    have hts : ∀ w ∈ lw_tbl, w.before #[Value.ref b] s = true := k2_hts_sels lw_privs (fun w hw => hts0 w (List.mem_cons_of_mem _ hw)) lw_privs_ok
    have hml : c.maxLocals = 4 := B.maxLocals_eq (hts0 _ List.mem_cons_self)
    have X₀ : Stand p l e room_1 s m #[Value.ref b] below meth c s₁ [] 0 0 := Stand.of_body B
    have hh0 : s₁.heap = s.heap := by rw [B.state]; rfl
    have hsz : scr.slots.size = xs.length := by rw [← Array.length_toList, hlist, List.length_map]
    have hval : ∀ j : Nat, j < xs.length → scr.slots[j]? = some (.int (xs.getD j 0)) := fun j hj => by
      rw [← Array.getElem?_toList, hlist]
      simp [hj]
    have hbl : b < s.heap.size := (Array.getElem?_eq_some_iff.mp hcb).1
    have hX : va_X b xs.length (fun j => xs.getD j 0) s s.heap := ⟨scr, hcb, hof, hkn, hsz, hval⟩
    have K : W p l e room_1 s m #[Value.ref b] below meth c s₁.heap [] 0 0 (lw_Z below #[Value.ref b] s) (entryFrame m ([Value.ref b] : List Value).toArray 4) := by
      rw [hh0]
      exact whole_start l hbd ⟨B.exec, B.bytes, B.returns, hml, hown, hts, hX, hbl, B.notSynchronized, hgv, (name_of_methodNamed B.named B.method).1⟩
    obtain ⟨t, a1, o, b1, b2, b3⟩ := K s₁ rfl X₀
    exact ⟨t, o, a1, b1, b2, b3⟩
theorem lw_pre_spec {args : Array Value} {s : State} (h : (Jvm.Cond.and given_1 narrow_1).before args s = true) (hr : rest_1_c.before args s = true) : ∃ (b : Addr) (xs : List Int32), lw_P b xs args s := by
  have hs := flat_of_before _ h
  have hq := flat_of_before _ hr
  have hc : (Cond.count 1).before args s = true := hs _ (by decide +kernel)
  have harr : (Cond.arrayOf (.arg 0) .int).before args s = true := hs _ (by decide +kernel)
  have hle : (Cond.le (.length (.arg 0)) (.int 3072)).before args s = true := hs _ (by decide +kernel)
  have hlen : (Cond.isInt (.length (.arg 0))).before args s = true := hq _ (by decide +kernel)
  have hall : (Cond.all (.arg 0) (.isInt (.elem (.arg 0) (.index 0)))).before args s = true := hq _ (by decide +kernel)
  obtain ⟨b, xs, hb, hx⟩ := State.ints_of_pre rfl harr hlen hall
  have hsm : xs.length < 2 ^ 31 := hx.choose_spec.2.2.2
  have hev : (Term.length (.arg 0)).eval args s none [] s = some (.int xs.length.toInt32) := hx.length_eval hb
  have hv := Cond.le_ints hev (show (Term.int 3072).eval args s none [] s = some (.int 3072) from rfl)
  have hd : xs.length.toInt32 ≤ 3072 := by
    simpa [Cond.before, Cond.holds, hv] using hle
  have hN : xs.length ≤ 3072 := (Int32.ofNat_le_ofNat hsm (by decide)).mp (show Int32.ofNat xs.length ≤ Int32.ofNat 3072 from hd)
  exact ⟨b, xs, Cond.one_arg hc (show args[0]? = some (.ref b) from hb), hx, hN, h⟩
theorem lw_comes (l : Launch) (hflags : l.flags = flags0) : Comes l x (Jvm.Cond.code x code maxLocals ret :: tables_1) room_1 (fun tb e args s => Calls_1 tb e args s ∧ rest_1 tb e args s ∧ Pre_1 tb e args s)
    (fun _ _ args s o t => lw_Q args s o t) := by
  intro p e ha hc hk s m args below hf hfit hheap happ hpre
  obtain ⟨b, xs, hP⟩ := lw_pre_spec hpre.2.2 hpre.2.1
  obtain ⟨k, o, h1, h2, h3, hQ⟩ := lw_walk l hflags b xs p e ha hc hk s m args below hf ((Spec.applies_iff_loose hf).mp happ).1 hP trivial
  exact ⟨k, o, h1, h2, h3, hQ⟩
theorem lw_frame {s t : State} {o : Outcome} {args : Array Value} (h : Framed s o t [] 600000 7302250) :
    Framed s o t (fieldLocs frame_1_writes args s ++ arrayLocs frame_1_arrays args s ++ staticLocs frame_1_statics s) 600000 7302250 := h
theorem lw_limb (L : Cond) (hL : ∀ (args : Array Value) (s t : State), L.after args s (.returned (some (.int 1))) t = true) :
    ArmFor flags0 classFile x code maxLocals ret World_1 tables_1 room_1 Calls_1 rest_1 Pre_1
      (fun tb e a s o t => postC L tb e a s o t ∧ Framed s o t (fieldLocs frame_1_writes a s ++ arrayLocs frame_1_arrays a s ++ staticLocs frame_1_statics s) 600000 7302250) := by
  intro l hflags _ _ p e ha hc hk s m args below hf hfit hheap happ hpre
  obtain ⟨k, o, h1, h2, h3, rfl, hF⟩ := lw_comes l hflags p e ha hc hk s m args below hf hfit hheap happ hpre
  exact ⟨k, _, h1, h2, h3, hL args s _, lw_frame hF⟩
theorem i_vc : Claimed_1_1 ∧ Claimed_1_2 := ⟨lw_limb limb_1_1 (fun args s t => by simp [limb_1_1, Cond.after, Cond.holds, Cond.value]), lw_limb limb_1_2 (fun args s t => Cond.after_iff.mpr (by
  first | (rw [show limb_1_2 = Cond.eq .result (.int 1) from rfl, Cond.eq_ints (x := 1) (y := 1) rfl rfl]; simp; done) | (simp [limb_1_2, Cond.value, Term.eval]; done)))⟩
