/-! the law's body: its end, a number of the script, the calls one by one -/
abbrev mL_law : MInf := (yL_law, cL_law, 4, ret)
def R_law : String := "EightWorldsLaw"
def lw_P (b : Addr) (xs : List Int32) (args : Array Value) (s : State) : Prop := args = #[.ref b] ∧ s.IntsAt b xs ∧ xs.length ≤ 3072 ∧ (Jvm.Cond.and given_1 narrow_1).before args s = true
def lw_Q (_ : Array Value) (s : State) (o : Outcome) (t : State) : Prop := o = .returned (some (.int 1)) ∧ Framed s o t [] 600000 7302250
def lw_Z (below : List Frame) (a : Array Value) (s : State) : State → Prop := fun t => ∃ o, t.status = .running ∧ Ended t below o ∧ lw_Q a s o t
/-- the law's own end, with 1 on the stack, nothing written that was there before, its room as the claim has it -/
theorem lw_retA {p : Program} {l : Launch} {e : Env} {s : State} {m : MethodId} {args : Array Value} {below : List Frame} {meth : Method} {c : Code} (hx : p.tables.exec = Jvm.exec) (hb : c.code = code) (hr : meth.sig.returnType = ret) (hlocks : meth.locks = false) {pc : Nat} {H : Heap} {ls : Array Slot} (hdg : decode code pc = .ok (.ireturn, 1)) : W p l e room_1 s m args below meth c H [] 600000 7302250 (lw_Z below args s) (F0 m pc ls [.int 1]) := by
  intro T hT X
  obtain ⟨fs, hret, hrun, hended, hW, hframe⟩ := X.leave (v := some (.int 1)) (hlocks := hlocks) (fun h => by rw [hr] at h; cases h)
  have hmeth' : T.vm.method? m = some meth := X.method'
  refine ⟨T.setFrames fs, ?_, .returned (some (.int 1)), hrun, hended, rfl, ⟨_, rfl⟩, hW, hframe⟩
  jvm_step X.here [X.here.top, hx, hb, hdg, hmeth', hr, ret, narrow_b1]
  (try refine ⟨rfl, ?_⟩); (try refine ⟨rfl, ?_⟩)
  first | (intro acts; rw [hret _ acts rfl rfl rfl]) | rw [hret _ _ rfl rfl rfl]
  exact Steps.refl _
def QL : QF := fun s args below _ _ B _ _ t => s.heap.size ≤ B → lw_Z below args s t
theorem l_end (l : Launch) {S : Shp} {I : MI} {L : ML} {R : MR} {k n pc : Nat} {lv : List (Option PV)} (hk : k ≤ 600000) (hn : n ≤ 7302250) (hd : decode cL_law pc = .ok (.ireturn, 1)) : G l mL_law room_1 QL k n pc lv [.inl (nI 1)] S I L R := by
  intro D cA B ad0 S0 p e s m args below meth c ad tk H locs ls C hm hr hS hB hl wl ws T hT X
  by_cases h : s.heap.size ≤ B
  · have K : W p l e room_1 s m args below meth c H locs k n (lw_Z below args s) (F0 m pc ls [.int 1]) := va_forget (fun q hq => Nat.le_trans h (hS.2.2 q hq)) (W.widen hk hn (lw_retA C.1 C.2.1 C.2.2.2.1 C.2.2.2.2.2.2.1 hd))
    obtain ⟨t, a, b⟩ := K T hT X
    exact ⟨t, a, fun _ => b⟩
  · exact ⟨_, Steps.refl _, fun z => absurd z h⟩
/-- script[i + j] on top of the stack -/
theorem l_arg {l : Launch} {S : Shp} {I : MI} {L : ML} {R : MR} {k n pc pc' q j Ls : Nat} {v : Int32} {r1 r2 : Option PV} {st : List PV} {ji : Int} (hS : S (99, 0) = (7, Ls)) (hj : 6 * q + j < Ls) (hLs : Ls ≤ 3072) (hji : ji = (j : Int)) (hv : I (99, 0) (6 * q + j) = v) (d0 : decode cL_law pc = .ok (.aload_n 0, 1)) (d1 : decode cL_law (pc + 1) = .ok (.iload_n 3, 1)) (d2 : decode cL_law (pc + 2) = .ok (.iconst ji, 1)) (d3 : decode cL_law (pc + 3) = .ok (.iadd, 1)) (d4 : decode cL_law (pc + 4) = .ok (.iaload, 1)) (hp : pc + 5 = pc') (kk : G l mL_law room_1 QL k n pc' [some (.inr (.inr (some (99, 0)))), r1, r2, some (.inl (nI (6 * q)))] (.inl v :: st) S I L R) : G l mL_law room_1 QL k n pc [some (.inr (.inr (some (99, 0)))), r1, r2, some (.inl (nI (6 * q)))] st S I L R := by
  subst hp hji
  refine g_ald0 (pc' := pc + 1) d0 rfl ?_
  refine g_ild3 (pc' := pc + 2) d1 rfl ?_
  refine g_iconst (pc' := pc + 3) (v := nI j) d2 rfl rfl ?_
  refine g_iaddN (pc' := pc + 4) d3 rfl ?_
  exact g_xald (j := 6 * q + j) hS rfl hj (by omega) hv d4 rfl kk
def LNext (l : Launch) (Ls : Nat) (xs : Nat → Int32) (q : Nat) : Prop := ∀ (S : Shp) (I : MI) (L : ML) (R : MR) (k n : Nat), Inv Ls xs (q + 1) S I L R → k ≤ 80 + 7 * (q + 1) → n ≤ 8100 + 308 * (q + 1) → G l mL_law room_1 QL k n 1532 [some (.inr (.inr (some (99, 0)))), some (.inr (.inr (some (0, 0)))), some (.inr (.inr (some (40, 0)))), some (.inl (nI (6 * q)))] [] S I L R
theorem lg_cmp_rf (x : Int64) : lg_cmp x x = 0 := by simp [lg_cmp]
theorem lc_song (l : Launch) {Ls : Nat} {xs : Nat → Int32} {q : Nat} {S : Shp} {I : MI} {L : ML} {R : MR} {k n : Nat} (hLs : Ls ≤ 3072) (h6 : 6 * q + 6 ≤ Ls) (iv : Inv Ls xs q S I L R) (hk : k ≤ 80 + 7 * q) (hn : n ≤ 8100 + 308 * q) (ih : LNext l Ls xs q) : G l mL_law room_1 QL k n 204 [some (.inr (.inr (some (99, 0)))), some (.inr (.inr (some (0, 0)))), some (.inr (.inr (some (40, 0)))), some (.inl (nI (6 * q)))] [] S I L R := by
  obtain ⟨n', m', c', b', g, kk⟩ := iv
  have hq : q < 600 := by omega
  obtain ⟨d, mc, ms, post, hc, hd, hmc, hms, hall⟩ := s_song l g kk hq (xs (6 * q + 1))
  have s99 := g.s99
  have e99 : ∀ j, I (99, 0) j = xs j := kk.sc
  refine g_ald1 (pc' := 205) dL_law_204 rfl ?_
  refine l_arg (pc' := 210) (j := 1) s99 (by omega) hLs rfl (e99 _) dL_law_205 dL_law_206 dL_law_207 dL_law_208 dL_law_209 rfl ?_
  refine g_callVX hc g.xg.s0 (by decide) wX8_song lL_13 rfl rfl (Nat.le_of_ble_eq_true rfl) ⟨by show d + 1 ≤ 2048; omega, by show 8 + (2 + 11) + (64 * d + 40) ≤ 84000; omega⟩ ⟨by show k + mc ≤ 600000; omega, by show n + ms ≤ 7302250; omega⟩ dL_law_210 rfl ?_
  rintro r S1 I1 L1 R1 hpost hext hro
  obtain ⟨w, d2, post2, rfl, hd2, hc2, hfin⟩ := hall _ _ _ _ _ hpost
  show G l mL_law room_1 QL (k + mc) (n + ms) 213 [some (.inr (.inr (some (99, 0)))), some (.inr (.inr (some (0, 0)))), some (.inr (.inr (some (40, 0)))), some (.inl (nI (6 * q)))] [.inl w] S1 I1 L1 R1
  have s991 : S1 (99, 0) = (7, Ls) := (hext _ (by rw [s99]; simp)).trans s99
  have e991 : ∀ j, j < Ls → I1 (99, 0) j = xs j := fun j hj => (hro (99, 0) j (by rw [s99]) (by rw [s99]; exact hj)).trans (e99 j)
  have s401 : S1 (40, 0) = (19, 0) := (hext _ (by rw [g.mg.s40]; simp)).trans g.mg.s40
  refine g_ald2 (pc' := 214) dL_law_213 rfl ?_
  refine l_arg (pc' := 219) (j := 1) s991 (by omega) hLs rfl (e991 _ (by omega)) dL_law_214 dL_law_215 dL_law_216 dL_law_217 dL_law_218 rfl ?_
  refine g_callVX hc2 s401 (by decide) wX9_song lL_17 rfl rfl (Nat.le_of_ble_eq_true rfl) ⟨by show d2 + 1 ≤ 2048; omega, by show 8 + (2 + 11) + (64 * d2 + 40) ≤ 84000; omega⟩ ⟨by show k + mc + 0 ≤ 600000; omega, by show n + ms + 0 ≤ 7302250; omega⟩ dL_law_219 rfl ?_
  rintro r2 S2 I2 L2 R2 hpost2 - -
  obtain ⟨rfl, hInv⟩ := hfin _ _ _ _ _ hpost2
  show G l mL_law room_1 QL (k + mc + 0) (n + ms + 0) 222 [some (.inr (.inr (some (99, 0)))), some (.inr (.inr (some (0, 0)))), some (.inr (.inr (some (40, 0)))), some (.inl (nI (6 * q)))] [.inl w, .inl w] S2 I2 L2 R2
  refine g_icmpeq (pc' := 225) (tgt := 1532) dL_law_222 (by decide) rfl (fun _ => ?_) (fun z => absurd rfl z)
  exact ih _ _ _ _ _ _ hInv (by omega) (by omega)

theorem lc_worth (l : Launch) {Ls : Nat} {xs : Nat → Int32} {q : Nat} {S : Shp} {I : MI} {L : ML} {R : MR} {k n : Nat} (hLs : Ls ≤ 3072) (h6 : 6 * q + 6 ≤ Ls) (iv : Inv Ls xs q S I L R) (hk : k ≤ 80 + 7 * q) (hn : n ≤ 8100 + 308 * q) (ih : LNext l Ls xs q) : G l mL_law room_1 QL k n 227 [some (.inr (.inr (some (99, 0)))), some (.inr (.inr (some (0, 0)))), some (.inr (.inr (some (40, 0)))), some (.inl (nI (6 * q)))] [] S I L R := by
  obtain ⟨n', m', c', b', g, kk⟩ := iv
  have hq : q < 600 := by omega
  obtain ⟨d, mc, ms, post, hc, hd, hmc, hms, hall⟩ := s_worth l g kk hq (xs (6 * q + 1)) (xs (6 * q + 2))
  have s99 := g.s99
  have e99 : ∀ j, I (99, 0) j = xs j := kk.sc
  refine g_ald1 (pc' := 228) dL_law_227 rfl ?_
  refine l_arg (pc' := 233) (j := 1) s99 (by omega) hLs rfl (e99 _) dL_law_228 dL_law_229 dL_law_230 dL_law_231 dL_law_232 rfl ?_
  refine l_arg (pc' := 238) (j := 2) s99 (by omega) hLs rfl (e99 _) dL_law_233 dL_law_234 dL_law_235 dL_law_236 dL_law_237 rfl ?_
  refine g_callVX hc g.xg.s0 (by decide) wX8_worth lL_18 rfl rfl (Nat.le_of_ble_eq_true rfl) ⟨by show d + 1 ≤ 2048; omega, by show 8 + (4 + 11) + (64 * d + 40) ≤ 84000; omega⟩ ⟨by show k + mc ≤ 600000; omega, by show n + ms ≤ 7302250; omega⟩ dL_law_238 rfl ?_
  rintro r S1 I1 L1 R1 hpost hext hro
  obtain ⟨w, d2, post2, rfl, hd2, hc2, hfin⟩ := hall _ _ _ _ _ hpost
  show G l mL_law room_1 QL (k + mc) (n + ms) 241 [some (.inr (.inr (some (99, 0)))), some (.inr (.inr (some (0, 0)))), some (.inr (.inr (some (40, 0)))), some (.inl (nI (6 * q)))] [.inl w] S1 I1 L1 R1
  have s991 : S1 (99, 0) = (7, Ls) := (hext _ (by rw [s99]; simp)).trans s99
  have e991 : ∀ j, j < Ls → I1 (99, 0) j = xs j := fun j hj => (hro (99, 0) j (by rw [s99]) (by rw [s99]; exact hj)).trans (e99 j)
  have s401 : S1 (40, 0) = (19, 0) := (hext _ (by rw [g.mg.s40]; simp)).trans g.mg.s40
  refine g_ald2 (pc' := 242) dL_law_241 rfl ?_
  refine l_arg (pc' := 247) (j := 1) s991 (by omega) hLs rfl (e991 _ (by omega)) dL_law_242 dL_law_243 dL_law_244 dL_law_245 dL_law_246 rfl ?_
  refine l_arg (pc' := 252) (j := 2) s991 (by omega) hLs rfl (e991 _ (by omega)) dL_law_247 dL_law_248 dL_law_249 dL_law_250 dL_law_251 rfl ?_
  refine g_callVX hc2 s401 (by decide) wX9_worth lL_22 rfl rfl (Nat.le_of_ble_eq_true rfl) ⟨by show d2 + 1 ≤ 2048; omega, by show 8 + (3 + 11) + (64 * d2 + 40) ≤ 84000; omega⟩ ⟨by show k + mc + 0 ≤ 600000; omega, by show n + ms + 0 ≤ 7302250; omega⟩ dL_law_252 rfl ?_
  rintro r2 S2 I2 L2 R2 hpost2 - -
  obtain ⟨rfl, hInv⟩ := hfin _ _ _ _ _ hpost2
  show G l mL_law room_1 QL (k + mc + 0) (n + ms + 0) 255 [some (.inr (.inr (some (99, 0)))), some (.inr (.inr (some (0, 0)))), some (.inr (.inr (some (40, 0)))), some (.inl (nI (6 * q)))] [.inl w, .inl w] S2 I2 L2 R2
  refine g_icmpeq (pc' := 258) (tgt := 1532) dL_law_255 (by decide) rfl (fun _ => ?_) (fun z => absurd rfl z)
  exact ih _ _ _ _ _ _ hInv (by omega) (by omega)

theorem lc_feed (l : Launch) {Ls : Nat} {xs : Nat → Int32} {q : Nat} {S : Shp} {I : MI} {L : ML} {R : MR} {k n : Nat} (hLs : Ls ≤ 3072) (h6 : 6 * q + 6 ≤ Ls) (iv : Inv Ls xs q S I L R) (hk : k ≤ 80 + 7 * q) (hn : n ≤ 8100 + 308 * q) (ih : LNext l Ls xs q) : G l mL_law room_1 QL k n 260 [some (.inr (.inr (some (99, 0)))), some (.inr (.inr (some (0, 0)))), some (.inr (.inr (some (40, 0)))), some (.inl (nI (6 * q)))] [] S I L R := by
  obtain ⟨n', m', c', b', g, kk⟩ := iv
  have hq : q < 600 := by omega
  obtain ⟨d, mc, ms, post, hc, hd, hmc, hms, hall⟩ := s_feed l g kk hq (xs (6 * q + 1)) (xs (6 * q + 2))
  have s99 := g.s99
  have e99 : ∀ j, I (99, 0) j = xs j := kk.sc
  refine g_ald1 (pc' := 261) dL_law_260 rfl ?_
  refine l_arg (pc' := 266) (j := 1) s99 (by omega) hLs rfl (e99 _) dL_law_261 dL_law_262 dL_law_263 dL_law_264 dL_law_265 rfl ?_
  refine l_arg (pc' := 271) (j := 2) s99 (by omega) hLs rfl (e99 _) dL_law_266 dL_law_267 dL_law_268 dL_law_269 dL_law_270 rfl ?_
  refine g_callVX hc g.xg.s0 (by decide) wX8_feed lL_23 rfl rfl (Nat.le_of_ble_eq_true rfl) ⟨by show d + 1 ≤ 2048; omega, by show 8 + (4 + 11) + (64 * d + 40) ≤ 84000; omega⟩ ⟨by show k + mc ≤ 600000; omega, by show n + ms ≤ 7302250; omega⟩ dL_law_271 rfl ?_
  rintro r S1 I1 L1 R1 hpost hext hro
  obtain ⟨w, d2, post2, rfl, hd2, hc2, hfin⟩ := hall _ _ _ _ _ hpost
  show G l mL_law room_1 QL (k + mc) (n + ms) 274 [some (.inr (.inr (some (99, 0)))), some (.inr (.inr (some (0, 0)))), some (.inr (.inr (some (40, 0)))), some (.inl (nI (6 * q)))] [.inl w] S1 I1 L1 R1
  have s991 : S1 (99, 0) = (7, Ls) := (hext _ (by rw [s99]; simp)).trans s99
  have e991 : ∀ j, j < Ls → I1 (99, 0) j = xs j := fun j hj => (hro (99, 0) j (by rw [s99]) (by rw [s99]; exact hj)).trans (e99 j)
  have s401 : S1 (40, 0) = (19, 0) := (hext _ (by rw [g.mg.s40]; simp)).trans g.mg.s40
  refine g_ald2 (pc' := 275) dL_law_274 rfl ?_
  refine l_arg (pc' := 280) (j := 1) s991 (by omega) hLs rfl (e991 _ (by omega)) dL_law_275 dL_law_276 dL_law_277 dL_law_278 dL_law_279 rfl ?_
  refine l_arg (pc' := 285) (j := 2) s991 (by omega) hLs rfl (e991 _ (by omega)) dL_law_280 dL_law_281 dL_law_282 dL_law_283 dL_law_284 rfl ?_
  refine g_callVX hc2 s401 (by decide) wX9_feed lL_26 rfl rfl (Nat.le_of_ble_eq_true rfl) ⟨by show d2 + 1 ≤ 2048; omega, by show 8 + (4 + 11) + (64 * d2 + 40) ≤ 84000; omega⟩ ⟨by show k + mc + 0 ≤ 600000; omega, by show n + ms + 0 ≤ 7302250; omega⟩ dL_law_285 rfl ?_
  rintro r2 S2 I2 L2 R2 hpost2 - -
  obtain ⟨rfl, hInv⟩ := hfin _ _ _ _ _ hpost2
  show G l mL_law room_1 QL (k + mc + 0) (n + ms + 0) 288 [some (.inr (.inr (some (99, 0)))), some (.inr (.inr (some (0, 0)))), some (.inr (.inr (some (40, 0)))), some (.inl (nI (6 * q)))] [.inl w, .inl w] S2 I2 L2 R2
  refine g_icmpeq (pc' := 291) (tgt := 1532) dL_law_288 (by decide) rfl (fun _ => ?_) (fun z => absurd rfl z)
  exact ih _ _ _ _ _ _ hInv (by omega) (by omega)

theorem lc_law (l : Launch) {Ls : Nat} {xs : Nat → Int32} {q : Nat} {S : Shp} {I : MI} {L : ML} {R : MR} {k n : Nat} (hLs : Ls ≤ 3072) (h6 : 6 * q + 6 ≤ Ls) (iv : Inv Ls xs q S I L R) (hk : k ≤ 80 + 7 * q) (hn : n ≤ 8100 + 308 * q) (ih : LNext l Ls xs q) : G l mL_law room_1 QL k n 293 [some (.inr (.inr (some (99, 0)))), some (.inr (.inr (some (0, 0)))), some (.inr (.inr (some (40, 0)))), some (.inl (nI (6 * q)))] [] S I L R := by
  obtain ⟨n', m', c', b', g, kk⟩ := iv
  have hq : q < 600 := by omega
  obtain ⟨d, mc, ms, post, hc, hd, hmc, hms, hall⟩ := s_law l g kk hq 
  have s99 := g.s99
  have e99 : ∀ j, I (99, 0) j = xs j := kk.sc
  refine g_ald1 (pc' := 294) dL_law_293 rfl ?_
  refine g_callVX hc g.xg.s0 (by decide) wX8_law lL_27 rfl rfl (Nat.le_of_ble_eq_true rfl) ⟨by show d + 1 ≤ 2048; omega, by show 8 + (2 + 11) + (64 * d + 40) ≤ 84000; omega⟩ ⟨by show k + mc ≤ 600000; omega, by show n + ms ≤ 7302250; omega⟩ dL_law_294 rfl ?_
  rintro r S1 I1 L1 R1 hpost hext hro
  obtain ⟨w, d2, post2, rfl, hd2, hc2, hfin⟩ := hall _ _ _ _ _ hpost
  show G l mL_law room_1 QL (k + mc) (n + ms) 297 [some (.inr (.inr (some (99, 0)))), some (.inr (.inr (some (0, 0)))), some (.inr (.inr (some (40, 0)))), some (.inl (nI (6 * q)))] [.inl w] S1 I1 L1 R1
  have s991 : S1 (99, 0) = (7, Ls) := (hext _ (by rw [s99]; simp)).trans s99
  have e991 : ∀ j, j < Ls → I1 (99, 0) j = xs j := fun j hj => (hro (99, 0) j (by rw [s99]) (by rw [s99]; exact hj)).trans (e99 j)
  have s401 : S1 (40, 0) = (19, 0) := (hext _ (by rw [g.mg.s40]; simp)).trans g.mg.s40
  refine g_ald2 (pc' := 298) dL_law_297 rfl ?_
  refine g_callVX hc2 s401 (by decide) wX9_law lL_31 rfl rfl (Nat.le_of_ble_eq_true rfl) ⟨by show d2 + 1 ≤ 2048; omega, by show 8 + (4 + 11) + (64 * d2 + 40) ≤ 84000; omega⟩ ⟨by show k + mc + 0 ≤ 600000; omega, by show n + ms + 0 ≤ 7302250; omega⟩ dL_law_298 rfl ?_
  rintro r2 S2 I2 L2 R2 hpost2 - -
  obtain ⟨rfl, hInv⟩ := hfin _ _ _ _ _ hpost2
  show G l mL_law room_1 QL (k + mc + 0) (n + ms + 0) 301 [some (.inr (.inr (some (99, 0)))), some (.inr (.inr (some (0, 0)))), some (.inr (.inr (some (40, 0)))), some (.inl (nI (6 * q)))] [.inl w, .inl w] S2 I2 L2 R2
  refine g_icmpeq (pc' := 304) (tgt := 1532) dL_law_301 (by decide) rfl (fun _ => ?_) (fun z => absurd rfl z)
  exact ih _ _ _ _ _ _ hInv (by omega) (by omega)

theorem lc_world (l : Launch) {Ls : Nat} {xs : Nat → Int32} {q : Nat} {S : Shp} {I : MI} {L : ML} {R : MR} {k n : Nat} (hLs : Ls ≤ 3072) (h6 : 6 * q + 6 ≤ Ls) (iv : Inv Ls xs q S I L R) (hk : k ≤ 80 + 7 * q) (hn : n ≤ 8100 + 308 * q) (ih : LNext l Ls xs q) : G l mL_law room_1 QL k n 306 [some (.inr (.inr (some (99, 0)))), some (.inr (.inr (some (0, 0)))), some (.inr (.inr (some (40, 0)))), some (.inl (nI (6 * q)))] [] S I L R := by
  obtain ⟨n', m', c', b', g, kk⟩ := iv
  have hq : q < 600 := by omega
  obtain ⟨d, mc, ms, post, hc, hd, hmc, hms, hall⟩ := s_world l g kk hq (xs (6 * q + 1)) (xs (6 * q + 2)) (xs (6 * q + 3))
  have s99 := g.s99
  have e99 : ∀ j, I (99, 0) j = xs j := kk.sc
  refine g_ald1 (pc' := 307) dL_law_306 rfl ?_
  refine l_arg (pc' := 312) (j := 1) s99 (by omega) hLs rfl (e99 _) dL_law_307 dL_law_308 dL_law_309 dL_law_310 dL_law_311 rfl ?_
  refine l_arg (pc' := 317) (j := 2) s99 (by omega) hLs rfl (e99 _) dL_law_312 dL_law_313 dL_law_314 dL_law_315 dL_law_316 rfl ?_
  refine l_arg (pc' := 322) (j := 3) s99 (by omega) hLs rfl (e99 _) dL_law_317 dL_law_318 dL_law_319 dL_law_320 dL_law_321 rfl ?_
  refine g_callVX hc g.xg.s0 (by decide) wX8_world lL_32 rfl rfl (Nat.le_of_ble_eq_true rfl) ⟨by show d + 1 ≤ 2048; omega, by show 8 + (9 + 11) + (64 * d + 40) ≤ 84000; omega⟩ ⟨by show k + mc ≤ 600000; omega, by show n + ms ≤ 7302250; omega⟩ dL_law_322 rfl ?_
  rintro r S1 I1 L1 R1 hpost hext hro
  obtain ⟨w, d2, post2, rfl, hd2, hc2, hfin⟩ := hall _ _ _ _ _ hpost
  show G l mL_law room_1 QL (k + mc) (n + ms) 325 [some (.inr (.inr (some (99, 0)))), some (.inr (.inr (some (0, 0)))), some (.inr (.inr (some (40, 0)))), some (.inl (nI (6 * q)))] [.inl w] S1 I1 L1 R1
  have s991 : S1 (99, 0) = (7, Ls) := (hext _ (by rw [s99]; simp)).trans s99
  have e991 : ∀ j, j < Ls → I1 (99, 0) j = xs j := fun j hj => (hro (99, 0) j (by rw [s99]) (by rw [s99]; exact hj)).trans (e99 j)
  have s401 : S1 (40, 0) = (19, 0) := (hext _ (by rw [g.mg.s40]; simp)).trans g.mg.s40
  refine g_ald2 (pc' := 326) dL_law_325 rfl ?_
  refine l_arg (pc' := 331) (j := 1) s991 (by omega) hLs rfl (e991 _ (by omega)) dL_law_326 dL_law_327 dL_law_328 dL_law_329 dL_law_330 rfl ?_
  refine l_arg (pc' := 336) (j := 2) s991 (by omega) hLs rfl (e991 _ (by omega)) dL_law_331 dL_law_332 dL_law_333 dL_law_334 dL_law_335 rfl ?_
  refine l_arg (pc' := 341) (j := 3) s991 (by omega) hLs rfl (e991 _ (by omega)) dL_law_336 dL_law_337 dL_law_338 dL_law_339 dL_law_340 rfl ?_
  refine g_callVX hc2 s401 (by decide) wX9_world lL_36 rfl rfl (Nat.le_of_ble_eq_true rfl) ⟨by show d2 + 1 ≤ 2048; omega, by show 8 + (4 + 11) + (64 * d2 + 40) ≤ 84000; omega⟩ ⟨by show k + mc + 0 ≤ 600000; omega, by show n + ms + 0 ≤ 7302250; omega⟩ dL_law_341 rfl ?_
  rintro r2 S2 I2 L2 R2 hpost2 - -
  obtain ⟨rfl, hInv⟩ := hfin _ _ _ _ _ hpost2
  show G l mL_law room_1 QL (k + mc + 0) (n + ms + 0) 344 [some (.inr (.inr (some (99, 0)))), some (.inr (.inr (some (0, 0)))), some (.inr (.inr (some (40, 0)))), some (.inl (nI (6 * q)))] [.inl w, .inl w] S2 I2 L2 R2
  refine g_icmpeq (pc' := 347) (tgt := 1532) dL_law_344 (by decide) rfl (fun _ => ?_) (fun z => absurd rfl z)
  exact ih _ _ _ _ _ _ hInv (by omega) (by omega)

theorem lc_nothing (l : Launch) {Ls : Nat} {xs : Nat → Int32} {q : Nat} {S : Shp} {I : MI} {L : ML} {R : MR} {k n : Nat} (hLs : Ls ≤ 3072) (h6 : 6 * q + 6 ≤ Ls) (iv : Inv Ls xs q S I L R) (hk : k ≤ 80 + 7 * q) (hn : n ≤ 8100 + 308 * q) (ih : LNext l Ls xs q) : G l mL_law room_1 QL k n 349 [some (.inr (.inr (some (99, 0)))), some (.inr (.inr (some (0, 0)))), some (.inr (.inr (some (40, 0)))), some (.inl (nI (6 * q)))] [] S I L R := by
  obtain ⟨n', m', c', b', g, kk⟩ := iv
  have hq : q < 600 := by omega
  obtain ⟨d, mc, ms, post, hc, hd, hmc, hms, hall⟩ := s_nothing l g kk hq (xs (6 * q + 1)) (xs (6 * q + 2))
  have s99 := g.s99
  have e99 : ∀ j, I (99, 0) j = xs j := kk.sc
  refine g_ald1 (pc' := 350) dL_law_349 rfl ?_
  refine l_arg (pc' := 355) (j := 1) s99 (by omega) hLs rfl (e99 _) dL_law_350 dL_law_351 dL_law_352 dL_law_353 dL_law_354 rfl ?_
  refine l_arg (pc' := 360) (j := 2) s99 (by omega) hLs rfl (e99 _) dL_law_355 dL_law_356 dL_law_357 dL_law_358 dL_law_359 rfl ?_
  refine g_callVX hc g.xg.s0 (by decide) wX8_nothing lL_37 rfl rfl (Nat.le_of_ble_eq_true rfl) ⟨by show d + 1 ≤ 2048; omega, by show 8 + (5 + 11) + (64 * d + 40) ≤ 84000; omega⟩ ⟨by show k + mc ≤ 600000; omega, by show n + ms ≤ 7302250; omega⟩ dL_law_360 rfl ?_
  rintro r S1 I1 L1 R1 hpost hext hro
  obtain ⟨w, d2, post2, rfl, hd2, hc2, hfin⟩ := hall _ _ _ _ _ hpost
  show G l mL_law room_1 QL (k + mc) (n + ms) 363 [some (.inr (.inr (some (99, 0)))), some (.inr (.inr (some (0, 0)))), some (.inr (.inr (some (40, 0)))), some (.inl (nI (6 * q)))] [.inl w] S1 I1 L1 R1
  have s991 : S1 (99, 0) = (7, Ls) := (hext _ (by rw [s99]; simp)).trans s99
  have e991 : ∀ j, j < Ls → I1 (99, 0) j = xs j := fun j hj => (hro (99, 0) j (by rw [s99]) (by rw [s99]; exact hj)).trans (e99 j)
  have s401 : S1 (40, 0) = (19, 0) := (hext _ (by rw [g.mg.s40]; simp)).trans g.mg.s40
  refine g_ald2 (pc' := 364) dL_law_363 rfl ?_
  refine l_arg (pc' := 369) (j := 1) s991 (by omega) hLs rfl (e991 _ (by omega)) dL_law_364 dL_law_365 dL_law_366 dL_law_367 dL_law_368 rfl ?_
  refine l_arg (pc' := 374) (j := 2) s991 (by omega) hLs rfl (e991 _ (by omega)) dL_law_369 dL_law_370 dL_law_371 dL_law_372 dL_law_373 rfl ?_
  refine g_callVX hc2 s401 (by decide) wX9_nothing lL_40 rfl rfl (Nat.le_of_ble_eq_true rfl) ⟨by show d2 + 1 ≤ 2048; omega, by show 8 + (3 + 11) + (64 * d2 + 40) ≤ 84000; omega⟩ ⟨by show k + mc + 0 ≤ 600000; omega, by show n + ms + 0 ≤ 7302250; omega⟩ dL_law_374 rfl ?_
  rintro r2 S2 I2 L2 R2 hpost2 - -
  obtain ⟨rfl, hInv⟩ := hfin _ _ _ _ _ hpost2
  show G l mL_law room_1 QL (k + mc + 0) (n + ms + 0) 377 [some (.inr (.inr (some (99, 0)))), some (.inr (.inr (some (0, 0)))), some (.inr (.inr (some (40, 0)))), some (.inl (nI (6 * q)))] [.inl w, .inl w] S2 I2 L2 R2
  refine g_icmpeq (pc' := 380) (tgt := 1532) dL_law_377 (by decide) rfl (fun _ => ?_) (fun z => absurd rfl z)
  exact ih _ _ _ _ _ _ hInv (by omega) (by omega)

theorem lc_of (l : Launch) {Ls : Nat} {xs : Nat → Int32} {q : Nat} {S : Shp} {I : MI} {L : ML} {R : MR} {k n : Nat} (hLs : Ls ≤ 3072) (h6 : 6 * q + 6 ≤ Ls) (iv : Inv Ls xs q S I L R) (hk : k ≤ 80 + 7 * q) (hn : n ≤ 8100 + 308 * q) (ih : LNext l Ls xs q) : G l mL_law room_1 QL k n 382 [some (.inr (.inr (some (99, 0)))), some (.inr (.inr (some (0, 0)))), some (.inr (.inr (some (40, 0)))), some (.inl (nI (6 * q)))] [] S I L R := by
  obtain ⟨n', m', c', b', g, kk⟩ := iv
  have hq : q < 600 := by omega
  obtain ⟨d, mc, ms, post, hc, hd, hmc, hms, hall⟩ := s_of l g kk hq (xs (6 * q + 1)) (xs (6 * q + 2))
  have s99 := g.s99
  have e99 : ∀ j, I (99, 0) j = xs j := kk.sc
  refine g_ald1 (pc' := 383) dL_law_382 rfl ?_
  refine l_arg (pc' := 388) (j := 1) s99 (by omega) hLs rfl (e99 _) dL_law_383 dL_law_384 dL_law_385 dL_law_386 dL_law_387 rfl ?_
  refine l_arg (pc' := 393) (j := 2) s99 (by omega) hLs rfl (e99 _) dL_law_388 dL_law_389 dL_law_390 dL_law_391 dL_law_392 rfl ?_
  refine g_callVX hc g.xg.s0 (by decide) wX8_of lL_41 rfl rfl (Nat.le_of_ble_eq_true rfl) ⟨by show d + 1 ≤ 2048; omega, by show 8 + (4 + 11) + (64 * d + 40) ≤ 84000; omega⟩ ⟨by show k + mc ≤ 600000; omega, by show n + ms ≤ 7302250; omega⟩ dL_law_393 rfl ?_
  rintro r S1 I1 L1 R1 hpost hext hro
  obtain ⟨w, d2, post2, rfl, hd2, hc2, hfin⟩ := hall _ _ _ _ _ hpost
  show G l mL_law room_1 QL (k + mc) (n + ms) 396 [some (.inr (.inr (some (99, 0)))), some (.inr (.inr (some (0, 0)))), some (.inr (.inr (some (40, 0)))), some (.inl (nI (6 * q)))] [.inl w] S1 I1 L1 R1
  have s991 : S1 (99, 0) = (7, Ls) := (hext _ (by rw [s99]; simp)).trans s99
  have e991 : ∀ j, j < Ls → I1 (99, 0) j = xs j := fun j hj => (hro (99, 0) j (by rw [s99]) (by rw [s99]; exact hj)).trans (e99 j)
  have s401 : S1 (40, 0) = (19, 0) := (hext _ (by rw [g.mg.s40]; simp)).trans g.mg.s40
  refine g_ald2 (pc' := 397) dL_law_396 rfl ?_
  refine l_arg (pc' := 402) (j := 1) s991 (by omega) hLs rfl (e991 _ (by omega)) dL_law_397 dL_law_398 dL_law_399 dL_law_400 dL_law_401 rfl ?_
  refine l_arg (pc' := 407) (j := 2) s991 (by omega) hLs rfl (e991 _ (by omega)) dL_law_402 dL_law_403 dL_law_404 dL_law_405 dL_law_406 rfl ?_
  refine g_callVX hc2 s401 (by decide) wX9_of lL_44 rfl rfl (Nat.le_of_ble_eq_true rfl) ⟨by show d2 + 1 ≤ 2048; omega, by show 8 + (4 + 11) + (64 * d2 + 40) ≤ 84000; omega⟩ ⟨by show k + mc + 0 ≤ 600000; omega, by show n + ms + 0 ≤ 7302250; omega⟩ dL_law_407 rfl ?_
  rintro r2 S2 I2 L2 R2 hpost2 - -
  obtain ⟨rfl, hInv⟩ := hfin _ _ _ _ _ hpost2
  show G l mL_law room_1 QL (k + mc + 0) (n + ms + 0) 410 [some (.inr (.inr (some (99, 0)))), some (.inr (.inr (some (0, 0)))), some (.inr (.inr (some (40, 0)))), some (.inl (nI (6 * q)))] [.inl w, .inl w] S2 I2 L2 R2
  refine g_icmpeq (pc' := 413) (tgt := 1532) dL_law_410 (by decide) rfl (fun _ => ?_) (fun z => absurd rfl z)
  exact ih _ _ _ _ _ _ hInv (by omega) (by omega)

theorem lc_weight (l : Launch) {Ls : Nat} {xs : Nat → Int32} {q : Nat} {S : Shp} {I : MI} {L : ML} {R : MR} {k n : Nat} (hLs : Ls ≤ 3072) (h6 : 6 * q + 6 ≤ Ls) (iv : Inv Ls xs q S I L R) (hk : k ≤ 80 + 7 * q) (hn : n ≤ 8100 + 308 * q) (ih : LNext l Ls xs q) : G l mL_law room_1 QL k n 415 [some (.inr (.inr (some (99, 0)))), some (.inr (.inr (some (0, 0)))), some (.inr (.inr (some (40, 0)))), some (.inl (nI (6 * q)))] [] S I L R := by
  obtain ⟨n', m', c', b', g, kk⟩ := iv
  have hq : q < 600 := by omega
  obtain ⟨d, mc, ms, post, hc, hd, hmc, hms, hall⟩ := s_weight l g kk hq (xs (6 * q + 1)) (xs (6 * q + 2))
  have s99 := g.s99
  have e99 : ∀ j, I (99, 0) j = xs j := kk.sc
  refine g_ald1 (pc' := 416) dL_law_415 rfl ?_
  refine l_arg (pc' := 421) (j := 1) s99 (by omega) hLs rfl (e99 _) dL_law_416 dL_law_417 dL_law_418 dL_law_419 dL_law_420 rfl ?_
  refine l_arg (pc' := 426) (j := 2) s99 (by omega) hLs rfl (e99 _) dL_law_421 dL_law_422 dL_law_423 dL_law_424 dL_law_425 rfl ?_
  refine g_callVX hc g.xg.s0 (by decide) wX8_weight lL_45 rfl rfl (Nat.le_of_ble_eq_true rfl) ⟨by show d + 1 ≤ 2048; omega, by show 8 + (4 + 11) + (64 * d + 40) ≤ 84000; omega⟩ ⟨by show k + mc ≤ 600000; omega, by show n + ms ≤ 7302250; omega⟩ dL_law_426 rfl ?_
  rintro r S1 I1 L1 R1 hpost hext hro
  obtain ⟨w, d2, post2, rfl, hd2, hc2, hfin⟩ := hall _ _ _ _ _ hpost
  show G l mL_law room_1 QL (k + mc) (n + ms) 429 [some (.inr (.inr (some (99, 0)))), some (.inr (.inr (some (0, 0)))), some (.inr (.inr (some (40, 0)))), some (.inl (nI (6 * q)))] [.inl w] S1 I1 L1 R1
  have s991 : S1 (99, 0) = (7, Ls) := (hext _ (by rw [s99]; simp)).trans s99
  have e991 : ∀ j, j < Ls → I1 (99, 0) j = xs j := fun j hj => (hro (99, 0) j (by rw [s99]) (by rw [s99]; exact hj)).trans (e99 j)
  have s401 : S1 (40, 0) = (19, 0) := (hext _ (by rw [g.mg.s40]; simp)).trans g.mg.s40
  refine g_ald2 (pc' := 430) dL_law_429 rfl ?_
  refine l_arg (pc' := 435) (j := 1) s991 (by omega) hLs rfl (e991 _ (by omega)) dL_law_430 dL_law_431 dL_law_432 dL_law_433 dL_law_434 rfl ?_
  refine l_arg (pc' := 440) (j := 2) s991 (by omega) hLs rfl (e991 _ (by omega)) dL_law_435 dL_law_436 dL_law_437 dL_law_438 dL_law_439 rfl ?_
  refine g_callVX hc2 s401 (by decide) wX9_weight lL_48 rfl rfl (Nat.le_of_ble_eq_true rfl) ⟨by show d2 + 1 ≤ 2048; omega, by show 8 + (3 + 11) + (64 * d2 + 40) ≤ 84000; omega⟩ ⟨by show k + mc + 0 ≤ 600000; omega, by show n + ms + 0 ≤ 7302250; omega⟩ dL_law_440 rfl ?_
  rintro r2 S2 I2 L2 R2 hpost2 - -
  obtain ⟨rfl, hInv⟩ := hfin _ _ _ _ _ hpost2
  show G l mL_law room_1 QL (k + mc + 0) (n + ms + 0) 443 [some (.inr (.inr (some (99, 0)))), some (.inr (.inr (some (0, 0)))), some (.inr (.inr (some (40, 0)))), some (.inl (nI (6 * q)))] [.inl w, .inl w] S2 I2 L2 R2
  refine g_icmpeq (pc' := 446) (tgt := 1532) dL_law_443 (by decide) rfl (fun _ => ?_) (fun z => absurd rfl z)
  exact ih _ _ _ _ _ _ hInv (by omega) (by omega)

theorem lc_come (l : Launch) {Ls : Nat} {xs : Nat → Int32} {q : Nat} {S : Shp} {I : MI} {L : ML} {R : MR} {k n : Nat} (hLs : Ls ≤ 3072) (h6 : 6 * q + 6 ≤ Ls) (iv : Inv Ls xs q S I L R) (hk : k ≤ 80 + 7 * q) (hn : n ≤ 8100 + 308 * q) (ih : LNext l Ls xs q) : G l mL_law room_1 QL k n 448 [some (.inr (.inr (some (99, 0)))), some (.inr (.inr (some (0, 0)))), some (.inr (.inr (some (40, 0)))), some (.inl (nI (6 * q)))] [] S I L R := by
  obtain ⟨n', m', c', b', g, kk⟩ := iv
  have hq : q < 600 := by omega
  obtain ⟨d, mc, ms, post, hc, hd, hmc, hms, hall⟩ := s_come l g kk hq (xs (6 * q + 1)) (xs (6 * q + 2))
  have s99 := g.s99
  have e99 : ∀ j, I (99, 0) j = xs j := kk.sc
  refine g_ald1 (pc' := 449) dL_law_448 rfl ?_
  refine l_arg (pc' := 454) (j := 1) s99 (by omega) hLs rfl (e99 _) dL_law_449 dL_law_450 dL_law_451 dL_law_452 dL_law_453 rfl ?_
  refine l_arg (pc' := 459) (j := 2) s99 (by omega) hLs rfl (e99 _) dL_law_454 dL_law_455 dL_law_456 dL_law_457 dL_law_458 rfl ?_
  refine g_callVX hc g.xg.s0 (by decide) wX8_come lL_49 rfl rfl (Nat.le_of_ble_eq_true rfl) ⟨by show d + 1 ≤ 2048; omega, by show 8 + (4 + 11) + (64 * d + 40) ≤ 84000; omega⟩ ⟨by show k + mc ≤ 600000; omega, by show n + ms ≤ 7302250; omega⟩ dL_law_459 rfl ?_
  rintro r S1 I1 L1 R1 hpost hext hro
  obtain ⟨w, d2, post2, rfl, hd2, hc2, hfin⟩ := hall _ _ _ _ _ hpost
  show G l mL_law room_1 QL (k + mc) (n + ms) 462 [some (.inr (.inr (some (99, 0)))), some (.inr (.inr (some (0, 0)))), some (.inr (.inr (some (40, 0)))), some (.inl (nI (6 * q)))] [.inl w] S1 I1 L1 R1
  have s991 : S1 (99, 0) = (7, Ls) := (hext _ (by rw [s99]; simp)).trans s99
  have e991 : ∀ j, j < Ls → I1 (99, 0) j = xs j := fun j hj => (hro (99, 0) j (by rw [s99]) (by rw [s99]; exact hj)).trans (e99 j)
  have s401 : S1 (40, 0) = (19, 0) := (hext _ (by rw [g.mg.s40]; simp)).trans g.mg.s40
  refine g_ald2 (pc' := 463) dL_law_462 rfl ?_
  refine l_arg (pc' := 468) (j := 1) s991 (by omega) hLs rfl (e991 _ (by omega)) dL_law_463 dL_law_464 dL_law_465 dL_law_466 dL_law_467 rfl ?_
  refine l_arg (pc' := 473) (j := 2) s991 (by omega) hLs rfl (e991 _ (by omega)) dL_law_468 dL_law_469 dL_law_470 dL_law_471 dL_law_472 rfl ?_
  refine g_callVX hc2 s401 (by decide) wX9_come lL_52 rfl rfl (Nat.le_of_ble_eq_true rfl) ⟨by show d2 + 1 ≤ 2048; omega, by show 8 + (3 + 11) + (64 * d2 + 40) ≤ 84000; omega⟩ ⟨by show k + mc + 0 ≤ 600000; omega, by show n + ms + 0 ≤ 7302250; omega⟩ dL_law_473 rfl ?_
  rintro r2 S2 I2 L2 R2 hpost2 - -
  obtain ⟨rfl, hInv⟩ := hfin _ _ _ _ _ hpost2
  show G l mL_law room_1 QL (k + mc + 0) (n + ms + 0) 476 [some (.inr (.inr (some (99, 0)))), some (.inr (.inr (some (0, 0)))), some (.inr (.inr (some (40, 0)))), some (.inl (nI (6 * q)))] [.inl w, .inl w] S2 I2 L2 R2
  refine g_icmpeq (pc' := 479) (tgt := 1532) dL_law_476 (by decide) rfl (fun _ => ?_) (fun z => absurd rfl z)
  exact ih _ _ _ _ _ _ hInv (by omega) (by omega)

theorem lc_keepings (l : Launch) {Ls : Nat} {xs : Nat → Int32} {q : Nat} {S : Shp} {I : MI} {L : ML} {R : MR} {k n : Nat} (hLs : Ls ≤ 3072) (h6 : 6 * q + 6 ≤ Ls) (iv : Inv Ls xs q S I L R) (hk : k ≤ 80 + 7 * q) (hn : n ≤ 8100 + 308 * q) (ih : LNext l Ls xs q) : G l mL_law room_1 QL k n 481 [some (.inr (.inr (some (99, 0)))), some (.inr (.inr (some (0, 0)))), some (.inr (.inr (some (40, 0)))), some (.inl (nI (6 * q)))] [] S I L R := by
  obtain ⟨n', m', c', b', g, kk⟩ := iv
  have hq : q < 600 := by omega
  obtain ⟨d, mc, ms, post, hc, hd, hmc, hms, hall⟩ := s_keepings l g kk hq (xs (6 * q + 1)) (xs (6 * q + 2)) (xs (6 * q + 3)) (xs (6 * q + 4))
  have s99 := g.s99
  have e99 : ∀ j, I (99, 0) j = xs j := kk.sc
  refine g_ald1 (pc' := 482) dL_law_481 rfl ?_
  refine l_arg (pc' := 487) (j := 1) s99 (by omega) hLs rfl (e99 _) dL_law_482 dL_law_483 dL_law_484 dL_law_485 dL_law_486 rfl ?_
  refine l_arg (pc' := 492) (j := 2) s99 (by omega) hLs rfl (e99 _) dL_law_487 dL_law_488 dL_law_489 dL_law_490 dL_law_491 rfl ?_
  refine l_arg (pc' := 497) (j := 3) s99 (by omega) hLs rfl (e99 _) dL_law_492 dL_law_493 dL_law_494 dL_law_495 dL_law_496 rfl ?_
  refine l_arg (pc' := 502) (j := 4) s99 (by omega) hLs rfl (e99 _) dL_law_497 dL_law_498 dL_law_499 dL_law_500 dL_law_501 rfl ?_
  refine g_callVX hc g.xg.s0 (by decide) wX8_keepings lL_53 rfl rfl (Nat.le_of_ble_eq_true rfl) ⟨by show d + 1 ≤ 2048; omega, by show 8 + (10 + 11) + (64 * d + 40) ≤ 84000; omega⟩ ⟨by show k + mc ≤ 600000; omega, by show n + ms ≤ 7302250; omega⟩ dL_law_502 rfl ?_
  rintro r S1 I1 L1 R1 hpost hext hro
  obtain ⟨w, d2, post2, rfl, hd2, hc2, hfin⟩ := hall _ _ _ _ _ hpost
  show G l mL_law room_1 QL (k + mc) (n + ms) 505 [some (.inr (.inr (some (99, 0)))), some (.inr (.inr (some (0, 0)))), some (.inr (.inr (some (40, 0)))), some (.inl (nI (6 * q)))] [.inl w] S1 I1 L1 R1
  have s991 : S1 (99, 0) = (7, Ls) := (hext _ (by rw [s99]; simp)).trans s99
  have e991 : ∀ j, j < Ls → I1 (99, 0) j = xs j := fun j hj => (hro (99, 0) j (by rw [s99]) (by rw [s99]; exact hj)).trans (e99 j)
  have s401 : S1 (40, 0) = (19, 0) := (hext _ (by rw [g.mg.s40]; simp)).trans g.mg.s40
  refine g_ald2 (pc' := 506) dL_law_505 rfl ?_
  refine l_arg (pc' := 511) (j := 1) s991 (by omega) hLs rfl (e991 _ (by omega)) dL_law_506 dL_law_507 dL_law_508 dL_law_509 dL_law_510 rfl ?_
  refine l_arg (pc' := 516) (j := 2) s991 (by omega) hLs rfl (e991 _ (by omega)) dL_law_511 dL_law_512 dL_law_513 dL_law_514 dL_law_515 rfl ?_
  refine l_arg (pc' := 521) (j := 3) s991 (by omega) hLs rfl (e991 _ (by omega)) dL_law_516 dL_law_517 dL_law_518 dL_law_519 dL_law_520 rfl ?_
  refine l_arg (pc' := 526) (j := 4) s991 (by omega) hLs rfl (e991 _ (by omega)) dL_law_521 dL_law_522 dL_law_523 dL_law_524 dL_law_525 rfl ?_
  refine g_callVX hc2 s401 (by decide) wX9_keepings lL_57 rfl rfl (Nat.le_of_ble_eq_true rfl) ⟨by show d2 + 1 ≤ 2048; omega, by show 8 + (9 + 11) + (64 * d2 + 40) ≤ 84000; omega⟩ ⟨by show k + mc + 0 ≤ 600000; omega, by show n + ms + 0 ≤ 7302250; omega⟩ dL_law_526 rfl ?_
  rintro r2 S2 I2 L2 R2 hpost2 - -
  obtain ⟨rfl, hInv⟩ := hfin _ _ _ _ _ hpost2
  show G l mL_law room_1 QL (k + mc + 0) (n + ms + 0) 529 [some (.inr (.inr (some (99, 0)))), some (.inr (.inr (some (0, 0)))), some (.inr (.inr (some (40, 0)))), some (.inl (nI (6 * q)))] [.inl w, .inl w] S2 I2 L2 R2
  refine g_icmpeq (pc' := 532) (tgt := 1532) dL_law_529 (by decide) rfl (fun _ => ?_) (fun z => absurd rfl z)
  exact ih _ _ _ _ _ _ hInv (by omega) (by omega)

theorem lc_led (l : Launch) {Ls : Nat} {xs : Nat → Int32} {q : Nat} {S : Shp} {I : MI} {L : ML} {R : MR} {k n : Nat} (hLs : Ls ≤ 3072) (h6 : 6 * q + 6 ≤ Ls) (iv : Inv Ls xs q S I L R) (hk : k ≤ 80 + 7 * q) (hn : n ≤ 8100 + 308 * q) (ih : LNext l Ls xs q) : G l mL_law room_1 QL k n 534 [some (.inr (.inr (some (99, 0)))), some (.inr (.inr (some (0, 0)))), some (.inr (.inr (some (40, 0)))), some (.inl (nI (6 * q)))] [] S I L R := by
  obtain ⟨n', m', c', b', g, kk⟩ := iv
  have hq : q < 600 := by omega
  obtain ⟨d, mc, ms, post, hc, hd, hmc, hms, hall⟩ := s_led l g kk hq (xs (6 * q + 1)) (xs (6 * q + 2))
  have s99 := g.s99
  have e99 : ∀ j, I (99, 0) j = xs j := kk.sc
  refine g_ald1 (pc' := 535) dL_law_534 rfl ?_
  refine l_arg (pc' := 540) (j := 1) s99 (by omega) hLs rfl (e99 _) dL_law_535 dL_law_536 dL_law_537 dL_law_538 dL_law_539 rfl ?_
  refine l_arg (pc' := 545) (j := 2) s99 (by omega) hLs rfl (e99 _) dL_law_540 dL_law_541 dL_law_542 dL_law_543 dL_law_544 rfl ?_
  refine g_callVX hc g.xg.s0 (by decide) wX8_led lL_58 rfl rfl (Nat.le_of_ble_eq_true rfl) ⟨by show d + 1 ≤ 2048; omega, by show 8 + (4 + 11) + (64 * d + 40) ≤ 84000; omega⟩ ⟨by show k + mc ≤ 600000; omega, by show n + ms ≤ 7302250; omega⟩ dL_law_545 rfl ?_
  rintro r S1 I1 L1 R1 hpost hext hro
  obtain ⟨w, d2, post2, rfl, hd2, hc2, hfin⟩ := hall _ _ _ _ _ hpost
  show G l mL_law room_1 QL (k + mc) (n + ms) 548 [some (.inr (.inr (some (99, 0)))), some (.inr (.inr (some (0, 0)))), some (.inr (.inr (some (40, 0)))), some (.inl (nI (6 * q)))] [.inl w] S1 I1 L1 R1
  have s991 : S1 (99, 0) = (7, Ls) := (hext _ (by rw [s99]; simp)).trans s99
  have e991 : ∀ j, j < Ls → I1 (99, 0) j = xs j := fun j hj => (hro (99, 0) j (by rw [s99]) (by rw [s99]; exact hj)).trans (e99 j)
  have s401 : S1 (40, 0) = (19, 0) := (hext _ (by rw [g.mg.s40]; simp)).trans g.mg.s40
  refine g_ald2 (pc' := 549) dL_law_548 rfl ?_
  refine l_arg (pc' := 554) (j := 1) s991 (by omega) hLs rfl (e991 _ (by omega)) dL_law_549 dL_law_550 dL_law_551 dL_law_552 dL_law_553 rfl ?_
  refine l_arg (pc' := 559) (j := 2) s991 (by omega) hLs rfl (e991 _ (by omega)) dL_law_554 dL_law_555 dL_law_556 dL_law_557 dL_law_558 rfl ?_
  refine g_callVX hc2 s401 (by decide) wX9_led lL_61 rfl rfl (Nat.le_of_ble_eq_true rfl) ⟨by show d2 + 1 ≤ 2048; omega, by show 8 + (3 + 11) + (64 * d2 + 40) ≤ 84000; omega⟩ ⟨by show k + mc + 0 ≤ 600000; omega, by show n + ms + 0 ≤ 7302250; omega⟩ dL_law_559 rfl ?_
  rintro r2 S2 I2 L2 R2 hpost2 - -
  obtain ⟨rfl, hInv⟩ := hfin _ _ _ _ _ hpost2
  show G l mL_law room_1 QL (k + mc + 0) (n + ms + 0) 562 [some (.inr (.inr (some (99, 0)))), some (.inr (.inr (some (0, 0)))), some (.inr (.inr (some (40, 0)))), some (.inl (nI (6 * q)))] [.inl w, .inl w] S2 I2 L2 R2
  refine g_icmpeq (pc' := 565) (tgt := 1532) dL_law_562 (by decide) rfl (fun _ => ?_) (fun z => absurd rfl z)
  exact ih _ _ _ _ _ _ hInv (by omega) (by omega)

theorem lc_unequal (l : Launch) {Ls : Nat} {xs : Nat → Int32} {q : Nat} {S : Shp} {I : MI} {L : ML} {R : MR} {k n : Nat} (hLs : Ls ≤ 3072) (h6 : 6 * q + 6 ≤ Ls) (iv : Inv Ls xs q S I L R) (hk : k ≤ 80 + 7 * q) (hn : n ≤ 8100 + 308 * q) (ih : LNext l Ls xs q) : G l mL_law room_1 QL k n 567 [some (.inr (.inr (some (99, 0)))), some (.inr (.inr (some (0, 0)))), some (.inr (.inr (some (40, 0)))), some (.inl (nI (6 * q)))] [] S I L R := by
  obtain ⟨n', m', c', b', g, kk⟩ := iv
  have hq : q < 600 := by omega
  obtain ⟨d, mc, ms, post, hc, hd, hmc, hms, hall⟩ := s_unequal l g kk hq (xs (6 * q + 1))
  have s99 := g.s99
  have e99 : ∀ j, I (99, 0) j = xs j := kk.sc
  refine g_ald1 (pc' := 568) dL_law_567 rfl ?_
  refine l_arg (pc' := 573) (j := 1) s99 (by omega) hLs rfl (e99 _) dL_law_568 dL_law_569 dL_law_570 dL_law_571 dL_law_572 rfl ?_
  refine g_callVX hc g.xg.s0 (by decide) wX8_unequal lL_62 rfl rfl (Nat.le_of_ble_eq_true rfl) ⟨by show d + 1 ≤ 2048; omega, by show 8 + (6 + 11) + (64 * d + 40) ≤ 84000; omega⟩ ⟨by show k + mc ≤ 600000; omega, by show n + ms ≤ 7302250; omega⟩ dL_law_573 rfl ?_
  rintro r S1 I1 L1 R1 hpost hext hro
  obtain ⟨w, d2, post2, rfl, hd2, hc2, hfin⟩ := hall _ _ _ _ _ hpost
  show G l mL_law room_1 QL (k + mc) (n + ms) 576 [some (.inr (.inr (some (99, 0)))), some (.inr (.inr (some (0, 0)))), some (.inr (.inr (some (40, 0)))), some (.inl (nI (6 * q)))] [.inl w] S1 I1 L1 R1
  have s991 : S1 (99, 0) = (7, Ls) := (hext _ (by rw [s99]; simp)).trans s99
  have e991 : ∀ j, j < Ls → I1 (99, 0) j = xs j := fun j hj => (hro (99, 0) j (by rw [s99]) (by rw [s99]; exact hj)).trans (e99 j)
  have s401 : S1 (40, 0) = (19, 0) := (hext _ (by rw [g.mg.s40]; simp)).trans g.mg.s40
  refine g_ald2 (pc' := 577) dL_law_576 rfl ?_
  refine l_arg (pc' := 582) (j := 1) s991 (by omega) hLs rfl (e991 _ (by omega)) dL_law_577 dL_law_578 dL_law_579 dL_law_580 dL_law_581 rfl ?_
  refine g_callVX hc2 s401 (by decide) wX9_unequal lL_65 rfl rfl (Nat.le_of_ble_eq_true rfl) ⟨by show d2 + 1 ≤ 2048; omega, by show 8 + (5 + 11) + (64 * d2 + 40) ≤ 84000; omega⟩ ⟨by show k + mc + 0 ≤ 600000; omega, by show n + ms + 0 ≤ 7302250; omega⟩ dL_law_582 rfl ?_
  rintro r2 S2 I2 L2 R2 hpost2 - -
  obtain ⟨rfl, hInv⟩ := hfin _ _ _ _ _ hpost2
  show G l mL_law room_1 QL (k + mc + 0) (n + ms + 0) 585 [some (.inr (.inr (some (99, 0)))), some (.inr (.inr (some (0, 0)))), some (.inr (.inr (some (40, 0)))), some (.inl (nI (6 * q)))] [.inl w, .inl w] S2 I2 L2 R2
  refine g_icmpeq (pc' := 588) (tgt := 1532) dL_law_585 (by decide) rfl (fun _ => ?_) (fun z => absurd rfl z)
  exact ih _ _ _ _ _ _ hInv (by omega) (by omega)

theorem lc_unlike (l : Launch) {Ls : Nat} {xs : Nat → Int32} {q : Nat} {S : Shp} {I : MI} {L : ML} {R : MR} {k n : Nat} (hLs : Ls ≤ 3072) (h6 : 6 * q + 6 ≤ Ls) (iv : Inv Ls xs q S I L R) (hk : k ≤ 80 + 7 * q) (hn : n ≤ 8100 + 308 * q) (ih : LNext l Ls xs q) : G l mL_law room_1 QL k n 590 [some (.inr (.inr (some (99, 0)))), some (.inr (.inr (some (0, 0)))), some (.inr (.inr (some (40, 0)))), some (.inl (nI (6 * q)))] [] S I L R := by
  obtain ⟨n', m', c', b', g, kk⟩ := iv
  have hq : q < 600 := by omega
  obtain ⟨d, mc, ms, post, hc, hd, hmc, hms, hall⟩ := s_unlike l g kk hq (xs (6 * q + 1))
  have s99 := g.s99
  have e99 : ∀ j, I (99, 0) j = xs j := kk.sc
  refine g_ald1 (pc' := 591) dL_law_590 rfl ?_
  refine l_arg (pc' := 596) (j := 1) s99 (by omega) hLs rfl (e99 _) dL_law_591 dL_law_592 dL_law_593 dL_law_594 dL_law_595 rfl ?_
  refine g_callVX hc g.xg.s0 (by decide) wX8_unlike lL_66 rfl rfl (Nat.le_of_ble_eq_true rfl) ⟨by show d + 1 ≤ 2048; omega, by show 8 + (4 + 11) + (64 * d + 40) ≤ 84000; omega⟩ ⟨by show k + mc ≤ 600000; omega, by show n + ms ≤ 7302250; omega⟩ dL_law_596 rfl ?_
  rintro r S1 I1 L1 R1 hpost hext hro
  obtain ⟨w, d2, post2, rfl, hd2, hc2, hfin⟩ := hall _ _ _ _ _ hpost
  show G l mL_law room_1 QL (k + mc) (n + ms) 599 [some (.inr (.inr (some (99, 0)))), some (.inr (.inr (some (0, 0)))), some (.inr (.inr (some (40, 0)))), some (.inl (nI (6 * q)))] [.inl w] S1 I1 L1 R1
  have s991 : S1 (99, 0) = (7, Ls) := (hext _ (by rw [s99]; simp)).trans s99
  have e991 : ∀ j, j < Ls → I1 (99, 0) j = xs j := fun j hj => (hro (99, 0) j (by rw [s99]) (by rw [s99]; exact hj)).trans (e99 j)
  have s401 : S1 (40, 0) = (19, 0) := (hext _ (by rw [g.mg.s40]; simp)).trans g.mg.s40
  refine g_ald2 (pc' := 600) dL_law_599 rfl ?_
  refine l_arg (pc' := 605) (j := 1) s991 (by omega) hLs rfl (e991 _ (by omega)) dL_law_600 dL_law_601 dL_law_602 dL_law_603 dL_law_604 rfl ?_
  refine g_callVX hc2 s401 (by decide) wX9_unlike lL_69 rfl rfl (Nat.le_of_ble_eq_true rfl) ⟨by show d2 + 1 ≤ 2048; omega, by show 8 + (2 + 11) + (64 * d2 + 40) ≤ 84000; omega⟩ ⟨by show k + mc + 0 ≤ 600000; omega, by show n + ms + 0 ≤ 7302250; omega⟩ dL_law_605 rfl ?_
  rintro r2 S2 I2 L2 R2 hpost2 - -
  obtain ⟨rfl, hInv⟩ := hfin _ _ _ _ _ hpost2
  show G l mL_law room_1 QL (k + mc + 0) (n + ms + 0) 608 [some (.inr (.inr (some (99, 0)))), some (.inr (.inr (some (0, 0)))), some (.inr (.inr (some (40, 0)))), some (.inl (nI (6 * q)))] [.inl w, .inl w] S2 I2 L2 R2
  refine g_icmpeq (pc' := 611) (tgt := 1532) dL_law_608 (by decide) rfl (fun _ => ?_) (fun z => absurd rfl z)
  exact ih _ _ _ _ _ _ hInv (by omega) (by omega)
