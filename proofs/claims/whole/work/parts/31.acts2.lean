/-! Acts: performed -/
theorem rOk3 {d f c dp : Nat} (h : d + c = 3 * f + dp) (hc : 1 ≤ c) {nL : Nat} (hn : nL ≤ 20) : d + 1 ≤ (rmd (3 * f + dp) 0 0).frames ∧ 8 + (nL + 11) + (64 * d + 40) ≤ (rmd (3 * f + dp) 0 0).locals := by
  simp only [rmd]
  omega
def AskC (l : Launch) (S : Shp) (L : ML) (R : MR) (num kd f : Nat) : Prop := ∀ (I : MI) (t : List Nat) (at_ : Option Nat) (a : Nat) (x : Int32) (δ : Nat), AT I → AM I num kd t → t.length + 2 ^ f ≤ 2 ^ 31 → (∀ k, at_ = some k → k < 8) → a < 4 → δ + f = 31 → Ct l mX0_ask (3 * f + 1) 0 0 [.inr (.inr (some (23, 0))), .inl (flI at_), .inl (nI a), .inl x, .inl (nI δ)] S I L R (PIm S L R (fun v J => v = (askV kd num f at_ a x).1 ∧ AM J num kd (t ++ (askV kd num f at_ a x).2) ∧ Fr acP I J))
theorem bod_mem : ∀ i, i < 32 → bod i = 0 ∨ bod i = 1 ∨ bod i = 2 ∨ bod i = 10 ∨ bod i = 11 ∨ bod i = 20 ∨ bod i = 30 ∨ bod i = 40 ∨ bod i = 41 ∨ bod i = 50 ∨ bod i = 60 ∨ bod i = 70 ∨ bod i = 80 ∨ bod i = 81 := by decide

theorem c_own (l : Launch) {S : Shp} {L : ML} {R : MR} {num kd f : Nat} (ag : AG S R) (hnum : num < 50) (hkd : kd < 8) (hask : AskC l S L R num kd f) {I : MI} {t : List Nat} {a : Nat} {x : Int32} {δ : Nat} (hT : AT I) (hA : AM I num kd t) (hlen : t.length + 2 ^ f ≤ 2 ^ 31) (ha : a < 4) (hδ : δ + f = 31) : Ct l mX0_own (3 * f + 2) 0 0 [.inr (.inr (some (23, 0))), .inl (nI a), .inl x, .inl (nI δ)] S I L R (PIm S L R (fun v J => v = (askV kd num f (some kd) a x).1 ∧ AM J num kd (t ++ (askV kd num f (some kd) a x).2) ∧ Fr acP I J)) := by
  refine Ct.of [some (.inr (.inr (some (23, 0)))), some (.inl (nI a)), some (.inl x), some (.inl (nI δ))] (by decide) rfl (Nat.le_of_ble_eq_true rfl) ?_
  refine g_ald0 (pc' := 1) dX0_own_0 rfl ?_
  refine g_ald0 (pc' := 2) dX0_own_1 rfl ?_
  refine g_getR (pc' := 5) ag.s23 (by decide) fX0_9 ag.r23_0 dX0_own_2 rfl ?_
  refine g_ald0 (pc' := 6) dX0_own_5 rfl ?_
  refine g_getI (pc' := 9) ag.s23 (by decide) fX0_30 hA.1 dX0_own_6 rfl ?_
  refine g_iald (pc' := 10) (j := num) ag.s24 rfl (by omega) (by decide) hA.2.1 dX0_own_9 rfl ?_
  refine g_ild1 (pc' := 11) dX0_own_10 rfl ?_
  refine g_ild2 (pc' := 12) dX0_own_11 rfl ?_
  refine g_ild3 (pc' := 13) dX0_own_12 rfl ?_
  refine g_callV (pc' := 16) (hask I t (some kd) a x δ hT hA hlen (fun k q => by cases q; exact hkd) ha hδ) ag.s23 (by decide) wX0_ask lX0_37 rfl rfl (Nat.le_of_ble_eq_true rfl) (rOk3 (c := 1) (by omega) (by omega) (by decide)) ⟨Nat.le_of_ble_eq_true rfl, Nat.le_of_ble_eq_true rfl⟩ dX0_own_13 rfl (kI (fun v J hq => ?_))
  refine g_iret rfl dX0_own_16 ?_
  exact eI hq

theorem c_above (l : Launch) {S : Shp} {L : ML} {R : MR} {num kd f : Nat} (ag : AG S R) (hnum : num < 50) (hkd : kd < 8) (hask : AskC l S L R num kd f) {I : MI} {t : List Nat} {k a : Nat} {x : Int32} {δ : Nat} (hk : k < 8) (hT : AT I) (hA : AM I num kd t) (hlen : t.length + 2 ^ f ≤ 2 ^ 31) (ha : a < 4) (hδ : δ + f = 31) : Ct l mX0_above (3 * f + 2) 0 0 [.inr (.inr (some (23, 0))), .inl (nI k), .inl (nI a), .inl x, .inl (nI δ)] S I L R (PIm S L R (fun v J => v = (askV kd num f (abv k) a x).1 ∧ AM J num kd (t ++ (askV kd num f (abv k) a x).2) ∧ Fr acP I J)) := by
  refine Ct.of [some (.inr (.inr (some (23, 0)))), some (.inl (nI k)), some (.inl (nI a)), some (.inl x), some (.inl (nI δ))] (by decide) rfl (Nat.le_of_ble_eq_true rfl) ?_
  refine g_ald0 (pc' := 1) dX0_above_0 rfl ?_
  refine g_above (pc' := 4) fX0_20 dX0_above_1 rfl ?_
  refine g_ild1 (pc' := 5) dX0_above_4 rfl ?_
  refine g_xald (pc' := 6) (j := k) ag.s37 rfl (by omega) (by decide) (v := flI (abv k)) (hT.1 k hk) dX0_above_5 rfl ?_
  refine g_ild2 (pc' := 7) dX0_above_6 rfl ?_
  refine g_ild3 (pc' := 8) dX0_above_7 rfl ?_
  refine g_ild4 (pc' := 10) dX0_above_8 rfl ?_
  refine g_callV (pc' := 13) (hask I t (abv k) a x δ hT hA hlen (abv_lt k hk) ha hδ) ag.s23 (by decide) wX0_ask lX0_37 rfl rfl (Nat.le_of_ble_eq_true rfl) (rOk3 (c := 1) (by omega) (by omega) (by decide)) ⟨Nat.le_of_ble_eq_true rfl, Nat.le_of_ble_eq_true rfl⟩ dX0_above_10 rfl (kI (fun v J hq => ?_))
  refine g_iret rfl dX0_above_13 ?_
  exact eI hq

theorem c_run (l : Launch) {S : Shp} {L : ML} {R : MR} {num kd f : Nat} (ag : AG S R) (hnum : num < 50) (hkd : kd < 8) (hask : AskC l S L R num kd f) {I : MI} {t : List Nat} {b k : Nat} {x : Int32} {δ : Nat} (hb : b = 0 ∨ b = 1 ∨ b = 2 ∨ b = 10 ∨ b = 11 ∨ b = 20 ∨ b = 30 ∨ b = 40 ∨ b = 41 ∨ b = 50 ∨ b = 60 ∨ b = 70 ∨ b = 80 ∨ b = 81) (hk : k < 8) (hT : AT I) (hA : AM I num kd t) (hlen : t.length + 2 ^ (f + 1) ≤ 2 ^ 31) (hδ : δ + f = 31) : Ct l mX0_run (3 * f + 3) 0 0 [.inr (.inr (some (23, 0))), .inl (nI b), .inl (nI k), .inl x, .inl (nI δ)] S I L R (PIm S L R (fun v J => v = (runS (askV kd num f) kd num b k x).1 ∧ AM J num kd (t ++ (runS (askV kd num f) kd num b k x).2) ∧ Fr acP I J)) := by
  have hp : 1 ≤ 2 ^ f := Nat.one_le_two_pow
  have hlt : t.length + 2 ≤ 2 ^ 31 := by rw [Nat.pow_succ] at hlen; omega
  have hp2 : 2 ^ (f + 1) = 2 ^ f * 2 := Nat.pow_succ 2 f
  refine Ct.of [some (.inr (.inr (some (23, 0)))), some (.inl (nI b)), some (.inl (nI k)), some (.inl x), some (.inl (nI δ))] (by decide) rfl (Nat.le_of_ble_eq_true rfl) ?_
  have key : ∀ J1, AM J1 num kd (t ++ [b]) → Fr acP I J1 → G l mX0_run (rmd (3 * f + 3) 0 0) (QM (PIm S L R (fun v J => v = (runS (askV kd num f) kd num b k x).1 ∧ AM J num kd (t ++ (runS (askV kd num f) kd num b k x).2) ∧ Fr acP I J)) 0 0) 0 0 29 [some (.inr (.inr (some (23, 0)))), some (.inl (nI b)), some (.inl (nI k)), some (.inl x), some (.inl (nI δ))] [] S J1 L R := by
    intro J1 hA1 hfr1
    have hT1 := hT.fr hfr1
    have hl1 : (t ++ [b]).length + 2 ^ f ≤ 2 ^ 31 := by
      simp only [List.length_append, List.length_cons, List.length_nil]
      omega
    refine g_ild1 (pc' := 30) dX0_run_29 rfl ?_
    rcases hb with rfl | rfl | rfl | rfl | rfl | rfl | rfl | rfl | rfl | rfl | rfl | rfl | rfl | rfl
    · refine g_lsw (off := 278) (tgt := 308) dX0_run_30 (by decide +kernel) (by decide +kernel) (by decide) ?_
      refine g_iconst (pc' := 309) (v := nI 0) dX0_run_308 rfl (by decide) ?_
      refine g_iret rfl dX0_run_309 ?_
      exact eI ⟨by simp [runS], by simpa [runS] using hA1, hfr1⟩
    · refine g_lsw (off := 114) (tgt := 144) dX0_run_30 (by decide +kernel) (by decide +kernel) (by decide) ?_
      refine g_ild3 (pc' := 145) dX0_run_144 rfl ?_
      refine g_ald0 (pc' := 146) dX0_run_145 rfl ?_
      refine g_getI (pc' := 149) ag.s23 (by decide) fX0_30 hA1.1 dX0_run_146 rfl ?_
      refine g_iadd (pc' := 150) dX0_run_149 rfl ?_
      refine g_iret rfl dX0_run_150 ?_
      exact eI ⟨by simp [runS], by simpa [runS] using hA1, hfr1⟩
    · refine g_lsw (off := 121) (tgt := 151) dX0_run_30 (by decide +kernel) (by decide +kernel) (by decide) ?_
      refine g_ald0 (pc' := 152) dX0_run_151 rfl ?_
      refine g_iconst (pc' := 153) (v := nI 1) dX0_run_152 rfl (by decide) ?_
      refine g_ild3 (pc' := 154) dX0_run_153 rfl ?_
      refine g_ild4 (pc' := 156) dX0_run_154 rfl ?_
      refine g_callV (pc' := 159) (c_own l ag hnum hkd hask (I := J1) (t := (t ++ [2])) (a := 1) (x := x) (δ := δ) hT1 hA1 (hl1) (by decide) hδ) ag.s23 (by decide) wX0_own lX0_33 rfl rfl (Nat.le_of_ble_eq_true rfl) (rOk3 (c := 1) (by omega) (by omega) (by decide)) ⟨Nat.le_of_ble_eq_true rfl, Nat.le_of_ble_eq_true rfl⟩ dX0_run_156 rfl (kI (fun v2 J2 hq2 => ?_))
      have hl2 : (t ++ [2] ++ (askV kd num f (some kd) 1 x).2).length + 2 ^ f ≤ 2 ^ 31 := by
        have := askV_len kd num f (some kd) 1 x
        simp only [List.length_append, List.length_cons, List.length_nil]
        rw [Nat.pow_succ] at hlen
        omega
      refine g_ald0 (pc' := 160) dX0_run_159 rfl ?_
      refine g_iconst (pc' := 161) (v := nI 2) dX0_run_160 rfl (by decide) ?_
      refine g_iconst (pc' := 162) (v := nI 1) dX0_run_161 rfl (by decide) ?_
      refine g_ild4 (pc' := 164) dX0_run_162 rfl ?_
      refine g_callV (pc' := 167) (c_own l ag hnum hkd hask (I := J2) (t := (t ++ [2] ++ (askV kd num f (some kd) 1 x).2)) (a := 2) (x := (nI 1)) (δ := δ) (hT1.fr hq2.2.2) hq2.2.1 (hl2) (by decide) hδ) ag.s23 (by decide) wX0_own lX0_33 rfl rfl (Nat.le_of_ble_eq_true rfl) (rOk3 (c := 1) (by omega) (by omega) (by decide)) ⟨Nat.le_of_ble_eq_true rfl, Nat.le_of_ble_eq_true rfl⟩ dX0_run_164 rfl (kI (fun v3 J3 hq3 => ?_))
      refine g_isub (pc' := 168) dX0_run_167 rfl ?_
      refine g_iret rfl dX0_run_168 ?_
      exact eI ⟨by simp [runS, hq2.1, hq3.1], by simpa [runS] using hq3.2.1, (hfr1.tr hq2.2.2).tr hq3.2.2⟩
    · refine g_lsw (off := 139) (tgt := 169) dX0_run_30 (by decide +kernel) (by decide +kernel) (by decide) ?_
      refine g_ald0 (pc' := 170) dX0_run_169 rfl ?_
      refine g_iconst (pc' := 171) (v := nI 0) dX0_run_170 rfl (by decide) ?_
      refine g_ild3 (pc' := 172) dX0_run_171 rfl ?_
      refine g_ild4 (pc' := 174) dX0_run_172 rfl ?_
      refine g_callV (pc' := 177) (c_own l ag hnum hkd hask (I := J1) (t := (t ++ [10])) (a := 0) (x := x) (δ := δ) hT1 hA1 (hl1) (by decide) hδ) ag.s23 (by decide) wX0_own lX0_33 rfl rfl (Nat.le_of_ble_eq_true rfl) (rOk3 (c := 1) (by omega) (by omega) (by decide)) ⟨Nat.le_of_ble_eq_true rfl, Nat.le_of_ble_eq_true rfl⟩ dX0_run_174 rfl (kI (fun v2 J2 hq2 => ?_))
      have hl2 : (t ++ [10] ++ (askV kd num f (some kd) 0 x).2).length + 2 ^ f ≤ 2 ^ 31 := by
        have := askV_len kd num f (some kd) 0 x
        simp only [List.length_append, List.length_cons, List.length_nil]
        rw [Nat.pow_succ] at hlen
        omega
      refine g_iconst (pc' := 178) (v := nI 2) dX0_run_177 rfl (by decide) ?_
      refine g_imul (pc' := 179) dX0_run_178 rfl ?_
      refine g_iret rfl dX0_run_179 ?_
      exact eI ⟨by simp [runS, hq2.1], by simpa [runS] using hq2.2.1, hfr1.tr hq2.2.2⟩
    · refine g_lsw (off := 150) (tgt := 180) dX0_run_30 (by decide +kernel) (by decide +kernel) (by decide) ?_
      refine g_ild3 (pc' := 181) dX0_run_180 rfl ?_
      refine g_ald0 (pc' := 182) dX0_run_181 rfl ?_
      refine g_getI (pc' := 185) ag.s23 (by decide) fX0_30 hA1.1 dX0_run_182 rfl ?_
      refine g_ixor (pc' := 186) dX0_run_185 rfl ?_
      refine g_iret rfl dX0_run_186 ?_
      exact eI ⟨by simp [runS], by simpa [runS] using hA1, hfr1⟩
    · refine g_lsw (off := 157) (tgt := 187) dX0_run_30 (by decide +kernel) (by decide +kernel) (by decide) ?_
      refine g_ald0 (pc' := 188) dX0_run_187 rfl ?_
      refine g_ild2 (pc' := 189) dX0_run_188 rfl ?_
      refine g_iconst (pc' := 190) (v := nI 0) dX0_run_189 rfl (by decide) ?_
      refine g_ild3 (pc' := 191) dX0_run_190 rfl ?_
      refine g_ild4 (pc' := 193) dX0_run_191 rfl ?_
      refine g_callV (pc' := 196) (c_above l ag hnum hkd hask (I := J1) (t := t ++ [20]) (k := k) (a := 0) (x := x) (δ := δ) hk hT1 hA1 hl1 (by decide) hδ) ag.s23 (by decide) wX0_above lX0_47 rfl rfl (Nat.le_of_ble_eq_true rfl) (rOk3 (c := 1) (by omega) (by omega) (by decide)) ⟨Nat.le_of_ble_eq_true rfl, Nat.le_of_ble_eq_true rfl⟩ dX0_run_193 rfl (kI (fun v2 J2 hq2 => ?_))
      have hl2 : (t ++ [20] ++ (askV kd num f (abv k) 0 x).2).length + 2 ^ f ≤ 2 ^ 31 := by
        have := askV_len kd num f (abv k) 0 x
        simp only [List.length_append, List.length_cons, List.length_nil]
        rw [Nat.pow_succ] at hlen
        omega
      refine g_iconst (pc' := 197) (v := nI 3) dX0_run_196 rfl (by decide) ?_
      refine g_iadd (pc' := 198) dX0_run_197 rfl ?_
      refine g_iret rfl dX0_run_198 ?_
      exact eI ⟨by simp [runS, hq2.1], by simpa [runS] using hq2.2.1, hfr1.tr hq2.2.2⟩
    · refine g_lsw (off := 169) (tgt := 199) dX0_run_30 (by decide +kernel) (by decide +kernel) (by decide) ?_
      refine g_ald0 (pc' := 200) dX0_run_199 rfl ?_
      refine g_ild2 (pc' := 201) dX0_run_200 rfl ?_
      refine g_iconst (pc' := 202) (v := nI 1) dX0_run_201 rfl (by decide) ?_
      refine g_ild3 (pc' := 203) dX0_run_202 rfl ?_
      refine g_ild4 (pc' := 205) dX0_run_203 rfl ?_
      refine g_callV (pc' := 208) (c_above l ag hnum hkd hask (I := J1) (t := t ++ [30]) (k := k) (a := 1) (x := x) (δ := δ) hk hT1 hA1 hl1 (by decide) hδ) ag.s23 (by decide) wX0_above lX0_47 rfl rfl (Nat.le_of_ble_eq_true rfl) (rOk3 (c := 1) (by omega) (by omega) (by decide)) ⟨Nat.le_of_ble_eq_true rfl, Nat.le_of_ble_eq_true rfl⟩ dX0_run_205 rfl (kI (fun v2 J2 hq2 => ?_))
      have hl2 : (t ++ [30] ++ (askV kd num f (abv k) 1 x).2).length + 2 ^ f ≤ 2 ^ 31 := by
        have := askV_len kd num f (abv k) 1 x
        simp only [List.length_append, List.length_cons, List.length_nil]
        rw [Nat.pow_succ] at hlen
        omega
      refine g_ineg (pc' := 209) dX0_run_208 rfl ?_
      refine g_iret rfl dX0_run_209 ?_
      exact eI ⟨by simp [runS, hq2.1], by simpa [runS] using hq2.2.1, hfr1.tr hq2.2.2⟩
    · refine g_lsw (off := 180) (tgt := 210) dX0_run_30 (by decide +kernel) (by decide +kernel) (by decide) ?_
      refine g_ald0 (pc' := 211) dX0_run_210 rfl ?_
      refine g_ild2 (pc' := 212) dX0_run_211 rfl ?_
      refine g_iconst (pc' := 213) (v := nI 2) dX0_run_212 rfl (by decide) ?_
      refine g_ild3 (pc' := 214) dX0_run_213 rfl ?_
      refine g_ild4 (pc' := 216) dX0_run_214 rfl ?_
      refine g_callV (pc' := 219) (c_above l ag hnum hkd hask (I := J1) (t := t ++ [40]) (k := k) (a := 2) (x := x) (δ := δ) hk hT1 hA1 hl1 (by decide) hδ) ag.s23 (by decide) wX0_above lX0_47 rfl rfl (Nat.le_of_ble_eq_true rfl) (rOk3 (c := 1) (by omega) (by omega) (by decide)) ⟨Nat.le_of_ble_eq_true rfl, Nat.le_of_ble_eq_true rfl⟩ dX0_run_216 rfl (kI (fun v2 J2 hq2 => ?_))
      have hl2 : (t ++ [40] ++ (askV kd num f (abv k) 2 x).2).length + 2 ^ f ≤ 2 ^ 31 := by
        have := askV_len kd num f (abv k) 2 x
        simp only [List.length_append, List.length_cons, List.length_nil]
        rw [Nat.pow_succ] at hlen
        omega
      refine g_iconst (pc' := 220) (v := nI 3) dX0_run_219 rfl (by decide) ?_
      refine g_imul (pc' := 221) dX0_run_220 rfl ?_
      refine g_iret rfl dX0_run_221 ?_
      exact eI ⟨by simp [runS, hq2.1], by simpa [runS] using hq2.2.1, hfr1.tr hq2.2.2⟩
    · refine g_lsw (off := 192) (tgt := 222) dX0_run_30 (by decide +kernel) (by decide +kernel) (by decide) ?_
      refine g_ald0 (pc' := 223) dX0_run_222 rfl ?_
      refine g_ild2 (pc' := 224) dX0_run_223 rfl ?_
      refine g_iconst (pc' := 225) (v := nI 1) dX0_run_224 rfl (by decide) ?_
      refine g_ild3 (pc' := 226) dX0_run_225 rfl ?_
      refine g_iconst (pc' := 227) (v := nI 1) dX0_run_226 rfl (by decide) ?_
      refine g_iadd (pc' := 228) dX0_run_227 rfl ?_
      refine g_ild4 (pc' := 230) dX0_run_228 rfl ?_
      refine g_callV (pc' := 233) (c_above l ag hnum hkd hask (I := J1) (t := t ++ [41]) (k := k) (a := 1) (x := (x + nI 1)) (δ := δ) hk hT1 hA1 hl1 (by decide) hδ) ag.s23 (by decide) wX0_above lX0_47 rfl rfl (Nat.le_of_ble_eq_true rfl) (rOk3 (c := 1) (by omega) (by omega) (by decide)) ⟨Nat.le_of_ble_eq_true rfl, Nat.le_of_ble_eq_true rfl⟩ dX0_run_230 rfl (kI (fun v2 J2 hq2 => ?_))
      have hl2 : (t ++ [41] ++ (askV kd num f (abv k) 1 (x + nI 1)).2).length + 2 ^ f ≤ 2 ^ 31 := by
        have := askV_len kd num f (abv k) 1 (x + nI 1)
        simp only [List.length_append, List.length_cons, List.length_nil]
        rw [Nat.pow_succ] at hlen
        omega
      refine g_iret rfl dX0_run_233 ?_
      exact eI ⟨by simp [runS, hq2.1], by simpa [runS] using hq2.2.1, hfr1.tr hq2.2.2⟩
    · refine g_lsw (off := 204) (tgt := 234) dX0_run_30 (by decide +kernel) (by decide +kernel) (by decide) ?_
      refine g_ald0 (pc' := 235) dX0_run_234 rfl ?_
      refine g_ild2 (pc' := 236) dX0_run_235 rfl ?_
      refine g_iconst (pc' := 237) (v := nI 2) dX0_run_236 rfl (by decide) ?_
      refine g_ild3 (pc' := 238) dX0_run_237 rfl ?_
      refine g_ild4 (pc' := 240) dX0_run_238 rfl ?_
      refine g_callV (pc' := 243) (c_above l ag hnum hkd hask (I := J1) (t := t ++ [50]) (k := k) (a := 2) (x := x) (δ := δ) hk hT1 hA1 hl1 (by decide) hδ) ag.s23 (by decide) wX0_above lX0_47 rfl rfl (Nat.le_of_ble_eq_true rfl) (rOk3 (c := 1) (by omega) (by omega) (by decide)) ⟨Nat.le_of_ble_eq_true rfl, Nat.le_of_ble_eq_true rfl⟩ dX0_run_240 rfl (kI (fun v2 J2 hq2 => ?_))
      have hl2 : (t ++ [50] ++ (askV kd num f (abv k) 2 x).2).length + 2 ^ f ≤ 2 ^ 31 := by
        have := askV_len kd num f (abv k) 2 x
        simp only [List.length_append, List.length_cons, List.length_nil]
        rw [Nat.pow_succ] at hlen
        omega
      refine g_ald0 (pc' := 244) dX0_run_243 rfl ?_
      refine g_iconst (pc' := 245) (v := nI 0) dX0_run_244 rfl (by decide) ?_
      refine g_iconst (pc' := 246) (v := nI 2) dX0_run_245 rfl (by decide) ?_
      refine g_ild4 (pc' := 248) dX0_run_246 rfl ?_
      refine g_callV (pc' := 251) (c_own l ag hnum hkd hask (I := J2) (t := (t ++ [50] ++ (askV kd num f (abv k) 2 x).2)) (a := 0) (x := (nI 2)) (δ := δ) (hT1.fr hq2.2.2) hq2.2.1 (hl2) (by decide) hδ) ag.s23 (by decide) wX0_own lX0_33 rfl rfl (Nat.le_of_ble_eq_true rfl) (rOk3 (c := 1) (by omega) (by omega) (by decide)) ⟨Nat.le_of_ble_eq_true rfl, Nat.le_of_ble_eq_true rfl⟩ dX0_run_248 rfl (kI (fun v3 J3 hq3 => ?_))
      refine g_isub (pc' := 252) dX0_run_251 rfl ?_
      refine g_iret rfl dX0_run_252 ?_
      exact eI ⟨by simp [runS, hq2.1, hq3.1], by simpa [runS] using hq3.2.1, (hfr1.tr hq2.2.2).tr hq3.2.2⟩
    · refine g_lsw (off := 223) (tgt := 253) dX0_run_30 (by decide +kernel) (by decide +kernel) (by decide) ?_
      refine g_ald0 (pc' := 254) dX0_run_253 rfl ?_
      refine g_ild2 (pc' := 255) dX0_run_254 rfl ?_
      refine g_iconst (pc' := 256) (v := nI 3) dX0_run_255 rfl (by decide) ?_
      refine g_ild3 (pc' := 257) dX0_run_256 rfl ?_
      refine g_ild4 (pc' := 259) dX0_run_257 rfl ?_
      refine g_callV (pc' := 262) (c_above l ag hnum hkd hask (I := J1) (t := t ++ [60]) (k := k) (a := 3) (x := x) (δ := δ) hk hT1 hA1 hl1 (by decide) hδ) ag.s23 (by decide) wX0_above lX0_47 rfl rfl (Nat.le_of_ble_eq_true rfl) (rOk3 (c := 1) (by omega) (by omega) (by decide)) ⟨Nat.le_of_ble_eq_true rfl, Nat.le_of_ble_eq_true rfl⟩ dX0_run_259 rfl (kI (fun v2 J2 hq2 => ?_))
      have hl2 : (t ++ [60] ++ (askV kd num f (abv k) 3 x).2).length + 2 ^ f ≤ 2 ^ 31 := by
        have := askV_len kd num f (abv k) 3 x
        simp only [List.length_append, List.length_cons, List.length_nil]
        rw [Nat.pow_succ] at hlen
        omega
      refine g_iconst (pc' := 263) (v := nI 5) dX0_run_262 rfl (by decide) ?_
      refine g_ixor (pc' := 264) dX0_run_263 rfl ?_
      refine g_iret rfl dX0_run_264 ?_
      exact eI ⟨by simp [runS, hq2.1], by simpa [runS] using hq2.2.1, hfr1.tr hq2.2.2⟩
    · refine g_lsw (off := 235) (tgt := 265) dX0_run_30 (by decide +kernel) (by decide +kernel) (by decide) ?_
      refine g_ald0 (pc' := 266) dX0_run_265 rfl ?_
      refine g_ild2 (pc' := 267) dX0_run_266 rfl ?_
      refine g_iconst (pc' := 268) (v := nI 0) dX0_run_267 rfl (by decide) ?_
      refine g_ild3 (pc' := 269) dX0_run_268 rfl ?_
      refine g_ild4 (pc' := 271) dX0_run_269 rfl ?_
      refine g_callV (pc' := 274) (c_above l ag hnum hkd hask (I := J1) (t := t ++ [70]) (k := k) (a := 0) (x := x) (δ := δ) hk hT1 hA1 hl1 (by decide) hδ) ag.s23 (by decide) wX0_above lX0_47 rfl rfl (Nat.le_of_ble_eq_true rfl) (rOk3 (c := 1) (by omega) (by omega) (by decide)) ⟨Nat.le_of_ble_eq_true rfl, Nat.le_of_ble_eq_true rfl⟩ dX0_run_271 rfl (kI (fun v2 J2 hq2 => ?_))
      have hl2 : (t ++ [70] ++ (askV kd num f (abv k) 0 x).2).length + 2 ^ f ≤ 2 ^ 31 := by
        have := askV_len kd num f (abv k) 0 x
        simp only [List.length_append, List.length_cons, List.length_nil]
        rw [Nat.pow_succ] at hlen
        omega
      refine g_iconst (pc' := 275) (v := nI 2) dX0_run_274 rfl (by decide) ?_
      refine g_imul (pc' := 276) dX0_run_275 rfl ?_
      refine g_iret rfl dX0_run_276 ?_
      exact eI ⟨by simp [runS, hq2.1], by simpa [runS] using hq2.2.1, hfr1.tr hq2.2.2⟩
    · refine g_lsw (off := 247) (tgt := 277) dX0_run_30 (by decide +kernel) (by decide +kernel) (by decide) ?_
      refine g_ald0 (pc' := 278) dX0_run_277 rfl ?_
      refine g_ild2 (pc' := 279) dX0_run_278 rfl ?_
      refine g_iconst (pc' := 280) (v := nI 1) dX0_run_279 rfl (by decide) ?_
      refine g_ild3 (pc' := 281) dX0_run_280 rfl ?_
      refine g_ild4 (pc' := 283) dX0_run_281 rfl ?_
      refine g_callV (pc' := 286) (c_above l ag hnum hkd hask (I := J1) (t := t ++ [80]) (k := k) (a := 1) (x := x) (δ := δ) hk hT1 hA1 hl1 (by decide) hδ) ag.s23 (by decide) wX0_above lX0_47 rfl rfl (Nat.le_of_ble_eq_true rfl) (rOk3 (c := 1) (by omega) (by omega) (by decide)) ⟨Nat.le_of_ble_eq_true rfl, Nat.le_of_ble_eq_true rfl⟩ dX0_run_283 rfl (kI (fun v2 J2 hq2 => ?_))
      have hl2 : (t ++ [80] ++ (askV kd num f (abv k) 1 x).2).length + 2 ^ f ≤ 2 ^ 31 := by
        have := askV_len kd num f (abv k) 1 x
        simp only [List.length_append, List.length_cons, List.length_nil]
        rw [Nat.pow_succ] at hlen
        omega
      refine g_ald0 (pc' := 287) dX0_run_286 rfl ?_
      refine g_iconst (pc' := 288) (v := nI 2) dX0_run_287 rfl (by decide) ?_
      refine g_iconst (pc' := 289) (v := nI 2) dX0_run_288 rfl (by decide) ?_
      refine g_ild4 (pc' := 291) dX0_run_289 rfl ?_
      refine g_callV (pc' := 294) (c_own l ag hnum hkd hask (I := J2) (t := (t ++ [80] ++ (askV kd num f (abv k) 1 x).2)) (a := 2) (x := (nI 2)) (δ := δ) (hT1.fr hq2.2.2) hq2.2.1 (hl2) (by decide) hδ) ag.s23 (by decide) wX0_own lX0_33 rfl rfl (Nat.le_of_ble_eq_true rfl) (rOk3 (c := 1) (by omega) (by omega) (by decide)) ⟨Nat.le_of_ble_eq_true rfl, Nat.le_of_ble_eq_true rfl⟩ dX0_run_291 rfl (kI (fun v3 J3 hq3 => ?_))
      refine g_iadd (pc' := 295) dX0_run_294 rfl ?_
      refine g_iret rfl dX0_run_295 ?_
      exact eI ⟨by simp [runS, hq2.1, hq3.1], by simpa [runS] using hq3.2.1, (hfr1.tr hq2.2.2).tr hq3.2.2⟩
    · refine g_lsw (off := 266) (tgt := 296) dX0_run_30 (by decide +kernel) (by decide +kernel) (by decide) ?_
      refine g_ald0 (pc' := 297) dX0_run_296 rfl ?_
      refine g_ild2 (pc' := 298) dX0_run_297 rfl ?_
      refine g_iconst (pc' := 299) (v := nI 3) dX0_run_298 rfl (by decide) ?_
      refine g_ild3 (pc' := 300) dX0_run_299 rfl ?_
      refine g_ild4 (pc' := 302) dX0_run_300 rfl ?_
      refine g_callV (pc' := 305) (c_above l ag hnum hkd hask (I := J1) (t := t ++ [81]) (k := k) (a := 3) (x := x) (δ := δ) hk hT1 hA1 hl1 (by decide) hδ) ag.s23 (by decide) wX0_above lX0_47 rfl rfl (Nat.le_of_ble_eq_true rfl) (rOk3 (c := 1) (by omega) (by omega) (by decide)) ⟨Nat.le_of_ble_eq_true rfl, Nat.le_of_ble_eq_true rfl⟩ dX0_run_302 rfl (kI (fun v2 J2 hq2 => ?_))
      have hl2 : (t ++ [81] ++ (askV kd num f (abv k) 3 x).2).length + 2 ^ f ≤ 2 ^ 31 := by
        have := askV_len kd num f (abv k) 3 x
        simp only [List.length_append, List.length_cons, List.length_nil]
        rw [Nat.pow_succ] at hlen
        omega
      refine g_iconst (pc' := 306) (v := nI 1) dX0_run_305 rfl (by decide) ?_
      refine g_isub (pc' := 307) dX0_run_306 rfl ?_
      refine g_iret rfl dX0_run_307 ?_
      exact eI ⟨by simp [runS, hq2.1], by simpa [runS] using hq2.2.1, hfr1.tr hq2.2.2⟩
  refine g_ald0 (pc' := 1) dX0_run_0 rfl ?_
  refine g_getI (pc' := 4) ag.s23 (by decide) fX0_23 hA.2.2.1 dX0_run_1 rfl ?_
  refine g_bipush (pc' := 6) (v := nI 24) dX0_run_4 rfl (by decide) ?_
  refine g_icmpgeN (pc' := 9) (by omega) (by omega) (tgt := 19) dX0_run_6 (by decide) rfl (fun h6 => ?_) (fun h6 => ?_)
  · refine g_ald0 (pc' := 20) dX0_run_19 rfl ?_
    refine g_dupR (pc' := 21) dX0_run_20 rfl ?_
    refine g_getI (pc' := 24) ag.s23 (by decide) fX0_23 hA.2.2.1 dX0_run_21 rfl ?_
    refine g_iconst (pc' := 25) (v := nI 1) dX0_run_24 rfl (by decide) ?_
    refine g_iaddN (pc' := 26) dX0_run_25 rfl ?_
    refine g_putI (pc' := 29) ag.s23 (by decide) ⟨fX0_23, rfl, pI⟩ dX0_run_26 rfl ?_
    exact key _ (by have := hA.push (b := b); rw [if_neg (by omega)] at this; exact this) (Fr.rf.up (Or.inl ⟨rfl, rfl⟩))
  · refine g_ald0 (pc' := 10) dX0_run_9 rfl ?_
    refine g_getR (pc' := 13) ag.s23 (by decide) fX0_13 ag.r23_2 dX0_run_10 rfl ?_
    refine g_ald0 (pc' := 14) dX0_run_13 rfl ?_
    refine g_getI (pc' := 17) ag.s23 (by decide) fX0_23 hA.2.2.1 dX0_run_14 rfl ?_
    refine g_ild1 (pc' := 18) dX0_run_17 rfl ?_
    refine g_iast (pc' := 19) (j := t.length) ag.s25 rfl (by omega) (by decide) dX0_run_18 rfl ?_
    refine g_ald0 (pc' := 20) dX0_run_19 rfl ?_
    refine g_dupR (pc' := 21) dX0_run_20 rfl ?_
    refine g_getI (pc' := 24) ag.s23 (by decide) fX0_23 (v := nI (t.length)) (by simp [upM, hA.2.2.1]) dX0_run_21 rfl ?_
    refine g_iconst (pc' := 25) (v := nI 1) dX0_run_24 rfl (by decide) ?_
    refine g_iaddN (pc' := 26) dX0_run_25 rfl ?_
    refine g_putI (pc' := 29) ag.s23 (by decide) ⟨fX0_23, rfl, pI⟩ dX0_run_26 rfl ?_
    exact key _ (by have := hA.push (b := b); rw [if_pos (by omega)] at this; exact this) ((Fr.rf.up (Or.inr rfl)).up (Or.inl ⟨rfl, rfl⟩))
