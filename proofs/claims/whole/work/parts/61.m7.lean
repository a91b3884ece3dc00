/-! the model: pairs, guesses, after -/
def wyM (wo : Nat → Int32) (F : Nat → Nat → Int32) (x y : Int32) (a b i : Nat) : Nat := if ((x >>> (nI i &&& 31)) &&& nI 1) = nI 1 ∧ cmpI (wo a) (wo b) * cmpI (F i a) (F i b) = y then 1 else 0
theorem wyM_le (wo : Nat → Int32) (F : Nat → Nat → Int32) (x y : Int32) (a b i : Nat) : wyM wo F x y a b i ≤ 1 := by unfold wyM; split <;> omega
def gsm (wo : Nat → Int32) (F : Nat → Nat → Int32) (x y : Int32) (m a b : Nat) : Nat := sN (wyM wo F x y a b) m
def gpm (wo : Nat → Int32) (F : Nat → Nat → Int32) (x : Int32) (m a b : Nat) : Nat := gsm wo F x (nI 1) m a b + gsm wo F x (-1) m a b
def gbm (wo : Nat → Int32) (F : Nat → Nat → Int32) (x : Int32) (m a b : Nat) : Nat := max (gsm wo F x (nI 1) m a b) (gsm wo F x (-1) m a b)
theorem gsm_le {wo : Nat → Int32} {F : Nat → Nat → Int32} {x y : Int32} {m a b : Nat} (hM : m ≤ 9) : gsm wo F x y m a b ≤ 9 := by
  have := sN_le (wyM_le wo F x y a b) m
  unfold gsm
  omega
theorem cmp_e {a b : Int32} (h : a = b) : cmpI a b = nI 0 := by
  subst h
  unfold cmpI
  rw [if_pos (Int32.le_refl _), if_pos rfl]
theorem cmp_g {a b : Int32} (h : ¬ a ≤ b) : cmpI a b = nI 1 := by
  unfold cmpI
  rw [if_pos (Int32.le_of_lt (Int32.not_le.mp h)), if_neg (fun (e : a = b) => h (by rw [e]; exact Int32.le_refl _))]
theorem cmp_l {a b : Int32} (h : a ≤ b) (hne : ¬ a = b) : cmpI a b = -1 := by
  unfold cmpI
  rw [if_neg (fun q => hne (Int32.le_antisymm h q))]
theorem cmp_p1 : nI 1 * nI 1 = nI 1 ∧ (-1 : Int32) * (-1) = nI 1 ∧ nI 1 * (-1) = -1 ∧ (-1 : Int32) * nI 1 = -1 ∧ ¬ nI 1 = -1 ∧ ¬ (-1 : Int32) = nI 1 ∧ ¬ nI 0 = nI 1 ∧ ¬ nI 0 = -1 ∧ nI 1 * nI 0 = nI 0 ∧ (-1 : Int32) * nI 0 = nI 0 ∧ nI 0 * nI 1 = nI 0 ∧ nI 0 * (-1) = nI 0 ∧ nI 0 * nI 0 = nI 0 := by decide
theorem cmp_v (a b : Int32) : cmpI a b = nI 0 ∨ cmpI a b = nI 1 ∨ cmpI a b = -1 := by
  unfold cmpI
  split
  · split
    · exact Or.inl rfl
    · exact Or.inr (Or.inl rfl)
  · exact Or.inr (Or.inr rfl)
theorem cmp_0l {a b c d : Int32} (h : a = b) : cmpI a b * cmpI c d = nI 0 := by
  obtain ⟨p1, p2, p3, p4, p5, p6, p7, p8, p9, p10, p11, p12, p13⟩ := cmp_p1
  rw [cmp_e h]
  rcases cmp_v c d with e | e | e <;> rw [e] <;> assumption
theorem cmp_0r {a b c d : Int32} (h : c = d) : cmpI a b * cmpI c d = nI 0 := by
  obtain ⟨p1, p2, p3, p4, p5, p6, p7, p8, p9, p10, p11, p12, p13⟩ := cmp_p1
  rw [cmp_e h]
  rcases cmp_v a b with e | e | e <;> rw [e] <;> assumption
theorem wy_0 {wo : Nat → Int32} {F : Nat → Nat → Int32} {x : Int32} {a b i : Nat} (h : ¬ ((x >>> (nI i &&& 31)) &&& nI 1) = nI 1 ∨ cmpI (wo a) (wo b) * cmpI (F i a) (F i b) = nI 0) : wyM wo F x (nI 1) a b i = 0 ∧ wyM wo F x (-1) a b i = 0 := by
  obtain ⟨p1, p2, p3, p4, p5, p6, p7, p8, p9, p10, p11, p12, p13⟩ := cmp_p1
  unfold wyM
  rcases h with h | h
  · rw [if_neg (fun q => h q.1), if_neg (fun q => h q.1)]; exact ⟨rfl, rfl⟩
  · rw [h, if_neg (fun q => p7 q.2), if_neg (fun q => p8 q.2)]; exact ⟨rfl, rfl⟩
theorem wy_s {wo : Nat → Int32} {F : Nat → Nat → Int32} {x : Int32} {a b i : Nat} (h : ((x >>> (nI i &&& 31)) &&& nI 1) = nI 1) (h2 : cmpI (wo a) (wo b) * cmpI (F i a) (F i b) = nI 1) : wyM wo F x (nI 1) a b i = 1 ∧ wyM wo F x (-1) a b i = 0 := by
  obtain ⟨p1, p2, p3, p4, p5, p6, p7, p8, p9, p10, p11, p12, p13⟩ := cmp_p1
  unfold wyM
  rw [h2, if_pos ⟨h, rfl⟩, if_neg (fun q => p5 q.2)]; exact ⟨rfl, rfl⟩
theorem wy_o {wo : Nat → Int32} {F : Nat → Nat → Int32} {x : Int32} {a b i : Nat} (h : ((x >>> (nI i &&& 31)) &&& nI 1) = nI 1) (h2 : cmpI (wo a) (wo b) * cmpI (F i a) (F i b) = -1) : wyM wo F x (nI 1) a b i = 0 ∧ wyM wo F x (-1) a b i = 1 := by
  obtain ⟨p1, p2, p3, p4, p5, p6, p7, p8, p9, p10, p11, p12, p13⟩ := cmp_p1
  unfold wyM
  rw [h2, if_neg (fun q => p6 q.2), if_pos ⟨h, rfl⟩]; exact ⟨rfl, rfl⟩
theorem sN_0 {f : Nat → Nat} (h : ∀ i, f i = 0) : ∀ n, sN f n = 0
  | 0 => rfl
  | n + 1 => by rw [sN_s, sN_0 h n, h n]
theorem triN_bd {g : Nat → Nat → Nat} {c : Nat} (h : ∀ a b, g a b ≤ c) : ∀ n, n ≤ 12 → triN g n ≤ c * 12 * n
  | 0, _ => Nat.zero_le _
  | n + 1, hn => by
    have ih := triN_bd h n (by omega)
    have h2 := sN_le (f := fun b => g n b) (c := c) (h n) n
    have h3 : c * n ≤ c * 12 := Nat.mul_le_mul_left c (by omega)
    unfold triN at ih ⊢
    rw [sN_s, Nat.mul_succ]
    exact Nat.add_le_add ih (Nat.le_trans h2 h3)
def fpP (t : Tok) (i : Nat) : Prop := t = (40, 0) ∧ (i = 27 ∨ i = 28 ∨ i = 29)
theorem c_mPairs (l : Launch) {S : Shp} {I : MI} {L : ML} {R : MR} (mg : MG S R) {n : Nat} (hn : I (40, 0) 6 = nI n) (hN : n ≤ 12) {m : Nat} (hm : I (40, 0) 18 = nI m) (hM : m ≤ 9) {wo : Nat → Int32} {F : Nat → Nat → Int32} (hwo : ∀ o, o < n → I (50, 0) o = wo o) (hF : ∀ k, k < m → ∀ o, o < n → I (50, 0) (23 + 12 * k + o) = F k o) (x : Int32) : Ct l mX9_findPairs 2 0 0 [.inr (.inr (some (40, 0))), .inl x] S I L R (PVm S L R (fun J => Fr fpP I J ∧ J (40, 0) 27 = nI (triN (gsm wo F x (nI 1) m) n) ∧ J (40, 0) 28 = nI (triN (gpm wo F x m) n) ∧ J (40, 0) 29 = nI (triN (gbm wo F x m) n))) := by
  refine Ct.of [some (.inr (.inr (some (40, 0)))), some (.inl x), none, none, none, none, none] (by decide) rfl (Nat.le_of_ble_eq_true rfl) ?_
  refine g_ald0 (pc' := 1) dX9_findPairs_0 rfl ?_
  refine g_iconst (pc' := 2) (v := nI 0) dX9_findPairs_1 rfl (by decide) ?_
  refine g_putI (pc' := 5) mg.s40 (by decide) ⟨fX9_260, rfl, pI⟩ dX9_findPairs_2 rfl ?_
  refine g_ald0 (pc' := 6) dX9_findPairs_5 rfl ?_
  refine g_iconst (pc' := 7) (v := nI 0) dX9_findPairs_6 rfl (by decide) ?_
  refine g_putI (pc' := 10) mg.s40 (by decide) ⟨fX9_263, rfl, pI⟩ dX9_findPairs_7 rfl ?_
  refine g_ald0 (pc' := 11) dX9_findPairs_10 rfl ?_
  refine g_iconst (pc' := 12) (v := nI 0) dX9_findPairs_11 rfl (by decide) ?_
  refine g_putI (pc' := 15) mg.s40 (by decide) ⟨fX9_266, rfl, pI⟩ dX9_findPairs_12 rfl ?_
  refine g_iconst (pc' := 16) (v := nI 0) dX9_findPairs_15 rfl (by decide) ?_
  refine g_ist2 (pc' := 17) rfl (by decide) dX9_findPairs_16 rfl ?_
  refine g_name (fun J0 hJ0 => ?_)
  refine g_loop (σ := MI) (fun a (J : MI) => Fr fpP I J ∧ J (40, 0) 27 = nI (triN (gsm wo F x (nI 1) m) a) ∧ J (40, 0) 28 = nI (triN (gpm wo F x m) a) ∧ J (40, 0) 29 = nI (triN (gbm wo F x m) a)) (fun a J => [some (.inr (.inr (some (40, 0)))), some (.inl x), some (.inl (nI a)), none, none, none, none]) (fun a J => J) n 0 J0 (by omega) ⟨by rw [hJ0]; exact ((Fr.rf.up (by simp [fpP])).up (by simp [fpP])).up (by simp [fpP]), by rw [hJ0]; simp [upM]; rfl, by rw [hJ0]; simp [upM]; rfl, by rw [hJ0]; simp [upM]; rfl⟩ ?_ ?_
  · intro a J ha hP iha
    have hnJ : J (40, 0) 6 = nI n := (hP.1 _ _ (by simp [fpP])).trans hn
    refine g_ild2 (pc' := 18) dX9_findPairs_17 rfl ?_
    refine g_ald0 (pc' := 19) dX9_findPairs_18 rfl ?_
    refine g_getI (pc' := 22) mg.s40 (by decide) fX9_99 hnJ dX9_findPairs_19 rfl ?_
    refine g_icmpgeN (pc' := 25) (by omega) (by omega) (tgt := 219) dX9_findPairs_22 (by decide) rfl (fun h22 => ?_) (fun h22 => ?_)
    · exact absurd h22 (by omega)
    · refine g_iconst (pc' := 26) (v := nI 0) dX9_findPairs_25 rfl (by decide) ?_
      refine g_ist3 (pc' := 27) rfl (by decide) dX9_findPairs_26 rfl ?_
      refine G.lsub [some (.inr (.inr (some (40, 0)))), some (.inl x), some (.inl (nI a)), some (.inl (nI 0)), none, none, none] (by intro j v; rcases j with _ | _ | _ | _ | _ | _ | _ | j <;> simp) ?_
      refine g_loop (σ := MI) (fun b (J : MI) => Fr fpP I J ∧ J (40, 0) 27 = nI (triN (gsm wo F x (nI 1) m) a + sN (fun b => (gsm wo F x (nI 1) m) a b) b) ∧ J (40, 0) 28 = nI (triN (gpm wo F x m) a + sN (fun b => (gpm wo F x m) a b) b) ∧ J (40, 0) 29 = nI (triN (gbm wo F x m) a + sN (fun b => (gbm wo F x m) a b) b)) (fun b J => [some (.inr (.inr (some (40, 0)))), some (.inl x), some (.inl (nI a)), some (.inl (nI b)), none, none, none]) (fun b J => J) a 0 J (by omega) ⟨hP.1, hP.2.1, hP.2.2.1, hP.2.2.2⟩ ?_ ?_
      · intro b J hb hQ ihb
        have hb2 : b < n := by omega
        have hnJ : J (40, 0) 6 = nI n := (hQ.1 _ _ (by simp [fpP])).trans hn
        have hmJ : J (40, 0) 18 = nI m := (hQ.1 _ _ (by simp [fpP])).trans hm
        have hwJ : ∀ o, o < n → J (50, 0) o = wo o := fun o ho => (hQ.1 _ _ (by simp [fpP])).trans (hwo o ho)
        have hFJ : ∀ k, k < m → ∀ o, o < n → J (50, 0) (23 + 12 * k + o) = F k o := fun k hk o ho => (hQ.1 _ _ (by simp [fpP])).trans (hF k hk o ho)
        refine g_ild3 (pc' := 28) dX9_findPairs_27 rfl ?_
        refine g_ild2 (pc' := 29) dX9_findPairs_28 rfl ?_
        refine g_icmpgeN (pc' := 32) (by omega) (by omega) (tgt := 213) dX9_findPairs_29 (by decide) rfl (fun h29 => ?_) (fun h29 => ?_)
        · exact absurd h29 (by omega)
        · refine g_iconst (pc' := 33) (v := nI 0) dX9_findPairs_32 rfl (by decide) ?_
          refine g_ist4 (pc' := 35) rfl (by decide) dX9_findPairs_33 rfl ?_
          refine g_iconst (pc' := 36) (v := nI 0) dX9_findPairs_35 rfl (by decide) ?_
          refine g_ist5 (pc' := 38) rfl (by decide) dX9_findPairs_36 rfl ?_
          refine g_iconst (pc' := 39) (v := nI 0) dX9_findPairs_38 rfl (by decide) ?_
          refine g_ist6 (pc' := 41) rfl (by decide) dX9_findPairs_39 rfl ?_
          by_cases heq : wo a = wo b
          · have hk0 : True := trivial
            refine g_ild6 (pc' := 43) dX9_findPairs_41 rfl ?_
            refine g_ald0 (pc' := 44) dX9_findPairs_43 rfl ?_
            refine g_getI (pc' := 47) mg.s40 (by decide) fX9_174 hmJ dX9_findPairs_44 rfl ?_
            refine g_icmpgeN (pc' := 50) (by omega) (by omega) (tgt := 156) dX9_findPairs_47 (by decide) rfl (fun h47 => ?_) (fun h47 => ?_)
            · have hz1 : (gsm wo F x (nI 1) m) a b = 0 := sN_0 (fun i => (wy_0 (Or.inr (cmp_0l heq))).1) m
              have hz2 : (gsm wo F x (-1) m) a b = 0 := sN_0 (fun i => (wy_0 (Or.inr (cmp_0l heq))).2) m
              have hz3 : (gpm wo F x m) a b = 0 := by unfold gpm; rw [hz1, hz2]
              have hgS := gsm_le (wo := wo) (F := F) (x := x) (y := nI 1) (m := m) (a := a) (b := b) hM
              have hgO := gsm_le (wo := wo) (F := F) (x := x) (y := -1) (m := m) (a := a) (b := b) hM
              have hgP : (gpm wo F x m) a b = (gsm wo F x (nI 1) m) a b + (gsm wo F x (-1) m) a b := rfl
              refine G.lsub [some (.inr (.inr (some (40, 0)))), some (.inl x), some (.inl (nI a)), some (.inl (nI b)), some (.inl (nI ((gsm wo F x (nI 1) m) a b))), some (.inl (nI ((gpm wo F x m) a b))), some (.inl (nI 0))] (by intro j v; rcases j with _ | _ | _ | _ | _ | _ | _ | j <;> simp [hz1, hz3]) ?_
              refine g_ald0 (pc' := 157) dX9_findPairs_156 rfl ?_
              refine g_dupR (pc' := 158) dX9_findPairs_157 rfl ?_
              refine g_getI (pc' := 161) mg.s40 (by decide) fX9_260 (v := nI (triN (gsm wo F x (nI 1) m) a + sN (fun b => (gsm wo F x (nI 1) m) a b) b)) (hQ.2.1) dX9_findPairs_158 rfl ?_
              refine g_ild4 (pc' := 163) dX9_findPairs_161 rfl ?_
              refine g_iaddN (pc' := 164) dX9_findPairs_163 rfl ?_
              refine g_putI (pc' := 167) mg.s40 (by decide) ⟨fX9_260, rfl, pI⟩ dX9_findPairs_164 rfl ?_
              refine g_ald0 (pc' := 168) dX9_findPairs_167 rfl ?_
              refine g_dupR (pc' := 169) dX9_findPairs_168 rfl ?_
              refine g_getI (pc' := 172) mg.s40 (by decide) fX9_263 (v := nI (triN (gpm wo F x m) a + sN (fun b => (gpm wo F x m) a b) b)) (by rw [upM_k _ _ (by decide)]; exact hQ.2.2.1) dX9_findPairs_169 rfl ?_
              refine g_ild5 (pc' := 174) dX9_findPairs_172 rfl ?_
              refine g_iaddN (pc' := 175) dX9_findPairs_174 rfl ?_
              refine g_putI (pc' := 178) mg.s40 (by decide) ⟨fX9_263, rfl, pI⟩ dX9_findPairs_175 rfl ?_
              refine g_ald0 (pc' := 179) dX9_findPairs_178 rfl ?_
              refine g_dupR (pc' := 180) dX9_findPairs_179 rfl ?_
              refine g_getI (pc' := 183) mg.s40 (by decide) fX9_266 (v := nI (triN (gbm wo F x m) a + sN (fun b => (gbm wo F x m) a b) b)) (by rw [upM_k _ _ (by decide), upM_k _ _ (by decide)]; exact hQ.2.2.2) dX9_findPairs_180 rfl ?_
              refine g_ild4 (pc' := 185) dX9_findPairs_183 rfl ?_
              refine g_ild5 (pc' := 187) dX9_findPairs_185 rfl ?_
              refine g_ild4 (pc' := 189) dX9_findPairs_187 rfl ?_
              refine g_isubN (pc' := 190) (by omega) dX9_findPairs_189 rfl ?_
              refine g_icmpleN (pc' := 193) (by omega) (by omega) (tgt := 198) dX9_findPairs_190 (by decide) rfl (fun h190 => ?_) (fun h190 => ?_)
              · refine g_ild5 (pc' := 200) dX9_findPairs_198 rfl ?_
                refine g_ild4 (pc' := 202) dX9_findPairs_200 rfl ?_
                refine g_isubN (pc' := 203) (by omega) dX9_findPairs_202 rfl ?_
                refine g_iaddN (pc' := 204) dX9_findPairs_203 rfl ?_
                refine g_putI (pc' := 207) mg.s40 (by decide) ⟨fX9_266, rfl, pI⟩ dX9_findPairs_204 rfl ?_
                refine g_inc3 (pc' := 210) rfl (by decide) (v := nI (b + 1)) (nI_1 _) dX9_findPairs_207 rfl ?_
                refine g_goto (tgt := 27) dX9_findPairs_210 (by decide) ?_
                have hmx : (gbm wo F x m) a b = (gpm wo F x m) a b - (gsm wo F x (nI 1) m) a b := by unfold gbm; simp only [gpm] at h190 ⊢; omega
                refine G.lsub [some (.inr (.inr (some (40, 0)))), some (.inl x), some (.inl (nI a)), some (.inl (nI (b + 1))), none, none, none] (by intro j v; rcases j with _ | _ | _ | _ | _ | _ | _ | j <;> simp) ?_
                refine ihb _ ⟨((hQ.1.up (by simp [fpP])).up (by simp [fpP])).up (by simp [fpP]), ?_, ?_, ?_⟩
                · rw [upM_k _ _ (by decide), upM_k _ _ (by decide), upM_s, sN_s, Nat.add_assoc]
                · rw [upM_k _ _ (by decide), upM_s, sN_s, Nat.add_assoc]
                · rw [upM_s, sN_s, ← Nat.add_assoc]
                  rw [show (gbm wo F x m) a b = (gpm wo F x m) a b - (gsm wo F x (nI 1) m) a b from hmx]
              · refine g_ild4 (pc' := 195) dX9_findPairs_193 rfl ?_
                refine g_goto (tgt := 203) dX9_findPairs_195 (by decide) ?_
                refine g_iaddN (pc' := 204) dX9_findPairs_203 rfl ?_
                refine g_putI (pc' := 207) mg.s40 (by decide) ⟨fX9_266, rfl, pI⟩ dX9_findPairs_204 rfl ?_
                refine g_inc3 (pc' := 210) rfl (by decide) (v := nI (b + 1)) (nI_1 _) dX9_findPairs_207 rfl ?_
                refine g_goto (tgt := 27) dX9_findPairs_210 (by decide) ?_
                have hmx : (gbm wo F x m) a b = (gsm wo F x (nI 1) m) a b := by unfold gbm; simp only [gpm] at h190 ⊢; omega
                refine G.lsub [some (.inr (.inr (some (40, 0)))), some (.inl x), some (.inl (nI a)), some (.inl (nI (b + 1))), none, none, none] (by intro j v; rcases j with _ | _ | _ | _ | _ | _ | _ | j <;> simp) ?_
                refine ihb _ ⟨((hQ.1.up (by simp [fpP])).up (by simp [fpP])).up (by simp [fpP]), ?_, ?_, ?_⟩
                · rw [upM_k _ _ (by decide), upM_k _ _ (by decide), upM_s, sN_s, Nat.add_assoc]
                · rw [upM_k _ _ (by decide), upM_s, sN_s, Nat.add_assoc]
                · rw [upM_s, sN_s, ← Nat.add_assoc]
                  rw [show (gbm wo F x m) a b = (gsm wo F x (nI 1) m) a b from hmx]
            · refine g_ald0 (pc' := 51) dX9_findPairs_50 rfl ?_
              refine g_getR (pc' := 54) mg.s40 (by decide) fX9_9 mg.r40_0 dX9_findPairs_51 rfl ?_
              refine g_ild2 (pc' := 55) dX9_findPairs_54 rfl ?_
              refine g_iald (pc' := 56) (j := a) mg.s50 rfl (by omega) (by decide) (v := wo a) (hwJ a ha) dX9_findPairs_55 rfl ?_
              refine g_ald0 (pc' := 57) dX9_findPairs_56 rfl ?_
              refine g_getR (pc' := 60) mg.s40 (by decide) fX9_9 mg.r40_0 dX9_findPairs_57 rfl ?_
              refine g_ild3 (pc' := 61) dX9_findPairs_60 rfl ?_
              refine g_iald (pc' := 62) (j := b) mg.s50 rfl (by omega) (by decide) (v := wo b) (hwJ b hb2) dX9_findPairs_61 rfl ?_
              refine g_icmpeq (pc' := 65) (tgt := 156) dX9_findPairs_62 (by decide) rfl (fun h62 => ?_) (fun h62 => (by first | exact absurd h62 heq | exact absurd heq h62))
              have hz1 : (gsm wo F x (nI 1) m) a b = 0 := sN_0 (fun i => (wy_0 (Or.inr (cmp_0l heq))).1) m
              have hz2 : (gsm wo F x (-1) m) a b = 0 := sN_0 (fun i => (wy_0 (Or.inr (cmp_0l heq))).2) m
              have hz3 : (gpm wo F x m) a b = 0 := by unfold gpm; rw [hz1, hz2]
              have hgS := gsm_le (wo := wo) (F := F) (x := x) (y := nI 1) (m := m) (a := a) (b := b) hM
              have hgO := gsm_le (wo := wo) (F := F) (x := x) (y := -1) (m := m) (a := a) (b := b) hM
              have hgP : (gpm wo F x m) a b = (gsm wo F x (nI 1) m) a b + (gsm wo F x (-1) m) a b := rfl
              refine G.lsub [some (.inr (.inr (some (40, 0)))), some (.inl x), some (.inl (nI a)), some (.inl (nI b)), some (.inl (nI ((gsm wo F x (nI 1) m) a b))), some (.inl (nI ((gpm wo F x m) a b))), some (.inl (nI 0))] (by intro j v; rcases j with _ | _ | _ | _ | _ | _ | _ | j <;> simp [hz1, hz3]) ?_
              refine g_ald0 (pc' := 157) dX9_findPairs_156 rfl ?_
              refine g_dupR (pc' := 158) dX9_findPairs_157 rfl ?_
              refine g_getI (pc' := 161) mg.s40 (by decide) fX9_260 (v := nI (triN (gsm wo F x (nI 1) m) a + sN (fun b => (gsm wo F x (nI 1) m) a b) b)) (hQ.2.1) dX9_findPairs_158 rfl ?_
              refine g_ild4 (pc' := 163) dX9_findPairs_161 rfl ?_
              refine g_iaddN (pc' := 164) dX9_findPairs_163 rfl ?_
              refine g_putI (pc' := 167) mg.s40 (by decide) ⟨fX9_260, rfl, pI⟩ dX9_findPairs_164 rfl ?_
              refine g_ald0 (pc' := 168) dX9_findPairs_167 rfl ?_
              refine g_dupR (pc' := 169) dX9_findPairs_168 rfl ?_
              refine g_getI (pc' := 172) mg.s40 (by decide) fX9_263 (v := nI (triN (gpm wo F x m) a + sN (fun b => (gpm wo F x m) a b) b)) (by rw [upM_k _ _ (by decide)]; exact hQ.2.2.1) dX9_findPairs_169 rfl ?_
              refine g_ild5 (pc' := 174) dX9_findPairs_172 rfl ?_
              refine g_iaddN (pc' := 175) dX9_findPairs_174 rfl ?_
              refine g_putI (pc' := 178) mg.s40 (by decide) ⟨fX9_263, rfl, pI⟩ dX9_findPairs_175 rfl ?_
              refine g_ald0 (pc' := 179) dX9_findPairs_178 rfl ?_
              refine g_dupR (pc' := 180) dX9_findPairs_179 rfl ?_
              refine g_getI (pc' := 183) mg.s40 (by decide) fX9_266 (v := nI (triN (gbm wo F x m) a + sN (fun b => (gbm wo F x m) a b) b)) (by rw [upM_k _ _ (by decide), upM_k _ _ (by decide)]; exact hQ.2.2.2) dX9_findPairs_180 rfl ?_
              refine g_ild4 (pc' := 185) dX9_findPairs_183 rfl ?_
              refine g_ild5 (pc' := 187) dX9_findPairs_185 rfl ?_
              refine g_ild4 (pc' := 189) dX9_findPairs_187 rfl ?_
              refine g_isubN (pc' := 190) (by omega) dX9_findPairs_189 rfl ?_
              refine g_icmpleN (pc' := 193) (by omega) (by omega) (tgt := 198) dX9_findPairs_190 (by decide) rfl (fun h190 => ?_) (fun h190 => ?_)
              · refine g_ild5 (pc' := 200) dX9_findPairs_198 rfl ?_
                refine g_ild4 (pc' := 202) dX9_findPairs_200 rfl ?_
                refine g_isubN (pc' := 203) (by omega) dX9_findPairs_202 rfl ?_
                refine g_iaddN (pc' := 204) dX9_findPairs_203 rfl ?_
                refine g_putI (pc' := 207) mg.s40 (by decide) ⟨fX9_266, rfl, pI⟩ dX9_findPairs_204 rfl ?_
                refine g_inc3 (pc' := 210) rfl (by decide) (v := nI (b + 1)) (nI_1 _) dX9_findPairs_207 rfl ?_
                refine g_goto (tgt := 27) dX9_findPairs_210 (by decide) ?_
                have hmx : (gbm wo F x m) a b = (gpm wo F x m) a b - (gsm wo F x (nI 1) m) a b := by unfold gbm; simp only [gpm] at h190 ⊢; omega
                refine G.lsub [some (.inr (.inr (some (40, 0)))), some (.inl x), some (.inl (nI a)), some (.inl (nI (b + 1))), none, none, none] (by intro j v; rcases j with _ | _ | _ | _ | _ | _ | _ | j <;> simp) ?_
                refine ihb _ ⟨((hQ.1.up (by simp [fpP])).up (by simp [fpP])).up (by simp [fpP]), ?_, ?_, ?_⟩
                · rw [upM_k _ _ (by decide), upM_k _ _ (by decide), upM_s, sN_s, Nat.add_assoc]
                · rw [upM_k _ _ (by decide), upM_s, sN_s, Nat.add_assoc]
                · rw [upM_s, sN_s, ← Nat.add_assoc]
                  rw [show (gbm wo F x m) a b = (gpm wo F x m) a b - (gsm wo F x (nI 1) m) a b from hmx]
              · refine g_ild4 (pc' := 195) dX9_findPairs_193 rfl ?_
                refine g_goto (tgt := 203) dX9_findPairs_195 (by decide) ?_
                refine g_iaddN (pc' := 204) dX9_findPairs_203 rfl ?_
                refine g_putI (pc' := 207) mg.s40 (by decide) ⟨fX9_266, rfl, pI⟩ dX9_findPairs_204 rfl ?_
                refine g_inc3 (pc' := 210) rfl (by decide) (v := nI (b + 1)) (nI_1 _) dX9_findPairs_207 rfl ?_
                refine g_goto (tgt := 27) dX9_findPairs_210 (by decide) ?_
                have hmx : (gbm wo F x m) a b = (gsm wo F x (nI 1) m) a b := by unfold gbm; simp only [gpm] at h190 ⊢; omega
                refine G.lsub [some (.inr (.inr (some (40, 0)))), some (.inl x), some (.inl (nI a)), some (.inl (nI (b + 1))), none, none, none] (by intro j v; rcases j with _ | _ | _ | _ | _ | _ | _ | j <;> simp) ?_
                refine ihb _ ⟨((hQ.1.up (by simp [fpP])).up (by simp [fpP])).up (by simp [fpP]), ?_, ?_, ?_⟩
                · rw [upM_k _ _ (by decide), upM_k _ _ (by decide), upM_s, sN_s, Nat.add_assoc]
                · rw [upM_k _ _ (by decide), upM_s, sN_s, Nat.add_assoc]
                · rw [upM_s, sN_s, ← Nat.add_assoc]
                  rw [show (gbm wo F x m) a b = (gsm wo F x (nI 1) m) a b from hmx]
          · have hne : ¬ wo a = wo b := heq
            refine g_loop (σ := Unit) (fun _ _ => True) (fun k _ => [some (.inr (.inr (some (40, 0)))), some (.inl x), some (.inl (nI a)), some (.inl (nI b)), some (.inl (nI (sN (wyM wo F x (nI 1) a b) k))), some (.inl (nI (sN (wyM wo F x (nI 1) a b) k + sN (wyM wo F x (-1) a b) k))), some (.inl (nI k))]) (fun _ _ => J) m 0 () (by omega) trivial ?_ ?_
            · intro k _ hk hR ihk
              have hs1 := sN_le (wyM_le wo F x (nI 1) a b) k
              have hs2 := sN_le (wyM_le wo F x (-1) a b) k
              refine g_ild6 (pc' := 43) dX9_findPairs_41 rfl ?_
              refine g_ald0 (pc' := 44) dX9_findPairs_43 rfl ?_
              refine g_getI (pc' := 47) mg.s40 (by decide) fX9_174 hmJ dX9_findPairs_44 rfl ?_
              refine g_icmpgeN (pc' := 50) (by omega) (by omega) (tgt := 156) dX9_findPairs_47 (by decide) rfl (fun h47 => ?_) (fun h47 => ?_)
              · exact absurd h47 (by omega)
              · refine g_ald0 (pc' := 51) dX9_findPairs_50 rfl ?_
                refine g_getR (pc' := 54) mg.s40 (by decide) fX9_9 mg.r40_0 dX9_findPairs_51 rfl ?_
                refine g_ild2 (pc' := 55) dX9_findPairs_54 rfl ?_
                refine g_iald (pc' := 56) (j := a) mg.s50 rfl (by omega) (by decide) (v := wo a) (hwJ a ha) dX9_findPairs_55 rfl ?_
                refine g_ald0 (pc' := 57) dX9_findPairs_56 rfl ?_
                refine g_getR (pc' := 60) mg.s40 (by decide) fX9_9 mg.r40_0 dX9_findPairs_57 rfl ?_
                refine g_ild3 (pc' := 61) dX9_findPairs_60 rfl ?_
                refine g_iald (pc' := 62) (j := b) mg.s50 rfl (by omega) (by decide) (v := wo b) (hwJ b hb2) dX9_findPairs_61 rfl ?_
                refine g_icmpeq (pc' := 65) (tgt := 156) dX9_findPairs_62 (by decide) rfl (fun h62 => (by first | exact absurd h62 hne | exact absurd hne h62)) (fun h62 => ?_)
                refine g_ild1 (pc' := 66) dX9_findPairs_65 rfl ?_
                refine g_ild6 (pc' := 68) dX9_findPairs_66 rfl ?_
                refine g_ishr (pc' := 69) dX9_findPairs_68 rfl ?_
                refine g_iconst (pc' := 70) (v := nI 1) dX9_findPairs_69 rfl (by decide) ?_
                refine g_iand (pc' := 71) dX9_findPairs_70 rfl ?_
                refine g_iconst (pc' := 72) (v := nI 1) dX9_findPairs_71 rfl (by decide) ?_
                refine g_icmpne (pc' := 75) (tgt := 150) dX9_findPairs_72 (by decide) rfl (fun h72 => ?_) (fun h72 => ?_)
                · refine g_inc6 (pc' := 153) rfl (by decide) (v := nI (k + 1)) (nI_1 _) dX9_findPairs_150 rfl ?_
                  refine g_goto (tgt := 41) dX9_findPairs_153 (by decide) ?_
                  have hs1 := sN_le (wyM_le wo F x (nI 1) a b) k
                  have hs2 := sN_le (wyM_le wo F x (-1) a b) k
                  have e := wy_0 (wo := wo) (F := F) (x := x) (a := a) (b := b) (i := k) (by first | exact Or.inl h72 | exact Or.inr (cmp_0r h89))
                  have hI := ihk () trivial
                  rw [sN_s, sN_s, e.1, e.2, Nat.add_zero, Nat.add_zero] at hI
                  exact hI
                · refine g_ald0 (pc' := 76) dX9_findPairs_75 rfl ?_
                  refine g_ild6 (pc' := 78) dX9_findPairs_76 rfl ?_
                  refine g_ild2 (pc' := 79) dX9_findPairs_78 rfl ?_
                  refine g_callV (pc' := 82) (c_mCount l mg (w := k) (by omega) (by omega) (hFJ k hk a ha)) mg.s40 (by decide) wX9_countOf lX9_191 rfl rfl (Nat.le_of_ble_eq_true rfl) ⟨Nat.le_of_ble_eq_true rfl, Nat.le_of_ble_eq_true rfl⟩ ⟨Nat.le_of_ble_eq_true rfl, Nat.le_of_ble_eq_true rfl⟩ dX9_findPairs_79 rfl (kIp ?_)
                  refine g_ald0 (pc' := 83) dX9_findPairs_82 rfl ?_
                  refine g_ild6 (pc' := 85) dX9_findPairs_83 rfl ?_
                  refine g_ild3 (pc' := 86) dX9_findPairs_85 rfl ?_
                  refine g_callV (pc' := 89) (c_mCount l mg (w := k) (by omega) (by omega) (hFJ k hk b hb2)) mg.s40 (by decide) wX9_countOf lX9_191 rfl rfl (Nat.le_of_ble_eq_true rfl) ⟨Nat.le_of_ble_eq_true rfl, Nat.le_of_ble_eq_true rfl⟩ ⟨Nat.le_of_ble_eq_true rfl, Nat.le_of_ble_eq_true rfl⟩ dX9_findPairs_86 rfl (kIp ?_)
                  refine g_icmpeq (pc' := 92) (tgt := 150) dX9_findPairs_89 (by decide) rfl (fun h89 => ?_) (fun h89 => ?_)
                  · refine g_inc6 (pc' := 153) rfl (by decide) (v := nI (k + 1)) (nI_1 _) dX9_findPairs_150 rfl ?_
                    refine g_goto (tgt := 41) dX9_findPairs_153 (by decide) ?_
                    have hs1 := sN_le (wyM_le wo F x (nI 1) a b) k
                    have hs2 := sN_le (wyM_le wo F x (-1) a b) k
                    have e := wy_0 (wo := wo) (F := F) (x := x) (a := a) (b := b) (i := k) (by first | exact Or.inl h72 | exact Or.inr (cmp_0r h89))
                    have hI := ihk () trivial
                    rw [sN_s, sN_s, e.1, e.2, Nat.add_zero, Nat.add_zero] at hI
                    exact hI
                  · refine g_inc5 (pc' := 95) rfl (by decide) (v := nI (sN (wyM wo F x (nI 1) a b) k + sN (wyM wo F x (-1) a b) k + 1)) (nI_1 _) dX9_findPairs_92 rfl ?_
                    refine g_ild4 (pc' := 97) dX9_findPairs_95 rfl ?_
                    refine g_ald0 (pc' := 98) dX9_findPairs_97 rfl ?_
                    refine g_getR (pc' := 101) mg.s40 (by decide) fX9_9 mg.r40_0 dX9_findPairs_98 rfl ?_
                    refine g_ild2 (pc' := 102) dX9_findPairs_101 rfl ?_
                    refine g_iald (pc' := 103) (j := a) mg.s50 rfl (by omega) (by decide) (v := wo a) (hwJ a ha) dX9_findPairs_102 rfl ?_
                    refine g_ald0 (pc' := 104) dX9_findPairs_103 rfl ?_
                    refine g_getR (pc' := 107) mg.s40 (by decide) fX9_9 mg.r40_0 dX9_findPairs_104 rfl ?_
                    refine g_ild3 (pc' := 108) dX9_findPairs_107 rfl ?_
                    refine g_iald (pc' := 109) (j := b) mg.s50 rfl (by omega) (by decide) (v := wo b) (hwJ b hb2) dX9_findPairs_108 rfl ?_
                    refine g_icmple (pc' := 112) (tgt := 116) dX9_findPairs_109 (by decide) rfl (fun h109 => ?_) (fun h109 => ?_)
                    · refine g_iconst (pc' := 117) (v := nI 0) dX9_findPairs_116 rfl (by decide) ?_
                      refine g_ald0 (pc' := 118) dX9_findPairs_117 rfl ?_
                      refine g_ild6 (pc' := 120) dX9_findPairs_118 rfl ?_
                      refine g_ild2 (pc' := 121) dX9_findPairs_120 rfl ?_
                      refine g_callV (pc' := 124) (c_mCount l mg (w := k) (by omega) (by omega) (hFJ k hk a ha)) mg.s40 (by decide) wX9_countOf lX9_191 rfl rfl (Nat.le_of_ble_eq_true rfl) ⟨Nat.le_of_ble_eq_true rfl, Nat.le_of_ble_eq_true rfl⟩ ⟨Nat.le_of_ble_eq_true rfl, Nat.le_of_ble_eq_true rfl⟩ dX9_findPairs_121 rfl (kIp ?_)
                      refine g_ald0 (pc' := 125) dX9_findPairs_124 rfl ?_
                      refine g_ild6 (pc' := 127) dX9_findPairs_125 rfl ?_
                      refine g_ild3 (pc' := 128) dX9_findPairs_127 rfl ?_
                      refine g_callV (pc' := 131) (c_mCount l mg (w := k) (by omega) (by omega) (hFJ k hk b hb2)) mg.s40 (by decide) wX9_countOf lX9_191 rfl rfl (Nat.le_of_ble_eq_true rfl) ⟨Nat.le_of_ble_eq_true rfl, Nat.le_of_ble_eq_true rfl⟩ ⟨Nat.le_of_ble_eq_true rfl, Nat.le_of_ble_eq_true rfl⟩ dX9_findPairs_128 rfl (kIp ?_)
                      refine g_icmple (pc' := 134) (tgt := 138) dX9_findPairs_131 (by decide) rfl (fun h131 => ?_) (fun h131 => ?_)
                      · refine g_iconst (pc' := 139) (v := nI 0) dX9_findPairs_138 rfl (by decide) ?_
                        refine g_icmpneN (pc' := 142) (by omega) (by omega) (tgt := 146) dX9_findPairs_139 (by decide) rfl (fun h139 => (by first | exact absurd h139 (by decide) | exact absurd (by decide) h139)) (fun h139 => ?_)
                        refine g_iconst (pc' := 143) (v := nI 1) dX9_findPairs_142 rfl (by decide) ?_
                        refine g_goto (tgt := 147) dX9_findPairs_143 (by decide) ?_
                        refine g_iaddN (pc' := 148) dX9_findPairs_147 rfl ?_
                        refine g_ist4 (pc' := 150) rfl (by decide) dX9_findPairs_148 rfl ?_
                        refine g_inc6 (pc' := 153) rfl (by decide) (v := nI (k + 1)) (nI_1 _) dX9_findPairs_150 rfl ?_
                        refine g_goto (tgt := 41) dX9_findPairs_153 (by decide) ?_
                        have e := wy_s (wo := wo) (F := F) (x := x) (a := a) (b := b) (i := k) h72 (by first | (rw [cmp_g h109, cmp_g h131]; exact cmp_p1.1) | (rw [cmp_l h109 hne, cmp_l h131 h89]; exact cmp_p1.2.1))
                        have hI := ihk () trivial
                        rw [sN_s, sN_s, e.1, e.2, Nat.add_zero, Nat.add_right_comm] at hI
                        exact hI
                      · refine g_iconst (pc' := 135) (v := nI 1) dX9_findPairs_134 rfl (by decide) ?_
                        refine g_goto (tgt := 139) dX9_findPairs_135 (by decide) ?_
                        refine g_icmpneN (pc' := 142) (by omega) (by omega) (tgt := 146) dX9_findPairs_139 (by decide) rfl (fun h139 => ?_) (fun h139 => (by first | exact absurd h139 (by decide) | exact absurd (by decide) h139))
                        refine g_iconst (pc' := 147) (v := nI 0) dX9_findPairs_146 rfl (by decide) ?_
                        refine g_iaddN (pc' := 148) dX9_findPairs_147 rfl ?_
                        refine g_ist4 (pc' := 150) rfl (by decide) dX9_findPairs_148 rfl ?_
                        refine g_inc6 (pc' := 153) rfl (by decide) (v := nI (k + 1)) (nI_1 _) dX9_findPairs_150 rfl ?_
                        refine g_goto (tgt := 41) dX9_findPairs_153 (by decide) ?_
                        have e := wy_o (wo := wo) (F := F) (x := x) (a := a) (b := b) (i := k) h72 (by first | (rw [cmp_g h109, cmp_l h131 h89]; exact cmp_p1.2.2.1) | (rw [cmp_l h109 hne, cmp_g h131]; exact cmp_p1.2.2.2.1))
                        have hI := ihk () trivial
                        rw [sN_s, sN_s, e.1, e.2, Nat.add_zero, ← Nat.add_assoc] at hI
                        exact hI
                    · refine g_iconst (pc' := 113) (v := nI 1) dX9_findPairs_112 rfl (by decide) ?_
                      refine g_goto (tgt := 117) dX9_findPairs_113 (by decide) ?_
                      refine g_ald0 (pc' := 118) dX9_findPairs_117 rfl ?_
                      refine g_ild6 (pc' := 120) dX9_findPairs_118 rfl ?_
                      refine g_ild2 (pc' := 121) dX9_findPairs_120 rfl ?_
                      refine g_callV (pc' := 124) (c_mCount l mg (w := k) (by omega) (by omega) (hFJ k hk a ha)) mg.s40 (by decide) wX9_countOf lX9_191 rfl rfl (Nat.le_of_ble_eq_true rfl) ⟨Nat.le_of_ble_eq_true rfl, Nat.le_of_ble_eq_true rfl⟩ ⟨Nat.le_of_ble_eq_true rfl, Nat.le_of_ble_eq_true rfl⟩ dX9_findPairs_121 rfl (kIp ?_)
                      refine g_ald0 (pc' := 125) dX9_findPairs_124 rfl ?_
                      refine g_ild6 (pc' := 127) dX9_findPairs_125 rfl ?_
                      refine g_ild3 (pc' := 128) dX9_findPairs_127 rfl ?_
                      refine g_callV (pc' := 131) (c_mCount l mg (w := k) (by omega) (by omega) (hFJ k hk b hb2)) mg.s40 (by decide) wX9_countOf lX9_191 rfl rfl (Nat.le_of_ble_eq_true rfl) ⟨Nat.le_of_ble_eq_true rfl, Nat.le_of_ble_eq_true rfl⟩ ⟨Nat.le_of_ble_eq_true rfl, Nat.le_of_ble_eq_true rfl⟩ dX9_findPairs_128 rfl (kIp ?_)
                      refine g_icmple (pc' := 134) (tgt := 138) dX9_findPairs_131 (by decide) rfl (fun h131 => ?_) (fun h131 => ?_)
                      · refine g_iconst (pc' := 139) (v := nI 0) dX9_findPairs_138 rfl (by decide) ?_
                        refine g_icmpneN (pc' := 142) (by omega) (by omega) (tgt := 146) dX9_findPairs_139 (by decide) rfl (fun h139 => ?_) (fun h139 => (by first | exact absurd h139 (by decide) | exact absurd (by decide) h139))
                        refine g_iconst (pc' := 147) (v := nI 0) dX9_findPairs_146 rfl (by decide) ?_
                        refine g_iaddN (pc' := 148) dX9_findPairs_147 rfl ?_
                        refine g_ist4 (pc' := 150) rfl (by decide) dX9_findPairs_148 rfl ?_
                        refine g_inc6 (pc' := 153) rfl (by decide) (v := nI (k + 1)) (nI_1 _) dX9_findPairs_150 rfl ?_
                        refine g_goto (tgt := 41) dX9_findPairs_153 (by decide) ?_
                        have e := wy_o (wo := wo) (F := F) (x := x) (a := a) (b := b) (i := k) h72 (by first | (rw [cmp_g h109, cmp_l h131 h89]; exact cmp_p1.2.2.1) | (rw [cmp_l h109 hne, cmp_g h131]; exact cmp_p1.2.2.2.1))
                        have hI := ihk () trivial
                        rw [sN_s, sN_s, e.1, e.2, Nat.add_zero, ← Nat.add_assoc] at hI
                        exact hI
                      · refine g_iconst (pc' := 135) (v := nI 1) dX9_findPairs_134 rfl (by decide) ?_
                        refine g_goto (tgt := 139) dX9_findPairs_135 (by decide) ?_
                        refine g_icmpneN (pc' := 142) (by omega) (by omega) (tgt := 146) dX9_findPairs_139 (by decide) rfl (fun h139 => (by first | exact absurd h139 (by decide) | exact absurd (by decide) h139)) (fun h139 => ?_)
                        refine g_iconst (pc' := 143) (v := nI 1) dX9_findPairs_142 rfl (by decide) ?_
                        refine g_goto (tgt := 147) dX9_findPairs_143 (by decide) ?_
                        refine g_iaddN (pc' := 148) dX9_findPairs_147 rfl ?_
                        refine g_ist4 (pc' := 150) rfl (by decide) dX9_findPairs_148 rfl ?_
                        refine g_inc6 (pc' := 153) rfl (by decide) (v := nI (k + 1)) (nI_1 _) dX9_findPairs_150 rfl ?_
                        refine g_goto (tgt := 41) dX9_findPairs_153 (by decide) ?_
                        have e := wy_s (wo := wo) (F := F) (x := x) (a := a) (b := b) (i := k) h72 (by first | (rw [cmp_g h109, cmp_g h131]; exact cmp_p1.1) | (rw [cmp_l h109 hne, cmp_l h131 h89]; exact cmp_p1.2.1))
                        have hI := ihk () trivial
                        rw [sN_s, sN_s, e.1, e.2, Nat.add_zero, Nat.add_right_comm] at hI
                        exact hI
            · intro _ hR
              refine g_ild6 (pc' := 43) dX9_findPairs_41 rfl ?_
              refine g_ald0 (pc' := 44) dX9_findPairs_43 rfl ?_
              refine g_getI (pc' := 47) mg.s40 (by decide) fX9_174 hmJ dX9_findPairs_44 rfl ?_
              refine g_icmpgeN (pc' := 50) (by omega) (by omega) (tgt := 156) dX9_findPairs_47 (by decide) rfl (fun h47 => ?_) (fun h47 => ?_)
              · have hgS := gsm_le (wo := wo) (F := F) (x := x) (y := nI 1) (m := m) (a := a) (b := b) hM
                have hgO := gsm_le (wo := wo) (F := F) (x := x) (y := -1) (m := m) (a := a) (b := b) hM
                have hgP : (gpm wo F x m) a b = (gsm wo F x (nI 1) m) a b + (gsm wo F x (-1) m) a b := rfl
                have q1 : sN (wyM wo F x (nI 1) a b) m = (gsm wo F x (nI 1) m) a b := rfl
                have q2 : sN (wyM wo F x (-1) a b) m = (gsm wo F x (-1) m) a b := rfl
                rw [q1, q2, ← hgP]
                refine g_ald0 (pc' := 157) dX9_findPairs_156 rfl ?_
                refine g_dupR (pc' := 158) dX9_findPairs_157 rfl ?_
                refine g_getI (pc' := 161) mg.s40 (by decide) fX9_260 (v := nI (triN (gsm wo F x (nI 1) m) a + sN (fun b => (gsm wo F x (nI 1) m) a b) b)) (hQ.2.1) dX9_findPairs_158 rfl ?_
                refine g_ild4 (pc' := 163) dX9_findPairs_161 rfl ?_
                refine g_iaddN (pc' := 164) dX9_findPairs_163 rfl ?_
                refine g_putI (pc' := 167) mg.s40 (by decide) ⟨fX9_260, rfl, pI⟩ dX9_findPairs_164 rfl ?_
                refine g_ald0 (pc' := 168) dX9_findPairs_167 rfl ?_
                refine g_dupR (pc' := 169) dX9_findPairs_168 rfl ?_
                refine g_getI (pc' := 172) mg.s40 (by decide) fX9_263 (v := nI (triN (gpm wo F x m) a + sN (fun b => (gpm wo F x m) a b) b)) (by rw [upM_k _ _ (by decide)]; exact hQ.2.2.1) dX9_findPairs_169 rfl ?_
                refine g_ild5 (pc' := 174) dX9_findPairs_172 rfl ?_
                refine g_iaddN (pc' := 175) dX9_findPairs_174 rfl ?_
                refine g_putI (pc' := 178) mg.s40 (by decide) ⟨fX9_263, rfl, pI⟩ dX9_findPairs_175 rfl ?_
                refine g_ald0 (pc' := 179) dX9_findPairs_178 rfl ?_
                refine g_dupR (pc' := 180) dX9_findPairs_179 rfl ?_
                refine g_getI (pc' := 183) mg.s40 (by decide) fX9_266 (v := nI (triN (gbm wo F x m) a + sN (fun b => (gbm wo F x m) a b) b)) (by rw [upM_k _ _ (by decide), upM_k _ _ (by decide)]; exact hQ.2.2.2) dX9_findPairs_180 rfl ?_
                refine g_ild4 (pc' := 185) dX9_findPairs_183 rfl ?_
                refine g_ild5 (pc' := 187) dX9_findPairs_185 rfl ?_
                refine g_ild4 (pc' := 189) dX9_findPairs_187 rfl ?_
                refine g_isubN (pc' := 190) (by omega) dX9_findPairs_189 rfl ?_
                refine g_icmpleN (pc' := 193) (by omega) (by omega) (tgt := 198) dX9_findPairs_190 (by decide) rfl (fun h190 => ?_) (fun h190 => ?_)
                · refine g_ild5 (pc' := 200) dX9_findPairs_198 rfl ?_
                  refine g_ild4 (pc' := 202) dX9_findPairs_200 rfl ?_
                  refine g_isubN (pc' := 203) (by omega) dX9_findPairs_202 rfl ?_
                  refine g_iaddN (pc' := 204) dX9_findPairs_203 rfl ?_
                  refine g_putI (pc' := 207) mg.s40 (by decide) ⟨fX9_266, rfl, pI⟩ dX9_findPairs_204 rfl ?_
                  refine g_inc3 (pc' := 210) rfl (by decide) (v := nI (b + 1)) (nI_1 _) dX9_findPairs_207 rfl ?_
                  refine g_goto (tgt := 27) dX9_findPairs_210 (by decide) ?_
                  have hmx : (gbm wo F x m) a b = (gpm wo F x m) a b - (gsm wo F x (nI 1) m) a b := by unfold gbm; simp only [gpm] at h190 ⊢; omega
                  refine G.lsub [some (.inr (.inr (some (40, 0)))), some (.inl x), some (.inl (nI a)), some (.inl (nI (b + 1))), none, none, none] (by intro j v; rcases j with _ | _ | _ | _ | _ | _ | _ | j <;> simp) ?_
                  refine ihb _ ⟨((hQ.1.up (by simp [fpP])).up (by simp [fpP])).up (by simp [fpP]), ?_, ?_, ?_⟩
                  · rw [upM_k _ _ (by decide), upM_k _ _ (by decide), upM_s, sN_s, Nat.add_assoc]
                  · rw [upM_k _ _ (by decide), upM_s, sN_s, Nat.add_assoc]
                  · rw [upM_s, sN_s, ← Nat.add_assoc]
                    rw [show (gbm wo F x m) a b = (gpm wo F x m) a b - (gsm wo F x (nI 1) m) a b from hmx]
                · refine g_ild4 (pc' := 195) dX9_findPairs_193 rfl ?_
                  refine g_goto (tgt := 203) dX9_findPairs_195 (by decide) ?_
                  refine g_iaddN (pc' := 204) dX9_findPairs_203 rfl ?_
                  refine g_putI (pc' := 207) mg.s40 (by decide) ⟨fX9_266, rfl, pI⟩ dX9_findPairs_204 rfl ?_
                  refine g_inc3 (pc' := 210) rfl (by decide) (v := nI (b + 1)) (nI_1 _) dX9_findPairs_207 rfl ?_
                  refine g_goto (tgt := 27) dX9_findPairs_210 (by decide) ?_
                  have hmx : (gbm wo F x m) a b = (gsm wo F x (nI 1) m) a b := by unfold gbm; simp only [gpm] at h190 ⊢; omega
                  refine G.lsub [some (.inr (.inr (some (40, 0)))), some (.inl x), some (.inl (nI a)), some (.inl (nI (b + 1))), none, none, none] (by intro j v; rcases j with _ | _ | _ | _ | _ | _ | _ | j <;> simp) ?_
                  refine ihb _ ⟨((hQ.1.up (by simp [fpP])).up (by simp [fpP])).up (by simp [fpP]), ?_, ?_, ?_⟩
                  · rw [upM_k _ _ (by decide), upM_k _ _ (by decide), upM_s, sN_s, Nat.add_assoc]
                  · rw [upM_k _ _ (by decide), upM_s, sN_s, Nat.add_assoc]
                  · rw [upM_s, sN_s, ← Nat.add_assoc]
                    rw [show (gbm wo F x m) a b = (gsm wo F x (nI 1) m) a b from hmx]
              · exact absurd h47 (by omega)
      · intro J hQ
        refine g_ild3 (pc' := 28) dX9_findPairs_27 rfl ?_
        refine g_ild2 (pc' := 29) dX9_findPairs_28 rfl ?_
        refine g_icmpgeN (pc' := 32) (by omega) (by omega) (tgt := 213) dX9_findPairs_29 (by decide) rfl (fun h29 => ?_) (fun h29 => ?_)
        · refine g_inc2 (pc' := 216) rfl (by decide) (v := nI (a + 1)) (nI_1 _) dX9_findPairs_213 rfl ?_
          refine g_goto (tgt := 17) dX9_findPairs_216 (by decide) ?_
          refine G.lsub [some (.inr (.inr (some (40, 0)))), some (.inl x), some (.inl (nI (a + 1))), none, none, none, none] (by intro j v; rcases j with _ | _ | _ | _ | _ | _ | _ | j <;> simp) ?_
          exact iha J hQ
        · exact absurd h29 (by omega)
  · intro J hP
    have hnJ : J (40, 0) 6 = nI n := (hP.1 _ _ (by simp [fpP])).trans hn
    refine g_ild2 (pc' := 18) dX9_findPairs_17 rfl ?_
    refine g_ald0 (pc' := 19) dX9_findPairs_18 rfl ?_
    refine g_getI (pc' := 22) mg.s40 (by decide) fX9_99 hnJ dX9_findPairs_19 rfl ?_
    refine g_icmpgeN (pc' := 25) (by omega) (by omega) (tgt := 219) dX9_findPairs_22 (by decide) rfl (fun h22 => ?_) (fun h22 => ?_)
    · refine g_vret rfl dX9_findPairs_219 ?_
      exact eV hP
    · exact absurd h22 (by omega)

def rtVm (wo : Nat → Int32) (F : Nat → Nat → Int32) (n m : Nat) (x : Int32) : Int32 := if triN (gpm wo F x m) n = 0 then -2 else nI (1000 * triN (gsm wo F x (nI 1) m) n / triN (gpm wo F x m) n)
def gsVm (wo : Nat → Int32) (F : Nat → Nat → Int32) (n m : Nat) (x : Int32) (q : Nat) : Int32 := if triN (gpm wo F x m) n = 0 then -2 else nI (1000 * (if q = 0 then triN (gsm wo F x (nI 1) m) n else triN (gbm wo F x m) n) / triN (gpm wo F x m) n)
theorem c_mRightN (l : Launch) {S : Shp} {I : MI} {L : ML} {R : MR} (mg : MG S R) {m : Nat} (hm : I (40, 0) 18 = nI m) (hM : m ≤ 9) {x : Int32} (hx : inb x m = false) : Ct l mX9_right 3 0 0 [.inr (.inr (some (40, 0))), .inl x] S I L R (PIp S I L R (-1)) := by
  refine Ct.of [some (.inr (.inr (some (40, 0)))), some (.inl x)] (by decide) rfl (Nat.le_of_ble_eq_true rfl) ?_
  refine g_ald0 (pc' := 1) dX9_right_0 rfl ?_
  refine g_ild1 (pc' := 2) dX9_right_1 rfl ?_
  refine g_callV (pc' := 5) (c_misWorld l mg hm hM x) mg.s40 (by decide) wX9_isWorld lX9_186 rfl rfl (Nat.le_of_ble_eq_true rfl) ⟨Nat.le_of_ble_eq_true rfl, Nat.le_of_ble_eq_true rfl⟩ ⟨Nat.le_of_ble_eq_true rfl, Nat.le_of_ble_eq_true rfl⟩ dX9_right_2 rfl (kIp ?_)
  refine g_ifneB (pc' := 8) (tgt := 10) dX9_right_5 (by decide) rfl (fun h5 => (by first | exact absurd h5 (Bool.eq_false_iff.mp hx) | exact absurd (Bool.eq_false_iff.mp hx) h5)) (fun h5 => ?_)
  refine g_iconst (pc' := 9) (v := (-1)) dX9_right_8 rfl (by decide) ?_
  refine g_iret rfl dX9_right_9 ?_
  exact eIp rfl

theorem c_mRightS (l : Launch) {S : Shp} {I : MI} {L : ML} {R : MR} (mg : MG S R) {n : Nat} (hn : I (40, 0) 6 = nI n) (hN : n ≤ 12) {m : Nat} (hm : I (40, 0) 18 = nI m) (hM : m ≤ 9) {w : Nat} (hwm : w < m) {wo : Nat → Int32} {F : Nat → Nat → Int32} (hwo : ∀ o, o < n → I (50, 0) o = wo o) (hF : ∀ k, k < m → ∀ o, o < n → I (50, 0) (23 + 12 * k + o) = F k o) : Ct l mX9_right 3 0 0 [.inr (.inr (some (40, 0))), .inl (nI w)] S I L R (PIm S L R (fun v J => v = rtVm wo F n m (nI 1 <<< (nI w &&& 31)) ∧ Fr fpP I J)) := by
  refine Ct.of [some (.inr (.inr (some (40, 0)))), some (.inl (nI w))] (by decide) rfl (Nat.le_of_ble_eq_true rfl) ?_
  refine g_ald0 (pc' := 1) dX9_right_0 rfl ?_
  refine g_ild1 (pc' := 2) dX9_right_1 rfl ?_
  refine g_callV (pc' := 5) (c_misWorld l mg hm hM (nI w)) mg.s40 (by decide) wX9_isWorld lX9_186 rfl rfl (Nat.le_of_ble_eq_true rfl) ⟨Nat.le_of_ble_eq_true rfl, Nat.le_of_ble_eq_true rfl⟩ ⟨Nat.le_of_ble_eq_true rfl, Nat.le_of_ble_eq_true rfl⟩ dX9_right_2 rfl (kIp ?_)
  refine g_ifneB (pc' := 8) (tgt := 10) dX9_right_5 (by decide) rfl (fun h5 => ?_) (fun h5 => (by first | exact absurd h5 (by rw [inb_nI (by omega) (by omega)]; simp [hwm]) | exact absurd (by rw [inb_nI (by omega) (by omega)]; simp [hwm]) h5))
  refine g_ald0 (pc' := 11) dX9_right_10 rfl ?_
  refine g_iconst (pc' := 12) (v := nI 1) dX9_right_11 rfl (by decide) ?_
  refine g_ild1 (pc' := 13) dX9_right_12 rfl ?_
  refine g_ishl (pc' := 14) dX9_right_13 rfl ?_
  refine g_callV (pc' := 17) (c_mPairs l mg hn hN hm hM hwo hF (nI 1 <<< (nI w &&& 31))) mg.s40 (by decide) wX9_findPairs lX9_269 rfl rfl (Nat.le_of_ble_eq_true rfl) ⟨Nat.le_of_ble_eq_true rfl, Nat.le_of_ble_eq_true rfl⟩ ⟨Nat.le_of_ble_eq_true rfl, Nat.le_of_ble_eq_true rfl⟩ dX9_right_14 rfl (kV (fun J hq => ?_))
  have hb1 := triN_bd (c := 9) (g := (gsm wo F (nI 1 <<< (nI w &&& 31)) (nI 1) m)) (fun a b => gsm_le hM) n hN
  have hb2 := triN_bd (c := 18) (g := (gpm wo F (nI 1 <<< (nI w &&& 31)) m)) (fun a b => by have h1 := gsm_le (wo := wo) (F := F) (x := (nI 1 <<< (nI w &&& 31))) (y := nI 1) (a := a) (b := b) hM; have h2 := gsm_le (wo := wo) (F := F) (x := (nI 1 <<< (nI w &&& 31))) (y := -1) (a := a) (b := b) hM; unfold gpm; omega) n hN
  have hb3 := triN_bd (c := 9) (g := (gbm wo F (nI 1 <<< (nI w &&& 31)) m)) (fun a b => by have h1 := gsm_le (wo := wo) (F := F) (x := (nI 1 <<< (nI w &&& 31))) (y := nI 1) (a := a) (b := b) hM; have h2 := gsm_le (wo := wo) (F := F) (x := (nI 1 <<< (nI w &&& 31))) (y := -1) (a := a) (b := b) hM; unfold gbm; omega) n hN
  obtain ⟨hfr, h27, h28, h29⟩ := hq
  refine g_ald0 (pc' := 18) dX9_right_17 rfl ?_
  refine g_getI (pc' := 21) mg.s40 (by decide) fX9_263 h28 dX9_right_18 rfl ?_
  refine g_ifneN (pc' := 24) (by omega) (tgt := 29) dX9_right_21 (by decide) rfl (fun h21 => ?_) (fun h21 => ?_)
  · refine g_sipush (pc' := 32) (v := nI 1000) dX9_right_29 rfl (by decide) ?_
    refine g_ald0 (pc' := 33) dX9_right_32 rfl ?_
    refine g_getI (pc' := 36) mg.s40 (by decide) fX9_260 h27 dX9_right_33 rfl ?_
    refine g_imulN (pc' := 37) dX9_right_36 rfl ?_
    refine g_ald0 (pc' := 38) dX9_right_37 rfl ?_
    refine g_getI (pc' := 41) mg.s40 (by decide) fX9_263 h28 dX9_right_38 rfl ?_
    refine g_idivN (pc' := 42) (by omega) dX9_right_41 rfl ?_
    refine g_iret rfl dX9_right_42 ?_
    exact eI ⟨by unfold rtVm; first | rw [if_pos (by omega)] | rw [if_neg (by omega)], hfr⟩
  · refine g_bipush (pc' := 26) (v := (-2)) dX9_right_24 rfl (by decide) ?_
    refine g_goto (tgt := 42) dX9_right_26 (by decide) ?_
    refine g_iret rfl dX9_right_42 ?_
    exact eI ⟨by unfold rtVm; first | rw [if_pos (by omega)] | rw [if_neg (by omega)], hfr⟩

theorem c_mGuessB (l : Launch) {S : Shp} {I : MI} {L : ML} {R : MR} (mg : MG S R) {m : Nat} (hm : I (40, 0) 18 = nI m) (hM : m ≤ 9) {x y : Int32} (hb : x < 0 ∨ ¬ (x >>> (nI m &&& 31)) = 0 ∨ y < nI 0 ∨ nI 1 < y) : Ct l mX9_guess 3 0 0 [.inr (.inr (some (40, 0))), .inl x, .inl y] S I L R (PIp S I L R (-1)) := by
  refine Ct.of [some (.inr (.inr (some (40, 0)))), some (.inl x), some (.inl y)] (by decide) rfl (Nat.le_of_ble_eq_true rfl) ?_
  refine g_ild1 (pc' := 1) dX9_guess_0 rfl ?_
  refine g_iflt (pc' := 4) (tgt := 23) dX9_guess_1 (by decide) rfl (fun h1 => ?_) (fun h1 => ?_)
  · refine g_iconst (pc' := 24) (v := (-1)) dX9_guess_23 rfl (by decide) ?_
    refine g_iret rfl dX9_guess_24 ?_
    exact eIp rfl
  · refine g_ild1 (pc' := 5) dX9_guess_4 rfl ?_
    refine g_ald0 (pc' := 6) dX9_guess_5 rfl ?_
    refine g_getI (pc' := 9) mg.s40 (by decide) fX9_174 hm dX9_guess_6 rfl ?_
    refine g_ishr (pc' := 10) dX9_guess_9 rfl ?_
    refine g_ifne (pc' := 13) (tgt := 23) dX9_guess_10 (by decide) rfl (fun h10 => ?_) (fun h10 => ?_)
    · refine g_iconst (pc' := 24) (v := (-1)) dX9_guess_23 rfl (by decide) ?_
      refine g_iret rfl dX9_guess_24 ?_
      exact eIp rfl
    · refine g_ild2 (pc' := 14) dX9_guess_13 rfl ?_
      refine g_i2l (pc' := 15) dX9_guess_14 rfl ?_
      refine g_lconst (pc' := 16) (v := 0) dX9_guess_15 rfl (by decide) ?_
      refine g_lconst (pc' := 17) (v := 1) dX9_guess_16 rfl (by decide) ?_
      refine g_callS (pc' := 20) (c_mWI l y (nI 0) (nI 1) (A := 0) (B := 1) (by decide) (by decide)) wX9_within lX9_102 rfl rfl (Nat.le_of_ble_eq_true rfl) ⟨Nat.le_of_ble_eq_true rfl, Nat.le_of_ble_eq_true rfl⟩ ⟨Nat.le_of_ble_eq_true rfl, Nat.le_of_ble_eq_true rfl⟩ dX9_guess_17 rfl (kIp ?_)
      refine g_ifneB (pc' := 23) (tgt := 25) dX9_guess_20 (by decide) rfl (fun h20 => ?_) (fun h20 => ?_)
      · exfalso
        rcases hb with h | h | h
        · exact h1 h
        · exact h h10
        · exact wi_no h h20
      · refine g_iconst (pc' := 24) (v := (-1)) dX9_guess_23 rfl (by decide) ?_
        refine g_iret rfl dX9_guess_24 ?_
        exact eIp rfl

theorem c_mGuessS (l : Launch) {S : Shp} {I : MI} {L : ML} {R : MR} (mg : MG S R) {n : Nat} (hn : I (40, 0) 6 = nI n) (hN : n ≤ 12) {m : Nat} (hm : I (40, 0) 18 = nI m) (hM : m ≤ 9) {wo : Nat → Int32} {F : Nat → Nat → Int32} (hwo : ∀ o, o < n → I (50, 0) o = wo o) (hF : ∀ k, k < m → ∀ o, o < n → I (50, 0) (23 + 12 * k + o) = F k o) {x : Int32} (hx0 : ¬ x < 0) (hx1 : (x >>> (nI m &&& 31)) = 0) {q : Nat} (hq1 : q ≤ 1) : Ct l mX9_guess 3 0 0 [.inr (.inr (some (40, 0))), .inl x, .inl (nI q)] S I L R (PIm S L R (fun v J => v = gsVm wo F n m x q ∧ Fr fpP I J)) := by
  refine Ct.of [some (.inr (.inr (some (40, 0)))), some (.inl x), some (.inl (nI q))] (by decide) rfl (Nat.le_of_ble_eq_true rfl) ?_
  refine g_ild1 (pc' := 1) dX9_guess_0 rfl ?_
  refine g_iflt (pc' := 4) (tgt := 23) dX9_guess_1 (by decide) rfl (fun h1 => (by first | exact absurd h1 hx0 | exact absurd hx0 h1)) (fun h1 => ?_)
  refine g_ild1 (pc' := 5) dX9_guess_4 rfl ?_
  refine g_ald0 (pc' := 6) dX9_guess_5 rfl ?_
  refine g_getI (pc' := 9) mg.s40 (by decide) fX9_174 hm dX9_guess_6 rfl ?_
  refine g_ishr (pc' := 10) dX9_guess_9 rfl ?_
  refine g_ifne (pc' := 13) (tgt := 23) dX9_guess_10 (by decide) rfl (fun h10 => (by first | exact absurd h10 hx1 | exact absurd hx1 h10)) (fun h10 => ?_)
  refine g_ild2 (pc' := 14) dX9_guess_13 rfl ?_
  refine g_i2l (pc' := 15) dX9_guess_14 rfl ?_
  refine g_lconst (pc' := 16) (v := 0) dX9_guess_15 rfl (by decide) ?_
  refine g_lconst (pc' := 17) (v := 1) dX9_guess_16 rfl (by decide) ?_
  refine g_callS (pc' := 20) (c_mWI l (nI q) (nI 0) (nI 1) (A := 0) (B := 1) (by decide) (by decide)) wX9_within lX9_102 rfl rfl (Nat.le_of_ble_eq_true rfl) ⟨Nat.le_of_ble_eq_true rfl, Nat.le_of_ble_eq_true rfl⟩ ⟨Nat.le_of_ble_eq_true rfl, Nat.le_of_ble_eq_true rfl⟩ dX9_guess_17 rfl (kIp ?_)
  refine g_ifneB (pc' := 23) (tgt := 25) dX9_guess_20 (by decide) rfl (fun h20 => ?_) (fun h20 => (by first | exact absurd h20 (wi_yesN (by omega) (by decide)) | exact absurd (wi_yesN (by omega) (by decide)) h20))
  refine g_ald0 (pc' := 26) dX9_guess_25 rfl ?_
  refine g_ild1 (pc' := 27) dX9_guess_26 rfl ?_
  refine g_callV (pc' := 30) (c_mPairs l mg hn hN hm hM hwo hF (x)) mg.s40 (by decide) wX9_findPairs lX9_269 rfl rfl (Nat.le_of_ble_eq_true rfl) ⟨Nat.le_of_ble_eq_true rfl, Nat.le_of_ble_eq_true rfl⟩ ⟨Nat.le_of_ble_eq_true rfl, Nat.le_of_ble_eq_true rfl⟩ dX9_guess_27 rfl (kV (fun J hq => ?_))
  have hb1 := triN_bd (c := 9) (g := (gsm wo F x (nI 1) m)) (fun a b => gsm_le hM) n hN
  have hb2 := triN_bd (c := 18) (g := (gpm wo F x m)) (fun a b => by have h1 := gsm_le (wo := wo) (F := F) (x := x) (y := nI 1) (a := a) (b := b) hM; have h2 := gsm_le (wo := wo) (F := F) (x := x) (y := -1) (a := a) (b := b) hM; unfold gpm; omega) n hN
  have hb3 := triN_bd (c := 9) (g := (gbm wo F x m)) (fun a b => by have h1 := gsm_le (wo := wo) (F := F) (x := x) (y := nI 1) (a := a) (b := b) hM; have h2 := gsm_le (wo := wo) (F := F) (x := x) (y := -1) (a := a) (b := b) hM; unfold gbm; omega) n hN
  obtain ⟨hfr, h27, h28, h29⟩ := hq
  refine g_ald0 (pc' := 31) dX9_guess_30 rfl ?_
  refine g_getI (pc' := 34) mg.s40 (by decide) fX9_263 h28 dX9_guess_31 rfl ?_
  refine g_ifneN (pc' := 37) (by omega) (tgt := 42) dX9_guess_34 (by decide) rfl (fun h34 => ?_) (fun h34 => ?_)
  · refine g_sipush (pc' := 45) (v := nI 1000) dX9_guess_42 rfl (by decide) ?_
    refine g_ild2 (pc' := 46) dX9_guess_45 rfl ?_
    refine g_ifneN (pc' := 49) (by omega) (tgt := 56) dX9_guess_46 (by decide) rfl (fun h46 => ?_) (fun h46 => ?_)
    · refine g_ald0 (pc' := 57) dX9_guess_56 rfl ?_
      refine g_getI (pc' := 60) mg.s40 (by decide) fX9_266 h29 dX9_guess_57 rfl ?_
      refine g_imulN (pc' := 61) dX9_guess_60 rfl ?_
      refine g_ald0 (pc' := 62) dX9_guess_61 rfl ?_
      refine g_getI (pc' := 65) mg.s40 (by decide) fX9_263 h28 dX9_guess_62 rfl ?_
      refine g_idivN (pc' := 66) (by omega) dX9_guess_65 rfl ?_
      refine g_iret rfl dX9_guess_66 ?_
      exact eI ⟨by unfold gsVm; first | rw [if_pos (by omega)] | rw [if_neg (by omega), if_pos (by omega)] | rw [if_neg (by omega), if_neg (by omega)], hfr⟩
    · refine g_ald0 (pc' := 50) dX9_guess_49 rfl ?_
      refine g_getI (pc' := 53) mg.s40 (by decide) fX9_260 h27 dX9_guess_50 rfl ?_
      refine g_goto (tgt := 60) dX9_guess_53 (by decide) ?_
      refine g_imulN (pc' := 61) dX9_guess_60 rfl ?_
      refine g_ald0 (pc' := 62) dX9_guess_61 rfl ?_
      refine g_getI (pc' := 65) mg.s40 (by decide) fX9_263 h28 dX9_guess_62 rfl ?_
      refine g_idivN (pc' := 66) (by omega) dX9_guess_65 rfl ?_
      refine g_iret rfl dX9_guess_66 ?_
      exact eI ⟨by unfold gsVm; first | rw [if_pos (by omega)] | rw [if_neg (by omega), if_pos (by omega)] | rw [if_neg (by omega), if_neg (by omega)], hfr⟩
  · refine g_bipush (pc' := 39) (v := (-2)) dX9_guess_37 rfl (by decide) ?_
    refine g_goto (tgt := 66) dX9_guess_39 (by decide) ?_
    refine g_iret rfl dX9_guess_66 ?_
    exact eI ⟨by unfold gsVm; first | rw [if_pos (by omega)] | rw [if_neg (by omega), if_pos (by omega)] | rw [if_neg (by omega), if_neg (by omega)], hfr⟩
