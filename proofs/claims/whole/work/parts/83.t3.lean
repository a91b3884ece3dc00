/-! ties: guess, against, guards -/
theorem gs_t {I : MI} {x : Int32} {n m w : Nat} (hw : w ≤ 1) : gsV I x n m w = gsVm (I (2, 0)) (fun k => I (12, k)) n m x w := by
  unfold gsV gsVm
  have eS : ∀ a b, gsS I x m b a = gsm (I (2, 0)) (fun k => I (12, k)) x (nI 1) m a b := fun a b => sN_cg (fun i _ => wyF_t)
  have eO : ∀ a b, gsO I x m b a = gsm (I (2, 0)) (fun k => I (12, k)) x (-1) m a b := fun a b => sN_cg (fun i _ => wyF_t)
  have e1 : prN (gsP I x m) n n = triN (gpm (I (2, 0)) (fun k => I (12, k)) x m) n := by
    rw [prN_tri]
    refine triN_cg (fun a b _ _ => ?_)
    unfold gsP gpm
    rw [eS, eO]
  have e2 : prN (gsH I x m w) n n = if w = 0 then triN (gsm (I (2, 0)) (fun k => I (12, k)) x (nI 1) m) n else triN (gbm (I (2, 0)) (fun k => I (12, k)) x m) n := by
    rw [prN_tri]
    by_cases h : w = 0
    · rw [if_pos h]
      refine triN_cg (fun a b _ _ => ?_)
      unfold gsH
      rw [if_pos h, eS]
    · rw [if_neg h]
      refine triN_cg (fun a b _ _ => ?_)
      unfold gsH gbm
      rw [if_neg h, eS, eO]
  rw [e1, e2, Nat.mul_comm]
theorem swF_cg {f g : Nat → Int32} {n a b : Nat} (h : ∀ s, s < n → f s = g s) (ha : a < n) (hb : b < n) : ∀ s, s < n → swF f a b s = swF g a b s := fun s hs => by
  unfold swF
  rw [h a ha, h b hb, h s hs]
theorem shuG_cg {d : Int32 → Int32} {n : Nat} : ∀ {k : Nat} {f g : Nat → Int32} {z : Int32}, k < n → (∀ s, s < n → f s = g s) → (∀ s, s < n → (shuG d k f z).1 s = (shuG d k g z).1 s) ∧ (shuG d k f z).2 = (shuG d k g z).2
  | 0, _, _, _, _, h => ⟨h, rfl⟩
  | k + 1, f, g, z, hk, h => by
    rw [shuG_s, shuG_s]
    have := shJ_lt (d z) (k + 1)
    exact shuG_cg (by omega) (swF_cg h hk (by omega))
theorem agS_cg {d : Int32 → Int32} {n : Nat} {f g : Nat → Int32} {z : Int32} (h : ∀ s, s < n → f s = g s) : ∀ t, (∀ s, s < n → (agS d n (f, z) t).1 s = (agS d n (g, z) t).1 s) ∧ (agS d n (f, z) t).2 = (agS d n (g, z) t).2
  | 0 => ⟨h, rfl⟩
  | t + 1 => by
    obtain ⟨h1, h2⟩ := agS_cg (d := d) (z := z) h t
    by_cases hn : n = 0
    · subst hn
      refine ⟨fun s hs => absurd hs (by omega), ?_⟩
      show (shuG d (0 - 1) _ _).2 = (shuG d (0 - 1) _ _).2
      exact h2
    · show (∀ s, s < n → (shuG d (n - 1) (agS d n (f, z) t).1 (agS d n (f, z) t).2).1 s = (shuG d (n - 1) (agS d n (g, z) t).1 (agS d n (g, z) t).2).1 s) ∧ (shuG d (n - 1) (agS d n (f, z) t).1 (agS d n (f, z) t).2).2 = (shuG d (n - 1) (agS d n (g, z) t).1 (agS d n (g, z) t).2).2
      rw [h2]
      exact shuG_cg (by omega) h1
theorem agC_cg {d : Int32 → Int32} {n a : Nat} {p f g : Nat → Int32} {far z : Int32} (h : ∀ s, s < n → f s = g s) : agC d n p far (f, z) a = agC d n p far (g, z) a := by
  unfold agC
  refine ctN_cong (fun t _ => ?_)
  have e : farI p (agS d n (f, z) (t + 1)).1 n = farI p (agS d n (g, z) (t + 1)).1 n := by
    unfold farI
    exact sumN_congr (fun q hq => by rw [(agS_cg (d := d) (z := z) h (t + 1)).1 q hq])
  rw [e]
theorem shr_n : ∀ {m : Nat}, m < 13 → ∀ {q : Nat}, q < 2 ^ 31 → (nI q >>> (nI m &&& 31)) = nI (q / 2 ^ m) := fun {m} hm {q} hq => by
  have e : nI m &&& 31 = nI m := (by decide : ∀ m, m < 13 → nI m &&& 31 = nI m) m hm
  rw [e]
  refine Int32.toInt_inj.mp ?_
  rw [nI_toInt (by exact Nat.lt_of_le_of_lt (Nat.div_le_self _ _) hq)]
  have e2 : ((nI m).toBitVec.smod 32).toNat = m := (by decide : ∀ m, m < 13 → ((nI m).toBitVec.smod 32).toNat = m) m hm
  rw [Int32.toInt, Int32.toBitVec_shiftRight, BitVec.sshiftRight', BitVec.toInt_sshiftRight, e2, Int.shiftRight_eq_div_pow]
  have e3 : (nI q).toBitVec.toInt = q := nI_toInt hq
  rw [e3]
  norm_cast
theorem shl_n : ∀ m, m < 13 → (nI 1 <<< (nI m &&& 31)) = nI (2 ^ m) := by decide
theorem pow13 {m : Nat} (hm : m < 13) : 2 ^ m ≤ 4096 := by
  have : 2 ^ m ≤ 2 ^ 12 := Nat.pow_le_pow_right (by omega) (by omega)
  simpa using this
theorem grd {x : Int32} {m : Nat} (hm : m < 13) (hx : ¬ x < 0) : (nI 1 <<< (nI m &&& 31) ≤ x) ↔ ¬ (x >>> (nI m &&& 31)) = 0 := by
  obtain ⟨q, hq, rfl⟩ := nI_of hx
  have := pow13 hm
  rw [shl_n m hm, shr_n hm hq, nI_leI (by omega) hq, nI_z (Nat.lt_of_le_of_lt (Nat.div_le_self _ _) hq), Nat.div_eq_zero_iff]
  have : 0 < 2 ^ m := Nat.pos_of_ne_zero (by simp)
  omega
