/-! rows for numbers of the form nI, pure ends -/
section N
variable {l : Launch} {mi : MInf} {Rm : Room} {Qf : QF} {k n pc pc' : Nat} {S : Shp} {I : MI} {L : ML} {R : MR} {lv : List (Option PV)} {st : List PV}
theorem g_topi {x v : Int32} (h : x = v) (kk : G l mi Rm Qf k n pc lv (.inl v :: st) S I L R) : G l mi Rm Qf k n pc lv (.inl x :: st) S I L R := h ▸ kk
theorem g_topj {x v : Int64} (h : x = v) (kk : G l mi Rm Qf k n pc lv (.inr (.inl v) :: st) S I L R) : G l mi Rm Qf k n pc lv (.inr (.inl x) :: st) S I L R := h ▸ kk
theorem g_mem {I' : MI} (h : I = I') (kk : G l mi Rm Qf k n pc lv st S I' L R) : G l mi Rm Qf k n pc lv st S I L R := h ▸ kk
theorem g_iaddN {a b : Nat} (hd : decode mi.2.1 pc = .ok (.iadd, 1)) (hp : pc + 1 = pc') (kk : G l mi Rm Qf k n pc' lv (.inl (nI (a + b)) :: st) S I L R) : G l mi Rm Qf k n pc lv (.inl (nI b) :: .inl (nI a) :: st) S I L R := g_iadd hd hp (g_topi (nI_add a b) kk)
theorem g_imulN {a b : Nat} (hd : decode mi.2.1 pc = .ok (.imul, 1)) (hp : pc + 1 = pc') (kk : G l mi Rm Qf k n pc' lv (.inl (nI (a * b)) :: st) S I L R) : G l mi Rm Qf k n pc lv (.inl (nI b) :: .inl (nI a) :: st) S I L R := g_imul hd hp (g_topi (pk_mul a b) kk)
theorem g_isubN {a b : Nat} (h : b ≤ a) (hd : decode mi.2.1 pc = .ok (.isub, 1)) (hp : pc + 1 = pc') (kk : G l mi Rm Qf k n pc' lv (.inl (nI (a - b)) :: st) S I L R) : G l mi Rm Qf k n pc lv (.inl (nI b) :: .inl (nI a) :: st) S I L R := g_isub hd hp (g_topi (pk_sub h) kk)
theorem g_idivN {a b : Nat} (h : a < 2 ^ 31 ∧ 0 < b ∧ b < 2 ^ 31) (hd : decode mi.2.1 pc = .ok (.idiv, 1)) (hp : pc + 1 = pc') (kk : G l mi Rm Qf k n pc' lv (.inl (nI (a / b)) :: st) S I L R) : G l mi Rm Qf k n pc lv (.inl (nI b) :: .inl (nI a) :: st) S I L R := g_idiv hd hp (nI_ne0 h.2.1 h.2.2) (g_topi (pk_div h.1 h.2.1 h.2.2) kk)
theorem g_iremN {a b : Nat} (h : a < 2 ^ 31 ∧ 0 < b ∧ b < 2 ^ 31) (hd : decode mi.2.1 pc = .ok (.irem, 1)) (hp : pc + 1 = pc') (kk : G l mi Rm Qf k n pc' lv (.inl (nI (a % b)) :: st) S I L R) : G l mi Rm Qf k n pc lv (.inl (nI b) :: .inl (nI a) :: st) S I L R := g_irem hd hp (nI_ne0 h.2.1 h.2.2) (g_topi (pk_rem h.1 h.2.1 h.2.2) kk)
theorem g_icmpltN {a b : Nat} (ha : a < 2 ^ 31) (hb : b < 2 ^ 31) {off : Int} {tgt : Nat} (hd : decode mi.2.1 pc = .ok (.if_icmp .lt off, 3)) (ht : (pc : Int) + off = (tgt : Int)) (hp : pc + 3 = pc') (kt : a < b → G l mi Rm Qf k n tgt lv st S I L R) (kf : b ≤ a → G l mi Rm Qf k n pc' lv st S I L R) : G l mi Rm Qf k n pc lv (.inl (nI b) :: .inl (nI a) :: st) S I L R := g_icmplt hd ht hp (fun h => kt ((nI_ltI ha hb).mp h)) (fun h => kf (by rw [nI_ltI ha hb] at h; omega))
theorem g_icmpgeN {a b : Nat} (ha : a < 2 ^ 31) (hb : b < 2 ^ 31) {off : Int} {tgt : Nat} (hd : decode mi.2.1 pc = .ok (.if_icmp .ge off, 3)) (ht : (pc : Int) + off = (tgt : Int)) (hp : pc + 3 = pc') (kt : b ≤ a → G l mi Rm Qf k n tgt lv st S I L R) (kf : a < b → G l mi Rm Qf k n pc' lv st S I L R) : G l mi Rm Qf k n pc lv (.inl (nI b) :: .inl (nI a) :: st) S I L R := g_icmpge hd ht hp (fun h => kt ((nI_leI hb ha).mp h)) (fun h => kf (by rw [nI_leI hb ha] at h; omega))
theorem g_icmpgtN {a b : Nat} (ha : a < 2 ^ 31) (hb : b < 2 ^ 31) {off : Int} {tgt : Nat} (hd : decode mi.2.1 pc = .ok (.if_icmp .gt off, 3)) (ht : (pc : Int) + off = (tgt : Int)) (hp : pc + 3 = pc') (kt : b < a → G l mi Rm Qf k n tgt lv st S I L R) (kf : a ≤ b → G l mi Rm Qf k n pc' lv st S I L R) : G l mi Rm Qf k n pc lv (.inl (nI b) :: .inl (nI a) :: st) S I L R := g_icmpgt hd ht hp (fun h => kt ((nI_ltI hb ha).mp h)) (fun h => kf (by rw [nI_ltI hb ha] at h; omega))
theorem g_icmpleN {a b : Nat} (ha : a < 2 ^ 31) (hb : b < 2 ^ 31) {off : Int} {tgt : Nat} (hd : decode mi.2.1 pc = .ok (.if_icmp .le off, 3)) (ht : (pc : Int) + off = (tgt : Int)) (hp : pc + 3 = pc') (kt : a ≤ b → G l mi Rm Qf k n tgt lv st S I L R) (kf : b < a → G l mi Rm Qf k n pc' lv st S I L R) : G l mi Rm Qf k n pc lv (.inl (nI b) :: .inl (nI a) :: st) S I L R := g_icmple hd ht hp (fun h => kt ((nI_leI ha hb).mp h)) (fun h => kf (by rw [nI_leI ha hb] at h; omega))
theorem g_icmpeqN {a b : Nat} (ha : a < 2 ^ 31) (hb : b < 2 ^ 31) {off : Int} {tgt : Nat} (hd : decode mi.2.1 pc = .ok (.if_icmp .eq off, 3)) (ht : (pc : Int) + off = (tgt : Int)) (hp : pc + 3 = pc') (kt : a = b → G l mi Rm Qf k n tgt lv st S I L R) (kf : ¬ a = b → G l mi Rm Qf k n pc' lv st S I L R) : G l mi Rm Qf k n pc lv (.inl (nI b) :: .inl (nI a) :: st) S I L R := g_icmpeq hd ht hp (fun h => kt ((nI_eq ha hb).mp h)) (fun h => kf (fun q => h ((nI_eq ha hb).mpr q)))
theorem g_icmpneN {a b : Nat} (ha : a < 2 ^ 31) (hb : b < 2 ^ 31) {off : Int} {tgt : Nat} (hd : decode mi.2.1 pc = .ok (.if_icmp .ne off, 3)) (ht : (pc : Int) + off = (tgt : Int)) (hp : pc + 3 = pc') (kt : ¬ a = b → G l mi Rm Qf k n tgt lv st S I L R) (kf : a = b → G l mi Rm Qf k n pc' lv st S I L R) : G l mi Rm Qf k n pc lv (.inl (nI b) :: .inl (nI a) :: st) S I L R := g_icmpne hd ht hp (fun h => kt (fun q => h ((nI_eq ha hb).mpr q))) (fun h => kf ((nI_eq ha hb).mp h))
theorem nI_z {a : Nat} (ha : a < 2 ^ 31) : nI a = 0 ↔ a = 0 := (show nI a = nI 0 ↔ a = 0 from nI_eq ha (by decide))
theorem g_ifeqN {a : Nat} (ha : a < 2 ^ 31) {off : Int} {tgt : Nat} (hd : decode mi.2.1 pc = .ok (.ifCond .eq off, 3)) (ht : (pc : Int) + off = (tgt : Int)) (hp : pc + 3 = pc') (kt : a = 0 → G l mi Rm Qf k n tgt lv st S I L R) (kf : 0 < a → G l mi Rm Qf k n pc' lv st S I L R) : G l mi Rm Qf k n pc lv (.inl (nI a) :: st) S I L R := g_ifeq hd ht hp (fun h => kt ((nI_z ha).mp h)) (fun h => kf (by rw [nI_z ha] at h; omega))
theorem g_ifneN {a : Nat} (ha : a < 2 ^ 31) {off : Int} {tgt : Nat} (hd : decode mi.2.1 pc = .ok (.ifCond .ne off, 3)) (ht : (pc : Int) + off = (tgt : Int)) (hp : pc + 3 = pc') (kt : 0 < a → G l mi Rm Qf k n tgt lv st S I L R) (kf : a = 0 → G l mi Rm Qf k n pc' lv st S I L R) : G l mi Rm Qf k n pc lv (.inl (nI a) :: st) S I L R := g_ifne hd ht hp (fun h => kt (by rw [nI_z ha] at h; omega)) (fun h => kf ((nI_z ha).mp h))
theorem g_ifgtN {a : Nat} (ha : a < 2 ^ 31) {off : Int} {tgt : Nat} (hd : decode mi.2.1 pc = .ok (.ifCond .gt off, 3)) (ht : (pc : Int) + off = (tgt : Int)) (hp : pc + 3 = pc') (kt : 0 < a → G l mi Rm Qf k n tgt lv st S I L R) (kf : a = 0 → G l mi Rm Qf k n pc' lv st S I L R) : G l mi Rm Qf k n pc lv (.inl (nI a) :: st) S I L R := g_ifgt hd ht hp (fun h => kt (Nat.pos_of_ne_zero fun q => by subst q; exact absurd h (by decide))) (fun h => kf (Nat.eq_zero_of_not_pos fun q => h (by rw [show (0 : Int32) = nI 0 from rfl, nI_ltI (by decide) ha]; exact q)))
theorem g_ifleN {a : Nat} (ha : a < 2 ^ 31) {off : Int} {tgt : Nat} (hd : decode mi.2.1 pc = .ok (.ifCond .le off, 3)) (ht : (pc : Int) + off = (tgt : Int)) (hp : pc + 3 = pc') (kt : a = 0 → G l mi Rm Qf k n tgt lv st S I L R) (kf : 0 < a → G l mi Rm Qf k n pc' lv st S I L R) : G l mi Rm Qf k n pc lv (.inl (nI a) :: st) S I L R := g_ifle hd ht hp (fun h => kt (Nat.eq_zero_of_not_pos fun q => nI_nle q ha h)) (fun h => kf (Nat.pos_of_ne_zero fun q => by subst q; exact absurd (show nI 0 ≤ 0 by decide) h))
theorem g_ifltN {a : Nat} (ha : a < 2 ^ 31) {off : Int} (hd : decode mi.2.1 pc = .ok (.ifCond .lt off, 3)) (hp : pc + 3 = pc') (kk : G l mi Rm Qf k n pc' lv st S I L R) : G l mi Rm Qf k n pc lv (.inl (nI a) :: st) S I L R := by
  subst hp
  have hlt : ¬ nI a < 0 := nI_pos ha
  exact G.mk1 (fun {p e s m args below meth c H locs ls} ad Q hx hb ho hw hl kw => by
    intro T hT X
    obtain ⟨t, a1, b1⟩ := kw T hT X
    refine ⟨t, ?_, b1⟩
    jvm_step X.here [X.here.top, hx, hb, hd, Op.ifCond.holds, hlt, List.map_cons, cv]
    exact a1) (fun wl h => wsT h) kk
theorem g_ifgeN {a : Nat} (ha : a < 2 ^ 31) {off : Int} {tgt : Nat} (hd : decode mi.2.1 pc = .ok (.ifCond .ge off, 3)) (ht : (pc : Int) + off = (tgt : Int)) (kk : G l mi Rm Qf k n tgt lv st S I L R) : G l mi Rm Qf k n pc lv (.inl (nI a) :: st) S I L R := g_ifge hd ht rfl (fun _ => kk) (fun h => absurd (nI_pos' ha) h)
theorem g_ifnullT {off : Int} {tgt : Nat} (hd : decode mi.2.1 pc = .ok (.ifnull off, 3)) (ht : (pc : Int) + off = (tgt : Int)) (kk : G l mi Rm Qf k n tgt lv st S I L R) : G l mi Rm Qf k n pc lv (.inr (.inr none) :: st) S I L R := G.mk1 (fun ad _ hx hb ho hw hl kw => lv_ifnullN hx hb hd ht kw) (fun wl h => wsT h) kk
theorem g_ifnullF {t : Tok} {off : Int} (hd : decode mi.2.1 pc = .ok (.ifnull off, 3)) (hp : pc + 3 = pc') (kk : G l mi Rm Qf k n pc' lv st S I L R) : G l mi Rm Qf k n pc lv (.inr (.inr (some t)) :: st) S I L R := by
  subst hp
  exact G.mk1 (fun ad _ hx hb ho hw hl kw => lv_ifnull hx hb hd kw) (fun wl h => wsT h) kk
theorem g_ifnonnullT {t : Tok} {off : Int} {tgt : Nat} (hd : decode mi.2.1 pc = .ok (.ifnonnull off, 3)) (ht : (pc : Int) + off = (tgt : Int)) (kk : G l mi Rm Qf k n tgt lv st S I L R) : G l mi Rm Qf k n pc lv (.inr (.inr (some t)) :: st) S I L R := G.mk1 (fun ad _ hx hb ho hw hl kw => lv_ifnonnull hx hb hd ht kw) (fun wl h => wsT h) kk
theorem g_ifnonnullF {off : Int} (hd : decode mi.2.1 pc = .ok (.ifnonnull off, 3)) (hp : pc + 3 = pc') (kk : G l mi Rm Qf k n pc' lv st S I L R) : G l mi Rm Qf k n pc lv (.inr (.inr none) :: st) S I L R := by
  subst hp
  exact G.mk1 (fun ad _ hx hb ho hw hl kw => lv_ifnonnullN hx hb hd kw) (fun wl h => wsT h) kk
end N
theorem pI : parseFieldDescriptor "I" = some .int := by decide +kernel
theorem pAI : parseFieldDescriptor "[I" = some (.array .int) := by decide +kernel
theorem pAJ : parseFieldDescriptor "[J" = some (.array .long) := by decide +kernel
theorem pAB : parseFieldDescriptor "[B" = some (.array .byte) := by decide +kernel
theorem pSongs : parseFieldDescriptor "LEightWorlds$Songs;" = some (.object "EightWorlds$Songs") := by decide +kernel
theorem pWorld : parseFieldDescriptor "LEightWorlds$World;" = some (.object "EightWorlds$World") := by decide +kernel
theorem pLaw : parseFieldDescriptor "LEightWorlds$Law;" = some (.object "EightWorlds$Law") := by decide +kernel
theorem pTape : parseFieldDescriptor "LEightWorlds$Tape;" = some (.object "EightWorlds$Tape") := by decide +kernel
theorem pChanges : parseFieldDescriptor "LEightWorlds$Changes;" = some (.object "EightWorlds$Changes") := by decide +kernel
theorem pActs : parseFieldDescriptor "LEightWorlds$Acts;" = some (.object "EightWorlds$Acts") := by decide +kernel
theorem pOdds : parseFieldDescriptor "LEightWorlds$Odds;" = some (.object "EightWorlds$Odds") := by decide +kernel
theorem pALaw : parseFieldDescriptor "[LEightWorlds$Law;" = some (.array (.object "EightWorlds$Law")) := by decide +kernel
theorem pAWorld : parseFieldDescriptor "[LEightWorlds$World;" = some (.array (.object "EightWorlds$World")) := by decide +kernel
theorem pAShelf : parseFieldDescriptor "[LEightWorlds$Shelf;" = some (.array (.object "EightWorlds$Shelf")) := by decide +kernel
def PIp (S : Shp) (I : MI) (L : ML) (R : MR) (f : Int32) : PO := PIm S L R (fun v I' => v = f ∧ I' = I)
def PJp (S : Shp) (I : MI) (L : ML) (R : MR) (f : Int64) : PO := PJm S L R (fun v I' => v = f ∧ I' = I)
def PRp (S : Shp) (I : MI) (L : ML) (R : MR) (f : Option Tok) : PO := PRm S L R (fun v I' => v = f ∧ I' = I)
section P
variable {l : Launch} {mi : MInf} {Rm : Room} {Qf : QF} {k n pc pc' : Nat} {S : Shp} {I : MI} {L : ML} {R : MR} {lv : List (Option PV)} {st : List PV}
theorem kIp {f : Int32} (kk : G l mi Rm Qf k n pc' lv (.inl f :: st) S I L R) : ∀ (r : Option PV) (S' : Shp) (I' : MI) (L' : ML) (R' : MR), PIp S I L R f r S' I' L' R' → (∀ t, (S t).1 ≠ 0 → S' t = S t) → G l mi Rm Qf (k + 0) (n + 0) pc' lv (r.toList ++ st) S' I' L' R' := kI (by rintro v I' ⟨rfl, rfl⟩; exact kk)
theorem kJp {f : Int64} (kk : G l mi Rm Qf k n pc' lv (.inr (.inl f) :: st) S I L R) : ∀ (r : Option PV) (S' : Shp) (I' : MI) (L' : ML) (R' : MR), PJp S I L R f r S' I' L' R' → (∀ t, (S t).1 ≠ 0 → S' t = S t) → G l mi Rm Qf (k + 0) (n + 0) pc' lv (r.toList ++ st) S' I' L' R' := kJ (by rintro v I' ⟨rfl, rfl⟩; exact kk)
theorem kRp {f : Option Tok} (kk : G l mi Rm Qf k n pc' lv (.inr (.inr f) :: st) S I L R) : ∀ (r : Option PV) (S' : Shp) (I' : MI) (L' : ML) (R' : MR), PRp S I L R f r S' I' L' R' → (∀ t, (S t).1 ≠ 0 → S' t = S t) → G l mi Rm Qf (k + 0) (n + 0) pc' lv (r.toList ++ st) S' I' L' R' := kR (by rintro v I' ⟨rfl, rfl⟩; exact kk)
theorem eIp {v f : Int32} (h : v = f) : PIp S I L R f (some (.inl v)) S I L R := eI ⟨h, rfl⟩
theorem eJp {v f : Int64} (h : v = f) : PJp S I L R f (some (.inr (.inl v))) S I L R := eJ ⟨h, rfl⟩
theorem eRp {v f : Option Tok} (h : v = f) : PRp S I L R f (some (.inr (.inr v))) S I L R := eR ⟨h, rfl⟩
end P
/-- only what P names is changed -/
def Fr (P : Tok → Nat → Prop) (I I' : MI) : Prop := ∀ t k, ¬ P t k → I' t k = I t k
theorem Fr.rf {P : Tok → Nat → Prop} {I : MI} : Fr P I I := fun _ _ _ => rfl
theorem Fr.tr {P : Tok → Nat → Prop} {I J K : MI} (h : Fr P I J) (h2 : Fr P J K) : Fr P I K := fun t k q => (h2 t k q).trans (h t k q)
theorem Fr.le {P Q : Tok → Nat → Prop} {I J : MI} (h : Fr P I J) (hq : ∀ t k, P t k → Q t k) : Fr Q I J := fun t k q => h t k (fun z => q (hq t k z))
theorem Fr.up {P : Tok → Nat → Prop} {I J : MI} (h : Fr P I J) {t : Tok} {k : Nat} {v : Int32} (hp : P t k) : Fr P I (upM J t k v) := fun t' k' q => by
  have : ¬ (t' = t ∧ k' = k) := by
    rintro ⟨rfl, rfl⟩
    exact q hp
  rw [show upM J t k v t' k' = J t' k' from if_neg this]
  exact h t' k' q
theorem Fr.upT {P : Tok → Nat → Prop} {I J : MI} (h : Fr P I J) {t : Tok} {f : Nat → Int32} (hp : ∀ k, P t k) : Fr P I (upT J t f) := fun t' k' q => by
  have : ¬ t' = t := by
    rintro rfl
    exact q (hp k')
  rw [upT_n _ this]
  exact h t' k' q
