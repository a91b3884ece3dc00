/-! the law's calls, further -/
theorem lc_luck (l : Launch) {Ls : Nat} {xs : Nat → Int32} {q : Nat} {S : Shp} {I : MI} {L : ML} {R : MR} {k n : Nat} (hLs : Ls ≤ 3072) (h6 : 6 * q + 6 ≤ Ls) (iv : Inv Ls xs q S I L R) (hk : k ≤ 80 + 7 * q) (hn : n ≤ 8100 + 308 * q) (ih : LNext l Ls xs q) : G l mL_law room_1 QL k n 613 [some (.inr (.inr (some (99, 0)))), some (.inr (.inr (some (0, 0)))), some (.inr (.inr (some (40, 0)))), some (.inl (nI (6 * q)))] [] S I L R := by
  obtain ⟨n', m', c', b', g, kk⟩ := iv
  have hq : q < 600 := by omega
  obtain ⟨d, mc, ms, post, hc, hd, hmc, hms, hall⟩ := s_luck l g kk hq (xs (6 * q + 1)) (xs (6 * q + 2))
  have s99 := g.s99
  have e99 : ∀ j, I (99, 0) j = xs j := kk.sc
  refine g_ald1 (pc' := 614) dL_law_613 rfl ?_
  refine l_arg (pc' := 619) (j := 1) s99 (by omega) hLs rfl (e99 _) dL_law_614 dL_law_615 dL_law_616 dL_law_617 dL_law_618 rfl ?_
  refine l_arg (pc' := 624) (j := 2) s99 (by omega) hLs rfl (e99 _) dL_law_619 dL_law_620 dL_law_621 dL_law_622 dL_law_623 rfl ?_
  refine g_callVX hc g.xg.s0 (by decide) wX8_luck lL_70 rfl rfl (Nat.le_of_ble_eq_true rfl) ⟨by show d + 1 ≤ 2048; omega, by show 8 + (6 + 11) + (64 * d + 40) ≤ 84000; omega⟩ ⟨by show k + mc ≤ 600000; omega, by show n + ms ≤ 7302250; omega⟩ dL_law_624 rfl ?_
  rintro r S1 I1 L1 R1 hpost hext hro
  obtain ⟨w, d2, post2, rfl, hd2, hc2, hfin⟩ := hall _ _ _ _ _ hpost
  show G l mL_law room_1 QL (k + mc) (n + ms) 627 [some (.inr (.inr (some (99, 0)))), some (.inr (.inr (some (0, 0)))), some (.inr (.inr (some (40, 0)))), some (.inl (nI (6 * q)))] [.inl w] S1 I1 L1 R1
  have s991 : S1 (99, 0) = (7, Ls) := (hext _ (by rw [s99]; simp)).trans s99
  have e991 : ∀ j, j < Ls → I1 (99, 0) j = xs j := fun j hj => (hro (99, 0) j (by rw [s99]) (by rw [s99]; exact hj)).trans (e99 j)
  have s401 : S1 (40, 0) = (19, 0) := (hext _ (by rw [g.mg.s40]; simp)).trans g.mg.s40
  refine g_ald2 (pc' := 628) dL_law_627 rfl ?_
  refine l_arg (pc' := 633) (j := 1) s991 (by omega) hLs rfl (e991 _ (by omega)) dL_law_628 dL_law_629 dL_law_630 dL_law_631 dL_law_632 rfl ?_
  refine l_arg (pc' := 638) (j := 2) s991 (by omega) hLs rfl (e991 _ (by omega)) dL_law_633 dL_law_634 dL_law_635 dL_law_636 dL_law_637 rfl ?_
  refine g_callVX hc2 s401 (by decide) wX9_luck lL_73 rfl rfl (Nat.le_of_ble_eq_true rfl) ⟨by show d2 + 1 ≤ 2048; omega, by show 8 + (6 + 11) + (64 * d2 + 40) ≤ 84000; omega⟩ ⟨by show k + mc + 0 ≤ 600000; omega, by show n + ms + 0 ≤ 7302250; omega⟩ dL_law_638 rfl ?_
  rintro r2 S2 I2 L2 R2 hpost2 - -
  obtain ⟨rfl, hInv⟩ := hfin _ _ _ _ _ hpost2
  show G l mL_law room_1 QL (k + mc + 0) (n + ms + 0) 641 [some (.inr (.inr (some (99, 0)))), some (.inr (.inr (some (0, 0)))), some (.inr (.inr (some (40, 0)))), some (.inl (nI (6 * q)))] [.inl w, .inl w] S2 I2 L2 R2
  refine g_icmpeq (pc' := 644) (tgt := 1532) dL_law_641 (by decide) rfl (fun _ => ?_) (fun z => absurd rfl z)
  exact ih _ _ _ _ _ _ hInv (by omega) (by omega)

theorem lc_right (l : Launch) {Ls : Nat} {xs : Nat → Int32} {q : Nat} {S : Shp} {I : MI} {L : ML} {R : MR} {k n : Nat} (hLs : Ls ≤ 3072) (h6 : 6 * q + 6 ≤ Ls) (iv : Inv Ls xs q S I L R) (hk : k ≤ 80 + 7 * q) (hn : n ≤ 8100 + 308 * q) (ih : LNext l Ls xs q) : G l mL_law room_1 QL k n 646 [some (.inr (.inr (some (99, 0)))), some (.inr (.inr (some (0, 0)))), some (.inr (.inr (some (40, 0)))), some (.inl (nI (6 * q)))] [] S I L R := by
  obtain ⟨n', m', c', b', g, kk⟩ := iv
  have hq : q < 600 := by omega
  obtain ⟨d, mc, ms, post, hc, hd, hmc, hms, hall⟩ := s_right l g kk hq (xs (6 * q + 1))
  have s99 := g.s99
  have e99 : ∀ j, I (99, 0) j = xs j := kk.sc
  refine g_ald1 (pc' := 647) dL_law_646 rfl ?_
  refine l_arg (pc' := 652) (j := 1) s99 (by omega) hLs rfl (e99 _) dL_law_647 dL_law_648 dL_law_649 dL_law_650 dL_law_651 rfl ?_
  refine g_callVX hc g.xg.s0 (by decide) wX8_right lL_74 rfl rfl (Nat.le_of_ble_eq_true rfl) ⟨by show d + 1 ≤ 2048; omega, by show 8 + (8 + 11) + (64 * d + 40) ≤ 84000; omega⟩ ⟨by show k + mc ≤ 600000; omega, by show n + ms ≤ 7302250; omega⟩ dL_law_652 rfl ?_
  rintro r S1 I1 L1 R1 hpost hext hro
  obtain ⟨w, d2, post2, rfl, hd2, hc2, hfin⟩ := hall _ _ _ _ _ hpost
  show G l mL_law room_1 QL (k + mc) (n + ms) 655 [some (.inr (.inr (some (99, 0)))), some (.inr (.inr (some (0, 0)))), some (.inr (.inr (some (40, 0)))), some (.inl (nI (6 * q)))] [.inl w] S1 I1 L1 R1
  have s991 : S1 (99, 0) = (7, Ls) := (hext _ (by rw [s99]; simp)).trans s99
  have e991 : ∀ j, j < Ls → I1 (99, 0) j = xs j := fun j hj => (hro (99, 0) j (by rw [s99]) (by rw [s99]; exact hj)).trans (e99 j)
  have s401 : S1 (40, 0) = (19, 0) := (hext _ (by rw [g.mg.s40]; simp)).trans g.mg.s40
  refine g_ald2 (pc' := 656) dL_law_655 rfl ?_
  refine l_arg (pc' := 661) (j := 1) s991 (by omega) hLs rfl (e991 _ (by omega)) dL_law_656 dL_law_657 dL_law_658 dL_law_659 dL_law_660 rfl ?_
  refine g_callVX hc2 s401 (by decide) wX9_right lL_77 rfl rfl (Nat.le_of_ble_eq_true rfl) ⟨by show d2 + 1 ≤ 2048; omega, by show 8 + (2 + 11) + (64 * d2 + 40) ≤ 84000; omega⟩ ⟨by show k + mc + 0 ≤ 600000; omega, by show n + ms + 0 ≤ 7302250; omega⟩ dL_law_661 rfl ?_
  rintro r2 S2 I2 L2 R2 hpost2 - -
  obtain ⟨rfl, hInv⟩ := hfin _ _ _ _ _ hpost2
  show G l mL_law room_1 QL (k + mc + 0) (n + ms + 0) 664 [some (.inr (.inr (some (99, 0)))), some (.inr (.inr (some (0, 0)))), some (.inr (.inr (some (40, 0)))), some (.inl (nI (6 * q)))] [.inl w, .inl w] S2 I2 L2 R2
  refine g_icmpeq (pc' := 667) (tgt := 1532) dL_law_664 (by decide) rfl (fun _ => ?_) (fun z => absurd rfl z)
  exact ih _ _ _ _ _ _ hInv (by omega) (by omega)

theorem lc_guess (l : Launch) {Ls : Nat} {xs : Nat → Int32} {q : Nat} {S : Shp} {I : MI} {L : ML} {R : MR} {k n : Nat} (hLs : Ls ≤ 3072) (h6 : 6 * q + 6 ≤ Ls) (iv : Inv Ls xs q S I L R) (hk : k ≤ 80 + 7 * q) (hn : n ≤ 8100 + 308 * q) (ih : LNext l Ls xs q) : G l mL_law room_1 QL k n 669 [some (.inr (.inr (some (99, 0)))), some (.inr (.inr (some (0, 0)))), some (.inr (.inr (some (40, 0)))), some (.inl (nI (6 * q)))] [] S I L R := by
  obtain ⟨n', m', c', b', g, kk⟩ := iv
  have hq : q < 600 := by omega
  obtain ⟨d, mc, ms, post, hc, hd, hmc, hms, hall⟩ := s_guess l g kk hq (xs (6 * q + 1)) (xs (6 * q + 2))
  have s99 := g.s99
  have e99 : ∀ j, I (99, 0) j = xs j := kk.sc
  refine g_ald1 (pc' := 670) dL_law_669 rfl ?_
  refine l_arg (pc' := 675) (j := 1) s99 (by omega) hLs rfl (e99 _) dL_law_670 dL_law_671 dL_law_672 dL_law_673 dL_law_674 rfl ?_
  refine l_arg (pc' := 680) (j := 2) s99 (by omega) hLs rfl (e99 _) dL_law_675 dL_law_676 dL_law_677 dL_law_678 dL_law_679 rfl ?_
  refine g_callVX hc g.xg.s0 (by decide) wX8_guess lL_78 rfl rfl (Nat.le_of_ble_eq_true rfl) ⟨by show d + 1 ≤ 2048; omega, by show 8 + (9 + 11) + (64 * d + 40) ≤ 84000; omega⟩ ⟨by show k + mc ≤ 600000; omega, by show n + ms ≤ 7302250; omega⟩ dL_law_680 rfl ?_
  rintro r S1 I1 L1 R1 hpost hext hro
  obtain ⟨w, d2, post2, rfl, hd2, hc2, hfin⟩ := hall _ _ _ _ _ hpost
  show G l mL_law room_1 QL (k + mc) (n + ms) 683 [some (.inr (.inr (some (99, 0)))), some (.inr (.inr (some (0, 0)))), some (.inr (.inr (some (40, 0)))), some (.inl (nI (6 * q)))] [.inl w] S1 I1 L1 R1
  have s991 : S1 (99, 0) = (7, Ls) := (hext _ (by rw [s99]; simp)).trans s99
  have e991 : ∀ j, j < Ls → I1 (99, 0) j = xs j := fun j hj => (hro (99, 0) j (by rw [s99]) (by rw [s99]; exact hj)).trans (e99 j)
  have s401 : S1 (40, 0) = (19, 0) := (hext _ (by rw [g.mg.s40]; simp)).trans g.mg.s40
  refine g_ald2 (pc' := 684) dL_law_683 rfl ?_
  refine l_arg (pc' := 689) (j := 1) s991 (by omega) hLs rfl (e991 _ (by omega)) dL_law_684 dL_law_685 dL_law_686 dL_law_687 dL_law_688 rfl ?_
  refine l_arg (pc' := 694) (j := 2) s991 (by omega) hLs rfl (e991 _ (by omega)) dL_law_689 dL_law_690 dL_law_691 dL_law_692 dL_law_693 rfl ?_
  refine g_callVX hc2 s401 (by decide) wX9_guess lL_81 rfl rfl (Nat.le_of_ble_eq_true rfl) ⟨by show d2 + 1 ≤ 2048; omega, by show 8 + (3 + 11) + (64 * d2 + 40) ≤ 84000; omega⟩ ⟨by show k + mc + 0 ≤ 600000; omega, by show n + ms + 0 ≤ 7302250; omega⟩ dL_law_694 rfl ?_
  rintro r2 S2 I2 L2 R2 hpost2 - -
  obtain ⟨rfl, hInv⟩ := hfin _ _ _ _ _ hpost2
  show G l mL_law room_1 QL (k + mc + 0) (n + ms + 0) 697 [some (.inr (.inr (some (99, 0)))), some (.inr (.inr (some (0, 0)))), some (.inr (.inr (some (40, 0)))), some (.inl (nI (6 * q)))] [.inl w, .inl w] S2 I2 L2 R2
  refine g_icmpeq (pc' := 700) (tgt := 1532) dL_law_697 (by decide) rfl (fun _ => ?_) (fun z => absurd rfl z)
  exact ih _ _ _ _ _ _ hInv (by omega) (by omega)

theorem lc_odds (l : Launch) {Ls : Nat} {xs : Nat → Int32} {q : Nat} {S : Shp} {I : MI} {L : ML} {R : MR} {k n : Nat} (hLs : Ls ≤ 3072) (h6 : 6 * q + 6 ≤ Ls) (iv : Inv Ls xs q S I L R) (hk : k ≤ 80 + 7 * q) (hn : n ≤ 8100 + 308 * q) (ih : LNext l Ls xs q) : G l mL_law room_1 QL k n 702 [some (.inr (.inr (some (99, 0)))), some (.inr (.inr (some (0, 0)))), some (.inr (.inr (some (40, 0)))), some (.inl (nI (6 * q)))] [] S I L R := by
  obtain ⟨n', m', c', b', g, kk⟩ := iv
  have hq : q < 600 := by omega
  obtain ⟨d, mc, ms, post, hc, hd, hmc, hms, hall⟩ := s_odds l g kk hq (xs (6 * q + 1)) (xs (6 * q + 2)) (xs (6 * q + 3)) (xs (6 * q + 4))
  have s99 := g.s99
  have e99 : ∀ j, I (99, 0) j = xs j := kk.sc
  refine g_ald1 (pc' := 703) dL_law_702 rfl ?_
  refine l_arg (pc' := 708) (j := 1) s99 (by omega) hLs rfl (e99 _) dL_law_703 dL_law_704 dL_law_705 dL_law_706 dL_law_707 rfl ?_
  refine l_arg (pc' := 713) (j := 2) s99 (by omega) hLs rfl (e99 _) dL_law_708 dL_law_709 dL_law_710 dL_law_711 dL_law_712 rfl ?_
  refine l_arg (pc' := 718) (j := 3) s99 (by omega) hLs rfl (e99 _) dL_law_713 dL_law_714 dL_law_715 dL_law_716 dL_law_717 rfl ?_
  refine l_arg (pc' := 723) (j := 4) s99 (by omega) hLs rfl (e99 _) dL_law_718 dL_law_719 dL_law_720 dL_law_721 dL_law_722 rfl ?_
  refine g_callVX hc g.xg.s0 (by decide) wX8_odds lL_82 rfl rfl (Nat.le_of_ble_eq_true rfl) ⟨by show d + 1 ≤ 2048; omega, by show 8 + (6 + 11) + (64 * d + 40) ≤ 84000; omega⟩ ⟨by show k + mc ≤ 600000; omega, by show n + ms ≤ 7302250; omega⟩ dL_law_723 rfl ?_
  rintro r S1 I1 L1 R1 hpost hext hro
  obtain ⟨w, d2, post2, rfl, hd2, hc2, hfin⟩ := hall _ _ _ _ _ hpost
  show G l mL_law room_1 QL (k + mc) (n + ms) 726 [some (.inr (.inr (some (99, 0)))), some (.inr (.inr (some (0, 0)))), some (.inr (.inr (some (40, 0)))), some (.inl (nI (6 * q)))] [.inl w] S1 I1 L1 R1
  have s991 : S1 (99, 0) = (7, Ls) := (hext _ (by rw [s99]; simp)).trans s99
  have e991 : ∀ j, j < Ls → I1 (99, 0) j = xs j := fun j hj => (hro (99, 0) j (by rw [s99]) (by rw [s99]; exact hj)).trans (e99 j)
  have s401 : S1 (40, 0) = (19, 0) := (hext _ (by rw [g.mg.s40]; simp)).trans g.mg.s40
  refine g_ald2 (pc' := 727) dL_law_726 rfl ?_
  refine l_arg (pc' := 732) (j := 1) s991 (by omega) hLs rfl (e991 _ (by omega)) dL_law_727 dL_law_728 dL_law_729 dL_law_730 dL_law_731 rfl ?_
  refine l_arg (pc' := 737) (j := 2) s991 (by omega) hLs rfl (e991 _ (by omega)) dL_law_732 dL_law_733 dL_law_734 dL_law_735 dL_law_736 rfl ?_
  refine l_arg (pc' := 742) (j := 3) s991 (by omega) hLs rfl (e991 _ (by omega)) dL_law_737 dL_law_738 dL_law_739 dL_law_740 dL_law_741 rfl ?_
  refine l_arg (pc' := 747) (j := 4) s991 (by omega) hLs rfl (e991 _ (by omega)) dL_law_742 dL_law_743 dL_law_744 dL_law_745 dL_law_746 rfl ?_
  refine g_callVX hc2 s401 (by decide) wX9_odds lL_85 rfl rfl (Nat.le_of_ble_eq_true rfl) ⟨by show d2 + 1 ≤ 2048; omega, by show 8 + (5 + 11) + (64 * d2 + 40) ≤ 84000; omega⟩ ⟨by show k + mc + 0 ≤ 600000; omega, by show n + ms + 0 ≤ 7302250; omega⟩ dL_law_747 rfl ?_
  rintro r2 S2 I2 L2 R2 hpost2 - -
  obtain ⟨rfl, hInv⟩ := hfin _ _ _ _ _ hpost2
  show G l mL_law room_1 QL (k + mc + 0) (n + ms + 0) 750 [some (.inr (.inr (some (99, 0)))), some (.inr (.inr (some (0, 0)))), some (.inr (.inr (some (40, 0)))), some (.inl (nI (6 * q)))] [.inl w, .inl w] S2 I2 L2 R2
  refine g_icmpeq (pc' := 753) (tgt := 1532) dL_law_750 (by decide) rfl (fun _ => ?_) (fun z => absurd rfl z)
  exact ih _ _ _ _ _ _ hInv (by omega) (by omega)

theorem lc_after (l : Launch) {Ls : Nat} {xs : Nat → Int32} {q : Nat} {S : Shp} {I : MI} {L : ML} {R : MR} {k n : Nat} (hLs : Ls ≤ 3072) (h6 : 6 * q + 6 ≤ Ls) (iv : Inv Ls xs q S I L R) (hk : k ≤ 80 + 7 * q) (hn : n ≤ 8100 + 308 * q) (ih : LNext l Ls xs q) : G l mL_law room_1 QL k n 755 [some (.inr (.inr (some (99, 0)))), some (.inr (.inr (some (0, 0)))), some (.inr (.inr (some (40, 0)))), some (.inl (nI (6 * q)))] [] S I L R := by
  obtain ⟨n', m', c', b', g, kk⟩ := iv
  have hq : q < 600 := by omega
  obtain ⟨d, mc, ms, post, hc, hd, hmc, hms, hall⟩ := s_after l g kk hq (xs (6 * q + 1))
  have s99 := g.s99
  have e99 : ∀ j, I (99, 0) j = xs j := kk.sc
  refine g_ald1 (pc' := 756) dL_law_755 rfl ?_
  refine l_arg (pc' := 761) (j := 1) s99 (by omega) hLs rfl (e99 _) dL_law_756 dL_law_757 dL_law_758 dL_law_759 dL_law_760 rfl ?_
  refine g_callVX hc g.xg.s0 (by decide) wX8_after lL_86 rfl rfl (Nat.le_of_ble_eq_true rfl) ⟨by show d + 1 ≤ 2048; omega, by show 8 + (3 + 11) + (64 * d + 40) ≤ 84000; omega⟩ ⟨by show k + mc ≤ 600000; omega, by show n + ms ≤ 7302250; omega⟩ dL_law_761 rfl ?_
  rintro r S1 I1 L1 R1 hpost hext hro
  obtain ⟨w, d2, post2, rfl, hd2, hc2, hfin⟩ := hall _ _ _ _ _ hpost
  show G l mL_law room_1 QL (k + mc) (n + ms) 764 [some (.inr (.inr (some (99, 0)))), some (.inr (.inr (some (0, 0)))), some (.inr (.inr (some (40, 0)))), some (.inl (nI (6 * q)))] [.inl w] S1 I1 L1 R1
  have s991 : S1 (99, 0) = (7, Ls) := (hext _ (by rw [s99]; simp)).trans s99
  have e991 : ∀ j, j < Ls → I1 (99, 0) j = xs j := fun j hj => (hro (99, 0) j (by rw [s99]) (by rw [s99]; exact hj)).trans (e99 j)
  have s401 : S1 (40, 0) = (19, 0) := (hext _ (by rw [g.mg.s40]; simp)).trans g.mg.s40
  refine g_ald2 (pc' := 765) dL_law_764 rfl ?_
  refine l_arg (pc' := 770) (j := 1) s991 (by omega) hLs rfl (e991 _ (by omega)) dL_law_765 dL_law_766 dL_law_767 dL_law_768 dL_law_769 rfl ?_
  refine g_callVX hc2 s401 (by decide) wX9_after lL_89 rfl rfl (Nat.le_of_ble_eq_true rfl) ⟨by show d2 + 1 ≤ 2048; omega, by show 8 + (6 + 11) + (64 * d2 + 40) ≤ 84000; omega⟩ ⟨by show k + mc + 0 ≤ 600000; omega, by show n + ms + 0 ≤ 7302250; omega⟩ dL_law_770 rfl ?_
  rintro r2 S2 I2 L2 R2 hpost2 - -
  obtain ⟨rfl, hInv⟩ := hfin _ _ _ _ _ hpost2
  show G l mL_law room_1 QL (k + mc + 0) (n + ms + 0) 773 [some (.inr (.inr (some (99, 0)))), some (.inr (.inr (some (0, 0)))), some (.inr (.inr (some (40, 0)))), some (.inl (nI (6 * q)))] [.inl w, .inl w] S2 I2 L2 R2
  refine g_icmpeq (pc' := 776) (tgt := 1532) dL_law_773 (by decide) rfl (fun _ => ?_) (fun z => absurd rfl z)
  exact ih _ _ _ _ _ _ hInv (by omega) (by omega)

theorem lc_shop (l : Launch) {Ls : Nat} {xs : Nat → Int32} {q : Nat} {S : Shp} {I : MI} {L : ML} {R : MR} {k n : Nat} (hLs : Ls ≤ 3072) (h6 : 6 * q + 6 ≤ Ls) (iv : Inv Ls xs q S I L R) (hk : k ≤ 80 + 7 * q) (hn : n ≤ 8100 + 308 * q) (ih : LNext l Ls xs q) : G l mL_law room_1 QL k n 778 [some (.inr (.inr (some (99, 0)))), some (.inr (.inr (some (0, 0)))), some (.inr (.inr (some (40, 0)))), some (.inl (nI (6 * q)))] [] S I L R := by
  obtain ⟨n', m', c', b', g, kk⟩ := iv
  have hq : q < 600 := by omega
  obtain ⟨d, mc, ms, post, hc, hd, hmc, hms, hall⟩ := s_shop l g kk hq (xs (6 * q + 1)) (xs (6 * q + 2))
  have s99 := g.s99
  have e99 : ∀ j, I (99, 0) j = xs j := kk.sc
  refine g_ald1 (pc' := 779) dL_law_778 rfl ?_
  refine l_arg (pc' := 784) (j := 1) s99 (by omega) hLs rfl (e99 _) dL_law_779 dL_law_780 dL_law_781 dL_law_782 dL_law_783 rfl ?_
  refine l_arg (pc' := 789) (j := 2) s99 (by omega) hLs rfl (e99 _) dL_law_784 dL_law_785 dL_law_786 dL_law_787 dL_law_788 rfl ?_
  refine g_callVX hc g.xg.s0 (by decide) wX8_shop lL_90 rfl rfl (Nat.le_of_ble_eq_true rfl) ⟨by show d + 1 ≤ 2048; omega, by show 8 + (5 + 11) + (64 * d + 40) ≤ 84000; omega⟩ ⟨by show k + mc ≤ 600000; omega, by show n + ms ≤ 7302250; omega⟩ dL_law_789 rfl ?_
  rintro r S1 I1 L1 R1 hpost hext hro
  obtain ⟨w, d2, post2, rfl, hd2, hc2, hfin⟩ := hall _ _ _ _ _ hpost
  show G l mL_law room_1 QL (k + mc) (n + ms) 792 [some (.inr (.inr (some (99, 0)))), some (.inr (.inr (some (0, 0)))), some (.inr (.inr (some (40, 0)))), some (.inl (nI (6 * q)))] [.inl w] S1 I1 L1 R1
  have s991 : S1 (99, 0) = (7, Ls) := (hext _ (by rw [s99]; simp)).trans s99
  have e991 : ∀ j, j < Ls → I1 (99, 0) j = xs j := fun j hj => (hro (99, 0) j (by rw [s99]) (by rw [s99]; exact hj)).trans (e99 j)
  have s401 : S1 (40, 0) = (19, 0) := (hext _ (by rw [g.mg.s40]; simp)).trans g.mg.s40
  refine g_ald2 (pc' := 793) dL_law_792 rfl ?_
  refine l_arg (pc' := 798) (j := 1) s991 (by omega) hLs rfl (e991 _ (by omega)) dL_law_793 dL_law_794 dL_law_795 dL_law_796 dL_law_797 rfl ?_
  refine l_arg (pc' := 803) (j := 2) s991 (by omega) hLs rfl (e991 _ (by omega)) dL_law_798 dL_law_799 dL_law_800 dL_law_801 dL_law_802 rfl ?_
  refine g_callVX hc2 s401 (by decide) wX9_shop lL_93 rfl rfl (Nat.le_of_ble_eq_true rfl) ⟨by show d2 + 1 ≤ 2048; omega, by show 8 + (4 + 11) + (64 * d2 + 40) ≤ 84000; omega⟩ ⟨by show k + mc + 0 ≤ 600000; omega, by show n + ms + 0 ≤ 7302250; omega⟩ dL_law_803 rfl ?_
  rintro r2 S2 I2 L2 R2 hpost2 - -
  obtain ⟨rfl, hInv⟩ := hfin _ _ _ _ _ hpost2
  show G l mL_law room_1 QL (k + mc + 0) (n + ms + 0) 806 [some (.inr (.inr (some (99, 0)))), some (.inr (.inr (some (0, 0)))), some (.inr (.inr (some (40, 0)))), some (.inl (nI (6 * q)))] [.inl w, .inl w] S2 I2 L2 R2
  refine g_icmpeq (pc' := 809) (tgt := 1532) dL_law_806 (by decide) rfl (fun _ => ?_) (fun z => absurd rfl z)
  exact ih _ _ _ _ _ _ hInv (by omega) (by omega)

theorem lc_chart (l : Launch) {Ls : Nat} {xs : Nat → Int32} {q : Nat} {S : Shp} {I : MI} {L : ML} {R : MR} {k n : Nat} (hLs : Ls ≤ 3072) (h6 : 6 * q + 6 ≤ Ls) (iv : Inv Ls xs q S I L R) (hk : k ≤ 80 + 7 * q) (hn : n ≤ 8100 + 308 * q) (ih : LNext l Ls xs q) : G l mL_law room_1 QL k n 811 [some (.inr (.inr (some (99, 0)))), some (.inr (.inr (some (0, 0)))), some (.inr (.inr (some (40, 0)))), some (.inl (nI (6 * q)))] [] S I L R := by
  obtain ⟨n', m', c', b', g, kk⟩ := iv
  have hq : q < 600 := by omega
  obtain ⟨d, mc, ms, post, hc, hd, hmc, hms, hall⟩ := s_chart l g kk hq (xs (6 * q + 1)) (xs (6 * q + 2))
  have s99 := g.s99
  have e99 : ∀ j, I (99, 0) j = xs j := kk.sc
  refine g_ald1 (pc' := 812) dL_law_811 rfl ?_
  refine l_arg (pc' := 817) (j := 1) s99 (by omega) hLs rfl (e99 _) dL_law_812 dL_law_813 dL_law_814 dL_law_815 dL_law_816 rfl ?_
  refine l_arg (pc' := 822) (j := 2) s99 (by omega) hLs rfl (e99 _) dL_law_817 dL_law_818 dL_law_819 dL_law_820 dL_law_821 rfl ?_
  refine g_callVX hc g.xg.s0 (by decide) wX8_chart lL_94 rfl rfl (Nat.le_of_ble_eq_true rfl) ⟨by show d + 1 ≤ 2048; omega, by show 8 + (4 + 11) + (64 * d + 40) ≤ 84000; omega⟩ ⟨by show k + mc ≤ 600000; omega, by show n + ms ≤ 7302250; omega⟩ dL_law_822 rfl ?_
  rintro r S1 I1 L1 R1 hpost hext hro
  obtain ⟨w, d2, post2, rfl, hd2, hc2, hfin⟩ := hall _ _ _ _ _ hpost
  show G l mL_law room_1 QL (k + mc) (n + ms) 825 [some (.inr (.inr (some (99, 0)))), some (.inr (.inr (some (0, 0)))), some (.inr (.inr (some (40, 0)))), some (.inl (nI (6 * q)))] [.inl w] S1 I1 L1 R1
  have s991 : S1 (99, 0) = (7, Ls) := (hext _ (by rw [s99]; simp)).trans s99
  have e991 : ∀ j, j < Ls → I1 (99, 0) j = xs j := fun j hj => (hro (99, 0) j (by rw [s99]) (by rw [s99]; exact hj)).trans (e99 j)
  have s401 : S1 (40, 0) = (19, 0) := (hext _ (by rw [g.mg.s40]; simp)).trans g.mg.s40
  refine g_ald2 (pc' := 826) dL_law_825 rfl ?_
  refine l_arg (pc' := 831) (j := 1) s991 (by omega) hLs rfl (e991 _ (by omega)) dL_law_826 dL_law_827 dL_law_828 dL_law_829 dL_law_830 rfl ?_
  refine l_arg (pc' := 836) (j := 2) s991 (by omega) hLs rfl (e991 _ (by omega)) dL_law_831 dL_law_832 dL_law_833 dL_law_834 dL_law_835 rfl ?_
  refine g_callVX hc2 s401 (by decide) wX9_chart lL_97 rfl rfl (Nat.le_of_ble_eq_true rfl) ⟨by show d2 + 1 ≤ 2048; omega, by show 8 + (6 + 11) + (64 * d2 + 40) ≤ 84000; omega⟩ ⟨by show k + mc + 0 ≤ 600000; omega, by show n + ms + 0 ≤ 7302250; omega⟩ dL_law_836 rfl ?_
  rintro r2 S2 I2 L2 R2 hpost2 - -
  obtain ⟨rfl, hInv⟩ := hfin _ _ _ _ _ hpost2
  show G l mL_law room_1 QL (k + mc + 0) (n + ms + 0) 839 [some (.inr (.inr (some (99, 0)))), some (.inr (.inr (some (0, 0)))), some (.inr (.inr (some (40, 0)))), some (.inl (nI (6 * q)))] [.inl w, .inl w] S2 I2 L2 R2
  refine g_icmpeq (pc' := 842) (tgt := 1532) dL_law_839 (by decide) rfl (fun _ => ?_) (fun z => absurd rfl z)
  exact ih _ _ _ _ _ _ hInv (by omega) (by omega)

theorem lc_crate (l : Launch) {Ls : Nat} {xs : Nat → Int32} {q : Nat} {S : Shp} {I : MI} {L : ML} {R : MR} {k n : Nat} (hLs : Ls ≤ 3072) (h6 : 6 * q + 6 ≤ Ls) (iv : Inv Ls xs q S I L R) (hk : k ≤ 80 + 7 * q) (hn : n ≤ 8100 + 308 * q) (ih : LNext l Ls xs q) : G l mL_law room_1 QL k n 844 [some (.inr (.inr (some (99, 0)))), some (.inr (.inr (some (0, 0)))), some (.inr (.inr (some (40, 0)))), some (.inl (nI (6 * q)))] [] S I L R := by
  obtain ⟨n', m', c', b', g, kk⟩ := iv
  have hq : q < 600 := by omega
  obtain ⟨d, mc, ms, post, hc, hd, hmc, hms, hall⟩ := s_crate l g kk hq (xs (6 * q + 1)) (xs (6 * q + 2)) (xs (6 * q + 3))
  have s99 := g.s99
  have e99 : ∀ j, I (99, 0) j = xs j := kk.sc
  refine g_ald1 (pc' := 845) dL_law_844 rfl ?_
  refine l_arg (pc' := 850) (j := 1) s99 (by omega) hLs rfl (e99 _) dL_law_845 dL_law_846 dL_law_847 dL_law_848 dL_law_849 rfl ?_
  refine l_arg (pc' := 855) (j := 2) s99 (by omega) hLs rfl (e99 _) dL_law_850 dL_law_851 dL_law_852 dL_law_853 dL_law_854 rfl ?_
  refine l_arg (pc' := 860) (j := 3) s99 (by omega) hLs rfl (e99 _) dL_law_855 dL_law_856 dL_law_857 dL_law_858 dL_law_859 rfl ?_
  refine g_callVX hc g.xg.s0 (by decide) wX8_crate lL_98 rfl rfl (Nat.le_of_ble_eq_true rfl) ⟨by show d + 1 ≤ 2048; omega, by show 8 + (6 + 11) + (64 * d + 40) ≤ 84000; omega⟩ ⟨by show k + mc ≤ 600000; omega, by show n + ms ≤ 7302250; omega⟩ dL_law_860 rfl ?_
  rintro r S1 I1 L1 R1 hpost hext hro
  obtain ⟨w, d2, post2, rfl, hd2, hc2, hfin⟩ := hall _ _ _ _ _ hpost
  show G l mL_law room_1 QL (k + mc) (n + ms) 863 [some (.inr (.inr (some (99, 0)))), some (.inr (.inr (some (0, 0)))), some (.inr (.inr (some (40, 0)))), some (.inl (nI (6 * q)))] [.inl w] S1 I1 L1 R1
  have s991 : S1 (99, 0) = (7, Ls) := (hext _ (by rw [s99]; simp)).trans s99
  have e991 : ∀ j, j < Ls → I1 (99, 0) j = xs j := fun j hj => (hro (99, 0) j (by rw [s99]) (by rw [s99]; exact hj)).trans (e99 j)
  have s401 : S1 (40, 0) = (19, 0) := (hext _ (by rw [g.mg.s40]; simp)).trans g.mg.s40
  refine g_ald2 (pc' := 864) dL_law_863 rfl ?_
  refine l_arg (pc' := 869) (j := 1) s991 (by omega) hLs rfl (e991 _ (by omega)) dL_law_864 dL_law_865 dL_law_866 dL_law_867 dL_law_868 rfl ?_
  refine l_arg (pc' := 874) (j := 2) s991 (by omega) hLs rfl (e991 _ (by omega)) dL_law_869 dL_law_870 dL_law_871 dL_law_872 dL_law_873 rfl ?_
  refine l_arg (pc' := 879) (j := 3) s991 (by omega) hLs rfl (e991 _ (by omega)) dL_law_874 dL_law_875 dL_law_876 dL_law_877 dL_law_878 rfl ?_
  refine g_callVX hc2 s401 (by decide) wX9_crate lL_101 rfl rfl (Nat.le_of_ble_eq_true rfl) ⟨by show d2 + 1 ≤ 2048; omega, by show 8 + (6 + 11) + (64 * d2 + 40) ≤ 84000; omega⟩ ⟨by show k + mc + 0 ≤ 600000; omega, by show n + ms + 0 ≤ 7302250; omega⟩ dL_law_879 rfl ?_
  rintro r2 S2 I2 L2 R2 hpost2 - -
  obtain ⟨rfl, hInv⟩ := hfin _ _ _ _ _ hpost2
  show G l mL_law room_1 QL (k + mc + 0) (n + ms + 0) 882 [some (.inr (.inr (some (99, 0)))), some (.inr (.inr (some (0, 0)))), some (.inr (.inr (some (40, 0)))), some (.inl (nI (6 * q)))] [.inl w, .inl w] S2 I2 L2 R2
  refine g_icmpeq (pc' := 885) (tgt := 1532) dL_law_882 (by decide) rfl (fun _ => ?_) (fun z => absurd rfl z)
  exact ih _ _ _ _ _ _ hInv (by omega) (by omega)

theorem lc_found (l : Launch) {Ls : Nat} {xs : Nat → Int32} {q : Nat} {S : Shp} {I : MI} {L : ML} {R : MR} {k n : Nat} (hLs : Ls ≤ 3072) (h6 : 6 * q + 6 ≤ Ls) (iv : Inv Ls xs q S I L R) (hk : k ≤ 80 + 7 * q) (hn : n ≤ 8100 + 308 * q) (ih : LNext l Ls xs q) : G l mL_law room_1 QL k n 887 [some (.inr (.inr (some (99, 0)))), some (.inr (.inr (some (0, 0)))), some (.inr (.inr (some (40, 0)))), some (.inl (nI (6 * q)))] [] S I L R := by
  obtain ⟨n', m', c', b', g, kk⟩ := iv
  have hq : q < 600 := by omega
  obtain ⟨d, mc, ms, post, hc, hd, hmc, hms, hall⟩ := s_found l g kk hq (xs (6 * q + 1)) (xs (6 * q + 2))
  have s99 := g.s99
  have e99 : ∀ j, I (99, 0) j = xs j := kk.sc
  refine g_ald1 (pc' := 888) dL_law_887 rfl ?_
  refine l_arg (pc' := 893) (j := 1) s99 (by omega) hLs rfl (e99 _) dL_law_888 dL_law_889 dL_law_890 dL_law_891 dL_law_892 rfl ?_
  refine l_arg (pc' := 898) (j := 2) s99 (by omega) hLs rfl (e99 _) dL_law_893 dL_law_894 dL_law_895 dL_law_896 dL_law_897 rfl ?_
  refine g_callVX hc g.xg.s0 (by decide) wX8_found lL_102 rfl rfl (Nat.le_of_ble_eq_true rfl) ⟨by show d + 1 ≤ 2048; omega, by show 8 + (10 + 11) + (64 * d + 40) ≤ 84000; omega⟩ ⟨by show k + mc ≤ 600000; omega, by show n + ms ≤ 7302250; omega⟩ dL_law_898 rfl ?_
  rintro r S1 I1 L1 R1 hpost hext hro
  obtain ⟨w, d2, post2, rfl, hd2, hc2, hfin⟩ := hall _ _ _ _ _ hpost
  show G l mL_law room_1 QL (k + mc) (n + ms) 901 [some (.inr (.inr (some (99, 0)))), some (.inr (.inr (some (0, 0)))), some (.inr (.inr (some (40, 0)))), some (.inl (nI (6 * q)))] [.inl w] S1 I1 L1 R1
  have s991 : S1 (99, 0) = (7, Ls) := (hext _ (by rw [s99]; simp)).trans s99
  have e991 : ∀ j, j < Ls → I1 (99, 0) j = xs j := fun j hj => (hro (99, 0) j (by rw [s99]) (by rw [s99]; exact hj)).trans (e99 j)
  have s401 : S1 (40, 0) = (19, 0) := (hext _ (by rw [g.mg.s40]; simp)).trans g.mg.s40
  refine g_ald2 (pc' := 902) dL_law_901 rfl ?_
  refine l_arg (pc' := 907) (j := 1) s991 (by omega) hLs rfl (e991 _ (by omega)) dL_law_902 dL_law_903 dL_law_904 dL_law_905 dL_law_906 rfl ?_
  refine l_arg (pc' := 912) (j := 2) s991 (by omega) hLs rfl (e991 _ (by omega)) dL_law_907 dL_law_908 dL_law_909 dL_law_910 dL_law_911 rfl ?_
  refine g_callVX hc2 s401 (by decide) wX9_found lL_105 rfl rfl (Nat.le_of_ble_eq_true rfl) ⟨by show d2 + 1 ≤ 2048; omega, by show 8 + (11 + 11) + (64 * d2 + 40) ≤ 84000; omega⟩ ⟨by show k + mc + 0 ≤ 600000; omega, by show n + ms + 0 ≤ 7302250; omega⟩ dL_law_912 rfl ?_
  rintro r2 S2 I2 L2 R2 hpost2 - -
  obtain ⟨rfl, hInv⟩ := hfin _ _ _ _ _ hpost2
  show G l mL_law room_1 QL (k + mc + 0) (n + ms + 0) 915 [some (.inr (.inr (some (99, 0)))), some (.inr (.inr (some (0, 0)))), some (.inr (.inr (some (40, 0)))), some (.inl (nI (6 * q)))] [.inl w, .inl w] S2 I2 L2 R2
  refine g_icmpeq (pc' := 918) (tgt := 1532) dL_law_915 (by decide) rfl (fun _ => ?_) (fun z => absurd rfl z)
  exact ih _ _ _ _ _ _ hInv (by omega) (by omega)

theorem lc_house (l : Launch) {Ls : Nat} {xs : Nat → Int32} {q : Nat} {S : Shp} {I : MI} {L : ML} {R : MR} {k n : Nat} (hLs : Ls ≤ 3072) (h6 : 6 * q + 6 ≤ Ls) (iv : Inv Ls xs q S I L R) (hk : k ≤ 80 + 7 * q) (hn : n ≤ 8100 + 308 * q) (ih : LNext l Ls xs q) : G l mL_law room_1 QL k n 920 [some (.inr (.inr (some (99, 0)))), some (.inr (.inr (some (0, 0)))), some (.inr (.inr (some (40, 0)))), some (.inl (nI (6 * q)))] [] S I L R := by
  obtain ⟨n', m', c', b', g, kk⟩ := iv
  have hq : q < 600 := by omega
  obtain ⟨d, mc, ms, post, hc, hd, hmc, hms, hall⟩ := s_house l g kk hq (xs (6 * q + 1)) (xs (6 * q + 2)) (xs (6 * q + 3)) (xs (6 * q + 4))
  have s99 := g.s99
  have e99 : ∀ j, I (99, 0) j = xs j := kk.sc
  refine g_ald1 (pc' := 921) dL_law_920 rfl ?_
  refine l_arg (pc' := 926) (j := 1) s99 (by omega) hLs rfl (e99 _) dL_law_921 dL_law_922 dL_law_923 dL_law_924 dL_law_925 rfl ?_
  refine l_arg (pc' := 931) (j := 2) s99 (by omega) hLs rfl (e99 _) dL_law_926 dL_law_927 dL_law_928 dL_law_929 dL_law_930 rfl ?_
  refine l_arg (pc' := 936) (j := 3) s99 (by omega) hLs rfl (e99 _) dL_law_931 dL_law_932 dL_law_933 dL_law_934 dL_law_935 rfl ?_
  refine l_arg (pc' := 941) (j := 4) s99 (by omega) hLs rfl (e99 _) dL_law_936 dL_law_937 dL_law_938 dL_law_939 dL_law_940 rfl ?_
  refine g_callVX hc g.xg.s0 (by decide) wX8_house lL_106 rfl rfl (Nat.le_of_ble_eq_true rfl) ⟨by show d + 1 ≤ 2048; omega, by show 8 + (10 + 11) + (64 * d + 40) ≤ 84000; omega⟩ ⟨by show k + mc ≤ 600000; omega, by show n + ms ≤ 7302250; omega⟩ dL_law_941 rfl ?_
  rintro r S1 I1 L1 R1 hpost hext hro
  obtain ⟨w, d2, post2, rfl, hd2, hc2, hfin⟩ := hall _ _ _ _ _ hpost
  show G l mL_law room_1 QL (k + mc) (n + ms) 944 [some (.inr (.inr (some (99, 0)))), some (.inr (.inr (some (0, 0)))), some (.inr (.inr (some (40, 0)))), some (.inl (nI (6 * q)))] [.inl w] S1 I1 L1 R1
  have s991 : S1 (99, 0) = (7, Ls) := (hext _ (by rw [s99]; simp)).trans s99
  have e991 : ∀ j, j < Ls → I1 (99, 0) j = xs j := fun j hj => (hro (99, 0) j (by rw [s99]) (by rw [s99]; exact hj)).trans (e99 j)
  have s401 : S1 (40, 0) = (19, 0) := (hext _ (by rw [g.mg.s40]; simp)).trans g.mg.s40
  refine g_ald2 (pc' := 945) dL_law_944 rfl ?_
  refine l_arg (pc' := 950) (j := 1) s991 (by omega) hLs rfl (e991 _ (by omega)) dL_law_945 dL_law_946 dL_law_947 dL_law_948 dL_law_949 rfl ?_
  refine l_arg (pc' := 955) (j := 2) s991 (by omega) hLs rfl (e991 _ (by omega)) dL_law_950 dL_law_951 dL_law_952 dL_law_953 dL_law_954 rfl ?_
  refine l_arg (pc' := 960) (j := 3) s991 (by omega) hLs rfl (e991 _ (by omega)) dL_law_955 dL_law_956 dL_law_957 dL_law_958 dL_law_959 rfl ?_
  refine l_arg (pc' := 965) (j := 4) s991 (by omega) hLs rfl (e991 _ (by omega)) dL_law_960 dL_law_961 dL_law_962 dL_law_963 dL_law_964 rfl ?_
  refine g_callVX hc2 s401 (by decide) wX9_house lL_109 rfl rfl (Nat.le_of_ble_eq_true rfl) ⟨by show d2 + 1 ≤ 2048; omega, by show 8 + (8 + 11) + (64 * d2 + 40) ≤ 84000; omega⟩ ⟨by show k + mc + 0 ≤ 600000; omega, by show n + ms + 0 ≤ 7302250; omega⟩ dL_law_965 rfl ?_
  rintro r2 S2 I2 L2 R2 hpost2 - -
  obtain ⟨rfl, hInv⟩ := hfin _ _ _ _ _ hpost2
  show G l mL_law room_1 QL (k + mc + 0) (n + ms + 0) 968 [some (.inr (.inr (some (99, 0)))), some (.inr (.inr (some (0, 0)))), some (.inr (.inr (some (40, 0)))), some (.inl (nI (6 * q)))] [.inl w, .inl w] S2 I2 L2 R2
  refine g_icmpeq (pc' := 971) (tgt := 1532) dL_law_968 (by decide) rfl (fun _ => ?_) (fun z => absurd rfl z)
  exact ih _ _ _ _ _ _ hInv (by omega) (by omega)

theorem lc_said (l : Launch) {Ls : Nat} {xs : Nat → Int32} {q : Nat} {S : Shp} {I : MI} {L : ML} {R : MR} {k n : Nat} (hLs : Ls ≤ 3072) (h6 : 6 * q + 6 ≤ Ls) (iv : Inv Ls xs q S I L R) (hk : k ≤ 80 + 7 * q) (hn : n ≤ 8100 + 308 * q) (ih : LNext l Ls xs q) : G l mL_law room_1 QL k n 973 [some (.inr (.inr (some (99, 0)))), some (.inr (.inr (some (0, 0)))), some (.inr (.inr (some (40, 0)))), some (.inl (nI (6 * q)))] [] S I L R := by
  obtain ⟨n', m', c', b', g, kk⟩ := iv
  have hq : q < 600 := by omega
  obtain ⟨d, mc, ms, post, hc, hd, hmc, hms, hall⟩ := s_said l g kk hq (xs (6 * q + 1)) (xs (6 * q + 2))
  have s99 := g.s99
  have e99 : ∀ j, I (99, 0) j = xs j := kk.sc
  refine g_ald1 (pc' := 974) dL_law_973 rfl ?_
  refine l_arg (pc' := 979) (j := 1) s99 (by omega) hLs rfl (e99 _) dL_law_974 dL_law_975 dL_law_976 dL_law_977 dL_law_978 rfl ?_
  refine l_arg (pc' := 984) (j := 2) s99 (by omega) hLs rfl (e99 _) dL_law_979 dL_law_980 dL_law_981 dL_law_982 dL_law_983 rfl ?_
  refine g_callVX hc g.xg.s0 (by decide) wX8_said lL_110 rfl rfl (Nat.le_of_ble_eq_true rfl) ⟨by show d + 1 ≤ 2048; omega, by show 8 + (8 + 11) + (64 * d + 40) ≤ 84000; omega⟩ ⟨by show k + mc ≤ 600000; omega, by show n + ms ≤ 7302250; omega⟩ dL_law_984 rfl ?_
  rintro r S1 I1 L1 R1 hpost hext hro
  obtain ⟨w, d2, post2, rfl, hd2, hc2, hfin⟩ := hall _ _ _ _ _ hpost
  show G l mL_law room_1 QL (k + mc) (n + ms) 987 [some (.inr (.inr (some (99, 0)))), some (.inr (.inr (some (0, 0)))), some (.inr (.inr (some (40, 0)))), some (.inl (nI (6 * q)))] [.inl w] S1 I1 L1 R1
  have s991 : S1 (99, 0) = (7, Ls) := (hext _ (by rw [s99]; simp)).trans s99
  have e991 : ∀ j, j < Ls → I1 (99, 0) j = xs j := fun j hj => (hro (99, 0) j (by rw [s99]) (by rw [s99]; exact hj)).trans (e99 j)
  have s401 : S1 (40, 0) = (19, 0) := (hext _ (by rw [g.mg.s40]; simp)).trans g.mg.s40
  refine g_ald2 (pc' := 988) dL_law_987 rfl ?_
  refine l_arg (pc' := 993) (j := 1) s991 (by omega) hLs rfl (e991 _ (by omega)) dL_law_988 dL_law_989 dL_law_990 dL_law_991 dL_law_992 rfl ?_
  refine l_arg (pc' := 998) (j := 2) s991 (by omega) hLs rfl (e991 _ (by omega)) dL_law_993 dL_law_994 dL_law_995 dL_law_996 dL_law_997 rfl ?_
  refine g_callVX hc2 s401 (by decide) wX9_said lL_113 rfl rfl (Nat.le_of_ble_eq_true rfl) ⟨by show d2 + 1 ≤ 2048; omega, by show 8 + (5 + 11) + (64 * d2 + 40) ≤ 84000; omega⟩ ⟨by show k + mc + 0 ≤ 600000; omega, by show n + ms + 0 ≤ 7302250; omega⟩ dL_law_998 rfl ?_
  rintro r2 S2 I2 L2 R2 hpost2 - -
  obtain ⟨rfl, hInv⟩ := hfin _ _ _ _ _ hpost2
  show G l mL_law room_1 QL (k + mc + 0) (n + ms + 0) 1001 [some (.inr (.inr (some (99, 0)))), some (.inr (.inr (some (0, 0)))), some (.inr (.inr (some (40, 0)))), some (.inl (nI (6 * q)))] [.inl w, .inl w] S2 I2 L2 R2
  refine g_icmpeq (pc' := 1004) (tgt := 1532) dL_law_1001 (by decide) rfl (fun _ => ?_) (fun z => absurd rfl z)
  exact ih _ _ _ _ _ _ hInv (by omega) (by omega)

theorem lc_strong (l : Launch) {Ls : Nat} {xs : Nat → Int32} {q : Nat} {S : Shp} {I : MI} {L : ML} {R : MR} {k n : Nat} (hLs : Ls ≤ 3072) (h6 : 6 * q + 6 ≤ Ls) (iv : Inv Ls xs q S I L R) (hk : k ≤ 80 + 7 * q) (hn : n ≤ 8100 + 308 * q) (ih : LNext l Ls xs q) : G l mL_law room_1 QL k n 1006 [some (.inr (.inr (some (99, 0)))), some (.inr (.inr (some (0, 0)))), some (.inr (.inr (some (40, 0)))), some (.inl (nI (6 * q)))] [] S I L R := by
  obtain ⟨n', m', c', b', g, kk⟩ := iv
  have hq : q < 600 := by omega
  obtain ⟨d, mc, ms, post, hc, hd, hmc, hms, hall⟩ := s_strong l g kk hq (xs (6 * q + 1)) (xs (6 * q + 2)) (xs (6 * q + 3))
  have s99 := g.s99
  have e99 : ∀ j, I (99, 0) j = xs j := kk.sc
  refine g_ald1 (pc' := 1007) dL_law_1006 rfl ?_
  refine l_arg (pc' := 1012) (j := 1) s99 (by omega) hLs rfl (e99 _) dL_law_1007 dL_law_1008 dL_law_1009 dL_law_1010 dL_law_1011 rfl ?_
  refine l_arg (pc' := 1017) (j := 2) s99 (by omega) hLs rfl (e99 _) dL_law_1012 dL_law_1013 dL_law_1014 dL_law_1015 dL_law_1016 rfl ?_
  refine l_arg (pc' := 1022) (j := 3) s99 (by omega) hLs rfl (e99 _) dL_law_1017 dL_law_1018 dL_law_1019 dL_law_1020 dL_law_1021 rfl ?_
  refine g_callVX hc g.xg.s0 (by decide) wX8_strong lL_114 rfl rfl (Nat.le_of_ble_eq_true rfl) ⟨by show d + 1 ≤ 2048; omega, by show 8 + (6 + 11) + (64 * d + 40) ≤ 84000; omega⟩ ⟨by show k + mc ≤ 600000; omega, by show n + ms ≤ 7302250; omega⟩ dL_law_1022 rfl ?_
  rintro r S1 I1 L1 R1 hpost hext hro
  obtain ⟨w, d2, post2, rfl, hd2, hc2, hfin⟩ := hall _ _ _ _ _ hpost
  show G l mL_law room_1 QL (k + mc) (n + ms) 1025 [some (.inr (.inr (some (99, 0)))), some (.inr (.inr (some (0, 0)))), some (.inr (.inr (some (40, 0)))), some (.inl (nI (6 * q)))] [.inl w] S1 I1 L1 R1
  have s991 : S1 (99, 0) = (7, Ls) := (hext _ (by rw [s99]; simp)).trans s99
  have e991 : ∀ j, j < Ls → I1 (99, 0) j = xs j := fun j hj => (hro (99, 0) j (by rw [s99]) (by rw [s99]; exact hj)).trans (e99 j)
  have s401 : S1 (40, 0) = (19, 0) := (hext _ (by rw [g.mg.s40]; simp)).trans g.mg.s40
  refine g_ald2 (pc' := 1026) dL_law_1025 rfl ?_
  refine l_arg (pc' := 1031) (j := 1) s991 (by omega) hLs rfl (e991 _ (by omega)) dL_law_1026 dL_law_1027 dL_law_1028 dL_law_1029 dL_law_1030 rfl ?_
  refine l_arg (pc' := 1036) (j := 2) s991 (by omega) hLs rfl (e991 _ (by omega)) dL_law_1031 dL_law_1032 dL_law_1033 dL_law_1034 dL_law_1035 rfl ?_
  refine l_arg (pc' := 1041) (j := 3) s991 (by omega) hLs rfl (e991 _ (by omega)) dL_law_1036 dL_law_1037 dL_law_1038 dL_law_1039 dL_law_1040 rfl ?_
  refine g_callVX hc2 s401 (by decide) wX9_strong lL_117 rfl rfl (Nat.le_of_ble_eq_true rfl) ⟨by show d2 + 1 ≤ 2048; omega, by show 8 + (4 + 11) + (64 * d2 + 40) ≤ 84000; omega⟩ ⟨by show k + mc + 0 ≤ 600000; omega, by show n + ms + 0 ≤ 7302250; omega⟩ dL_law_1041 rfl ?_
  rintro r2 S2 I2 L2 R2 hpost2 - -
  obtain ⟨rfl, hInv⟩ := hfin _ _ _ _ _ hpost2
  show G l mL_law room_1 QL (k + mc + 0) (n + ms + 0) 1044 [some (.inr (.inr (some (99, 0)))), some (.inr (.inr (some (0, 0)))), some (.inr (.inr (some (40, 0)))), some (.inl (nI (6 * q)))] [.inl w, .inl w] S2 I2 L2 R2
  refine g_icmpeq (pc' := 1047) (tgt := 1532) dL_law_1044 (by decide) rfl (fun _ => ?_) (fun z => absurd rfl z)
  exact ih _ _ _ _ _ _ hInv (by omega) (by omega)

theorem lc_line (l : Launch) {Ls : Nat} {xs : Nat → Int32} {q : Nat} {S : Shp} {I : MI} {L : ML} {R : MR} {k n : Nat} (hLs : Ls ≤ 3072) (h6 : 6 * q + 6 ≤ Ls) (iv : Inv Ls xs q S I L R) (hk : k ≤ 80 + 7 * q) (hn : n ≤ 8100 + 308 * q) (ih : LNext l Ls xs q) : G l mL_law room_1 QL k n 1049 [some (.inr (.inr (some (99, 0)))), some (.inr (.inr (some (0, 0)))), some (.inr (.inr (some (40, 0)))), some (.inl (nI (6 * q)))] [] S I L R := by
  obtain ⟨n', m', c', b', g, kk⟩ := iv
  have hq : q < 600 := by omega
  obtain ⟨d, mc, ms, post, hc, hd, hmc, hms, hall⟩ := s_line l g kk hq (xs (6 * q + 1))
  have s99 := g.s99
  have e99 : ∀ j, I (99, 0) j = xs j := kk.sc
  refine g_ald1 (pc' := 1050) dL_law_1049 rfl ?_
  refine l_arg (pc' := 1055) (j := 1) s99 (by omega) hLs rfl (e99 _) dL_law_1050 dL_law_1051 dL_law_1052 dL_law_1053 dL_law_1054 rfl ?_
  refine g_callVX hc g.xg.s0 (by decide) wX8_line lL_118 rfl rfl (Nat.le_of_ble_eq_true rfl) ⟨by show d + 1 ≤ 2048; omega, by show 8 + (4 + 11) + (64 * d + 40) ≤ 84000; omega⟩ ⟨by show k + mc ≤ 600000; omega, by show n + ms ≤ 7302250; omega⟩ dL_law_1055 rfl ?_
  rintro r S1 I1 L1 R1 hpost hext hro
  obtain ⟨w, d2, post2, rfl, hd2, hc2, hfin⟩ := hall _ _ _ _ _ hpost
  show G l mL_law room_1 QL (k + mc) (n + ms) 1058 [some (.inr (.inr (some (99, 0)))), some (.inr (.inr (some (0, 0)))), some (.inr (.inr (some (40, 0)))), some (.inl (nI (6 * q)))] [.inl w] S1 I1 L1 R1
  have s991 : S1 (99, 0) = (7, Ls) := (hext _ (by rw [s99]; simp)).trans s99
  have e991 : ∀ j, j < Ls → I1 (99, 0) j = xs j := fun j hj => (hro (99, 0) j (by rw [s99]) (by rw [s99]; exact hj)).trans (e99 j)
  have s401 : S1 (40, 0) = (19, 0) := (hext _ (by rw [g.mg.s40]; simp)).trans g.mg.s40
  refine g_ald2 (pc' := 1059) dL_law_1058 rfl ?_
  refine l_arg (pc' := 1064) (j := 1) s991 (by omega) hLs rfl (e991 _ (by omega)) dL_law_1059 dL_law_1060 dL_law_1061 dL_law_1062 dL_law_1063 rfl ?_
  refine g_callVX hc2 s401 (by decide) wX9_line lL_121 rfl rfl (Nat.le_of_ble_eq_true rfl) ⟨by show d2 + 1 ≤ 2048; omega, by show 8 + (2 + 11) + (64 * d2 + 40) ≤ 84000; omega⟩ ⟨by show k + mc + 0 ≤ 600000; omega, by show n + ms + 0 ≤ 7302250; omega⟩ dL_law_1064 rfl ?_
  rintro r2 S2 I2 L2 R2 hpost2 - -
  obtain ⟨rfl, hInv⟩ := hfin _ _ _ _ _ hpost2
  show G l mL_law room_1 QL (k + mc + 0) (n + ms + 0) 1067 [some (.inr (.inr (some (99, 0)))), some (.inr (.inr (some (0, 0)))), some (.inr (.inr (some (40, 0)))), some (.inl (nI (6 * q)))] [.inl w, .inl w] S2 I2 L2 R2
  refine g_icmpeq (pc' := 1070) (tgt := 1532) dL_law_1067 (by decide) rfl (fun _ => ?_) (fun z => absurd rfl z)
  exact ih _ _ _ _ _ _ hInv (by omega) (by omega)
