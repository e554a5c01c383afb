set_option maxHeartbeats 4000000 in
set_option maxRecDepth 100000 in
theorem lc_told {G : KG} {X : KX} {l : Launch} {b L : Nat} {sq : Nat → Int32} {ce sl : Nat} (F : kF false G X l code RL 4 (some .boolean) room_1) (S : LSq X b L sq) (hL : L ≤ 3072) (hcr : ce ≤ 600000 ∧ sl ≤ 7302250) {M N : Mem} (hI : Inv false M) (hX : XX M) (hJ : Inv true N) (hY : YY N) (hm : Tie M N) {i : Int} (hi : 0 ≤ i ∧ i + 6 ≤ L) (K : ∀ M' N' : Mem, Inv false M' → XX M' → Inv true N' → YY N' → Tie M' N' → LJ G X ce sl M' N' 2050 [some (.ref b), some (vR G 0), some (vR G 163), some (vI i)] []) : LJ G X ce sl M N 608 [some (.ref b), some (vR G 0), some (vR G 163), some (vI i)] [] := by
  obtain ⟨q, hV, hS, hU, hR, hT⟩ := hm.2.2.2.2.2.2.2.2.1.1
  refine kw_aload_n 609 F 1 dL_law_608 rfl rfl rfl ?_
  refine kw_aload_n 610 F 0 dL_law_609 rfl rfl rfl ?_
  refine kw_iload_n 611 F 3 dL_law_610 rfl rfl rfl ?_
  refine kw_iconst 612 F dL_law_611 rfl ?_
  refine kw_iadd 613 F (v := i + 1) dL_law_612 rfl rfl ?_
  refine kw_sld 614 F S hL (z := i + 1) (by omega) dL_law_613 rfl ?_
  have hs1 := sv_rng sq (i + 1)
  refine kw_VCi 617 F (As := [vI (sv sq (i + 1))]) (st := []) vd_L_63 (e_X11_told G l M 0 (sv sq (i + 1)) hI kd_0 (by omega) q hS hU) kd_0 rfl rfl rfl ⟨by decide, by decide⟩ rfl rfl (Nat.le_of_ble_eq_true rfl) dL_law_614 rfl hcr ?_
  intro r2 U3 q4
  obtain ⟨hiU3, hfU3, q4, huU3⟩ := q4
  have hxU3 : XX U3 := XX.fr hX hI hfU3 rfl
  refine kw_pop 618 F dL_law_617 rfl rfl ?_
  refine kw_aload_n 619 F 2 dL_law_618 rfl rfl rfl ?_
  refine kw_aload_n 620 F 0 dL_law_619 rfl rfl rfl ?_
  refine kw_iload_n 621 F 3 dL_law_620 rfl rfl rfl ?_
  refine kw_iconst 622 F dL_law_621 rfl ?_
  refine kw_iadd 623 F (v := i + 1) dL_law_622 rfl rfl ?_
  refine kw_sld 624 F S hL (z := i + 1) (by omega) dL_law_623 rfl ?_
  refine kw_VMi 627 F (As := [vI (sv sq (i + 1))]) (st := []) vd_L_66 (e_X12_told G l N (sv sq (i + 1)) hJ (by omega) q hR hT) kd_163 rfl rfl rfl ⟨by decide, by decide⟩ rfl rfl (Nat.le_of_ble_eq_true rfl) dL_law_624 rfl hcr ?_
  intro r6 U7 q8
  obtain ⟨hiU7, hfU7, q8, huU7⟩ := q8
  have hyU7 : YY U7 := YY.fr hY hfU7 rfl
  have he := zTD.u huU3 huU7
  have ht : Tie U3 U7 := (Tie.m (Tie.c hm hI hfU3 rfl) hJ hfU7 rfl hiU3 (fun i => congrFun (Fr.fn hfU7 kd_164 rfl) i))
  refine kw_pop 628 F dL_law_627 rfl rfl ?_
  refine kw_goto 2050 F dL_law_628 (by decide) ?_
  exact K U3 U7 hiU3 hxU3 hiU7 hyU7 ht
set_option maxHeartbeats 4000000 in
set_option maxRecDepth 100000 in
theorem lc_automaton {G : KG} {X : KX} {l : Launch} {b L : Nat} {sq : Nat → Int32} {ce sl : Nat} (F : kF false G X l code RL 4 (some .boolean) room_1) (S : LSq X b L sq) (hL : L ≤ 3072) (hcr : ce ≤ 600000 ∧ sl ≤ 7302250) {M N : Mem} (hI : Inv false M) (hX : XX M) (hJ : Inv true N) (hY : YY N) (hm : Tie M N) {i : Int} (hi : 0 ≤ i ∧ i + 6 ≤ L) (K : ∀ M' N' : Mem, Inv false M' → XX M' → Inv true N' → YY N' → Tie M' N' → LJ G X ce sl M' N' 2050 [some (.ref b), some (vR G 0), some (vR G 163), some (vI i)] []) : LJ G X ce sl M N 631 [some (.ref b), some (vR G 0), some (vR G 163), some (vI i)] [] := by
  obtain ⟨q, hV, hS, hU, hR, hT⟩ := hm.2.2.2.2.2.2.2.2.1.1
  refine kw_aload_n 632 F 1 dL_law_631 rfl rfl rfl ?_
  refine kw_aload_n 633 F 0 dL_law_632 rfl rfl rfl ?_
  refine kw_iload_n 634 F 3 dL_law_633 rfl rfl rfl ?_
  refine kw_iconst 635 F dL_law_634 rfl ?_
  refine kw_iadd 636 F (v := i + 1) dL_law_635 rfl rfl ?_
  refine kw_sld 637 F S hL (z := i + 1) (by omega) dL_law_636 rfl ?_
  have hs1 := sv_rng sq (i + 1)
  refine kw_aload_n 638 F 0 dL_law_637 rfl rfl rfl ?_
  refine kw_iload_n 639 F 3 dL_law_638 rfl rfl rfl ?_
  refine kw_iconst 640 F dL_law_639 rfl ?_
  refine kw_iadd 641 F (v := i + 2) dL_law_640 rfl rfl ?_
  refine kw_sld 642 F S hL (z := i + 2) (by omega) dL_law_641 rfl ?_
  have hs2 := sv_rng sq (i + 2)
  refine kw_VCi 645 F (As := [vI (sv sq (i + 1)), vI (sv sq (i + 2))]) (st := []) vd_L_67 (e_X11_automaton G l M 0 (sv sq (i + 1)) (sv sq (i + 2)) hI kd_0 (by omega) q hS hU) kd_0 rfl rfl rfl ⟨by decide, by decide⟩ rfl rfl (Nat.le_of_ble_eq_true rfl) dL_law_642 rfl hcr ?_
  intro r3 U4 q5
  obtain ⟨hiU4, hfU4, q5, huU4⟩ := q5
  have hxU4 : XX U4 := XX.fr hX hI hfU4 rfl
  refine kw_pop 646 F dL_law_645 rfl rfl ?_
  refine kw_aload_n 647 F 2 dL_law_646 rfl rfl rfl ?_
  refine kw_aload_n 648 F 0 dL_law_647 rfl rfl rfl ?_
  refine kw_iload_n 649 F 3 dL_law_648 rfl rfl rfl ?_
  refine kw_iconst 650 F dL_law_649 rfl ?_
  refine kw_iadd 651 F (v := i + 1) dL_law_650 rfl rfl ?_
  refine kw_sld 652 F S hL (z := i + 1) (by omega) dL_law_651 rfl ?_
  refine kw_aload_n 653 F 0 dL_law_652 rfl rfl rfl ?_
  refine kw_iload_n 654 F 3 dL_law_653 rfl rfl rfl ?_
  refine kw_iconst 655 F dL_law_654 rfl ?_
  refine kw_iadd 656 F (v := i + 2) dL_law_655 rfl rfl ?_
  refine kw_sld 657 F S hL (z := i + 2) (by omega) dL_law_656 rfl ?_
  refine kw_VMi 660 F (As := [vI (sv sq (i + 1)), vI (sv sq (i + 2))]) (st := []) vd_L_71 (e_X12_automaton G l N (sv sq (i + 1)) (sv sq (i + 2)) hJ (by omega) q hR hT) kd_163 rfl rfl rfl ⟨by decide, by decide⟩ rfl rfl (Nat.le_of_ble_eq_true rfl) dL_law_657 rfl hcr ?_
  intro r8 U9 q10
  obtain ⟨hiU9, hfU9, q10, huU9⟩ := q10
  have hyU9 : YY U9 := YY.fr hY hfU9 rfl
  have he := zAU.u huU4 huU9
  have ht : Tie U4 U9 := (Tie.m (Tie.c hm hI hfU4 rfl) hJ hfU9 rfl hiU4 (fun i => congrFun (Fr.fn hfU9 kd_164 rfl) i))
  refine kw_pop 661 F dL_law_660 rfl rfl ?_
  refine kw_goto 2050 F dL_law_661 (by decide) ?_
  exact K U4 U9 hiU4 hxU4 hiU9 hyU9 ht
set_option maxHeartbeats 4000000 in
set_option maxRecDepth 100000 in
theorem lc_rule {G : KG} {X : KX} {l : Launch} {b L : Nat} {sq : Nat → Int32} {ce sl : Nat} (F : kF false G X l code RL 4 (some .boolean) room_1) (S : LSq X b L sq) (hL : L ≤ 3072) (hcr : ce ≤ 600000 ∧ sl ≤ 7302250) {M N : Mem} (hI : Inv false M) (hX : XX M) (hJ : Inv true N) (hY : YY N) (hm : Tie M N) {i : Int} (hi : 0 ≤ i ∧ i + 6 ≤ L) (K : ∀ M' N' : Mem, Inv false M' → XX M' → Inv true N' → YY N' → Tie M' N' → LJ G X ce sl M' N' 2050 [some (.ref b), some (vR G 0), some (vR G 163), some (vI i)] []) : LJ G X ce sl M N 664 [some (.ref b), some (vR G 0), some (vR G 163), some (vI i)] [] := by
  obtain ⟨q, hV, hS, hU, hR, hT⟩ := hm.2.2.2.2.2.2.2.2.1.1
  refine kw_aload_n 665 F 1 dL_law_664 rfl rfl rfl ?_
  refine kw_aload_n 666 F 0 dL_law_665 rfl rfl rfl ?_
  refine kw_iload_n 667 F 3 dL_law_666 rfl rfl rfl ?_
  refine kw_iconst 668 F dL_law_667 rfl ?_
  refine kw_iadd 669 F (v := i + 1) dL_law_668 rfl rfl ?_
  refine kw_sld 670 F S hL (z := i + 1) (by omega) dL_law_669 rfl ?_
  have hs1 := sv_rng sq (i + 1)
  refine kw_aload_n 671 F 0 dL_law_670 rfl rfl rfl ?_
  refine kw_iload_n 672 F 3 dL_law_671 rfl rfl rfl ?_
  refine kw_iconst 673 F dL_law_672 rfl ?_
  refine kw_iadd 674 F (v := i + 2) dL_law_673 rfl rfl ?_
  refine kw_sld 675 F S hL (z := i + 2) (by omega) dL_law_674 rfl ?_
  have hs2 := sv_rng sq (i + 2)
  refine kw_aload_n 676 F 0 dL_law_675 rfl rfl rfl ?_
  refine kw_iload_n 677 F 3 dL_law_676 rfl rfl rfl ?_
  refine kw_iconst 678 F dL_law_677 rfl ?_
  refine kw_iadd 679 F (v := i + 3) dL_law_678 rfl rfl ?_
  refine kw_sld 680 F S hL (z := i + 3) (by omega) dL_law_679 rfl ?_
  have hs3 := sv_rng sq (i + 3)
  refine kw_VCi 683 F (As := [vI (sv sq (i + 1)), vI (sv sq (i + 2)), vI (sv sq (i + 3))]) (st := []) vd_L_72 (e_X11_rule G l M 0 (sv sq (i + 1)) (sv sq (i + 2)) (sv sq (i + 3)) hI kd_0 (by omega) q hS hU) kd_0 rfl rfl rfl ⟨by decide, by decide⟩ rfl rfl (Nat.le_of_ble_eq_true rfl) dL_law_680 rfl hcr ?_
  intro r4 U5 q6
  obtain ⟨hiU5, hfU5, q6, huU5⟩ := q6
  have hxU5 : XX U5 := XX.fr hX hI hfU5 rfl
  refine kw_pop 684 F dL_law_683 rfl rfl ?_
  refine kw_aload_n 685 F 2 dL_law_684 rfl rfl rfl ?_
  refine kw_aload_n 686 F 0 dL_law_685 rfl rfl rfl ?_
  refine kw_iload_n 687 F 3 dL_law_686 rfl rfl rfl ?_
  refine kw_iconst 688 F dL_law_687 rfl ?_
  refine kw_iadd 689 F (v := i + 1) dL_law_688 rfl rfl ?_
  refine kw_sld 690 F S hL (z := i + 1) (by omega) dL_law_689 rfl ?_
  refine kw_aload_n 691 F 0 dL_law_690 rfl rfl rfl ?_
  refine kw_iload_n 692 F 3 dL_law_691 rfl rfl rfl ?_
  refine kw_iconst 693 F dL_law_692 rfl ?_
  refine kw_iadd 694 F (v := i + 2) dL_law_693 rfl rfl ?_
  refine kw_sld 695 F S hL (z := i + 2) (by omega) dL_law_694 rfl ?_
  refine kw_aload_n 696 F 0 dL_law_695 rfl rfl rfl ?_
  refine kw_iload_n 697 F 3 dL_law_696 rfl rfl rfl ?_
  refine kw_iconst 698 F dL_law_697 rfl ?_
  refine kw_iadd 699 F (v := i + 3) dL_law_698 rfl rfl ?_
  refine kw_sld 700 F S hL (z := i + 3) (by omega) dL_law_699 rfl ?_
  refine kw_VMi 703 F (As := [vI (sv sq (i + 1)), vI (sv sq (i + 2)), vI (sv sq (i + 3))]) (st := []) vd_L_76 (e_X12_rule G l N (sv sq (i + 1)) (sv sq (i + 2)) (sv sq (i + 3)) hJ (by omega) q hR hT) kd_163 rfl rfl rfl ⟨by decide, by decide⟩ rfl rfl (Nat.le_of_ble_eq_true rfl) dL_law_700 rfl hcr ?_
  intro r10 U11 q12
  obtain ⟨hiU11, hfU11, q12, huU11⟩ := q12
  have hyU11 : YY U11 := YY.fr hY hfU11 rfl
  have he := zRL.u huU5 huU11
  have ht : Tie U5 U11 := (Tie.m (Tie.c hm hI hfU5 rfl) hJ hfU11 rfl hiU5 (fun i => congrFun (Fr.fn hfU11 kd_164 rfl) i))
  refine kw_pop 704 F dL_law_703 rfl rfl ?_
  refine kw_goto 2050 F dL_law_704 (by decide) ?_
  exact K U5 U11 hiU5 hxU5 hiU11 hyU11 ht
set_option maxHeartbeats 4000000 in
set_option maxRecDepth 100000 in
theorem lc_add {G : KG} {X : KX} {l : Launch} {b L : Nat} {sq : Nat → Int32} {ce sl : Nat} (F : kF false G X l code RL 4 (some .boolean) room_1) (S : LSq X b L sq) (hL : L ≤ 3072) (hcr : ce ≤ 600000 ∧ sl ≤ 7302250) {M N : Mem} (hI : Inv false M) (hX : XX M) (hJ : Inv true N) (hY : YY N) (hm : Tie M N) {i : Int} (hi : 0 ≤ i ∧ i + 6 ≤ L) (K : ∀ M' N' : Mem, Inv false M' → XX M' → Inv true N' → YY N' → Tie M' N' → LJ G X ce sl M' N' 2050 [some (.ref b), some (vR G 0), some (vR G 163), some (vI i)] []) : LJ G X ce sl M N 707 [some (.ref b), some (vR G 0), some (vR G 163), some (vI i)] [] := by
  obtain ⟨q, hV, hS, hU, hR, hT⟩ := hm.2.2.2.2.2.2.2.2.1.1
  have hF : zTF M 0 := hm.2.2.2.2.2.2.2.2.2.2.2.2.1
  have hK : zTC M 0 q := hm.2.2.2.2.2.2.2.2.2.2.2.2.2 q hV hR hT
  have hC : zQC q := zQC.of hm.2.2.2.2.2.2.2.2.2.2.1.1 hV hR hT
  refine kw_aload_n 708 F 1 dL_law_707 rfl rfl rfl ?_
  refine kw_aload_n 709 F 0 dL_law_708 rfl rfl rfl ?_
  refine kw_iload_n 710 F 3 dL_law_709 rfl rfl rfl ?_
  refine kw_iconst 711 F dL_law_710 rfl ?_
  refine kw_iadd 712 F (v := i + 1) dL_law_711 rfl rfl ?_
  refine kw_sld 713 F S hL (z := i + 1) (by omega) dL_law_712 rfl ?_
  have hs1 := sv_rng sq (i + 1)
  refine kw_aload_n 714 F 0 dL_law_713 rfl rfl rfl ?_
  refine kw_iload_n 715 F 3 dL_law_714 rfl rfl rfl ?_
  refine kw_iconst 716 F dL_law_715 rfl ?_
  refine kw_iadd 717 F (v := i + 2) dL_law_716 rfl rfl ?_
  refine kw_sld 718 F S hL (z := i + 2) (by omega) dL_law_717 rfl ?_
  have hs2 := sv_rng sq (i + 2)
  refine kw_aload_n 719 F 0 dL_law_718 rfl rfl rfl ?_
  refine kw_iload_n 720 F 3 dL_law_719 rfl rfl rfl ?_
  refine kw_iconst 721 F dL_law_720 rfl ?_
  refine kw_iadd 722 F (v := i + 3) dL_law_721 rfl rfl ?_
  refine kw_sld 723 F S hL (z := i + 3) (by omega) dL_law_722 rfl ?_
  have hs3 := sv_rng sq (i + 3)
  refine kw_aload_n 724 F 0 dL_law_723 rfl rfl rfl ?_
  refine kw_iload_n 725 F 3 dL_law_724 rfl rfl rfl ?_
  refine kw_iconst 726 F dL_law_725 rfl ?_
  refine kw_iadd 727 F (v := i + 4) dL_law_726 rfl rfl ?_
  refine kw_sld 728 F S hL (z := i + 4) (by omega) dL_law_727 rfl ?_
  have hs4 := sv_rng sq (i + 4)
  refine kw_aload_n 729 F 0 dL_law_728 rfl rfl rfl ?_
  refine kw_iload_n 730 F 3 dL_law_729 rfl rfl rfl ?_
  refine kw_iconst 731 F dL_law_730 rfl ?_
  refine kw_iadd 732 F (v := i + 5) dL_law_731 rfl rfl ?_
  refine kw_sld 733 F S hL (z := i + 5) (by omega) dL_law_732 rfl ?_
  have hs5 := sv_rng sq (i + 5)
  refine kw_VCi 736 F (As := [vI (sv sq (i + 1)), vI (sv sq (i + 2)), vI (sv sq (i + 3)), vI (sv sq (i + 4)), vI (sv sq (i + 5))]) (st := []) vd_L_77 (e_add7 G l M 0 (sv sq (i + 1)) (sv sq (i + 2)) (sv sq (i + 3)) (sv sq (i + 4)) (sv sq (i + 5)) hI kd_0 (by omega) q hS hU hm.2.2.2.2.2.2.2.1 hV hK) kd_0 rfl rfl rfl ⟨by decide, by decide⟩ rfl rfl (Nat.le_of_ble_eq_true rfl) dL_law_733 rfl hcr ?_
  intro r6 U7 q8
  obtain ⟨hiU7, hfU7, q8, hcfU7, huU7⟩ := q8
  have hxU7 : XX U7 := XX.fr hX hI hfU7 rfl
  refine kw_pop 737 F dL_law_736 rfl rfl ?_
  refine kw_aload_n 738 F 2 dL_law_737 rfl rfl rfl ?_
  refine kw_aload_n 739 F 0 dL_law_738 rfl rfl rfl ?_
  refine kw_iload_n 740 F 3 dL_law_739 rfl rfl rfl ?_
  refine kw_iconst 741 F dL_law_740 rfl ?_
  refine kw_iadd 742 F (v := i + 1) dL_law_741 rfl rfl ?_
  refine kw_sld 743 F S hL (z := i + 1) (by omega) dL_law_742 rfl ?_
  refine kw_aload_n 744 F 0 dL_law_743 rfl rfl rfl ?_
  refine kw_iload_n 745 F 3 dL_law_744 rfl rfl rfl ?_
  refine kw_iconst 746 F dL_law_745 rfl ?_
  refine kw_iadd 747 F (v := i + 2) dL_law_746 rfl rfl ?_
  refine kw_sld 748 F S hL (z := i + 2) (by omega) dL_law_747 rfl ?_
  refine kw_aload_n 749 F 0 dL_law_748 rfl rfl rfl ?_
  refine kw_iload_n 750 F 3 dL_law_749 rfl rfl rfl ?_
  refine kw_iconst 751 F dL_law_750 rfl ?_
  refine kw_iadd 752 F (v := i + 3) dL_law_751 rfl rfl ?_
  refine kw_sld 753 F S hL (z := i + 3) (by omega) dL_law_752 rfl ?_
  refine kw_aload_n 754 F 0 dL_law_753 rfl rfl rfl ?_
  refine kw_iload_n 755 F 3 dL_law_754 rfl rfl rfl ?_
  refine kw_iconst 756 F dL_law_755 rfl ?_
  refine kw_iadd 757 F (v := i + 4) dL_law_756 rfl rfl ?_
  refine kw_sld 758 F S hL (z := i + 4) (by omega) dL_law_757 rfl ?_
  refine kw_aload_n 759 F 0 dL_law_758 rfl rfl rfl ?_
  refine kw_iload_n 760 F 3 dL_law_759 rfl rfl rfl ?_
  refine kw_iconst 761 F dL_law_760 rfl ?_
  refine kw_iadd 762 F (v := i + 5) dL_law_761 rfl rfl ?_
  refine kw_sld 763 F S hL (z := i + 5) (by omega) dL_law_762 rfl ?_
  refine kw_VMi 766 F (As := [vI (sv sq (i + 1)), vI (sv sq (i + 2)), vI (sv sq (i + 3)), vI (sv sq (i + 4)), vI (sv sq (i + 5))]) (st := []) vd_L_80 (e_add2m G l N (sv sq (i + 1)) (sv sq (i + 2)) (sv sq (i + 3)) (sv sq (i + 4)) (sv sq (i + 5)) hJ (by omega) hY q hR hT hV) kd_163 rfl rfl rfl ⟨by decide, by decide⟩ rfl rfl (Nat.le_of_ble_eq_true rfl) dL_law_763 rfl hcr ?_
  intro r14 U15 q16
  obtain ⟨hiU15, hfU15, q16, ⟨hyU15, huU15⟩⟩ := q16
  obtain ⟨qM, hwM, hsM, huM, hcM⟩ := huU7
  obtain ⟨⟨qN, hwN, hsN, huN⟩, hoN⟩ := huU15
  have hz := hwM.u hwN
  have he := hz.1
  have hzq := hz.2
  subst hzq
  have hts : zTS U7 U15 := zTS.chg hm.2.2.2.2.2.2.2.2.1 hI hm.2.2.2.2.2.2.2.1 (Fr.e hfU7 kd_0 5 rfl) (Fr.e hfU7 kd_0 7 rfl) (Fr.e hfU7 kd_x5 0 rfl) (Fr.fn hfU7 kd_x9 rfl) hcfU7 (fun y hy => ⟨hy.2.2.1, hy.2.2.2⟩) ⟨qM, zAD.v hwM  hV, hsM, huM, hsN, huN⟩ hoN
  have ht : Tie U7 U15 := ⟨(Fr.e hfU7 kd_0 7 rfl).trans (hm.1.trans (Fr.e hfU15 kd_163 50 rfl).symm), (Fr.e hfU7 kd_x5 1 rfl).trans (hm.2.1.trans (Fr.e hfU15 kd_163 10 rfl).symm), (Fr.fn hfU7 kd_x4 rfl).trans (hm.2.2.1.trans (Fr.fn hfU15 kd_y6 rfl).symm), (Fr.fn hfU7 kd_x3 rfl).trans (hm.2.2.2.1.trans (Fr.fn hfU15 kd_y5 rfl).symm), (Fr.fn hfU7 kd_x6 rfl).trans (hm.2.2.2.2.1.trans (Fr.fn hfU15 kd_169 rfl).symm), (Fr.e hfU7 kd_x5 2 rfl).trans (hm.2.2.2.2.2.1.trans (Fr.e hfU15 kd_163 16 rfl).symm), (Fr.e hfU7 kd_x5 3 rfl).trans (hm.2.2.2.2.2.2.1.trans (Fr.e hfU15 kd_163 17 rfl).symm), FZ.fr hm.2.2.2.2.2.2.2.1 hfU7 rfl, hts, (Fr.fn hfU7 kd_x2 rfl).trans (hm.2.2.2.2.2.2.2.2.2.1.trans (Fr.fn hfU15 kd_y7 rfl).symm), (zTQ.chg hm.2.2.2.2.2.2.2.2.2.2.1 hJ (Fr.e hfU7 kd_0 7 rfl) (zQC.to (zAD.c hwM hC hV) (zAD.v hwM  hV) hsN huN) (fun i a b => hoN i (Or.inr a))), (zTW.oth hm.2.2.2.2.2.2.2.2.2.2.2.1 hI hiU7 hm.2.2.2.2.2.2.2.1 (FZ.fr hm.2.2.2.2.2.2.2.1 hfU7 rfl) (Fr.e hfU7 kd_0 5 rfl) (Fr.e hfU7 kd_0 7 rfl) (Fr.e hfU7 kd_0 12 rfl) (Fr.fn hfU7 kd_x9 rfl) hcfU7 (fun s hs y a b c => zRG.mon c (kd_lv hI) hs a b) (fun i _ b => hoN i b)), (zTL.q hm.2.2.2.2.2.2.2.2.2.2.2.2 hfU7 rfl hcM hsN huN)⟩
  refine kw_pop 767 F dL_law_766 rfl rfl ?_
  refine kw_goto 2050 F dL_law_767 (by decide) ?_
  exact K U7 U15 hiU7 hxU7 hiU15 hyU15 ht
set_option maxHeartbeats 4000000 in
set_option maxRecDepth 100000 in
theorem lc_drop {G : KG} {X : KX} {l : Launch} {b L : Nat} {sq : Nat → Int32} {ce sl : Nat} (F : kF false G X l code RL 4 (some .boolean) room_1) (S : LSq X b L sq) (hL : L ≤ 3072) (hcr : ce ≤ 600000 ∧ sl ≤ 7302250) {M N : Mem} (hI : Inv false M) (hX : XX M) (hJ : Inv true N) (hY : YY N) (hm : Tie M N) {i : Int} (hi : 0 ≤ i ∧ i + 6 ≤ L) (K : ∀ M' N' : Mem, Inv false M' → XX M' → Inv true N' → YY N' → Tie M' N' → LJ G X ce sl M' N' 2050 [some (.ref b), some (vR G 0), some (vR G 163), some (vI i)] []) : LJ G X ce sl M N 770 [some (.ref b), some (vR G 0), some (vR G 163), some (vI i)] [] := by
  obtain ⟨q, hV, hS, hU, hR, hT⟩ := hm.2.2.2.2.2.2.2.2.1.1
  have hF : zTF M 0 := hm.2.2.2.2.2.2.2.2.2.2.2.2.1
  have hK : zTC M 0 q := hm.2.2.2.2.2.2.2.2.2.2.2.2.2 q hV hR hT
  have hC : zQC q := zQC.of hm.2.2.2.2.2.2.2.2.2.2.1.1 hV hR hT
  refine kw_aload_n 771 F 1 dL_law_770 rfl rfl rfl ?_
  refine kw_aload_n 772 F 0 dL_law_771 rfl rfl rfl ?_
  refine kw_iload_n 773 F 3 dL_law_772 rfl rfl rfl ?_
  refine kw_iconst 774 F dL_law_773 rfl ?_
  refine kw_iadd 775 F (v := i + 1) dL_law_774 rfl rfl ?_
  refine kw_sld 776 F S hL (z := i + 1) (by omega) dL_law_775 rfl ?_
  have hs1 := sv_rng sq (i + 1)
  refine kw_aload_n 777 F 0 dL_law_776 rfl rfl rfl ?_
  refine kw_iload_n 778 F 3 dL_law_777 rfl rfl rfl ?_
  refine kw_iconst 779 F dL_law_778 rfl ?_
  refine kw_iadd 780 F (v := i + 2) dL_law_779 rfl rfl ?_
  refine kw_sld 781 F S hL (z := i + 2) (by omega) dL_law_780 rfl ?_
  have hs2 := sv_rng sq (i + 2)
  refine kw_VCi 784 F (As := [vI (sv sq (i + 1)), vI (sv sq (i + 2))]) (st := []) vd_L_81 (e_drop7 G l M 0 (sv sq (i + 1)) (sv sq (i + 2)) hI kd_0 (by omega) q hS hU hm.2.2.2.2.2.2.2.1 hV hK) kd_0 rfl rfl rfl ⟨by decide, by decide⟩ rfl rfl (Nat.le_of_ble_eq_true rfl) dL_law_781 rfl hcr ?_
  intro r3 U4 q5
  obtain ⟨hiU4, hfU4, q5, hcfU4, huU4⟩ := q5
  have hxU4 : XX U4 := XX.fr hX hI hfU4 rfl
  refine kw_pop 785 F dL_law_784 rfl rfl ?_
  refine kw_aload_n 786 F 2 dL_law_785 rfl rfl rfl ?_
  refine kw_aload_n 787 F 0 dL_law_786 rfl rfl rfl ?_
  refine kw_iload_n 788 F 3 dL_law_787 rfl rfl rfl ?_
  refine kw_iconst 789 F dL_law_788 rfl ?_
  refine kw_iadd 790 F (v := i + 1) dL_law_789 rfl rfl ?_
  refine kw_sld 791 F S hL (z := i + 1) (by omega) dL_law_790 rfl ?_
  refine kw_aload_n 792 F 0 dL_law_791 rfl rfl rfl ?_
  refine kw_iload_n 793 F 3 dL_law_792 rfl rfl rfl ?_
  refine kw_iconst 794 F dL_law_793 rfl ?_
  refine kw_iadd 795 F (v := i + 2) dL_law_794 rfl rfl ?_
  refine kw_sld 796 F S hL (z := i + 2) (by omega) dL_law_795 rfl ?_
  refine kw_VMi 799 F (As := [vI (sv sq (i + 1)), vI (sv sq (i + 2))]) (st := []) vd_L_84 (e_drop2m G l N (sv sq (i + 1)) (sv sq (i + 2)) hJ (by omega) hY q hR hT hV) kd_163 rfl rfl rfl ⟨by decide, by decide⟩ rfl rfl (Nat.le_of_ble_eq_true rfl) dL_law_796 rfl hcr ?_
  intro r8 U9 q10
  obtain ⟨hiU9, hfU9, q10, ⟨hyU9, huU9⟩⟩ := q10
  obtain ⟨qM, hwM, hsM, huM, hcM⟩ := huU4
  obtain ⟨⟨qN, hwN, hsN, huN⟩, hoN⟩ := huU9
  have hz := hwM.u hwN
  have he := hz.1
  have hzq := hz.2
  subst hzq
  have hts : zTS U4 U9 := zTS.chg hm.2.2.2.2.2.2.2.2.1 hI hm.2.2.2.2.2.2.2.1 (Fr.e hfU4 kd_0 5 rfl) (Fr.e hfU4 kd_0 7 rfl) (Fr.e hfU4 kd_x5 0 rfl) (Fr.fn hfU4 kd_x9 rfl) hcfU4 (fun y hy => ⟨hy.2.2.1, hy.2.2.2⟩) ⟨qM, zDR.v hwM  hV, hsM, huM, hsN, huN⟩ hoN
  have ht : Tie U4 U9 := ⟨(Fr.e hfU4 kd_0 7 rfl).trans (hm.1.trans (Fr.e hfU9 kd_163 50 rfl).symm), (Fr.e hfU4 kd_x5 1 rfl).trans (hm.2.1.trans (Fr.e hfU9 kd_163 10 rfl).symm), (Fr.fn hfU4 kd_x4 rfl).trans (hm.2.2.1.trans (Fr.fn hfU9 kd_y6 rfl).symm), (Fr.fn hfU4 kd_x3 rfl).trans (hm.2.2.2.1.trans (Fr.fn hfU9 kd_y5 rfl).symm), (Fr.fn hfU4 kd_x6 rfl).trans (hm.2.2.2.2.1.trans (Fr.fn hfU9 kd_169 rfl).symm), (Fr.e hfU4 kd_x5 2 rfl).trans (hm.2.2.2.2.2.1.trans (Fr.e hfU9 kd_163 16 rfl).symm), (Fr.e hfU4 kd_x5 3 rfl).trans (hm.2.2.2.2.2.2.1.trans (Fr.e hfU9 kd_163 17 rfl).symm), FZ.fr hm.2.2.2.2.2.2.2.1 hfU4 rfl, hts, (Fr.fn hfU4 kd_x2 rfl).trans (hm.2.2.2.2.2.2.2.2.2.1.trans (Fr.fn hfU9 kd_y7 rfl).symm), (zTQ.chg hm.2.2.2.2.2.2.2.2.2.2.1 hJ (Fr.e hfU4 kd_0 7 rfl) (zQC.to (zDR.c hwM hC hV) (zDR.v hwM  hV) hsN huN) (fun i a b => hoN i (Or.inr a))), (zTW.oth hm.2.2.2.2.2.2.2.2.2.2.2.1 hI hiU4 hm.2.2.2.2.2.2.2.1 (FZ.fr hm.2.2.2.2.2.2.2.1 hfU4 rfl) (Fr.e hfU4 kd_0 5 rfl) (Fr.e hfU4 kd_0 7 rfl) (Fr.e hfU4 kd_0 12 rfl) (Fr.fn hfU4 kd_x9 rfl) hcfU4 (fun s hs y a b c => zRG.mon c (kd_lv hI) hs a b) (fun i _ b => hoN i b)), (zTL.q hm.2.2.2.2.2.2.2.2.2.2.2.2 hfU4 rfl hcM hsN huN)⟩
  refine kw_pop 800 F dL_law_799 rfl rfl ?_
  refine kw_goto 2050 F dL_law_800 (by decide) ?_
  exact K U4 U9 hiU4 hxU4 hiU9 hyU9 ht
set_option maxHeartbeats 4000000 in
set_option maxRecDepth 100000 in
theorem lc_start {G : KG} {X : KX} {l : Launch} {b L : Nat} {sq : Nat → Int32} {ce sl : Nat} (F : kF false G X l code RL 4 (some .boolean) room_1) (S : LSq X b L sq) (hL : L ≤ 3072) (hcr : ce ≤ 600000 ∧ sl ≤ 7302250) {M N : Mem} (hI : Inv false M) (hX : XX M) (hJ : Inv true N) (hY : YY N) (hm : Tie M N) {i : Int} (hi : 0 ≤ i ∧ i + 6 ≤ L) (K : ∀ M' N' : Mem, Inv false M' → XX M' → Inv true N' → YY N' → Tie M' N' → LJ G X ce sl M' N' 2050 [some (.ref b), some (vR G 0), some (vR G 163), some (vI i)] []) : LJ G X ce sl M N 803 [some (.ref b), some (vR G 0), some (vR G 163), some (vI i)] [] := by
  obtain ⟨q, hV, hS, hU, hR, hT⟩ := hm.2.2.2.2.2.2.2.2.1.1
  have hF : zTF M 0 := hm.2.2.2.2.2.2.2.2.2.2.2.2.1
  have hK : zTC M 0 q := hm.2.2.2.2.2.2.2.2.2.2.2.2.2 q hV hR hT
  have hC : zQC q := zQC.of hm.2.2.2.2.2.2.2.2.2.2.1.1 hV hR hT
  refine kw_aload_n 804 F 1 dL_law_803 rfl rfl rfl ?_
  refine kw_aload_n 805 F 0 dL_law_804 rfl rfl rfl ?_
  refine kw_iload_n 806 F 3 dL_law_805 rfl rfl rfl ?_
  refine kw_iconst 807 F dL_law_806 rfl ?_
  refine kw_iadd 808 F (v := i + 1) dL_law_807 rfl rfl ?_
  refine kw_sld 809 F S hL (z := i + 1) (by omega) dL_law_808 rfl ?_
  have hs1 := sv_rng sq (i + 1)
  refine kw_aload_n 810 F 0 dL_law_809 rfl rfl rfl ?_
  refine kw_iload_n 811 F 3 dL_law_810 rfl rfl rfl ?_
  refine kw_iconst 812 F dL_law_811 rfl ?_
  refine kw_iadd 813 F (v := i + 2) dL_law_812 rfl rfl ?_
  refine kw_sld 814 F S hL (z := i + 2) (by omega) dL_law_813 rfl ?_
  have hs2 := sv_rng sq (i + 2)
  refine kw_aload_n 815 F 0 dL_law_814 rfl rfl rfl ?_
  refine kw_iload_n 816 F 3 dL_law_815 rfl rfl rfl ?_
  refine kw_iconst 817 F dL_law_816 rfl ?_
  refine kw_iadd 818 F (v := i + 3) dL_law_817 rfl rfl ?_
  refine kw_sld 819 F S hL (z := i + 3) (by omega) dL_law_818 rfl ?_
  have hs3 := sv_rng sq (i + 3)
  refine kw_if_eq 822 F 826 dL_law_819 (by decide) rfl (by omega) (fun h4 => ?_) (fun h4 => ?_)
  · refine kw_iconst 827 F dL_law_826 rfl ?_
    refine kw_VCi 830 F (As := [vI (sv sq (i + 1)), vI (sv sq (i + 2)), vI 0]) (st := []) vd_L_85 (e_start7 G l M 0 (sv sq (i + 1)) (sv sq (i + 2)) 0 hI kd_0 (by omega) q hS hU hm.2.2.2.2.2.2.2.1 hV hK) kd_0 rfl rfl rfl ⟨by decide, by decide⟩ rfl rfl (Nat.le_of_ble_eq_true rfl) dL_law_827 rfl hcr ?_
    intro r5 U6 q7
    obtain ⟨hiU6, hfU6, q7, hcfU6, huU6⟩ := q7
    have hxU6 : XX U6 := XX.fr hX hI hfU6 rfl
    refine kw_pop 831 F dL_law_830 rfl rfl ?_
    refine kw_aload_n 832 F 2 dL_law_831 rfl rfl rfl ?_
    refine kw_aload_n 833 F 0 dL_law_832 rfl rfl rfl ?_
    refine kw_iload_n 834 F 3 dL_law_833 rfl rfl rfl ?_
    refine kw_iconst 835 F dL_law_834 rfl ?_
    refine kw_iadd 836 F (v := i + 1) dL_law_835 rfl rfl ?_
    refine kw_sld 837 F S hL (z := i + 1) (by omega) dL_law_836 rfl ?_
    refine kw_aload_n 838 F 0 dL_law_837 rfl rfl rfl ?_
    refine kw_iload_n 839 F 3 dL_law_838 rfl rfl rfl ?_
    refine kw_iconst 840 F dL_law_839 rfl ?_
    refine kw_iadd 841 F (v := i + 2) dL_law_840 rfl rfl ?_
    refine kw_sld 842 F S hL (z := i + 2) (by omega) dL_law_841 rfl ?_
    refine kw_aload_n 843 F 0 dL_law_842 rfl rfl rfl ?_
    refine kw_iload_n 844 F 3 dL_law_843 rfl rfl rfl ?_
    refine kw_iconst 845 F dL_law_844 rfl ?_
    refine kw_iadd 846 F (v := i + 3) dL_law_845 rfl rfl ?_
    refine kw_sld 847 F S hL (z := i + 3) (by omega) dL_law_846 rfl ?_
    refine kw_if_eq 850 F 854 dL_law_847 (by decide) rfl (by omega) (fun h11 => ?_) (fun h11 => ?_)
    · refine kw_iconst 855 F dL_law_854 rfl ?_
      refine kw_VMi 858 F (As := [vI (sv sq (i + 1)), vI (sv sq (i + 2)), vI 0]) (st := []) vd_L_89 (e_start2m G l N (sv sq (i + 1)) (sv sq (i + 2)) 0 hJ (by omega) hY q hR hT hV) kd_163 rfl rfl rfl ⟨by decide, by decide⟩ rfl rfl (Nat.le_of_ble_eq_true rfl) dL_law_855 rfl hcr ?_
      intro r12 U13 q14
      obtain ⟨hiU13, hfU13, q14, ⟨hyU13, huU13⟩⟩ := q14
      obtain ⟨qM, hwM, hsM, huM, hcM⟩ := huU6
      obtain ⟨⟨qN, hwN, hsN, huN⟩, hoN⟩ := huU13
      have hz := hwM.u hwN
      have he := hz.1
      have hzq := hz.2
      subst hzq
      have hts : zTS U6 U13 := zTS.chg hm.2.2.2.2.2.2.2.2.1 hI hm.2.2.2.2.2.2.2.1 (Fr.e hfU6 kd_0 5 rfl) (Fr.e hfU6 kd_0 7 rfl) (Fr.e hfU6 kd_x5 0 rfl) (Fr.fn hfU6 kd_x9 rfl) hcfU6 (fun y hy => ⟨hy.2.2.1, hy.2.2.2⟩) ⟨qM, zST.v hwM (by decide) hV, hsM, huM, hsN, huN⟩ hoN
      have ht : Tie U6 U13 := ⟨(Fr.e hfU6 kd_0 7 rfl).trans (hm.1.trans (Fr.e hfU13 kd_163 50 rfl).symm), (Fr.e hfU6 kd_x5 1 rfl).trans (hm.2.1.trans (Fr.e hfU13 kd_163 10 rfl).symm), (Fr.fn hfU6 kd_x4 rfl).trans (hm.2.2.1.trans (Fr.fn hfU13 kd_y6 rfl).symm), (Fr.fn hfU6 kd_x3 rfl).trans (hm.2.2.2.1.trans (Fr.fn hfU13 kd_y5 rfl).symm), (Fr.fn hfU6 kd_x6 rfl).trans (hm.2.2.2.2.1.trans (Fr.fn hfU13 kd_169 rfl).symm), (Fr.e hfU6 kd_x5 2 rfl).trans (hm.2.2.2.2.2.1.trans (Fr.e hfU13 kd_163 16 rfl).symm), (Fr.e hfU6 kd_x5 3 rfl).trans (hm.2.2.2.2.2.2.1.trans (Fr.e hfU13 kd_163 17 rfl).symm), FZ.fr hm.2.2.2.2.2.2.2.1 hfU6 rfl, hts, (Fr.fn hfU6 kd_x2 rfl).trans (hm.2.2.2.2.2.2.2.2.2.1.trans (Fr.fn hfU13 kd_y7 rfl).symm), (zTQ.chg hm.2.2.2.2.2.2.2.2.2.2.1 hJ (Fr.e hfU6 kd_0 7 rfl) (zQC.to (zST.c hwM (by decide) hC hV) (zST.v hwM (by decide) hV) hsN huN) (fun i a b => hoN i (Or.inr a))), (zTW.oth hm.2.2.2.2.2.2.2.2.2.2.2.1 hI hiU6 hm.2.2.2.2.2.2.2.1 (FZ.fr hm.2.2.2.2.2.2.2.1 hfU6 rfl) (Fr.e hfU6 kd_0 5 rfl) (Fr.e hfU6 kd_0 7 rfl) (Fr.e hfU6 kd_0 12 rfl) (Fr.fn hfU6 kd_x9 rfl) hcfU6 (fun s hs y a b c => zRG.mon c (kd_lv hI) hs a b) (fun i _ b => hoN i b)), (zTL.q hm.2.2.2.2.2.2.2.2.2.2.2.2 hfU6 rfl hcM hsN huN)⟩
      refine kw_pop 859 F dL_law_858 rfl rfl ?_
      refine kw_goto 2050 F dL_law_859 (by decide) ?_
      exact K U6 U13 hiU6 hxU6 hiU13 hyU13 ht
    · refine kw_iconst 851 F dL_law_850 rfl ?_
      refine kw_goto 855 F dL_law_851 (by decide) ?_
      refine kw_VMi 858 F (As := [vI (sv sq (i + 1)), vI (sv sq (i + 2)), vI 1]) (st := []) vd_L_89 (e_start2m G l N (sv sq (i + 1)) (sv sq (i + 2)) 1 hJ (by omega) hY q hR hT hV) kd_163 rfl rfl rfl ⟨by decide, by decide⟩ rfl rfl (Nat.le_of_ble_eq_true rfl) dL_law_855 rfl hcr ?_
      intro r15 U16 q17
      obtain ⟨hiU16, hfU16, q17, ⟨hyU16, huU16⟩⟩ := q17
      exfalso; clear huU6 huU16; omega
  · refine kw_iconst 823 F dL_law_822 rfl ?_
    refine kw_goto 827 F dL_law_823 (by decide) ?_
    refine kw_VCi 830 F (As := [vI (sv sq (i + 1)), vI (sv sq (i + 2)), vI 1]) (st := []) vd_L_85 (e_start7 G l M 0 (sv sq (i + 1)) (sv sq (i + 2)) 1 hI kd_0 (by omega) q hS hU hm.2.2.2.2.2.2.2.1 hV hK) kd_0 rfl rfl rfl ⟨by decide, by decide⟩ rfl rfl (Nat.le_of_ble_eq_true rfl) dL_law_827 rfl hcr ?_
    intro r18 U19 q20
    obtain ⟨hiU19, hfU19, q20, hcfU19, huU19⟩ := q20
    have hxU19 : XX U19 := XX.fr hX hI hfU19 rfl
    refine kw_pop 831 F dL_law_830 rfl rfl ?_
    refine kw_aload_n 832 F 2 dL_law_831 rfl rfl rfl ?_
    refine kw_aload_n 833 F 0 dL_law_832 rfl rfl rfl ?_
    refine kw_iload_n 834 F 3 dL_law_833 rfl rfl rfl ?_
    refine kw_iconst 835 F dL_law_834 rfl ?_
    refine kw_iadd 836 F (v := i + 1) dL_law_835 rfl rfl ?_
    refine kw_sld 837 F S hL (z := i + 1) (by omega) dL_law_836 rfl ?_
    refine kw_aload_n 838 F 0 dL_law_837 rfl rfl rfl ?_
    refine kw_iload_n 839 F 3 dL_law_838 rfl rfl rfl ?_
    refine kw_iconst 840 F dL_law_839 rfl ?_
    refine kw_iadd 841 F (v := i + 2) dL_law_840 rfl rfl ?_
    refine kw_sld 842 F S hL (z := i + 2) (by omega) dL_law_841 rfl ?_
    refine kw_aload_n 843 F 0 dL_law_842 rfl rfl rfl ?_
    refine kw_iload_n 844 F 3 dL_law_843 rfl rfl rfl ?_
    refine kw_iconst 845 F dL_law_844 rfl ?_
    refine kw_iadd 846 F (v := i + 3) dL_law_845 rfl rfl ?_
    refine kw_sld 847 F S hL (z := i + 3) (by omega) dL_law_846 rfl ?_
    refine kw_if_eq 850 F 854 dL_law_847 (by decide) rfl (by omega) (fun h24 => ?_) (fun h24 => ?_)
    · refine kw_iconst 855 F dL_law_854 rfl ?_
      refine kw_VMi 858 F (As := [vI (sv sq (i + 1)), vI (sv sq (i + 2)), vI 0]) (st := []) vd_L_89 (e_start2m G l N (sv sq (i + 1)) (sv sq (i + 2)) 0 hJ (by omega) hY q hR hT hV) kd_163 rfl rfl rfl ⟨by decide, by decide⟩ rfl rfl (Nat.le_of_ble_eq_true rfl) dL_law_855 rfl hcr ?_
      intro r25 U26 q27
      obtain ⟨hiU26, hfU26, q27, ⟨hyU26, huU26⟩⟩ := q27
      exfalso; clear huU19 huU26; omega
    · refine kw_iconst 851 F dL_law_850 rfl ?_
      refine kw_goto 855 F dL_law_851 (by decide) ?_
      refine kw_VMi 858 F (As := [vI (sv sq (i + 1)), vI (sv sq (i + 2)), vI 1]) (st := []) vd_L_89 (e_start2m G l N (sv sq (i + 1)) (sv sq (i + 2)) 1 hJ (by omega) hY q hR hT hV) kd_163 rfl rfl rfl ⟨by decide, by decide⟩ rfl rfl (Nat.le_of_ble_eq_true rfl) dL_law_855 rfl hcr ?_
      intro r28 U29 q30
      obtain ⟨hiU29, hfU29, q30, ⟨hyU29, huU29⟩⟩ := q30
      obtain ⟨qM, hwM, hsM, huM, hcM⟩ := huU19
      obtain ⟨⟨qN, hwN, hsN, huN⟩, hoN⟩ := huU29
      have hz := hwM.u hwN
      have he := hz.1
      have hzq := hz.2
      subst hzq
      have hts : zTS U19 U29 := zTS.chg hm.2.2.2.2.2.2.2.2.1 hI hm.2.2.2.2.2.2.2.1 (Fr.e hfU19 kd_0 5 rfl) (Fr.e hfU19 kd_0 7 rfl) (Fr.e hfU19 kd_x5 0 rfl) (Fr.fn hfU19 kd_x9 rfl) hcfU19 (fun y hy => ⟨hy.2.2.1, hy.2.2.2⟩) ⟨qM, zST.v hwM (by decide) hV, hsM, huM, hsN, huN⟩ hoN
      have ht : Tie U19 U29 := ⟨(Fr.e hfU19 kd_0 7 rfl).trans (hm.1.trans (Fr.e hfU29 kd_163 50 rfl).symm), (Fr.e hfU19 kd_x5 1 rfl).trans (hm.2.1.trans (Fr.e hfU29 kd_163 10 rfl).symm), (Fr.fn hfU19 kd_x4 rfl).trans (hm.2.2.1.trans (Fr.fn hfU29 kd_y6 rfl).symm), (Fr.fn hfU19 kd_x3 rfl).trans (hm.2.2.2.1.trans (Fr.fn hfU29 kd_y5 rfl).symm), (Fr.fn hfU19 kd_x6 rfl).trans (hm.2.2.2.2.1.trans (Fr.fn hfU29 kd_169 rfl).symm), (Fr.e hfU19 kd_x5 2 rfl).trans (hm.2.2.2.2.2.1.trans (Fr.e hfU29 kd_163 16 rfl).symm), (Fr.e hfU19 kd_x5 3 rfl).trans (hm.2.2.2.2.2.2.1.trans (Fr.e hfU29 kd_163 17 rfl).symm), FZ.fr hm.2.2.2.2.2.2.2.1 hfU19 rfl, hts, (Fr.fn hfU19 kd_x2 rfl).trans (hm.2.2.2.2.2.2.2.2.2.1.trans (Fr.fn hfU29 kd_y7 rfl).symm), (zTQ.chg hm.2.2.2.2.2.2.2.2.2.2.1 hJ (Fr.e hfU19 kd_0 7 rfl) (zQC.to (zST.c hwM (by decide) hC hV) (zST.v hwM (by decide) hV) hsN huN) (fun i a b => hoN i (Or.inr a))), (zTW.oth hm.2.2.2.2.2.2.2.2.2.2.2.1 hI hiU19 hm.2.2.2.2.2.2.2.1 (FZ.fr hm.2.2.2.2.2.2.2.1 hfU19 rfl) (Fr.e hfU19 kd_0 5 rfl) (Fr.e hfU19 kd_0 7 rfl) (Fr.e hfU19 kd_0 12 rfl) (Fr.fn hfU19 kd_x9 rfl) hcfU19 (fun s hs y a b c => zRG.mon c (kd_lv hI) hs a b) (fun i _ b => hoN i b)), (zTL.q hm.2.2.2.2.2.2.2.2.2.2.2.2 hfU19 rfl hcM hsN huN)⟩
      refine kw_pop 859 F dL_law_858 rfl rfl ?_
      refine kw_goto 2050 F dL_law_859 (by decide) ?_
      exact K U19 U29 hiU19 hxU19 hiU29 hyU29 ht
set_option maxHeartbeats 4000000 in
set_option maxRecDepth 100000 in
theorem lc_accept {G : KG} {X : KX} {l : Launch} {b L : Nat} {sq : Nat → Int32} {ce sl : Nat} (F : kF false G X l code RL 4 (some .boolean) room_1) (S : LSq X b L sq) (hL : L ≤ 3072) (hcr : ce ≤ 600000 ∧ sl ≤ 7302250) {M N : Mem} (hI : Inv false M) (hX : XX M) (hJ : Inv true N) (hY : YY N) (hm : Tie M N) {i : Int} (hi : 0 ≤ i ∧ i + 6 ≤ L) (K : ∀ M' N' : Mem, Inv false M' → XX M' → Inv true N' → YY N' → Tie M' N' → LJ G X ce sl M' N' 2050 [some (.ref b), some (vR G 0), some (vR G 163), some (vI i)] []) : LJ G X ce sl M N 862 [some (.ref b), some (vR G 0), some (vR G 163), some (vI i)] [] := by
  obtain ⟨q, hV, hS, hU, hR, hT⟩ := hm.2.2.2.2.2.2.2.2.1.1
  have hF : zTF M 0 := hm.2.2.2.2.2.2.2.2.2.2.2.2.1
  have hK : zTC M 0 q := hm.2.2.2.2.2.2.2.2.2.2.2.2.2 q hV hR hT
  have hC : zQC q := zQC.of hm.2.2.2.2.2.2.2.2.2.2.1.1 hV hR hT
  refine kw_aload_n 863 F 1 dL_law_862 rfl rfl rfl ?_
  refine kw_aload_n 864 F 0 dL_law_863 rfl rfl rfl ?_
  refine kw_iload_n 865 F 3 dL_law_864 rfl rfl rfl ?_
  refine kw_iconst 866 F dL_law_865 rfl ?_
  refine kw_iadd 867 F (v := i + 1) dL_law_866 rfl rfl ?_
  refine kw_sld 868 F S hL (z := i + 1) (by omega) dL_law_867 rfl ?_
  have hs1 := sv_rng sq (i + 1)
  refine kw_aload_n 869 F 0 dL_law_868 rfl rfl rfl ?_
  refine kw_iload_n 870 F 3 dL_law_869 rfl rfl rfl ?_
  refine kw_iconst 871 F dL_law_870 rfl ?_
  refine kw_iadd 872 F (v := i + 2) dL_law_871 rfl rfl ?_
  refine kw_sld 873 F S hL (z := i + 2) (by omega) dL_law_872 rfl ?_
  have hs2 := sv_rng sq (i + 2)
  refine kw_aload_n 874 F 0 dL_law_873 rfl rfl rfl ?_
  refine kw_iload_n 875 F 3 dL_law_874 rfl rfl rfl ?_
  refine kw_iconst 876 F dL_law_875 rfl ?_
  refine kw_iadd 877 F (v := i + 3) dL_law_876 rfl rfl ?_
  refine kw_sld 878 F S hL (z := i + 3) (by omega) dL_law_877 rfl ?_
  have hs3 := sv_rng sq (i + 3)
  refine kw_if_eq 881 F 885 dL_law_878 (by decide) rfl (by omega) (fun h4 => ?_) (fun h4 => ?_)
  · refine kw_iconst 886 F dL_law_885 rfl ?_
    refine kw_VCi 889 F (As := [vI (sv sq (i + 1)), vI (sv sq (i + 2)), vI 0]) (st := []) vd_L_90 (e_accept7 G l M 0 (sv sq (i + 1)) (sv sq (i + 2)) 0 hI kd_0 (by omega) q hS hU hm.2.2.2.2.2.2.2.1 hV hK) kd_0 rfl rfl rfl ⟨by decide, by decide⟩ rfl rfl (Nat.le_of_ble_eq_true rfl) dL_law_886 rfl hcr ?_
    intro r5 U6 q7
    obtain ⟨hiU6, hfU6, q7, hcfU6, huU6⟩ := q7
    have hxU6 : XX U6 := XX.fr hX hI hfU6 rfl
    refine kw_pop 890 F dL_law_889 rfl rfl ?_
    refine kw_aload_n 891 F 2 dL_law_890 rfl rfl rfl ?_
    refine kw_aload_n 892 F 0 dL_law_891 rfl rfl rfl ?_
    refine kw_iload_n 893 F 3 dL_law_892 rfl rfl rfl ?_
    refine kw_iconst 894 F dL_law_893 rfl ?_
    refine kw_iadd 895 F (v := i + 1) dL_law_894 rfl rfl ?_
    refine kw_sld 896 F S hL (z := i + 1) (by omega) dL_law_895 rfl ?_
    refine kw_aload_n 897 F 0 dL_law_896 rfl rfl rfl ?_
    refine kw_iload_n 898 F 3 dL_law_897 rfl rfl rfl ?_
    refine kw_iconst 899 F dL_law_898 rfl ?_
    refine kw_iadd 900 F (v := i + 2) dL_law_899 rfl rfl ?_
    refine kw_sld 901 F S hL (z := i + 2) (by omega) dL_law_900 rfl ?_
    refine kw_aload_n 902 F 0 dL_law_901 rfl rfl rfl ?_
    refine kw_iload_n 903 F 3 dL_law_902 rfl rfl rfl ?_
    refine kw_iconst 904 F dL_law_903 rfl ?_
    refine kw_iadd 905 F (v := i + 3) dL_law_904 rfl rfl ?_
    refine kw_sld 906 F S hL (z := i + 3) (by omega) dL_law_905 rfl ?_
    refine kw_if_eq 909 F 913 dL_law_906 (by decide) rfl (by omega) (fun h11 => ?_) (fun h11 => ?_)
    · refine kw_iconst 914 F dL_law_913 rfl ?_
      refine kw_VMi 917 F (As := [vI (sv sq (i + 1)), vI (sv sq (i + 2)), vI 0]) (st := []) vd_L_93 (e_accept2m G l N (sv sq (i + 1)) (sv sq (i + 2)) 0 hJ (by omega) hY q hR hT hV) kd_163 rfl rfl rfl ⟨by decide, by decide⟩ rfl rfl (Nat.le_of_ble_eq_true rfl) dL_law_914 rfl hcr ?_
      intro r12 U13 q14
      obtain ⟨hiU13, hfU13, q14, ⟨hyU13, huU13⟩⟩ := q14
      obtain ⟨qM, hwM, hsM, huM, hcM⟩ := huU6
      obtain ⟨⟨qN, hwN, hsN, huN⟩, hoN⟩ := huU13
      have hz := hwM.u hwN
      have he := hz.1
      have hzq := hz.2
      subst hzq
      have hts : zTS U6 U13 := zTS.chg hm.2.2.2.2.2.2.2.2.1 hI hm.2.2.2.2.2.2.2.1 (Fr.e hfU6 kd_0 5 rfl) (Fr.e hfU6 kd_0 7 rfl) (Fr.e hfU6 kd_x5 0 rfl) (Fr.fn hfU6 kd_x9 rfl) hcfU6 (fun y hy => ⟨hy.2.2.1, hy.2.2.2⟩) ⟨qM, zST.v hwM (by decide) hV, hsM, huM, hsN, huN⟩ hoN
      have ht : Tie U6 U13 := ⟨(Fr.e hfU6 kd_0 7 rfl).trans (hm.1.trans (Fr.e hfU13 kd_163 50 rfl).symm), (Fr.e hfU6 kd_x5 1 rfl).trans (hm.2.1.trans (Fr.e hfU13 kd_163 10 rfl).symm), (Fr.fn hfU6 kd_x4 rfl).trans (hm.2.2.1.trans (Fr.fn hfU13 kd_y6 rfl).symm), (Fr.fn hfU6 kd_x3 rfl).trans (hm.2.2.2.1.trans (Fr.fn hfU13 kd_y5 rfl).symm), (Fr.fn hfU6 kd_x6 rfl).trans (hm.2.2.2.2.1.trans (Fr.fn hfU13 kd_169 rfl).symm), (Fr.e hfU6 kd_x5 2 rfl).trans (hm.2.2.2.2.2.1.trans (Fr.e hfU13 kd_163 16 rfl).symm), (Fr.e hfU6 kd_x5 3 rfl).trans (hm.2.2.2.2.2.2.1.trans (Fr.e hfU13 kd_163 17 rfl).symm), FZ.fr hm.2.2.2.2.2.2.2.1 hfU6 rfl, hts, (Fr.fn hfU6 kd_x2 rfl).trans (hm.2.2.2.2.2.2.2.2.2.1.trans (Fr.fn hfU13 kd_y7 rfl).symm), (zTQ.chg hm.2.2.2.2.2.2.2.2.2.2.1 hJ (Fr.e hfU6 kd_0 7 rfl) (zQC.to (zST.c hwM (by decide) hC hV) (zST.v hwM (by decide) hV) hsN huN) (fun i a b => hoN i (Or.inr a))), (zTW.oth hm.2.2.2.2.2.2.2.2.2.2.2.1 hI hiU6 hm.2.2.2.2.2.2.2.1 (FZ.fr hm.2.2.2.2.2.2.2.1 hfU6 rfl) (Fr.e hfU6 kd_0 5 rfl) (Fr.e hfU6 kd_0 7 rfl) (Fr.e hfU6 kd_0 12 rfl) (Fr.fn hfU6 kd_x9 rfl) hcfU6 (fun s hs y a b c => zRG.mon c (kd_lv hI) hs a b) (fun i _ b => hoN i b)), (zTL.q hm.2.2.2.2.2.2.2.2.2.2.2.2 hfU6 rfl hcM hsN huN)⟩
      refine kw_pop 918 F dL_law_917 rfl rfl ?_
      refine kw_goto 2050 F dL_law_918 (by decide) ?_
      exact K U6 U13 hiU6 hxU6 hiU13 hyU13 ht
    · refine kw_iconst 910 F dL_law_909 rfl ?_
      refine kw_goto 914 F dL_law_910 (by decide) ?_
      refine kw_VMi 917 F (As := [vI (sv sq (i + 1)), vI (sv sq (i + 2)), vI 1]) (st := []) vd_L_93 (e_accept2m G l N (sv sq (i + 1)) (sv sq (i + 2)) 1 hJ (by omega) hY q hR hT hV) kd_163 rfl rfl rfl ⟨by decide, by decide⟩ rfl rfl (Nat.le_of_ble_eq_true rfl) dL_law_914 rfl hcr ?_
      intro r15 U16 q17
      obtain ⟨hiU16, hfU16, q17, ⟨hyU16, huU16⟩⟩ := q17
      exfalso; clear huU6 huU16; omega
  · refine kw_iconst 882 F dL_law_881 rfl ?_
    refine kw_goto 886 F dL_law_882 (by decide) ?_
    refine kw_VCi 889 F (As := [vI (sv sq (i + 1)), vI (sv sq (i + 2)), vI 1]) (st := []) vd_L_90 (e_accept7 G l M 0 (sv sq (i + 1)) (sv sq (i + 2)) 1 hI kd_0 (by omega) q hS hU hm.2.2.2.2.2.2.2.1 hV hK) kd_0 rfl rfl rfl ⟨by decide, by decide⟩ rfl rfl (Nat.le_of_ble_eq_true rfl) dL_law_886 rfl hcr ?_
    intro r18 U19 q20
    obtain ⟨hiU19, hfU19, q20, hcfU19, huU19⟩ := q20
    have hxU19 : XX U19 := XX.fr hX hI hfU19 rfl
    refine kw_pop 890 F dL_law_889 rfl rfl ?_
    refine kw_aload_n 891 F 2 dL_law_890 rfl rfl rfl ?_
    refine kw_aload_n 892 F 0 dL_law_891 rfl rfl rfl ?_
    refine kw_iload_n 893 F 3 dL_law_892 rfl rfl rfl ?_
    refine kw_iconst 894 F dL_law_893 rfl ?_
    refine kw_iadd 895 F (v := i + 1) dL_law_894 rfl rfl ?_
    refine kw_sld 896 F S hL (z := i + 1) (by omega) dL_law_895 rfl ?_
    refine kw_aload_n 897 F 0 dL_law_896 rfl rfl rfl ?_
    refine kw_iload_n 898 F 3 dL_law_897 rfl rfl rfl ?_
    refine kw_iconst 899 F dL_law_898 rfl ?_
    refine kw_iadd 900 F (v := i + 2) dL_law_899 rfl rfl ?_
    refine kw_sld 901 F S hL (z := i + 2) (by omega) dL_law_900 rfl ?_
    refine kw_aload_n 902 F 0 dL_law_901 rfl rfl rfl ?_
    refine kw_iload_n 903 F 3 dL_law_902 rfl rfl rfl ?_
    refine kw_iconst 904 F dL_law_903 rfl ?_
    refine kw_iadd 905 F (v := i + 3) dL_law_904 rfl rfl ?_
    refine kw_sld 906 F S hL (z := i + 3) (by omega) dL_law_905 rfl ?_
    refine kw_if_eq 909 F 913 dL_law_906 (by decide) rfl (by omega) (fun h24 => ?_) (fun h24 => ?_)
    · refine kw_iconst 914 F dL_law_913 rfl ?_
      refine kw_VMi 917 F (As := [vI (sv sq (i + 1)), vI (sv sq (i + 2)), vI 0]) (st := []) vd_L_93 (e_accept2m G l N (sv sq (i + 1)) (sv sq (i + 2)) 0 hJ (by omega) hY q hR hT hV) kd_163 rfl rfl rfl ⟨by decide, by decide⟩ rfl rfl (Nat.le_of_ble_eq_true rfl) dL_law_914 rfl hcr ?_
      intro r25 U26 q27
      obtain ⟨hiU26, hfU26, q27, ⟨hyU26, huU26⟩⟩ := q27
      exfalso; clear huU19 huU26; omega
    · refine kw_iconst 910 F dL_law_909 rfl ?_
      refine kw_goto 914 F dL_law_910 (by decide) ?_
      refine kw_VMi 917 F (As := [vI (sv sq (i + 1)), vI (sv sq (i + 2)), vI 1]) (st := []) vd_L_93 (e_accept2m G l N (sv sq (i + 1)) (sv sq (i + 2)) 1 hJ (by omega) hY q hR hT hV) kd_163 rfl rfl rfl ⟨by decide, by decide⟩ rfl rfl (Nat.le_of_ble_eq_true rfl) dL_law_914 rfl hcr ?_
      intro r28 U29 q30
      obtain ⟨hiU29, hfU29, q30, ⟨hyU29, huU29⟩⟩ := q30
      obtain ⟨qM, hwM, hsM, huM, hcM⟩ := huU19
      obtain ⟨⟨qN, hwN, hsN, huN⟩, hoN⟩ := huU29
      have hz := hwM.u hwN
      have he := hz.1
      have hzq := hz.2
      subst hzq
      have hts : zTS U19 U29 := zTS.chg hm.2.2.2.2.2.2.2.2.1 hI hm.2.2.2.2.2.2.2.1 (Fr.e hfU19 kd_0 5 rfl) (Fr.e hfU19 kd_0 7 rfl) (Fr.e hfU19 kd_x5 0 rfl) (Fr.fn hfU19 kd_x9 rfl) hcfU19 (fun y hy => ⟨hy.2.2.1, hy.2.2.2⟩) ⟨qM, zST.v hwM (by decide) hV, hsM, huM, hsN, huN⟩ hoN
      have ht : Tie U19 U29 := ⟨(Fr.e hfU19 kd_0 7 rfl).trans (hm.1.trans (Fr.e hfU29 kd_163 50 rfl).symm), (Fr.e hfU19 kd_x5 1 rfl).trans (hm.2.1.trans (Fr.e hfU29 kd_163 10 rfl).symm), (Fr.fn hfU19 kd_x4 rfl).trans (hm.2.2.1.trans (Fr.fn hfU29 kd_y6 rfl).symm), (Fr.fn hfU19 kd_x3 rfl).trans (hm.2.2.2.1.trans (Fr.fn hfU29 kd_y5 rfl).symm), (Fr.fn hfU19 kd_x6 rfl).trans (hm.2.2.2.2.1.trans (Fr.fn hfU29 kd_169 rfl).symm), (Fr.e hfU19 kd_x5 2 rfl).trans (hm.2.2.2.2.2.1.trans (Fr.e hfU29 kd_163 16 rfl).symm), (Fr.e hfU19 kd_x5 3 rfl).trans (hm.2.2.2.2.2.2.1.trans (Fr.e hfU29 kd_163 17 rfl).symm), FZ.fr hm.2.2.2.2.2.2.2.1 hfU19 rfl, hts, (Fr.fn hfU19 kd_x2 rfl).trans (hm.2.2.2.2.2.2.2.2.2.1.trans (Fr.fn hfU29 kd_y7 rfl).symm), (zTQ.chg hm.2.2.2.2.2.2.2.2.2.2.1 hJ (Fr.e hfU19 kd_0 7 rfl) (zQC.to (zST.c hwM (by decide) hC hV) (zST.v hwM (by decide) hV) hsN huN) (fun i a b => hoN i (Or.inr a))), (zTW.oth hm.2.2.2.2.2.2.2.2.2.2.2.1 hI hiU19 hm.2.2.2.2.2.2.2.1 (FZ.fr hm.2.2.2.2.2.2.2.1 hfU19 rfl) (Fr.e hfU19 kd_0 5 rfl) (Fr.e hfU19 kd_0 7 rfl) (Fr.e hfU19 kd_0 12 rfl) (Fr.fn hfU19 kd_x9 rfl) hcfU19 (fun s hs y a b c => zRG.mon c (kd_lv hI) hs a b) (fun i _ b => hoN i b)), (zTL.q hm.2.2.2.2.2.2.2.2.2.2.2.2 hfU19 rfl hcM hsN huN)⟩
      refine kw_pop 918 F dL_law_917 rfl rfl ?_
      refine kw_goto 2050 F dL_law_918 (by decide) ?_
      exact K U19 U29 hiU19 hxU19 hiU29 hyU29 ht
set_option maxHeartbeats 4000000 in
set_option maxRecDepth 100000 in
theorem lc_copy {G : KG} {X : KX} {l : Launch} {b L : Nat} {sq : Nat → Int32} {ce sl : Nat} (F : kF false G X l code RL 4 (some .boolean) room_1) (S : LSq X b L sq) (hL : L ≤ 3072) (hcr : ce ≤ 600000 ∧ sl ≤ 7302250) {M N : Mem} (hI : Inv false M) (hX : XX M) (hJ : Inv true N) (hY : YY N) (hm : Tie M N) {i : Int} (hi : 0 ≤ i ∧ i + 6 ≤ L) (K : ∀ M' N' : Mem, Inv false M' → XX M' → Inv true N' → YY N' → Tie M' N' → LJ G X ce sl M' N' 2050 [some (.ref b), some (vR G 0), some (vR G 163), some (vI i)] []) : LJ G X ce sl M N 921 [some (.ref b), some (vR G 0), some (vR G 163), some (vI i)] [] := by
  obtain ⟨q, hV, hS, hU, hR, hT⟩ := hm.2.2.2.2.2.2.2.2.1.1
  have hF : zTF M 0 := hm.2.2.2.2.2.2.2.2.2.2.2.2.1
  have hK : zTC M 0 q := hm.2.2.2.2.2.2.2.2.2.2.2.2.2 q hV hR hT
  have hC : zQC q := zQC.of hm.2.2.2.2.2.2.2.2.2.2.1.1 hV hR hT
  refine kw_aload_n 922 F 1 dL_law_921 rfl rfl rfl ?_
  refine kw_aload_n 923 F 0 dL_law_922 rfl rfl rfl ?_
  refine kw_iload_n 924 F 3 dL_law_923 rfl rfl rfl ?_
  refine kw_iconst 925 F dL_law_924 rfl ?_
  refine kw_iadd 926 F (v := i + 1) dL_law_925 rfl rfl ?_
  refine kw_sld 927 F S hL (z := i + 1) (by omega) dL_law_926 rfl ?_
  have hs1 := sv_rng sq (i + 1)
  refine kw_aload_n 928 F 0 dL_law_927 rfl rfl rfl ?_
  refine kw_iload_n 929 F 3 dL_law_928 rfl rfl rfl ?_
  refine kw_iconst 930 F dL_law_929 rfl ?_
  refine kw_iadd 931 F (v := i + 2) dL_law_930 rfl rfl ?_
  refine kw_sld 932 F S hL (z := i + 2) (by omega) dL_law_931 rfl ?_
  have hs2 := sv_rng sq (i + 2)
  refine kw_VCi 935 F (As := [vI (sv sq (i + 1)), vI (sv sq (i + 2))]) (st := []) vd_L_94 (e_copy7 G l M 0 (sv sq (i + 1)) (sv sq (i + 2)) hI kd_0 (by omega) q hS hU hm.2.2.2.2.2.2.2.1 hV hK) kd_0 rfl rfl rfl ⟨by decide, by decide⟩ rfl rfl (Nat.le_of_ble_eq_true rfl) dL_law_932 rfl hcr ?_
  intro r3 U4 q5
  obtain ⟨hiU4, hfU4, q5, hcfU4, huU4⟩ := q5
  have hxU4 : XX U4 := XX.fr hX hI hfU4 rfl
  refine kw_pop 936 F dL_law_935 rfl rfl ?_
  refine kw_aload_n 937 F 2 dL_law_936 rfl rfl rfl ?_
  refine kw_aload_n 938 F 0 dL_law_937 rfl rfl rfl ?_
  refine kw_iload_n 939 F 3 dL_law_938 rfl rfl rfl ?_
  refine kw_iconst 940 F dL_law_939 rfl ?_
  refine kw_iadd 941 F (v := i + 1) dL_law_940 rfl rfl ?_
  refine kw_sld 942 F S hL (z := i + 1) (by omega) dL_law_941 rfl ?_
  refine kw_aload_n 943 F 0 dL_law_942 rfl rfl rfl ?_
  refine kw_iload_n 944 F 3 dL_law_943 rfl rfl rfl ?_
  refine kw_iconst 945 F dL_law_944 rfl ?_
  refine kw_iadd 946 F (v := i + 2) dL_law_945 rfl rfl ?_
  refine kw_sld 947 F S hL (z := i + 2) (by omega) dL_law_946 rfl ?_
  refine kw_VMi 950 F (As := [vI (sv sq (i + 1)), vI (sv sq (i + 2))]) (st := []) vd_L_98 (e_copy2m G l N (sv sq (i + 1)) (sv sq (i + 2)) hJ (by omega) hY q hR hT hV) kd_163 rfl rfl rfl ⟨by decide, by decide⟩ rfl rfl (Nat.le_of_ble_eq_true rfl) dL_law_947 rfl hcr ?_
  intro r8 U9 q10
  obtain ⟨hiU9, hfU9, q10, ⟨hyU9, huU9⟩⟩ := q10
  obtain ⟨qM, hwM, hsM, huM, hcM⟩ := huU4
  obtain ⟨⟨qN, hwN, hsN, huN⟩, hoN⟩ := huU9
  have hz := hwM.u hwN
  have he := hz.1
  have hzq := hz.2
  subst hzq
  have hts : zTS U4 U9 := zTS.chg hm.2.2.2.2.2.2.2.2.1 hI hm.2.2.2.2.2.2.2.1 (Fr.e hfU4 kd_0 5 rfl) (Fr.e hfU4 kd_0 7 rfl) (Fr.e hfU4 kd_x5 0 rfl) (Fr.fn hfU4 kd_x9 rfl) hcfU4 (fun y hy => ⟨hy.2.2.1, hy.2.2.2⟩) ⟨qM, zCY.v hwM  hV, hsM, huM, hsN, huN⟩ hoN
  have ht : Tie U4 U9 := ⟨(Fr.e hfU4 kd_0 7 rfl).trans (hm.1.trans (Fr.e hfU9 kd_163 50 rfl).symm), (Fr.e hfU4 kd_x5 1 rfl).trans (hm.2.1.trans (Fr.e hfU9 kd_163 10 rfl).symm), (Fr.fn hfU4 kd_x4 rfl).trans (hm.2.2.1.trans (Fr.fn hfU9 kd_y6 rfl).symm), (Fr.fn hfU4 kd_x3 rfl).trans (hm.2.2.2.1.trans (Fr.fn hfU9 kd_y5 rfl).symm), (Fr.fn hfU4 kd_x6 rfl).trans (hm.2.2.2.2.1.trans (Fr.fn hfU9 kd_169 rfl).symm), (Fr.e hfU4 kd_x5 2 rfl).trans (hm.2.2.2.2.2.1.trans (Fr.e hfU9 kd_163 16 rfl).symm), (Fr.e hfU4 kd_x5 3 rfl).trans (hm.2.2.2.2.2.2.1.trans (Fr.e hfU9 kd_163 17 rfl).symm), FZ.fr hm.2.2.2.2.2.2.2.1 hfU4 rfl, hts, (Fr.fn hfU4 kd_x2 rfl).trans (hm.2.2.2.2.2.2.2.2.2.1.trans (Fr.fn hfU9 kd_y7 rfl).symm), (zTQ.chg hm.2.2.2.2.2.2.2.2.2.2.1 hJ (Fr.e hfU4 kd_0 7 rfl) (zQC.to (zCY.c hwM hC hV) (zCY.v hwM  hV) hsN huN) (fun i a b => hoN i (Or.inr a))), (zTW.oth hm.2.2.2.2.2.2.2.2.2.2.2.1 hI hiU4 hm.2.2.2.2.2.2.2.1 (FZ.fr hm.2.2.2.2.2.2.2.1 hfU4 rfl) (Fr.e hfU4 kd_0 5 rfl) (Fr.e hfU4 kd_0 7 rfl) (Fr.e hfU4 kd_0 12 rfl) (Fr.fn hfU4 kd_x9 rfl) hcfU4 (fun s hs y a b c => zRG.mon c (kd_lv hI) hs a b) (fun i _ b => hoN i b)), (zTL.q hm.2.2.2.2.2.2.2.2.2.2.2.2 hfU4 rfl hcM hsN huN)⟩
  refine kw_pop 951 F dL_law_950 rfl rfl ?_
  refine kw_goto 2050 F dL_law_951 (by decide) ?_
  exact K U4 U9 hiU4 hxU4 hiU9 hyU9 ht
set_option maxHeartbeats 4000000 in
set_option maxRecDepth 100000 in
theorem lc_takes {G : KG} {X : KX} {l : Launch} {b L : Nat} {sq : Nat → Int32} {ce sl : Nat} (F : kF false G X l code RL 4 (some .boolean) room_1) (S : LSq X b L sq) (hL : L ≤ 3072) (hcr : ce ≤ 600000 ∧ sl ≤ 7302250) {M N : Mem} (hI : Inv false M) (hX : XX M) (hJ : Inv true N) (hY : YY N) (hm : Tie M N) {i : Int} (hi : 0 ≤ i ∧ i + 6 ≤ L) (K : ∀ M' N' : Mem, Inv false M' → XX M' → Inv true N' → YY N' → Tie M' N' → LJ G X ce sl M' N' 2050 [some (.ref b), some (vR G 0), some (vR G 163), some (vI i)] []) : LJ G X ce sl M N 954 [some (.ref b), some (vR G 0), some (vR G 163), some (vI i)] [] := by
  obtain ⟨q, hV, hS, hU, hR, hT⟩ := hm.2.2.2.2.2.2.2.2.1.1
  have hC : zQC q := zQC.of hm.2.2.2.2.2.2.2.2.2.2.1.1 hV hR hT
  refine kw_aload_n 955 F 1 dL_law_954 rfl rfl rfl ?_
  refine kw_aload_n 956 F 0 dL_law_955 rfl rfl rfl ?_
  refine kw_iload_n 957 F 3 dL_law_956 rfl rfl rfl ?_
  refine kw_iconst 958 F dL_law_957 rfl ?_
  refine kw_iadd 959 F (v := i + 1) dL_law_958 rfl rfl ?_
  refine kw_sld 960 F S hL (z := i + 1) (by omega) dL_law_959 rfl ?_
  have hs1 := sv_rng sq (i + 1)
  refine kw_aload_n 961 F 0 dL_law_960 rfl rfl rfl ?_
  refine kw_iload_n 962 F 3 dL_law_961 rfl rfl rfl ?_
  refine kw_iconst 963 F dL_law_962 rfl ?_
  refine kw_iadd 964 F (v := i + 2) dL_law_963 rfl rfl ?_
  refine kw_sld 965 F S hL (z := i + 2) (by omega) dL_law_964 rfl ?_
  have hs2 := sv_rng sq (i + 2)
  refine kw_aload_n 966 F 0 dL_law_965 rfl rfl rfl ?_
  refine kw_iload_n 967 F 3 dL_law_966 rfl rfl rfl ?_
  refine kw_iconst 968 F dL_law_967 rfl ?_
  refine kw_iadd 969 F (v := i + 3) dL_law_968 rfl rfl ?_
  refine kw_sld 970 F S hL (z := i + 3) (by omega) dL_law_969 rfl ?_
  have hs3 := sv_rng sq (i + 3)
  refine kw_VCi 973 F (As := [vI (sv sq (i + 1)), vI (sv sq (i + 2)), vI (sv sq (i + 3))]) (st := []) vd_L_99 (e_takes3 G l M 0 (sv sq (i + 1)) (sv sq (i + 2)) (sv sq (i + 3)) hI kd_0 (by omega) q hS hU) kd_0 rfl rfl rfl ⟨by decide, by decide⟩ rfl rfl (Nat.le_of_ble_eq_true rfl) dL_law_970 rfl hcr ?_
  intro r4 U5 q6
  obtain ⟨hiU5, hfU5, q6, hcfU5, huU5⟩ := q6
  have hxU5 : XX U5 := XX.fr hX hI hfU5 rfl
  refine kw_pop 974 F dL_law_973 rfl rfl ?_
  refine kw_aload_n 975 F 2 dL_law_974 rfl rfl rfl ?_
  refine kw_aload_n 976 F 0 dL_law_975 rfl rfl rfl ?_
  refine kw_iload_n 977 F 3 dL_law_976 rfl rfl rfl ?_
  refine kw_iconst 978 F dL_law_977 rfl ?_
  refine kw_iadd 979 F (v := i + 1) dL_law_978 rfl rfl ?_
  refine kw_sld 980 F S hL (z := i + 1) (by omega) dL_law_979 rfl ?_
  refine kw_aload_n 981 F 0 dL_law_980 rfl rfl rfl ?_
  refine kw_iload_n 982 F 3 dL_law_981 rfl rfl rfl ?_
  refine kw_iconst 983 F dL_law_982 rfl ?_
  refine kw_iadd 984 F (v := i + 2) dL_law_983 rfl rfl ?_
  refine kw_sld 985 F S hL (z := i + 2) (by omega) dL_law_984 rfl ?_
  refine kw_aload_n 986 F 0 dL_law_985 rfl rfl rfl ?_
  refine kw_iload_n 987 F 3 dL_law_986 rfl rfl rfl ?_
  refine kw_iconst 988 F dL_law_987 rfl ?_
  refine kw_iadd 989 F (v := i + 3) dL_law_988 rfl rfl ?_
  refine kw_sld 990 F S hL (z := i + 3) (by omega) dL_law_989 rfl ?_
  refine kw_VMi 993 F (As := [vI (sv sq (i + 1)), vI (sv sq (i + 2)), vI (sv sq (i + 3))]) (st := []) vd_L_102 (e_takes3m G l N (sv sq (i + 1)) (sv sq (i + 2)) (sv sq (i + 3)) hJ (by omega) q hR hT hC) kd_163 rfl rfl rfl ⟨by decide, by decide⟩ rfl rfl (Nat.le_of_ble_eq_true rfl) dL_law_990 rfl hcr ?_
  intro r10 U11 q12
  obtain ⟨hiU11, hfU11, q12, huU11⟩ := q12
  have hyU11 : YY U11 := YY.fr hY hfU11 rfl
  have eT := at_T hI
  have eP := at_P hI
  have eV := at_V hI
  rw [eT, eV, eP, hm.2.2.2.2.2.2.2.2.2.1, hm.2.2.1, hS.u.2.2.1] at huU5
  rw [hR.u.1, hR.u.2.1, hR.u.2.2.1] at huU11
  have he := zTAK.u huU5 huU11
  have ht : Tie U5 U11 := ⟨(Fr.e hfU5 kd_0 7 rfl).trans (hm.1.trans (Fr.e hfU11 kd_163 50 rfl).symm), (Fr.e hfU5 kd_x5 1 rfl).trans (hm.2.1.trans (Fr.e hfU11 kd_163 10 rfl).symm), (Fr.fn hfU5 kd_x4 rfl).trans (hm.2.2.1.trans (Fr.fn hfU11 kd_y6 rfl).symm), (Fr.fn hfU5 kd_x3 rfl).trans (hm.2.2.2.1.trans (Fr.fn hfU11 kd_y5 rfl).symm), (Fr.fn hfU5 kd_x6 rfl).trans (hm.2.2.2.2.1.trans (Fr.fn hfU11 kd_169 rfl).symm), (Fr.e hfU5 kd_x5 2 rfl).trans (hm.2.2.2.2.2.1.trans (Fr.e hfU11 kd_163 16 rfl).symm), (Fr.e hfU5 kd_x5 3 rfl).trans (hm.2.2.2.2.2.2.1.trans (Fr.e hfU11 kd_163 17 rfl).symm), FZ.fr hm.2.2.2.2.2.2.2.1 hfU5 rfl, (zTS.m (zTS.c hm.2.2.2.2.2.2.2.2.1 hI hfU5 rfl) (fun i _ _ _ => congrFun (Fr.fn hfU11 kd_164 rfl) i)), (Fr.fn hfU5 kd_x2 rfl).trans (hm.2.2.2.2.2.2.2.2.2.1.trans (Fr.fn hfU11 kd_y7 rfl).symm), (zTQ.m (zTQ.c hm.2.2.2.2.2.2.2.2.2.2.1 (Fr.e hfU5 kd_0 7 rfl)) hJ (fun i _ _ _ => congrFun (Fr.fn hfU11 kd_164 rfl) i)), (zTW.oth hm.2.2.2.2.2.2.2.2.2.2.2.1 hI hiU5 hm.2.2.2.2.2.2.2.1 (FZ.fr hm.2.2.2.2.2.2.2.1 hfU5 rfl) (Fr.e hfU5 kd_0 5 rfl) (Fr.e hfU5 kd_0 7 rfl) (Fr.e hfU5 kd_0 12 rfl) (Fr.fn hfU5 kd_x9 rfl) hcfU5 (fun s hs y a b c => SWk.mon c hm.2.2.2.2.2.2.2.2.2.2.2.1.1 hm.2.2.2.2.2.2.2.1 hs a) (fun i _ _ => congrFun (Fr.fn hfU11 kd_164 rfl) i)), (zTL.fr hm.2.2.2.2.2.2.2.2.2.2.2.2 hI hfU5 rfl (fun i _ _ => congrFun (Fr.fn hfU11 kd_164 rfl) i))⟩
  refine kw_pop 994 F dL_law_993 rfl rfl ?_
  refine kw_goto 2050 F dL_law_994 (by decide) ?_
  exact K U5 U11 hiU5 hxU5 hiU11 hyU11 ht
set_option maxHeartbeats 4000000 in
set_option maxRecDepth 100000 in
theorem lc_ends {G : KG} {X : KX} {l : Launch} {b L : Nat} {sq : Nat → Int32} {ce sl : Nat} (F : kF false G X l code RL 4 (some .boolean) room_1) (S : LSq X b L sq) (hL : L ≤ 3072) (hcr : ce ≤ 600000 ∧ sl ≤ 7302250) {M N : Mem} (hI : Inv false M) (hX : XX M) (hJ : Inv true N) (hY : YY N) (hm : Tie M N) {i : Int} (hi : 0 ≤ i ∧ i + 6 ≤ L) (K : ∀ M' N' : Mem, Inv false M' → XX M' → Inv true N' → YY N' → Tie M' N' → LJ G X ce sl M' N' 2050 [some (.ref b), some (vR G 0), some (vR G 163), some (vI i)] []) : LJ G X ce sl M N 997 [some (.ref b), some (vR G 0), some (vR G 163), some (vI i)] [] := by
  obtain ⟨q, hV, hS, hU, hR, hT⟩ := hm.2.2.2.2.2.2.2.2.1.1
  have hC : zQC q := zQC.of hm.2.2.2.2.2.2.2.2.2.2.1.1 hV hR hT
  refine kw_aload_n 998 F 1 dL_law_997 rfl rfl rfl ?_
  refine kw_aload_n 999 F 0 dL_law_998 rfl rfl rfl ?_
  refine kw_iload_n 1000 F 3 dL_law_999 rfl rfl rfl ?_
  refine kw_iconst 1001 F dL_law_1000 rfl ?_
  refine kw_iadd 1002 F (v := i + 1) dL_law_1001 rfl rfl ?_
  refine kw_sld 1003 F S hL (z := i + 1) (by omega) dL_law_1002 rfl ?_
  have hs1 := sv_rng sq (i + 1)
  refine kw_aload_n 1004 F 0 dL_law_1003 rfl rfl rfl ?_
  refine kw_iload_n 1005 F 3 dL_law_1004 rfl rfl rfl ?_
  refine kw_iconst 1006 F dL_law_1005 rfl ?_
  refine kw_iadd 1007 F (v := i + 2) dL_law_1006 rfl rfl ?_
  refine kw_sld 1008 F S hL (z := i + 2) (by omega) dL_law_1007 rfl ?_
  have hs2 := sv_rng sq (i + 2)
  refine kw_aload_n 1009 F 0 dL_law_1008 rfl rfl rfl ?_
  refine kw_iload_n 1010 F 3 dL_law_1009 rfl rfl rfl ?_
  refine kw_iconst 1011 F dL_law_1010 rfl ?_
  refine kw_iadd 1012 F (v := i + 3) dL_law_1011 rfl rfl ?_
  refine kw_sld 1013 F S hL (z := i + 3) (by omega) dL_law_1012 rfl ?_
  have hs3 := sv_rng sq (i + 3)
  refine kw_VCi 1016 F (As := [vI (sv sq (i + 1)), vI (sv sq (i + 2)), vI (sv sq (i + 3))]) (st := []) vd_L_103 (e_ends3 G l M 0 (sv sq (i + 1)) (sv sq (i + 2)) (sv sq (i + 3)) hI kd_0 (by omega) q hS hU) kd_0 rfl rfl rfl ⟨by decide, by decide⟩ rfl rfl (Nat.le_of_ble_eq_true rfl) dL_law_1013 rfl hcr ?_
  intro r4 U5 q6
  obtain ⟨hiU5, hfU5, q6, hcfU5, huU5⟩ := q6
  have hxU5 : XX U5 := XX.fr hX hI hfU5 rfl
  refine kw_pop 1017 F dL_law_1016 rfl rfl ?_
  refine kw_aload_n 1018 F 2 dL_law_1017 rfl rfl rfl ?_
  refine kw_aload_n 1019 F 0 dL_law_1018 rfl rfl rfl ?_
  refine kw_iload_n 1020 F 3 dL_law_1019 rfl rfl rfl ?_
  refine kw_iconst 1021 F dL_law_1020 rfl ?_
  refine kw_iadd 1022 F (v := i + 1) dL_law_1021 rfl rfl ?_
  refine kw_sld 1023 F S hL (z := i + 1) (by omega) dL_law_1022 rfl ?_
  refine kw_aload_n 1024 F 0 dL_law_1023 rfl rfl rfl ?_
  refine kw_iload_n 1025 F 3 dL_law_1024 rfl rfl rfl ?_
  refine kw_iconst 1026 F dL_law_1025 rfl ?_
  refine kw_iadd 1027 F (v := i + 2) dL_law_1026 rfl rfl ?_
  refine kw_sld 1028 F S hL (z := i + 2) (by omega) dL_law_1027 rfl ?_
  refine kw_aload_n 1029 F 0 dL_law_1028 rfl rfl rfl ?_
  refine kw_iload_n 1030 F 3 dL_law_1029 rfl rfl rfl ?_
  refine kw_iconst 1031 F dL_law_1030 rfl ?_
  refine kw_iadd 1032 F (v := i + 3) dL_law_1031 rfl rfl ?_
  refine kw_sld 1033 F S hL (z := i + 3) (by omega) dL_law_1032 rfl ?_
  refine kw_VMi 1036 F (As := [vI (sv sq (i + 1)), vI (sv sq (i + 2)), vI (sv sq (i + 3))]) (st := []) vd_L_106 (e_ends3m G l N (sv sq (i + 1)) (sv sq (i + 2)) (sv sq (i + 3)) hJ (by omega) q hR hT hC) kd_163 rfl rfl rfl ⟨by decide, by decide⟩ rfl rfl (Nat.le_of_ble_eq_true rfl) dL_law_1033 rfl hcr ?_
  intro r10 U11 q12
  obtain ⟨hiU11, hfU11, q12, huU11⟩ := q12
  have hyU11 : YY U11 := YY.fr hY hfU11 rfl
  have eT := at_T hI
  have eP := at_P hI
  have eV := at_V hI
  rw [eT, eV, eP, hm.2.2.2.2.2.2.2.2.2.1, hm.2.2.1, hS.u.2.2.1] at huU5
  rw [hR.u.1, hR.u.2.1, hR.u.2.2.1] at huU11
  have he := zEW.u huU5 huU11
  have ht : Tie U5 U11 := ⟨(Fr.e hfU5 kd_0 7 rfl).trans (hm.1.trans (Fr.e hfU11 kd_163 50 rfl).symm), (Fr.e hfU5 kd_x5 1 rfl).trans (hm.2.1.trans (Fr.e hfU11 kd_163 10 rfl).symm), (Fr.fn hfU5 kd_x4 rfl).trans (hm.2.2.1.trans (Fr.fn hfU11 kd_y6 rfl).symm), (Fr.fn hfU5 kd_x3 rfl).trans (hm.2.2.2.1.trans (Fr.fn hfU11 kd_y5 rfl).symm), (Fr.fn hfU5 kd_x6 rfl).trans (hm.2.2.2.2.1.trans (Fr.fn hfU11 kd_169 rfl).symm), (Fr.e hfU5 kd_x5 2 rfl).trans (hm.2.2.2.2.2.1.trans (Fr.e hfU11 kd_163 16 rfl).symm), (Fr.e hfU5 kd_x5 3 rfl).trans (hm.2.2.2.2.2.2.1.trans (Fr.e hfU11 kd_163 17 rfl).symm), FZ.fr hm.2.2.2.2.2.2.2.1 hfU5 rfl, (zTS.m (zTS.c hm.2.2.2.2.2.2.2.2.1 hI hfU5 rfl) (fun i _ _ _ => congrFun (Fr.fn hfU11 kd_164 rfl) i)), (Fr.fn hfU5 kd_x2 rfl).trans (hm.2.2.2.2.2.2.2.2.2.1.trans (Fr.fn hfU11 kd_y7 rfl).symm), (zTQ.m (zTQ.c hm.2.2.2.2.2.2.2.2.2.2.1 (Fr.e hfU5 kd_0 7 rfl)) hJ (fun i _ _ _ => congrFun (Fr.fn hfU11 kd_164 rfl) i)), (zTW.oth hm.2.2.2.2.2.2.2.2.2.2.2.1 hI hiU5 hm.2.2.2.2.2.2.2.1 (FZ.fr hm.2.2.2.2.2.2.2.1 hfU5 rfl) (Fr.e hfU5 kd_0 5 rfl) (Fr.e hfU5 kd_0 7 rfl) (Fr.e hfU5 kd_0 12 rfl) (Fr.fn hfU5 kd_x9 rfl) hcfU5 (fun s hs y a b c => SWk.mon c hm.2.2.2.2.2.2.2.2.2.2.2.1.1 hm.2.2.2.2.2.2.2.1 hs a) (fun i _ _ => congrFun (Fr.fn hfU11 kd_164 rfl) i)), (zTL.fr hm.2.2.2.2.2.2.2.2.2.2.2.2 hI hfU5 rfl (fun i _ _ => congrFun (Fr.fn hfU11 kd_164 rfl) i))⟩
  refine kw_pop 1037 F dL_law_1036 rfl rfl ?_
  refine kw_goto 2050 F dL_law_1037 (by decide) ?_
  exact K U5 U11 hiU5 hxU5 hiU11 hyU11 ht
