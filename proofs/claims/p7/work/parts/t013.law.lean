theorem m1036 : Cond.methodLink RL 63 yX11_evenest ∈ gd := gd_mem 1036 (by decide +kernel) (by decide +kernel)
theorem m1037 : Cond.instanceMethod yX11_evenest ∈ gd := gd_mem 1037 (by decide +kernel) (by decide +kernel)
theorem m1038 : Cond.selects RX11 yX11_evenest yX11_evenest ∈ gd := gd_mem 1038 (by decide +kernel) (by decide +kernel)
theorem m1039 : Cond.code yX11_evenest cX11_evenest 5 (some .int) ∈ gd := gd_mem 1039 (by decide +kernel) (by decide +kernel)
theorem m1049 : Cond.methodLink RL 67 yX11_even ∈ gd := gd_mem 1049 (by decide +kernel) (by decide +kernel)
theorem m1050 : Cond.instanceMethod yX11_even ∈ gd := gd_mem 1050 (by decide +kernel) (by decide +kernel)
theorem m1051 : Cond.selects RX11 yX11_even yX11_even ∈ gd := gd_mem 1051 (by decide +kernel) (by decide +kernel)
theorem m1052 : Cond.code yX11_even cX11_even 8 (some .int) ∈ gd := gd_mem 1052 (by decide +kernel) (by decide +kernel)
theorem m1053 : Cond.methodLink RL 71 yX11_evens ∈ gd := gd_mem 1053 (by decide +kernel) (by decide +kernel)
theorem m1054 : Cond.instanceMethod yX11_evens ∈ gd := gd_mem 1054 (by decide +kernel) (by decide +kernel)
theorem m1055 : Cond.selects RX11 yX11_evens yX11_evens ∈ gd := gd_mem 1055 (by decide +kernel) (by decide +kernel)
theorem m1056 : Cond.code yX11_evens cX11_evens 5 (some .int) ∈ gd := gd_mem 1056 (by decide +kernel) (by decide +kernel)
theorem m1883 : Cond.methodLink RL 66 yX12_evenest ∈ gd := gd_mem 1883 (by decide +kernel) (by decide +kernel)
theorem m1884 : Cond.instanceMethod yX12_evenest ∈ gd := gd_mem 1884 (by decide +kernel) (by decide +kernel)
theorem m1885 : Cond.selects RX12 yX12_evenest yX12_evenest ∈ gd := gd_mem 1885 (by decide +kernel) (by decide +kernel)
theorem m1886 : Cond.code yX12_evenest cX12_evenest 7 (some .int) ∈ gd := gd_mem 1886 (by decide +kernel) (by decide +kernel)
theorem m1891 : Cond.methodLink RL 70 yX12_even ∈ gd := gd_mem 1891 (by decide +kernel) (by decide +kernel)
theorem m1892 : Cond.instanceMethod yX12_even ∈ gd := gd_mem 1892 (by decide +kernel) (by decide +kernel)
theorem m1893 : Cond.selects RX12 yX12_even yX12_even ∈ gd := gd_mem 1893 (by decide +kernel) (by decide +kernel)
theorem m1894 : Cond.code yX12_even cX12_even 8 (some .int) ∈ gd := gd_mem 1894 (by decide +kernel) (by decide +kernel)
theorem m1895 : Cond.methodLink RL 74 yX12_evens ∈ gd := gd_mem 1895 (by decide +kernel) (by decide +kernel)
theorem m1896 : Cond.instanceMethod yX12_evens ∈ gd := gd_mem 1896 (by decide +kernel) (by decide +kernel)
theorem m1897 : Cond.selects RX12 yX12_evens yX12_evens ∈ gd := gd_mem 1897 (by decide +kernel) (by decide +kernel)
theorem m1898 : Cond.code yX12_evens cX12_evens 7 (some .int) ∈ gd := gd_mem 1898 (by decide +kernel) (by decide +kernel)
theorem dL_law_637 : decode cL_law 637 = .ok (.aload_n 1, 1) := by decide +kernel
theorem dL_law_638 : decode cL_law 638 = .ok (.aload_n 0, 1) := by decide +kernel
theorem dL_law_639 : decode cL_law 639 = .ok (.iload_n 3, 1) := by decide +kernel
theorem dL_law_640 : decode cL_law 640 = .ok (.iconst 1, 1) := by decide +kernel
theorem dL_law_641 : decode cL_law 641 = .ok (.iadd, 1) := by decide +kernel
theorem dL_law_642 : decode cL_law 642 = .ok (.iaload, 1) := by decide +kernel
theorem dL_law_643 : decode cL_law 643 = .ok (.aload_n 0, 1) := by decide +kernel
theorem dL_law_644 : decode cL_law 644 = .ok (.iload_n 3, 1) := by decide +kernel
theorem dL_law_645 : decode cL_law 645 = .ok (.iconst 2, 1) := by decide +kernel
theorem dL_law_646 : decode cL_law 646 = .ok (.iadd, 1) := by decide +kernel
theorem dL_law_647 : decode cL_law 647 = .ok (.iaload, 1) := by decide +kernel
theorem dL_law_648 : decode cL_law 648 = .ok (.aload_n 0, 1) := by decide +kernel
theorem dL_law_649 : decode cL_law 649 = .ok (.iload_n 3, 1) := by decide +kernel
theorem dL_law_650 : decode cL_law 650 = .ok (.iconst 3, 1) := by decide +kernel
theorem dL_law_651 : decode cL_law 651 = .ok (.iadd, 1) := by decide +kernel
theorem dL_law_652 : decode cL_law 652 = .ok (.iaload, 1) := by decide +kernel
theorem dL_law_653 : decode cL_law 653 = .ok (.aload_n 0, 1) := by decide +kernel
theorem dL_law_654 : decode cL_law 654 = .ok (.iload_n 3, 1) := by decide +kernel
theorem dL_law_655 : decode cL_law 655 = .ok (.iconst 4, 1) := by decide +kernel
theorem dL_law_656 : decode cL_law 656 = .ok (.iadd, 1) := by decide +kernel
theorem dL_law_657 : decode cL_law 657 = .ok (.iaload, 1) := by decide +kernel
theorem dL_law_658 : decode cL_law 658 = .ok (.invokevirtual 63, 3) := by decide +kernel
theorem dL_law_661 : decode cL_law 661 = .ok (.pop, 1) := by decide +kernel
theorem dL_law_662 : decode cL_law 662 = .ok (.aload_n 2, 1) := by decide +kernel
theorem dL_law_663 : decode cL_law 663 = .ok (.aload_n 0, 1) := by decide +kernel
theorem dL_law_664 : decode cL_law 664 = .ok (.iload_n 3, 1) := by decide +kernel
theorem dL_law_665 : decode cL_law 665 = .ok (.iconst 1, 1) := by decide +kernel
theorem dL_law_666 : decode cL_law 666 = .ok (.iadd, 1) := by decide +kernel
theorem dL_law_667 : decode cL_law 667 = .ok (.iaload, 1) := by decide +kernel
theorem dL_law_668 : decode cL_law 668 = .ok (.aload_n 0, 1) := by decide +kernel
theorem dL_law_669 : decode cL_law 669 = .ok (.iload_n 3, 1) := by decide +kernel
theorem dL_law_670 : decode cL_law 670 = .ok (.iconst 2, 1) := by decide +kernel
theorem dL_law_671 : decode cL_law 671 = .ok (.iadd, 1) := by decide +kernel
theorem dL_law_672 : decode cL_law 672 = .ok (.iaload, 1) := by decide +kernel
theorem dL_law_673 : decode cL_law 673 = .ok (.aload_n 0, 1) := by decide +kernel
theorem dL_law_674 : decode cL_law 674 = .ok (.iload_n 3, 1) := by decide +kernel
theorem dL_law_675 : decode cL_law 675 = .ok (.iconst 3, 1) := by decide +kernel
theorem dL_law_676 : decode cL_law 676 = .ok (.iadd, 1) := by decide +kernel
theorem dL_law_677 : decode cL_law 677 = .ok (.iaload, 1) := by decide +kernel
theorem dL_law_678 : decode cL_law 678 = .ok (.aload_n 0, 1) := by decide +kernel
theorem dL_law_679 : decode cL_law 679 = .ok (.iload_n 3, 1) := by decide +kernel
theorem dL_law_680 : decode cL_law 680 = .ok (.iconst 4, 1) := by decide +kernel
theorem dL_law_681 : decode cL_law 681 = .ok (.iadd, 1) := by decide +kernel
theorem dL_law_682 : decode cL_law 682 = .ok (.iaload, 1) := by decide +kernel
theorem dL_law_683 : decode cL_law 683 = .ok (.invokevirtual 66, 3) := by decide +kernel
theorem dL_law_686 : decode cL_law 686 = .ok (.pop, 1) := by decide +kernel
theorem dL_law_687 : decode cL_law 687 = .ok (.goto 954, 3) := by decide +kernel
theorem dL_law_690 : decode cL_law 690 = .ok (.aload_n 1, 1) := by decide +kernel
theorem dL_law_691 : decode cL_law 691 = .ok (.aload_n 0, 1) := by decide +kernel
theorem dL_law_692 : decode cL_law 692 = .ok (.iload_n 3, 1) := by decide +kernel
theorem dL_law_693 : decode cL_law 693 = .ok (.iconst 1, 1) := by decide +kernel
theorem dL_law_694 : decode cL_law 694 = .ok (.iadd, 1) := by decide +kernel
theorem dL_law_695 : decode cL_law 695 = .ok (.iaload, 1) := by decide +kernel
theorem dL_law_696 : decode cL_law 696 = .ok (.aload_n 0, 1) := by decide +kernel
theorem dL_law_697 : decode cL_law 697 = .ok (.iload_n 3, 1) := by decide +kernel
theorem dL_law_698 : decode cL_law 698 = .ok (.iconst 2, 1) := by decide +kernel
theorem dL_law_699 : decode cL_law 699 = .ok (.iadd, 1) := by decide +kernel
theorem dL_law_700 : decode cL_law 700 = .ok (.iaload, 1) := by decide +kernel
theorem dL_law_701 : decode cL_law 701 = .ok (.aload_n 0, 1) := by decide +kernel
theorem dL_law_702 : decode cL_law 702 = .ok (.iload_n 3, 1) := by decide +kernel
theorem dL_law_703 : decode cL_law 703 = .ok (.iconst 3, 1) := by decide +kernel
theorem dL_law_704 : decode cL_law 704 = .ok (.iadd, 1) := by decide +kernel
theorem dL_law_705 : decode cL_law 705 = .ok (.iaload, 1) := by decide +kernel
theorem dL_law_706 : decode cL_law 706 = .ok (.aload_n 0, 1) := by decide +kernel
theorem dL_law_707 : decode cL_law 707 = .ok (.iload_n 3, 1) := by decide +kernel
theorem dL_law_708 : decode cL_law 708 = .ok (.iconst 4, 1) := by decide +kernel
theorem dL_law_709 : decode cL_law 709 = .ok (.iadd, 1) := by decide +kernel
theorem dL_law_710 : decode cL_law 710 = .ok (.iaload, 1) := by decide +kernel
theorem dL_law_711 : decode cL_law 711 = .ok (.aload_n 0, 1) := by decide +kernel
theorem dL_law_712 : decode cL_law 712 = .ok (.iload_n 3, 1) := by decide +kernel
theorem dL_law_713 : decode cL_law 713 = .ok (.iconst 5, 1) := by decide +kernel
theorem dL_law_714 : decode cL_law 714 = .ok (.iadd, 1) := by decide +kernel
theorem dL_law_715 : decode cL_law 715 = .ok (.iaload, 1) := by decide +kernel
theorem dL_law_716 : decode cL_law 716 = .ok (.invokevirtual 67, 3) := by decide +kernel
theorem dL_law_719 : decode cL_law 719 = .ok (.pop, 1) := by decide +kernel
theorem dL_law_720 : decode cL_law 720 = .ok (.aload_n 2, 1) := by decide +kernel
theorem dL_law_721 : decode cL_law 721 = .ok (.aload_n 0, 1) := by decide +kernel
theorem dL_law_722 : decode cL_law 722 = .ok (.iload_n 3, 1) := by decide +kernel
theorem dL_law_723 : decode cL_law 723 = .ok (.iconst 1, 1) := by decide +kernel
theorem dL_law_724 : decode cL_law 724 = .ok (.iadd, 1) := by decide +kernel
theorem dL_law_725 : decode cL_law 725 = .ok (.iaload, 1) := by decide +kernel
theorem dL_law_726 : decode cL_law 726 = .ok (.aload_n 0, 1) := by decide +kernel
theorem dL_law_727 : decode cL_law 727 = .ok (.iload_n 3, 1) := by decide +kernel
theorem dL_law_728 : decode cL_law 728 = .ok (.iconst 2, 1) := by decide +kernel
theorem dL_law_729 : decode cL_law 729 = .ok (.iadd, 1) := by decide +kernel
theorem dL_law_730 : decode cL_law 730 = .ok (.iaload, 1) := by decide +kernel
theorem dL_law_731 : decode cL_law 731 = .ok (.aload_n 0, 1) := by decide +kernel
theorem dL_law_732 : decode cL_law 732 = .ok (.iload_n 3, 1) := by decide +kernel
theorem dL_law_733 : decode cL_law 733 = .ok (.iconst 3, 1) := by decide +kernel
theorem dL_law_734 : decode cL_law 734 = .ok (.iadd, 1) := by decide +kernel
theorem dL_law_735 : decode cL_law 735 = .ok (.iaload, 1) := by decide +kernel
theorem dL_law_736 : decode cL_law 736 = .ok (.aload_n 0, 1) := by decide +kernel
theorem dL_law_737 : decode cL_law 737 = .ok (.iload_n 3, 1) := by decide +kernel
theorem dL_law_738 : decode cL_law 738 = .ok (.iconst 4, 1) := by decide +kernel
theorem dL_law_739 : decode cL_law 739 = .ok (.iadd, 1) := by decide +kernel
theorem dL_law_740 : decode cL_law 740 = .ok (.iaload, 1) := by decide +kernel
theorem dL_law_741 : decode cL_law 741 = .ok (.aload_n 0, 1) := by decide +kernel
theorem dL_law_742 : decode cL_law 742 = .ok (.iload_n 3, 1) := by decide +kernel
theorem dL_law_743 : decode cL_law 743 = .ok (.iconst 5, 1) := by decide +kernel
theorem dL_law_744 : decode cL_law 744 = .ok (.iadd, 1) := by decide +kernel
theorem dL_law_745 : decode cL_law 745 = .ok (.iaload, 1) := by decide +kernel
theorem dL_law_746 : decode cL_law 746 = .ok (.invokevirtual 70, 3) := by decide +kernel
theorem dL_law_749 : decode cL_law 749 = .ok (.pop, 1) := by decide +kernel
theorem dL_law_750 : decode cL_law 750 = .ok (.goto 891, 3) := by decide +kernel
theorem dL_law_753 : decode cL_law 753 = .ok (.aload_n 1, 1) := by decide +kernel
theorem dL_law_754 : decode cL_law 754 = .ok (.aload_n 0, 1) := by decide +kernel
theorem dL_law_755 : decode cL_law 755 = .ok (.iload_n 3, 1) := by decide +kernel
theorem dL_law_756 : decode cL_law 756 = .ok (.iconst 1, 1) := by decide +kernel
theorem dL_law_757 : decode cL_law 757 = .ok (.iadd, 1) := by decide +kernel
theorem dL_law_758 : decode cL_law 758 = .ok (.iaload, 1) := by decide +kernel
theorem dL_law_759 : decode cL_law 759 = .ok (.aload_n 0, 1) := by decide +kernel
theorem dL_law_760 : decode cL_law 760 = .ok (.iload_n 3, 1) := by decide +kernel
theorem dL_law_761 : decode cL_law 761 = .ok (.iconst 2, 1) := by decide +kernel
theorem dL_law_762 : decode cL_law 762 = .ok (.iadd, 1) := by decide +kernel
theorem dL_law_763 : decode cL_law 763 = .ok (.iaload, 1) := by decide +kernel
theorem dL_law_764 : decode cL_law 764 = .ok (.aload_n 0, 1) := by decide +kernel
theorem dL_law_765 : decode cL_law 765 = .ok (.iload_n 3, 1) := by decide +kernel
theorem dL_law_766 : decode cL_law 766 = .ok (.iconst 3, 1) := by decide +kernel
theorem dL_law_767 : decode cL_law 767 = .ok (.iadd, 1) := by decide +kernel
theorem dL_law_768 : decode cL_law 768 = .ok (.iaload, 1) := by decide +kernel
theorem dL_law_769 : decode cL_law 769 = .ok (.invokevirtual 71, 3) := by decide +kernel
theorem dL_law_772 : decode cL_law 772 = .ok (.pop, 1) := by decide +kernel
theorem dL_law_773 : decode cL_law 773 = .ok (.aload_n 2, 1) := by decide +kernel
theorem dL_law_774 : decode cL_law 774 = .ok (.aload_n 0, 1) := by decide +kernel
theorem dL_law_775 : decode cL_law 775 = .ok (.iload_n 3, 1) := by decide +kernel
theorem dL_law_776 : decode cL_law 776 = .ok (.iconst 1, 1) := by decide +kernel
theorem dL_law_777 : decode cL_law 777 = .ok (.iadd, 1) := by decide +kernel
theorem dL_law_778 : decode cL_law 778 = .ok (.iaload, 1) := by decide +kernel
theorem dL_law_779 : decode cL_law 779 = .ok (.aload_n 0, 1) := by decide +kernel
theorem dL_law_780 : decode cL_law 780 = .ok (.iload_n 3, 1) := by decide +kernel
theorem dL_law_781 : decode cL_law 781 = .ok (.iconst 2, 1) := by decide +kernel
theorem dL_law_782 : decode cL_law 782 = .ok (.iadd, 1) := by decide +kernel
theorem dL_law_783 : decode cL_law 783 = .ok (.iaload, 1) := by decide +kernel
theorem dL_law_784 : decode cL_law 784 = .ok (.aload_n 0, 1) := by decide +kernel
theorem dL_law_785 : decode cL_law 785 = .ok (.iload_n 3, 1) := by decide +kernel
theorem dL_law_786 : decode cL_law 786 = .ok (.iconst 3, 1) := by decide +kernel
theorem dL_law_787 : decode cL_law 787 = .ok (.iadd, 1) := by decide +kernel
theorem dL_law_788 : decode cL_law 788 = .ok (.iaload, 1) := by decide +kernel
theorem dL_law_789 : decode cL_law 789 = .ok (.invokevirtual 74, 3) := by decide +kernel
theorem dL_law_792 : decode cL_law 792 = .ok (.pop, 1) := by decide +kernel
theorem dL_law_793 : decode cL_law 793 = .ok (.goto 848, 3) := by decide +kernel
set_option maxHeartbeats 4000000 in
set_option maxRecDepth 100000 in
theorem law_11 {p : Program} {l : Launch} {e : Env} {s : State} {m : MethodId} {below : List Frame} {meth : Method} {c : Code} {D : va_G} {k : KT} {A : Nat → Prop} {a : Nat → Nat} {z : SK} {b L : Nat} {xs : Nat → Int32} (hL : L ≤ 3072) (C0 : lw_At p s m meth c b L xs) (hK : cK D k s) (hZ : Sx A z s) (hbA : ¬ A b) {G : GS} {i0 : Int32} (hi0 : 0 ≤ i0.toInt) (hi6 : i0.toInt + 6 ≤ L) (hI : LI G) (hB_G : Bd G) {H : Heap} {locs : List Loc} {ls : Array Slot} (hW : Wd D k A a G H) (hS : va_S A s.heap H locs) (hl : lv_has ls 4 [(0, .ref b), (1, .ref (a 0)), (2, .ref (a 66)), (3, .int i0)]) (K : ∀ (G1 : GS) (H1 : Heap) (locs1 : List Loc) (ls1 : Array Slot), LI G1 → Bd G1 → Wd D k A a G1 H1 → va_S A s.heap H1 locs1 → lv_has ls1 4 [(0, .ref b), (1, .ref (a 0)), (2, .ref (a 66)), (3, .int i0)] → W p l e room_1 s m #[Value.ref b] below meth c H1 locs1 119 46443 (lw_Z below #[Value.ref b] s) (F0 m 1641 ls1 [])) : W p l e room_1 s m #[Value.ref b] below meth c H locs 119 46443 (lw_Z below #[Value.ref b] s) (F0 m 637 ls []) := by
  obtain ⟨hx, hb, hr, hml, hown, hts, hX, hbl, hlocks, hgv⟩ := id C0
  have hown : s.vm.findClass RL = some m.cls := hown
  have hgd : ∀ w ∈ gd, w ∈ lw_tbl := fun w h => (List.mem_filter.mp h).1
  have hg : ∀ w ∈ gd, w.before #[Value.ref b] s = true := fun w h => hts w (hgd w h)
  rcases hI with ⟨hv_0_0, hv_0_1, hv_6_4, hj0, hj1, hj2, hj3, hj4, hj5, hj6, hj7, hj8, hj9, hj10, hj11⟩ | ⟨hv_0_0, hv_0_1, hv_6_4, hj0, hj1, hj2, hj3, hj4, hj5, hj6, hj7, hj8, hj9, hj10, hj11⟩
  · skip
    refine lv_aload_n hx hb dL_law_637 rfl (lv_at hl 1 rfl) ?_
    refine lv_aload_n hx hb dL_law_638 rfl (lv_at hl 0 rfl) ?_
    refine lv_iload_n hx hb dL_law_639 rfl (lv_at hl 3 rfl) ?_
    refine lv_iconst (v := 1) hx hb dL_law_640 (by decide) ?_
    refine lv_iadd hx hb dL_law_641 ?_
    refine lv_topi (fun y_1 ey_1 => ?_)
    have ty_1 : y_1.toInt = i0.toInt + 1 := xI_add rfl rfl ey_1 (by omega) (by omega)
    refine va_sld hx hb hX hbl hbA hS (vin (by omega) (by omega)) dL_law_642 ?_
    refine lv_topi (fun y_2 ey_2 => ?_)
    have u_3 : y_2.toInt = (xs (i0 + 1).toNatClampNeg).toInt := by rw [ey_2, ey_1]
    refine lv_aload_n hx hb dL_law_643 rfl (lv_at hl 0 rfl) ?_
    refine lv_iload_n hx hb dL_law_644 rfl (lv_at hl 3 rfl) ?_
    refine lv_iconst (v := 2) hx hb dL_law_645 (by decide) ?_
    refine lv_iadd hx hb dL_law_646 ?_
    refine lv_topi (fun y_4 ey_4 => ?_)
    have ty_4 : y_4.toInt = i0.toInt + 2 := xI_add rfl rfl ey_4 (by omega) (by omega)
    refine va_sld hx hb hX hbl hbA hS (vin (by omega) (by omega)) dL_law_647 ?_
    refine lv_topi (fun y_5 ey_5 => ?_)
    have u_6 : y_5.toInt = (xs (i0 + 2).toNatClampNeg).toInt := by rw [ey_5, ey_4]
    refine lv_aload_n hx hb dL_law_648 rfl (lv_at hl 0 rfl) ?_
    refine lv_iload_n hx hb dL_law_649 rfl (lv_at hl 3 rfl) ?_
    refine lv_iconst (v := 3) hx hb dL_law_650 (by decide) ?_
    refine lv_iadd hx hb dL_law_651 ?_
    refine lv_topi (fun y_7 ey_7 => ?_)
    have ty_7 : y_7.toInt = i0.toInt + 3 := xI_add rfl rfl ey_7 (by omega) (by omega)
    refine va_sld hx hb hX hbl hbA hS (vin (by omega) (by omega)) dL_law_652 ?_
    refine lv_topi (fun y_8 ey_8 => ?_)
    have u_9 : y_8.toInt = (xs (i0 + 3).toNatClampNeg).toInt := by rw [ey_8, ey_7]
    refine lv_aload_n hx hb dL_law_653 rfl (lv_at hl 0 rfl) ?_
    refine lv_iload_n hx hb dL_law_654 rfl (lv_at hl 3 rfl) ?_
    refine lv_iconst (v := 4) hx hb dL_law_655 (by decide) ?_
    refine lv_iadd hx hb dL_law_656 ?_
    refine lv_topi (fun y_10 ey_10 => ?_)
    have ty_10 : y_10.toInt = i0.toInt + 4 := xI_add rfl rfl ey_10 (by omega) (by omega)
    refine va_sld hx hb hX hbl hbA hS (vin (by omega) (by omega)) dL_law_657 ?_
    refine lv_topi (fun y_11 ey_11 => ?_)
    have u_12 : y_11.toInt = (xs (i0 + 4).toNatClampNeg).toInt := by rw [ey_11, ey_10]
    refine S_calli (va_runV (As := [.int y_2, .int y_5, .int y_8, .int y_11]) (rest := []) ⟨hx, hb, hml, hown, hts⟩ (k_Wevenest_1 l D k A a z G y_2 y_5 y_8 y_11 hv_0_0 hv_0_1 hv_6_4) (cwV 4 hts (gd_V hgd m1036 m1037 m1038 m117 m1039) rfl rfl rfl (by decide +kernel) ⟨Nat.le_of_ble_eq_true rfl, Nat.le_of_ble_eq_true rfl⟩) (pre_V hW hB_G hK hZ hS kd_0 rfl) rfl rfl hl.1 rfl (lv_room (Nat.le_of_ble_eq_true rfl)) dL_law_658 ⟨Nat.le_of_ble_eq_true rfl, Nat.le_of_ble_eq_true rfl⟩) hS (fun r_13 G_14 H locs hpo hW hS => ?_)
    have hX_17 : P_Wevenest_1 y_2 y_5 y_8 y_11 G r_13 G_14 := hpo
    obtain ⟨hB_G_14, hq_15, -⟩ := hpo
    refine lv_pop hx hb dL_law_661 rfl ?_
    refine lv_aload_n hx hb dL_law_662 rfl (lv_at hl 2 rfl) ?_
    refine lv_aload_n hx hb dL_law_663 rfl (lv_at hl 0 rfl) ?_
    refine lv_iload_n hx hb dL_law_664 rfl (lv_at hl 3 rfl) ?_
    refine lv_iconst (v := 1) hx hb dL_law_665 (by decide) ?_
    refine lv_iadd hx hb dL_law_666 ?_
    refine lv_topi (fun y_18 ey_18 => ?_)
    have ty_18 : y_18.toInt = i0.toInt + 1 := xI_add rfl rfl ey_18 (by omega) (by omega)
    refine va_sld hx hb hX hbl hbA hS (vin (by omega) (by omega)) dL_law_667 ?_
    refine lv_topi (fun y_19 ey_19 => ?_)
    have u_20 : y_19.toInt = (xs (i0 + 1).toNatClampNeg).toInt := by rw [ey_19, ey_18]
    refine lv_aload_n hx hb dL_law_668 rfl (lv_at hl 0 rfl) ?_
    refine lv_iload_n hx hb dL_law_669 rfl (lv_at hl 3 rfl) ?_
    refine lv_iconst (v := 2) hx hb dL_law_670 (by decide) ?_
    refine lv_iadd hx hb dL_law_671 ?_
    refine lv_topi (fun y_21 ey_21 => ?_)
    have ty_21 : y_21.toInt = i0.toInt + 2 := xI_add rfl rfl ey_21 (by omega) (by omega)
    refine va_sld hx hb hX hbl hbA hS (vin (by omega) (by omega)) dL_law_672 ?_
    refine lv_topi (fun y_22 ey_22 => ?_)
    have u_23 : y_22.toInt = (xs (i0 + 2).toNatClampNeg).toInt := by rw [ey_22, ey_21]
    refine lv_aload_n hx hb dL_law_673 rfl (lv_at hl 0 rfl) ?_
    refine lv_iload_n hx hb dL_law_674 rfl (lv_at hl 3 rfl) ?_
    refine lv_iconst (v := 3) hx hb dL_law_675 (by decide) ?_
    refine lv_iadd hx hb dL_law_676 ?_
    refine lv_topi (fun y_24 ey_24 => ?_)
    have ty_24 : y_24.toInt = i0.toInt + 3 := xI_add rfl rfl ey_24 (by omega) (by omega)
    refine va_sld hx hb hX hbl hbA hS (vin (by omega) (by omega)) dL_law_677 ?_
    refine lv_topi (fun y_25 ey_25 => ?_)
    have u_26 : y_25.toInt = (xs (i0 + 3).toNatClampNeg).toInt := by rw [ey_25, ey_24]
    refine lv_aload_n hx hb dL_law_678 rfl (lv_at hl 0 rfl) ?_
    refine lv_iload_n hx hb dL_law_679 rfl (lv_at hl 3 rfl) ?_
    refine lv_iconst (v := 4) hx hb dL_law_680 (by decide) ?_
    refine lv_iadd hx hb dL_law_681 ?_
    refine lv_topi (fun y_27 ey_27 => ?_)
    have ty_27 : y_27.toInt = i0.toInt + 4 := xI_add rfl rfl ey_27 (by omega) (by omega)
    refine va_sld hx hb hX hbl hbA hS (vin (by omega) (by omega)) dL_law_682 ?_
    refine lv_topi (fun y_28 ey_28 => ?_)
    have u_29 : y_28.toInt = (xs (i0 + 4).toNatClampNeg).toInt := by rw [ey_28, ey_27]
    have g_30 : gP G_14 = gP G := gP_fr (rs := [37, 38, 39, 40, 42]) (fs := [(6, 3), (7, 1), (7, 2), (7, 3), (7, 4), (7, 5), (7, 6), (7, 7)]) (Fr.rf.call hq_15 (by decide) (by decide)) (by decide) (by decide)
    have g_31 : gW G_14 = gW G := gW_fr (rs := [37, 38, 39, 40, 42]) (fs := [(6, 3), (7, 1), (7, 2), (7, 3), (7, 4), (7, 5), (7, 6), (7, 7)]) (Fr.rf.call hq_15 (by decide) (by decide)) (by decide) (by decide)
    refine S_calli (va_runV (As := [.int y_19, .int y_22, .int y_25, .int y_28]) (rest := []) ⟨hx, hb, hml, hown, hts⟩ (n_evenest l D k A a z G_14 y_19 y_22 y_25 y_28 (by omega) (by omega)) (cwV 4 hts (gd_V hgd m1883 m1884 m1885 m131 m1886) rfl rfl rfl (by decide +kernel) ⟨Nat.le_of_ble_eq_true rfl, Nat.le_of_ble_eq_true rfl⟩) (pre_V hW hB_G_14 hK hZ hS kd_66 rfl) rfl rfl hl.1 rfl (lv_room (Nat.le_of_ble_eq_true rfl)) dL_law_683 ⟨Nat.le_of_ble_eq_true rfl, Nat.le_of_ble_eq_true rfl⟩) hS (fun r_32 G_33 H locs hpo hW hS => ?_)
    have hX_36 : Q_evenest y_19 y_22 y_25 y_28 G_14 r_32 G_33 := hpo
    obtain ⟨hB_G_33, hq_34, -⟩ := hpo
    have u_37 := L_evenest_1 hX_17 hX_36 (by omega) (by omega) (by omega) (by omega) (by omega)
    refine lv_pop hx hb dL_law_686 rfl ?_
    refine lv_goto (tgt := 1641) hx hb dL_law_687 (by decide) ?_
    have g_38 : gO G_33 = gO G := gO_fr (rs := [37, 38, 39, 40, 42, 76, 97, 98, 103]) (fs := [(6, 3), (7, 1), (7, 2), (7, 3), (7, 4), (7, 5), (7, 6), (7, 7), (66, 59), (66, 60), (66, 61), (66, 62), (66, 63)]) ((Fr.rf.call hq_15 (by decide) (by decide)).call hq_34 (by decide) (by decide)) (by decide) (by decide)
    have g_39 : gP G_33 = gP G := gP_fr (rs := [37, 38, 39, 40, 42, 76, 97, 98, 103]) (fs := [(6, 3), (7, 1), (7, 2), (7, 3), (7, 4), (7, 5), (7, 6), (7, 7), (66, 59), (66, 60), (66, 61), (66, 62), (66, 63)]) ((Fr.rf.call hq_15 (by decide) (by decide)).call hq_34 (by decide) (by decide)) (by decide) (by decide)
    have g_40 : gS G_33 = gS G := gS_fr (rs := [37, 38, 39, 40, 42, 76, 97, 98, 103]) (fs := [(6, 3), (7, 1), (7, 2), (7, 3), (7, 4), (7, 5), (7, 6), (7, 7), (66, 59), (66, 60), (66, 61), (66, 62), (66, 63)]) ((Fr.rf.call hq_15 (by decide) (by decide)).call hq_34 (by decide) (by decide)) (by decide) (by decide)
    have g_41 : gTE G_33 = gTE G := gTE_fr (rs := [37, 38, 39, 40, 42, 76, 97, 98, 103]) (fs := [(6, 3), (7, 1), (7, 2), (7, 3), (7, 4), (7, 5), (7, 6), (7, 7), (66, 59), (66, 60), (66, 61), (66, 62), (66, 63)]) ((Fr.rf.call hq_15 (by decide) (by decide)).call hq_34 (by decide) (by decide)) (by decide) (by decide)
    have g_42 : gW G_33 = gW G := gW_fr (rs := [37, 38, 39, 40, 42, 76, 97, 98, 103]) (fs := [(6, 3), (7, 1), (7, 2), (7, 3), (7, 4), (7, 5), (7, 6), (7, 7), (66, 59), (66, 60), (66, 61), (66, 62), (66, 63)]) ((Fr.rf.call hq_15 (by decide) (by decide)).call hq_34 (by decide) (by decide)) (by decide) (by decide)
    have b_43 : 0 ≤ (G.1 0 11).toInt ∧ (G.1 0 11).toInt ≤ 1600 := hB_G.i 0 11 rfl rfl
    have g_44 : (G_33.1 0 11).toInt = (G.1 0 11).toInt := by rw [show G_33.1 0 11 = (G.1 0 11) from ((hq_34.i 0 11 (by decide) (by decide)).trans (hq_15.i 0 11 (by decide) (by decide)))]
    have b_45 : 0 ≤ (G.1 3 7).toInt ∧ (G.1 3 7).toInt ≤ 4 := hB_G.i 3 7 rfl rfl
    have g_46 : (G_33.1 3 7).toInt = (G.1 3 7).toInt := by rw [show G_33.1 3 7 = (G.1 3 7) from ((hq_34.i 3 7 (by decide) (by decide)).trans (hq_15.i 3 7 (by decide) (by decide)))]
    have b_47 : (-1) ≤ (G.1 3 8).toInt ∧ (G.1 3 8).toInt ≤ 1600 := hB_G.i 3 8 rfl rfl
    have g_48 : (G_33.1 3 8).toInt = (G.1 3 8).toInt := by rw [show G_33.1 3 8 = (G.1 3 8) from ((hq_34.i 3 8 (by decide) (by decide)).trans (hq_15.i 3 8 (by decide) (by decide)))]
    have b_49 : 0 ≤ (G.1 30 4).toInt ∧ (G.1 30 4).toInt ≤ 40 := hB_G.i 30 4 rfl rfl
    have g_50 : (G_33.1 30 4).toInt = (G.1 30 4).toInt := by rw [show G_33.1 30 4 = (G.1 30 4) from ((hq_34.i 30 4 (by decide) (by decide)).trans (hq_15.i 30 4 (by decide) (by decide)))]
    have b_51 : 0 ≤ (G.1 30 5).toInt ∧ (G.1 30 5).toInt ≤ 40 := hB_G.i 30 5 rfl rfl
    have g_52 : (G_33.1 30 5).toInt = (G.1 30 5).toInt := by rw [show G_33.1 30 5 = (G.1 30 5) from ((hq_34.i 30 5 (by decide) (by decide)).trans (hq_15.i 30 5 (by decide) (by decide)))]
    have b_53 : 0 ≤ (G.1 31 6).toInt ∧ (G.1 31 6).toInt ≤ 100000 := hB_G.i 31 6 rfl rfl
    have g_54 : (G_33.1 31 6).toInt = (G.1 31 6).toInt := by rw [show G_33.1 31 6 = (G.1 31 6) from ((hq_34.i 31 6 (by decide) (by decide)).trans (hq_15.i 31 6 (by decide) (by decide)))]
    have b_55 : 0 ≤ (G.1 66 1).toInt ∧ (G.1 66 1).toInt ≤ 1600 := hB_G.i 66 1 rfl rfl
    have g_56 : (G_33.1 66 1).toInt = (G.1 66 1).toInt := by rw [show G_33.1 66 1 = (G.1 66 1) from ((hq_34.i 66 1 (by decide) (by decide)).trans (hq_15.i 66 1 (by decide) (by decide)))]
    have b_57 : 0 ≤ (G.1 66 2).toInt ∧ (G.1 66 2).toInt ≤ 4 := hB_G.i 66 2 rfl rfl
    have g_58 : (G_33.1 66 2).toInt = (G.1 66 2).toInt := by rw [show G_33.1 66 2 = (G.1 66 2) from ((hq_34.i 66 2 (by decide) (by decide)).trans (hq_15.i 66 2 (by decide) (by decide)))]
    have b_59 : (-1) ≤ (G.1 66 3).toInt ∧ (G.1 66 3).toInt ≤ 1600 := hB_G.i 66 3 rfl rfl
    have g_60 : (G_33.1 66 3).toInt = (G.1 66 3).toInt := by rw [show G_33.1 66 3 = (G.1 66 3) from ((hq_34.i 66 3 (by decide) (by decide)).trans (hq_15.i 66 3 (by decide) (by decide)))]
    have b_61 : 0 ≤ (G.1 66 78).toInt ∧ (G.1 66 78).toInt ≤ 40 := hB_G.i 66 78 rfl rfl
    have g_62 : (G_33.1 66 78).toInt = (G.1 66 78).toInt := by rw [show G_33.1 66 78 = (G.1 66 78) from ((hq_34.i 66 78 (by decide) (by decide)).trans (hq_15.i 66 78 (by decide) (by decide)))]
    have b_63 : 0 ≤ (G.1 66 79).toInt ∧ (G.1 66 79).toInt ≤ 40 := hB_G.i 66 79 rfl rfl
    have g_64 : (G_33.1 66 79).toInt = (G.1 66 79).toInt := by rw [show G_33.1 66 79 = (G.1 66 79) from ((hq_34.i 66 79 (by decide) (by decide)).trans (hq_15.i 66 79 (by decide) (by decide)))]
    have b_65 : 0 ≤ (G.1 66 86).toInt ∧ (G.1 66 86).toInt ≤ 100000 := hB_G.i 66 86 rfl rfl
    have g_66 : (G_33.1 66 86).toInt = (G.1 66 86).toInt := by rw [show G_33.1 66 86 = (G.1 66 86) from ((hq_34.i 66 86 (by decide) (by decide)).trans (hq_15.i 66 86 (by decide) (by decide)))]
    have b_67 : 0 ≤ (G.1 96 0).toInt ∧ (G.1 96 0).toInt ≤ 9 := hB_G.i 96 0 rfl rfl
    have g_68 : (G_33.1 96 0).toInt = (G.1 96 0).toInt := by rw [show G_33.1 96 0 = (G.1 96 0) from ((hq_34.i 96 0 (by decide) (by decide)).trans (hq_15.i 96 0 (by decide) (by decide)))]
    have b_69 : 0 ≤ (G.1 96 1).toInt ∧ (G.1 96 1).toInt ≤ 9 := hB_G.i 96 1 rfl rfl
    have g_70 : (G_33.1 96 1).toInt = (G.1 96 1).toInt := by rw [show G_33.1 96 1 = (G.1 96 1) from ((hq_34.i 96 1 (by decide) (by decide)).trans (hq_15.i 96 1 (by decide) (by decide)))]
    have b_71 : 0 ≤ (G.1 96 2).toInt ∧ (G.1 96 2).toInt ≤ 9 := hB_G.i 96 2 rfl rfl
    have g_72 : (G_33.1 96 2).toInt = (G.1 96 2).toInt := by rw [show G_33.1 96 2 = (G.1 96 2) from ((hq_34.i 96 2 (by decide) (by decide)).trans (hq_15.i 96 2 (by decide) (by decide)))]
    exact K G_33 _ _ _ (Or.inl ⟨((((hq_34.r 0 0 (by decide) (by decide)).trans (hq_15.r 0 0 (by decide) (by decide)))).trans (hv_0_0)), ((((hq_34.r 0 1 (by decide) (by decide)).trans (hq_15.r 0 1 (by decide) (by decide)))).trans (hv_0_1)), ((((hq_34.r 6 4 (by decide) (by decide)).trans (hq_15.r 6 4 (by decide) (by decide)))).trans (hv_6_4)), by omega, by omega, by omega, by omega, by omega, by omega, by omega, by omega, by omega, by omega, by omega, by omega, by omega⟩) hB_G_33 hW hS (lv_sub hl [0, 1, 2, 3] rfl)
  · skip
    refine lv_aload_n hx hb dL_law_637 rfl (lv_at hl 1 rfl) ?_
    refine lv_aload_n hx hb dL_law_638 rfl (lv_at hl 0 rfl) ?_
    refine lv_iload_n hx hb dL_law_639 rfl (lv_at hl 3 rfl) ?_
    refine lv_iconst (v := 1) hx hb dL_law_640 (by decide) ?_
    refine lv_iadd hx hb dL_law_641 ?_
    refine lv_topi (fun y_1 ey_1 => ?_)
    have ty_1 : y_1.toInt = i0.toInt + 1 := xI_add rfl rfl ey_1 (by omega) (by omega)
    refine va_sld hx hb hX hbl hbA hS (vin (by omega) (by omega)) dL_law_642 ?_
    refine lv_topi (fun y_2 ey_2 => ?_)
    have u_3 : y_2.toInt = (xs (i0 + 1).toNatClampNeg).toInt := by rw [ey_2, ey_1]
    refine lv_aload_n hx hb dL_law_643 rfl (lv_at hl 0 rfl) ?_
    refine lv_iload_n hx hb dL_law_644 rfl (lv_at hl 3 rfl) ?_
    refine lv_iconst (v := 2) hx hb dL_law_645 (by decide) ?_
    refine lv_iadd hx hb dL_law_646 ?_
    refine lv_topi (fun y_4 ey_4 => ?_)
    have ty_4 : y_4.toInt = i0.toInt + 2 := xI_add rfl rfl ey_4 (by omega) (by omega)
    refine va_sld hx hb hX hbl hbA hS (vin (by omega) (by omega)) dL_law_647 ?_
    refine lv_topi (fun y_5 ey_5 => ?_)
    have u_6 : y_5.toInt = (xs (i0 + 2).toNatClampNeg).toInt := by rw [ey_5, ey_4]
    refine lv_aload_n hx hb dL_law_648 rfl (lv_at hl 0 rfl) ?_
    refine lv_iload_n hx hb dL_law_649 rfl (lv_at hl 3 rfl) ?_
    refine lv_iconst (v := 3) hx hb dL_law_650 (by decide) ?_
    refine lv_iadd hx hb dL_law_651 ?_
    refine lv_topi (fun y_7 ey_7 => ?_)
    have ty_7 : y_7.toInt = i0.toInt + 3 := xI_add rfl rfl ey_7 (by omega) (by omega)
    refine va_sld hx hb hX hbl hbA hS (vin (by omega) (by omega)) dL_law_652 ?_
    refine lv_topi (fun y_8 ey_8 => ?_)
    have u_9 : y_8.toInt = (xs (i0 + 3).toNatClampNeg).toInt := by rw [ey_8, ey_7]
    refine lv_aload_n hx hb dL_law_653 rfl (lv_at hl 0 rfl) ?_
    refine lv_iload_n hx hb dL_law_654 rfl (lv_at hl 3 rfl) ?_
    refine lv_iconst (v := 4) hx hb dL_law_655 (by decide) ?_
    refine lv_iadd hx hb dL_law_656 ?_
    refine lv_topi (fun y_10 ey_10 => ?_)
    have ty_10 : y_10.toInt = i0.toInt + 4 := xI_add rfl rfl ey_10 (by omega) (by omega)
    refine va_sld hx hb hX hbl hbA hS (vin (by omega) (by omega)) dL_law_657 ?_
    refine lv_topi (fun y_11 ey_11 => ?_)
    have u_12 : y_11.toInt = (xs (i0 + 4).toNatClampNeg).toInt := by rw [ey_11, ey_10]
    refine S_calli (va_runV (As := [.int y_2, .int y_5, .int y_8, .int y_11]) (rest := []) ⟨hx, hb, hml, hown, hts⟩ (k_Wevenest_2 l D k A a z G y_2 y_5 y_8 y_11 hv_0_0 hv_0_1 hv_6_4) (cwV 4 hts (gd_V hgd m1036 m1037 m1038 m117 m1039) rfl rfl rfl (by decide +kernel) ⟨Nat.le_of_ble_eq_true rfl, Nat.le_of_ble_eq_true rfl⟩) (pre_V hW hB_G hK hZ hS kd_0 rfl) rfl rfl hl.1 rfl (lv_room (Nat.le_of_ble_eq_true rfl)) dL_law_658 ⟨Nat.le_of_ble_eq_true rfl, Nat.le_of_ble_eq_true rfl⟩) hS (fun r_13 G_14 H locs hpo hW hS => ?_)
    have hX_17 : P_Wevenest_2 y_2 y_5 y_8 y_11 G r_13 G_14 := hpo
    obtain ⟨hB_G_14, hq_15, -⟩ := hpo
    refine lv_pop hx hb dL_law_661 rfl ?_
    refine lv_aload_n hx hb dL_law_662 rfl (lv_at hl 2 rfl) ?_
    refine lv_aload_n hx hb dL_law_663 rfl (lv_at hl 0 rfl) ?_
    refine lv_iload_n hx hb dL_law_664 rfl (lv_at hl 3 rfl) ?_
    refine lv_iconst (v := 1) hx hb dL_law_665 (by decide) ?_
    refine lv_iadd hx hb dL_law_666 ?_
    refine lv_topi (fun y_18 ey_18 => ?_)
    have ty_18 : y_18.toInt = i0.toInt + 1 := xI_add rfl rfl ey_18 (by omega) (by omega)
    refine va_sld hx hb hX hbl hbA hS (vin (by omega) (by omega)) dL_law_667 ?_
    refine lv_topi (fun y_19 ey_19 => ?_)
    have u_20 : y_19.toInt = (xs (i0 + 1).toNatClampNeg).toInt := by rw [ey_19, ey_18]
    refine lv_aload_n hx hb dL_law_668 rfl (lv_at hl 0 rfl) ?_
    refine lv_iload_n hx hb dL_law_669 rfl (lv_at hl 3 rfl) ?_
    refine lv_iconst (v := 2) hx hb dL_law_670 (by decide) ?_
    refine lv_iadd hx hb dL_law_671 ?_
    refine lv_topi (fun y_21 ey_21 => ?_)
    have ty_21 : y_21.toInt = i0.toInt + 2 := xI_add rfl rfl ey_21 (by omega) (by omega)
    refine va_sld hx hb hX hbl hbA hS (vin (by omega) (by omega)) dL_law_672 ?_
    refine lv_topi (fun y_22 ey_22 => ?_)
    have u_23 : y_22.toInt = (xs (i0 + 2).toNatClampNeg).toInt := by rw [ey_22, ey_21]
    refine lv_aload_n hx hb dL_law_673 rfl (lv_at hl 0 rfl) ?_
    refine lv_iload_n hx hb dL_law_674 rfl (lv_at hl 3 rfl) ?_
    refine lv_iconst (v := 3) hx hb dL_law_675 (by decide) ?_
    refine lv_iadd hx hb dL_law_676 ?_
    refine lv_topi (fun y_24 ey_24 => ?_)
    have ty_24 : y_24.toInt = i0.toInt + 3 := xI_add rfl rfl ey_24 (by omega) (by omega)
    refine va_sld hx hb hX hbl hbA hS (vin (by omega) (by omega)) dL_law_677 ?_
    refine lv_topi (fun y_25 ey_25 => ?_)
    have u_26 : y_25.toInt = (xs (i0 + 3).toNatClampNeg).toInt := by rw [ey_25, ey_24]
    refine lv_aload_n hx hb dL_law_678 rfl (lv_at hl 0 rfl) ?_
    refine lv_iload_n hx hb dL_law_679 rfl (lv_at hl 3 rfl) ?_
    refine lv_iconst (v := 4) hx hb dL_law_680 (by decide) ?_
    refine lv_iadd hx hb dL_law_681 ?_
    refine lv_topi (fun y_27 ey_27 => ?_)
    have ty_27 : y_27.toInt = i0.toInt + 4 := xI_add rfl rfl ey_27 (by omega) (by omega)
    refine va_sld hx hb hX hbl hbA hS (vin (by omega) (by omega)) dL_law_682 ?_
    refine lv_topi (fun y_28 ey_28 => ?_)
    have u_29 : y_28.toInt = (xs (i0 + 4).toNatClampNeg).toInt := by rw [ey_28, ey_27]
    have g_30 : gP G_14 = gP G := gP_fr (rs := [37, 38, 39, 40, 42]) (fs := [(6, 3), (7, 1), (7, 2), (7, 3), (7, 4), (7, 5), (7, 6), (7, 7)]) (Fr.rf.call hq_15 (by decide) (by decide)) (by decide) (by decide)
    have g_31 : gW G_14 = gW G := gW_fr (rs := [37, 38, 39, 40, 42]) (fs := [(6, 3), (7, 1), (7, 2), (7, 3), (7, 4), (7, 5), (7, 6), (7, 7)]) (Fr.rf.call hq_15 (by decide) (by decide)) (by decide) (by decide)
    refine S_calli (va_runV (As := [.int y_19, .int y_22, .int y_25, .int y_28]) (rest := []) ⟨hx, hb, hml, hown, hts⟩ (n_evenest l D k A a z G_14 y_19 y_22 y_25 y_28 (by omega) (by omega)) (cwV 4 hts (gd_V hgd m1883 m1884 m1885 m131 m1886) rfl rfl rfl (by decide +kernel) ⟨Nat.le_of_ble_eq_true rfl, Nat.le_of_ble_eq_true rfl⟩) (pre_V hW hB_G_14 hK hZ hS kd_66 rfl) rfl rfl hl.1 rfl (lv_room (Nat.le_of_ble_eq_true rfl)) dL_law_683 ⟨Nat.le_of_ble_eq_true rfl, Nat.le_of_ble_eq_true rfl⟩) hS (fun r_32 G_33 H locs hpo hW hS => ?_)
    have hX_36 : Q_evenest y_19 y_22 y_25 y_28 G_14 r_32 G_33 := hpo
    obtain ⟨hB_G_33, hq_34, -⟩ := hpo
    have u_37 := L_evenest_2 hX_17 hX_36 (by omega) (by omega) (by omega) (by omega) (by omega)
    refine lv_pop hx hb dL_law_686 rfl ?_
    refine lv_goto (tgt := 1641) hx hb dL_law_687 (by decide) ?_
    have g_38 : gO G_33 = gO G := gO_fr (rs := [37, 38, 39, 40, 42, 76, 97, 98, 103]) (fs := [(6, 3), (7, 1), (7, 2), (7, 3), (7, 4), (7, 5), (7, 6), (7, 7), (66, 59), (66, 60), (66, 61), (66, 62), (66, 63)]) ((Fr.rf.call hq_15 (by decide) (by decide)).call hq_34 (by decide) (by decide)) (by decide) (by decide)
    have g_39 : gP G_33 = gP G := gP_fr (rs := [37, 38, 39, 40, 42, 76, 97, 98, 103]) (fs := [(6, 3), (7, 1), (7, 2), (7, 3), (7, 4), (7, 5), (7, 6), (7, 7), (66, 59), (66, 60), (66, 61), (66, 62), (66, 63)]) ((Fr.rf.call hq_15 (by decide) (by decide)).call hq_34 (by decide) (by decide)) (by decide) (by decide)
    have g_40 : gS G_33 = gS G := gS_fr (rs := [37, 38, 39, 40, 42, 76, 97, 98, 103]) (fs := [(6, 3), (7, 1), (7, 2), (7, 3), (7, 4), (7, 5), (7, 6), (7, 7), (66, 59), (66, 60), (66, 61), (66, 62), (66, 63)]) ((Fr.rf.call hq_15 (by decide) (by decide)).call hq_34 (by decide) (by decide)) (by decide) (by decide)
    have g_41 : gTE G_33 = gTE G := gTE_fr (rs := [37, 38, 39, 40, 42, 76, 97, 98, 103]) (fs := [(6, 3), (7, 1), (7, 2), (7, 3), (7, 4), (7, 5), (7, 6), (7, 7), (66, 59), (66, 60), (66, 61), (66, 62), (66, 63)]) ((Fr.rf.call hq_15 (by decide) (by decide)).call hq_34 (by decide) (by decide)) (by decide) (by decide)
    have g_42 : gW G_33 = gW G := gW_fr (rs := [37, 38, 39, 40, 42, 76, 97, 98, 103]) (fs := [(6, 3), (7, 1), (7, 2), (7, 3), (7, 4), (7, 5), (7, 6), (7, 7), (66, 59), (66, 60), (66, 61), (66, 62), (66, 63)]) ((Fr.rf.call hq_15 (by decide) (by decide)).call hq_34 (by decide) (by decide)) (by decide) (by decide)
    have b_43 : 0 ≤ (G.1 0 11).toInt ∧ (G.1 0 11).toInt ≤ 1600 := hB_G.i 0 11 rfl rfl
    have g_44 : (G_33.1 0 11).toInt = (G.1 0 11).toInt := by rw [show G_33.1 0 11 = (G.1 0 11) from ((hq_34.i 0 11 (by decide) (by decide)).trans (hq_15.i 0 11 (by decide) (by decide)))]
    have b_45 : 0 ≤ (G.1 3 7).toInt ∧ (G.1 3 7).toInt ≤ 4 := hB_G.i 3 7 rfl rfl
    have g_46 : (G_33.1 3 7).toInt = (G.1 3 7).toInt := by rw [show G_33.1 3 7 = (G.1 3 7) from ((hq_34.i 3 7 (by decide) (by decide)).trans (hq_15.i 3 7 (by decide) (by decide)))]
    have b_47 : (-1) ≤ (G.1 3 8).toInt ∧ (G.1 3 8).toInt ≤ 1600 := hB_G.i 3 8 rfl rfl
    have g_48 : (G_33.1 3 8).toInt = (G.1 3 8).toInt := by rw [show G_33.1 3 8 = (G.1 3 8) from ((hq_34.i 3 8 (by decide) (by decide)).trans (hq_15.i 3 8 (by decide) (by decide)))]
    have b_49 : 0 ≤ (G.1 30 4).toInt ∧ (G.1 30 4).toInt ≤ 40 := hB_G.i 30 4 rfl rfl
    have g_50 : (G_33.1 30 4).toInt = (G.1 30 4).toInt := by rw [show G_33.1 30 4 = (G.1 30 4) from ((hq_34.i 30 4 (by decide) (by decide)).trans (hq_15.i 30 4 (by decide) (by decide)))]
    have b_51 : 0 ≤ (G.1 30 5).toInt ∧ (G.1 30 5).toInt ≤ 40 := hB_G.i 30 5 rfl rfl
    have g_52 : (G_33.1 30 5).toInt = (G.1 30 5).toInt := by rw [show G_33.1 30 5 = (G.1 30 5) from ((hq_34.i 30 5 (by decide) (by decide)).trans (hq_15.i 30 5 (by decide) (by decide)))]
    have b_53 : 0 ≤ (G.1 31 6).toInt ∧ (G.1 31 6).toInt ≤ 100000 := hB_G.i 31 6 rfl rfl
    have g_54 : (G_33.1 31 6).toInt = (G.1 31 6).toInt := by rw [show G_33.1 31 6 = (G.1 31 6) from ((hq_34.i 31 6 (by decide) (by decide)).trans (hq_15.i 31 6 (by decide) (by decide)))]
    have b_55 : 0 ≤ (G.1 66 1).toInt ∧ (G.1 66 1).toInt ≤ 1600 := hB_G.i 66 1 rfl rfl
    have g_56 : (G_33.1 66 1).toInt = (G.1 66 1).toInt := by rw [show G_33.1 66 1 = (G.1 66 1) from ((hq_34.i 66 1 (by decide) (by decide)).trans (hq_15.i 66 1 (by decide) (by decide)))]
    have b_57 : 0 ≤ (G.1 66 2).toInt ∧ (G.1 66 2).toInt ≤ 4 := hB_G.i 66 2 rfl rfl
    have g_58 : (G_33.1 66 2).toInt = (G.1 66 2).toInt := by rw [show G_33.1 66 2 = (G.1 66 2) from ((hq_34.i 66 2 (by decide) (by decide)).trans (hq_15.i 66 2 (by decide) (by decide)))]
    have b_59 : (-1) ≤ (G.1 66 3).toInt ∧ (G.1 66 3).toInt ≤ 1600 := hB_G.i 66 3 rfl rfl
    have g_60 : (G_33.1 66 3).toInt = (G.1 66 3).toInt := by rw [show G_33.1 66 3 = (G.1 66 3) from ((hq_34.i 66 3 (by decide) (by decide)).trans (hq_15.i 66 3 (by decide) (by decide)))]
    have b_61 : 0 ≤ (G.1 66 78).toInt ∧ (G.1 66 78).toInt ≤ 40 := hB_G.i 66 78 rfl rfl
    have g_62 : (G_33.1 66 78).toInt = (G.1 66 78).toInt := by rw [show G_33.1 66 78 = (G.1 66 78) from ((hq_34.i 66 78 (by decide) (by decide)).trans (hq_15.i 66 78 (by decide) (by decide)))]
    have b_63 : 0 ≤ (G.1 66 79).toInt ∧ (G.1 66 79).toInt ≤ 40 := hB_G.i 66 79 rfl rfl
    have g_64 : (G_33.1 66 79).toInt = (G.1 66 79).toInt := by rw [show G_33.1 66 79 = (G.1 66 79) from ((hq_34.i 66 79 (by decide) (by decide)).trans (hq_15.i 66 79 (by decide) (by decide)))]
    have b_65 : 0 ≤ (G.1 66 86).toInt ∧ (G.1 66 86).toInt ≤ 100000 := hB_G.i 66 86 rfl rfl
    have g_66 : (G_33.1 66 86).toInt = (G.1 66 86).toInt := by rw [show G_33.1 66 86 = (G.1 66 86) from ((hq_34.i 66 86 (by decide) (by decide)).trans (hq_15.i 66 86 (by decide) (by decide)))]
    have b_67 : 0 ≤ (G.1 96 0).toInt ∧ (G.1 96 0).toInt ≤ 9 := hB_G.i 96 0 rfl rfl
    have g_68 : (G_33.1 96 0).toInt = (G.1 96 0).toInt := by rw [show G_33.1 96 0 = (G.1 96 0) from ((hq_34.i 96 0 (by decide) (by decide)).trans (hq_15.i 96 0 (by decide) (by decide)))]
    have b_69 : 0 ≤ (G.1 96 1).toInt ∧ (G.1 96 1).toInt ≤ 9 := hB_G.i 96 1 rfl rfl
    have g_70 : (G_33.1 96 1).toInt = (G.1 96 1).toInt := by rw [show G_33.1 96 1 = (G.1 96 1) from ((hq_34.i 96 1 (by decide) (by decide)).trans (hq_15.i 96 1 (by decide) (by decide)))]
    have b_71 : 0 ≤ (G.1 96 2).toInt ∧ (G.1 96 2).toInt ≤ 9 := hB_G.i 96 2 rfl rfl
    have g_72 : (G_33.1 96 2).toInt = (G.1 96 2).toInt := by rw [show G_33.1 96 2 = (G.1 96 2) from ((hq_34.i 96 2 (by decide) (by decide)).trans (hq_15.i 96 2 (by decide) (by decide)))]
    exact K G_33 _ _ _ (Or.inr ⟨((((hq_34.r 0 0 (by decide) (by decide)).trans (hq_15.r 0 0 (by decide) (by decide)))).trans (hv_0_0)), ((((hq_34.r 0 1 (by decide) (by decide)).trans (hq_15.r 0 1 (by decide) (by decide)))).trans (hv_0_1)), ((((hq_34.r 6 4 (by decide) (by decide)).trans (hq_15.r 6 4 (by decide) (by decide)))).trans (hv_6_4)), by omega, by omega, by omega, by omega, by omega, by omega, by omega, by omega, by omega, by omega, by omega, by omega, by omega⟩) hB_G_33 hW hS (lv_sub hl [0, 1, 2, 3] rfl)

set_option maxHeartbeats 4000000 in
set_option maxRecDepth 100000 in
theorem law_12 {p : Program} {l : Launch} {e : Env} {s : State} {m : MethodId} {below : List Frame} {meth : Method} {c : Code} {D : va_G} {k : KT} {A : Nat → Prop} {a : Nat → Nat} {z : SK} {b L : Nat} {xs : Nat → Int32} (hL : L ≤ 3072) (C0 : lw_At p s m meth c b L xs) (hK : cK D k s) (hZ : Sx A z s) (hbA : ¬ A b) {G : GS} {i0 : Int32} (hi0 : 0 ≤ i0.toInt) (hi6 : i0.toInt + 6 ≤ L) (hI : LI G) (hB_G : Bd G) {H : Heap} {locs : List Loc} {ls : Array Slot} (hW : Wd D k A a G H) (hS : va_S A s.heap H locs) (hl : lv_has ls 4 [(0, .ref b), (1, .ref (a 0)), (2, .ref (a 66)), (3, .int i0)]) (K : ∀ (G1 : GS) (H1 : Heap) (locs1 : List Loc) (ls1 : Array Slot), LI G1 → Bd G1 → Wd D k A a G1 H1 → va_S A s.heap H1 locs1 → lv_has ls1 4 [(0, .ref b), (1, .ref (a 0)), (2, .ref (a 66)), (3, .int i0)] → W p l e room_1 s m #[Value.ref b] below meth c H1 locs1 119 46443 (lw_Z below #[Value.ref b] s) (F0 m 1641 ls1 [])) : W p l e room_1 s m #[Value.ref b] below meth c H locs 119 46443 (lw_Z below #[Value.ref b] s) (F0 m 690 ls []) := by
  obtain ⟨hx, hb, hr, hml, hown, hts, hX, hbl, hlocks, hgv⟩ := id C0
  have hown : s.vm.findClass RL = some m.cls := hown
  have hgd : ∀ w ∈ gd, w ∈ lw_tbl := fun w h => (List.mem_filter.mp h).1
  have hg : ∀ w ∈ gd, w.before #[Value.ref b] s = true := fun w h => hts w (hgd w h)
  rcases hI with ⟨hv_0_0, hv_0_1, hv_6_4, hj0, hj1, hj2, hj3, hj4, hj5, hj6, hj7, hj8, hj9, hj10, hj11⟩ | ⟨hv_0_0, hv_0_1, hv_6_4, hj0, hj1, hj2, hj3, hj4, hj5, hj6, hj7, hj8, hj9, hj10, hj11⟩
  · skip
    refine lv_aload_n hx hb dL_law_690 rfl (lv_at hl 1 rfl) ?_
    refine lv_aload_n hx hb dL_law_691 rfl (lv_at hl 0 rfl) ?_
    refine lv_iload_n hx hb dL_law_692 rfl (lv_at hl 3 rfl) ?_
    refine lv_iconst (v := 1) hx hb dL_law_693 (by decide) ?_
    refine lv_iadd hx hb dL_law_694 ?_
    refine lv_topi (fun y_1 ey_1 => ?_)
    have ty_1 : y_1.toInt = i0.toInt + 1 := xI_add rfl rfl ey_1 (by omega) (by omega)
    refine va_sld hx hb hX hbl hbA hS (vin (by omega) (by omega)) dL_law_695 ?_
    refine lv_topi (fun y_2 ey_2 => ?_)
    have u_3 : y_2.toInt = (xs (i0 + 1).toNatClampNeg).toInt := by rw [ey_2, ey_1]
    refine lv_aload_n hx hb dL_law_696 rfl (lv_at hl 0 rfl) ?_
    refine lv_iload_n hx hb dL_law_697 rfl (lv_at hl 3 rfl) ?_
    refine lv_iconst (v := 2) hx hb dL_law_698 (by decide) ?_
    refine lv_iadd hx hb dL_law_699 ?_
    refine lv_topi (fun y_4 ey_4 => ?_)
    have ty_4 : y_4.toInt = i0.toInt + 2 := xI_add rfl rfl ey_4 (by omega) (by omega)
    refine va_sld hx hb hX hbl hbA hS (vin (by omega) (by omega)) dL_law_700 ?_
    refine lv_topi (fun y_5 ey_5 => ?_)
    have u_6 : y_5.toInt = (xs (i0 + 2).toNatClampNeg).toInt := by rw [ey_5, ey_4]
    refine lv_aload_n hx hb dL_law_701 rfl (lv_at hl 0 rfl) ?_
    refine lv_iload_n hx hb dL_law_702 rfl (lv_at hl 3 rfl) ?_
    refine lv_iconst (v := 3) hx hb dL_law_703 (by decide) ?_
    refine lv_iadd hx hb dL_law_704 ?_
    refine lv_topi (fun y_7 ey_7 => ?_)
    have ty_7 : y_7.toInt = i0.toInt + 3 := xI_add rfl rfl ey_7 (by omega) (by omega)
    refine va_sld hx hb hX hbl hbA hS (vin (by omega) (by omega)) dL_law_705 ?_
    refine lv_topi (fun y_8 ey_8 => ?_)
    have u_9 : y_8.toInt = (xs (i0 + 3).toNatClampNeg).toInt := by rw [ey_8, ey_7]
    refine lv_aload_n hx hb dL_law_706 rfl (lv_at hl 0 rfl) ?_
    refine lv_iload_n hx hb dL_law_707 rfl (lv_at hl 3 rfl) ?_
    refine lv_iconst (v := 4) hx hb dL_law_708 (by decide) ?_
    refine lv_iadd hx hb dL_law_709 ?_
    refine lv_topi (fun y_10 ey_10 => ?_)
    have ty_10 : y_10.toInt = i0.toInt + 4 := xI_add rfl rfl ey_10 (by omega) (by omega)
    refine va_sld hx hb hX hbl hbA hS (vin (by omega) (by omega)) dL_law_710 ?_
    refine lv_topi (fun y_11 ey_11 => ?_)
    have u_12 : y_11.toInt = (xs (i0 + 4).toNatClampNeg).toInt := by rw [ey_11, ey_10]
    refine lv_aload_n hx hb dL_law_711 rfl (lv_at hl 0 rfl) ?_
    refine lv_iload_n hx hb dL_law_712 rfl (lv_at hl 3 rfl) ?_
    refine lv_iconst (v := 5) hx hb dL_law_713 (by decide) ?_
    refine lv_iadd hx hb dL_law_714 ?_
    refine lv_topi (fun y_13 ey_13 => ?_)
    have ty_13 : y_13.toInt = i0.toInt + 5 := xI_add rfl rfl ey_13 (by omega) (by omega)
    refine va_sld hx hb hX hbl hbA hS (vin (by omega) (by omega)) dL_law_715 ?_
    refine lv_topi (fun y_14 ey_14 => ?_)
    have u_15 : y_14.toInt = (xs (i0 + 5).toNatClampNeg).toInt := by rw [ey_14, ey_13]
    refine S_calli (va_runV (As := [.int y_2, .int y_5, .int y_8, .int y_11, .int y_14]) (rest := []) ⟨hx, hb, hml, hown, hts⟩ (k_Weven_1 l D k A a z G y_2 y_5 y_8 y_11 y_14 hv_0_0 hv_0_1 hv_6_4) (cwV 5 hts (gd_V hgd m1049 m1050 m1051 m117 m1052) rfl rfl rfl (by decide +kernel) ⟨Nat.le_of_ble_eq_true rfl, Nat.le_of_ble_eq_true rfl⟩) (pre_V hW hB_G hK hZ hS kd_0 rfl) rfl rfl hl.1 rfl (lv_room (Nat.le_of_ble_eq_true rfl)) dL_law_716 ⟨Nat.le_of_ble_eq_true rfl, Nat.le_of_ble_eq_true rfl⟩) hS (fun r_16 G_17 H locs hpo hW hS => ?_)
    have hX_20 : P_Weven_1 y_2 y_5 y_8 y_11 y_14 G r_16 G_17 := hpo
    obtain ⟨hB_G_17, hq_18, -⟩ := hpo
    refine lv_pop hx hb dL_law_719 rfl ?_
    refine lv_aload_n hx hb dL_law_720 rfl (lv_at hl 2 rfl) ?_
    refine lv_aload_n hx hb dL_law_721 rfl (lv_at hl 0 rfl) ?_
    refine lv_iload_n hx hb dL_law_722 rfl (lv_at hl 3 rfl) ?_
    refine lv_iconst (v := 1) hx hb dL_law_723 (by decide) ?_
    refine lv_iadd hx hb dL_law_724 ?_
    refine lv_topi (fun y_21 ey_21 => ?_)
    have ty_21 : y_21.toInt = i0.toInt + 1 := xI_add rfl rfl ey_21 (by omega) (by omega)
    refine va_sld hx hb hX hbl hbA hS (vin (by omega) (by omega)) dL_law_725 ?_
    refine lv_topi (fun y_22 ey_22 => ?_)
    have u_23 : y_22.toInt = (xs (i0 + 1).toNatClampNeg).toInt := by rw [ey_22, ey_21]
    refine lv_aload_n hx hb dL_law_726 rfl (lv_at hl 0 rfl) ?_
    refine lv_iload_n hx hb dL_law_727 rfl (lv_at hl 3 rfl) ?_
    refine lv_iconst (v := 2) hx hb dL_law_728 (by decide) ?_
    refine lv_iadd hx hb dL_law_729 ?_
    refine lv_topi (fun y_24 ey_24 => ?_)
    have ty_24 : y_24.toInt = i0.toInt + 2 := xI_add rfl rfl ey_24 (by omega) (by omega)
    refine va_sld hx hb hX hbl hbA hS (vin (by omega) (by omega)) dL_law_730 ?_
    refine lv_topi (fun y_25 ey_25 => ?_)
    have u_26 : y_25.toInt = (xs (i0 + 2).toNatClampNeg).toInt := by rw [ey_25, ey_24]
    refine lv_aload_n hx hb dL_law_731 rfl (lv_at hl 0 rfl) ?_
    refine lv_iload_n hx hb dL_law_732 rfl (lv_at hl 3 rfl) ?_
    refine lv_iconst (v := 3) hx hb dL_law_733 (by decide) ?_
    refine lv_iadd hx hb dL_law_734 ?_
    refine lv_topi (fun y_27 ey_27 => ?_)
    have ty_27 : y_27.toInt = i0.toInt + 3 := xI_add rfl rfl ey_27 (by omega) (by omega)
    refine va_sld hx hb hX hbl hbA hS (vin (by omega) (by omega)) dL_law_735 ?_
    refine lv_topi (fun y_28 ey_28 => ?_)
    have u_29 : y_28.toInt = (xs (i0 + 3).toNatClampNeg).toInt := by rw [ey_28, ey_27]
    refine lv_aload_n hx hb dL_law_736 rfl (lv_at hl 0 rfl) ?_
    refine lv_iload_n hx hb dL_law_737 rfl (lv_at hl 3 rfl) ?_
    refine lv_iconst (v := 4) hx hb dL_law_738 (by decide) ?_
    refine lv_iadd hx hb dL_law_739 ?_
    refine lv_topi (fun y_30 ey_30 => ?_)
    have ty_30 : y_30.toInt = i0.toInt + 4 := xI_add rfl rfl ey_30 (by omega) (by omega)
    refine va_sld hx hb hX hbl hbA hS (vin (by omega) (by omega)) dL_law_740 ?_
    refine lv_topi (fun y_31 ey_31 => ?_)
    have u_32 : y_31.toInt = (xs (i0 + 4).toNatClampNeg).toInt := by rw [ey_31, ey_30]
    refine lv_aload_n hx hb dL_law_741 rfl (lv_at hl 0 rfl) ?_
    refine lv_iload_n hx hb dL_law_742 rfl (lv_at hl 3 rfl) ?_
    refine lv_iconst (v := 5) hx hb dL_law_743 (by decide) ?_
    refine lv_iadd hx hb dL_law_744 ?_
    refine lv_topi (fun y_33 ey_33 => ?_)
    have ty_33 : y_33.toInt = i0.toInt + 5 := xI_add rfl rfl ey_33 (by omega) (by omega)
    refine va_sld hx hb hX hbl hbA hS (vin (by omega) (by omega)) dL_law_745 ?_
    refine lv_topi (fun y_34 ey_34 => ?_)
    have u_35 : y_34.toInt = (xs (i0 + 5).toNatClampNeg).toInt := by rw [ey_34, ey_33]
    have g_36 : gP G_17 = gP G := gP_fr (rs := [37, 38, 39, 40]) (fs := [(6, 3), (7, 1), (7, 2), (7, 3), (7, 4), (7, 5), (7, 6), (7, 7)]) (Fr.rf.call hq_18 (by decide) (by decide)) (by decide) (by decide)
    refine S_calli (va_runV (As := [.int y_22, .int y_25, .int y_28, .int y_31, .int y_34]) (rest := []) ⟨hx, hb, hml, hown, hts⟩ (n_even l D k A a z G_17 y_22 y_25 y_28 y_31 y_34 (by omega)) (cwV 5 hts (gd_V hgd m1891 m1892 m1893 m131 m1894) rfl rfl rfl (by decide +kernel) ⟨Nat.le_of_ble_eq_true rfl, Nat.le_of_ble_eq_true rfl⟩) (pre_V hW hB_G_17 hK hZ hS kd_66 rfl) rfl rfl hl.1 rfl (lv_room (Nat.le_of_ble_eq_true rfl)) dL_law_746 ⟨Nat.le_of_ble_eq_true rfl, Nat.le_of_ble_eq_true rfl⟩) hS (fun r_37 G_38 H locs hpo hW hS => ?_)
    have hX_41 : Q_even y_22 y_25 y_28 y_31 y_34 G_17 r_37 G_38 := hpo
    obtain ⟨hB_G_38, hq_39, -⟩ := hpo
    have u_42 := L_even_1 hX_20 hX_41 (by omega) (by omega) (by omega) (by omega) (by omega) (by omega)
    refine lv_pop hx hb dL_law_749 rfl ?_
    refine lv_goto (tgt := 1641) hx hb dL_law_750 (by decide) ?_
    have g_43 : gO G_38 = gO G := gO_fr (rs := [37, 38, 39, 40, 76, 97, 98]) (fs := [(6, 3), (7, 1), (7, 2), (7, 3), (7, 4), (7, 5), (7, 6), (7, 7), (66, 59), (66, 60), (66, 61), (66, 62), (66, 63)]) ((Fr.rf.call hq_18 (by decide) (by decide)).call hq_39 (by decide) (by decide)) (by decide) (by decide)
    have g_44 : gP G_38 = gP G := gP_fr (rs := [37, 38, 39, 40, 76, 97, 98]) (fs := [(6, 3), (7, 1), (7, 2), (7, 3), (7, 4), (7, 5), (7, 6), (7, 7), (66, 59), (66, 60), (66, 61), (66, 62), (66, 63)]) ((Fr.rf.call hq_18 (by decide) (by decide)).call hq_39 (by decide) (by decide)) (by decide) (by decide)
    have g_45 : gS G_38 = gS G := gS_fr (rs := [37, 38, 39, 40, 76, 97, 98]) (fs := [(6, 3), (7, 1), (7, 2), (7, 3), (7, 4), (7, 5), (7, 6), (7, 7), (66, 59), (66, 60), (66, 61), (66, 62), (66, 63)]) ((Fr.rf.call hq_18 (by decide) (by decide)).call hq_39 (by decide) (by decide)) (by decide) (by decide)
    have g_46 : gTE G_38 = gTE G := gTE_fr (rs := [37, 38, 39, 40, 76, 97, 98]) (fs := [(6, 3), (7, 1), (7, 2), (7, 3), (7, 4), (7, 5), (7, 6), (7, 7), (66, 59), (66, 60), (66, 61), (66, 62), (66, 63)]) ((Fr.rf.call hq_18 (by decide) (by decide)).call hq_39 (by decide) (by decide)) (by decide) (by decide)
    have g_47 : gW G_38 = gW G := gW_fr (rs := [37, 38, 39, 40, 76, 97, 98]) (fs := [(6, 3), (7, 1), (7, 2), (7, 3), (7, 4), (7, 5), (7, 6), (7, 7), (66, 59), (66, 60), (66, 61), (66, 62), (66, 63)]) ((Fr.rf.call hq_18 (by decide) (by decide)).call hq_39 (by decide) (by decide)) (by decide) (by decide)
    have b_48 : 0 ≤ (G.1 0 11).toInt ∧ (G.1 0 11).toInt ≤ 1600 := hB_G.i 0 11 rfl rfl
    have g_49 : (G_38.1 0 11).toInt = (G.1 0 11).toInt := by rw [show G_38.1 0 11 = (G.1 0 11) from ((hq_39.i 0 11 (by decide) (by decide)).trans (hq_18.i 0 11 (by decide) (by decide)))]
    have b_50 : 0 ≤ (G.1 3 7).toInt ∧ (G.1 3 7).toInt ≤ 4 := hB_G.i 3 7 rfl rfl
    have g_51 : (G_38.1 3 7).toInt = (G.1 3 7).toInt := by rw [show G_38.1 3 7 = (G.1 3 7) from ((hq_39.i 3 7 (by decide) (by decide)).trans (hq_18.i 3 7 (by decide) (by decide)))]
    have b_52 : (-1) ≤ (G.1 3 8).toInt ∧ (G.1 3 8).toInt ≤ 1600 := hB_G.i 3 8 rfl rfl
    have g_53 : (G_38.1 3 8).toInt = (G.1 3 8).toInt := by rw [show G_38.1 3 8 = (G.1 3 8) from ((hq_39.i 3 8 (by decide) (by decide)).trans (hq_18.i 3 8 (by decide) (by decide)))]
    have b_54 : 0 ≤ (G.1 30 4).toInt ∧ (G.1 30 4).toInt ≤ 40 := hB_G.i 30 4 rfl rfl
    have g_55 : (G_38.1 30 4).toInt = (G.1 30 4).toInt := by rw [show G_38.1 30 4 = (G.1 30 4) from ((hq_39.i 30 4 (by decide) (by decide)).trans (hq_18.i 30 4 (by decide) (by decide)))]
    have b_56 : 0 ≤ (G.1 30 5).toInt ∧ (G.1 30 5).toInt ≤ 40 := hB_G.i 30 5 rfl rfl
    have g_57 : (G_38.1 30 5).toInt = (G.1 30 5).toInt := by rw [show G_38.1 30 5 = (G.1 30 5) from ((hq_39.i 30 5 (by decide) (by decide)).trans (hq_18.i 30 5 (by decide) (by decide)))]
    have b_58 : 0 ≤ (G.1 31 6).toInt ∧ (G.1 31 6).toInt ≤ 100000 := hB_G.i 31 6 rfl rfl
    have g_59 : (G_38.1 31 6).toInt = (G.1 31 6).toInt := by rw [show G_38.1 31 6 = (G.1 31 6) from ((hq_39.i 31 6 (by decide) (by decide)).trans (hq_18.i 31 6 (by decide) (by decide)))]
    have b_60 : 0 ≤ (G.1 66 1).toInt ∧ (G.1 66 1).toInt ≤ 1600 := hB_G.i 66 1 rfl rfl
    have g_61 : (G_38.1 66 1).toInt = (G.1 66 1).toInt := by rw [show G_38.1 66 1 = (G.1 66 1) from ((hq_39.i 66 1 (by decide) (by decide)).trans (hq_18.i 66 1 (by decide) (by decide)))]
    have b_62 : 0 ≤ (G.1 66 2).toInt ∧ (G.1 66 2).toInt ≤ 4 := hB_G.i 66 2 rfl rfl
    have g_63 : (G_38.1 66 2).toInt = (G.1 66 2).toInt := by rw [show G_38.1 66 2 = (G.1 66 2) from ((hq_39.i 66 2 (by decide) (by decide)).trans (hq_18.i 66 2 (by decide) (by decide)))]
    have b_64 : (-1) ≤ (G.1 66 3).toInt ∧ (G.1 66 3).toInt ≤ 1600 := hB_G.i 66 3 rfl rfl
    have g_65 : (G_38.1 66 3).toInt = (G.1 66 3).toInt := by rw [show G_38.1 66 3 = (G.1 66 3) from ((hq_39.i 66 3 (by decide) (by decide)).trans (hq_18.i 66 3 (by decide) (by decide)))]
    have b_66 : 0 ≤ (G.1 66 78).toInt ∧ (G.1 66 78).toInt ≤ 40 := hB_G.i 66 78 rfl rfl
    have g_67 : (G_38.1 66 78).toInt = (G.1 66 78).toInt := by rw [show G_38.1 66 78 = (G.1 66 78) from ((hq_39.i 66 78 (by decide) (by decide)).trans (hq_18.i 66 78 (by decide) (by decide)))]
    have b_68 : 0 ≤ (G.1 66 79).toInt ∧ (G.1 66 79).toInt ≤ 40 := hB_G.i 66 79 rfl rfl
    have g_69 : (G_38.1 66 79).toInt = (G.1 66 79).toInt := by rw [show G_38.1 66 79 = (G.1 66 79) from ((hq_39.i 66 79 (by decide) (by decide)).trans (hq_18.i 66 79 (by decide) (by decide)))]
    have b_70 : 0 ≤ (G.1 66 86).toInt ∧ (G.1 66 86).toInt ≤ 100000 := hB_G.i 66 86 rfl rfl
    have g_71 : (G_38.1 66 86).toInt = (G.1 66 86).toInt := by rw [show G_38.1 66 86 = (G.1 66 86) from ((hq_39.i 66 86 (by decide) (by decide)).trans (hq_18.i 66 86 (by decide) (by decide)))]
    have b_72 : 0 ≤ (G.1 96 0).toInt ∧ (G.1 96 0).toInt ≤ 9 := hB_G.i 96 0 rfl rfl
    have g_73 : (G_38.1 96 0).toInt = (G.1 96 0).toInt := by rw [show G_38.1 96 0 = (G.1 96 0) from ((hq_39.i 96 0 (by decide) (by decide)).trans (hq_18.i 96 0 (by decide) (by decide)))]
    have b_74 : 0 ≤ (G.1 96 1).toInt ∧ (G.1 96 1).toInt ≤ 9 := hB_G.i 96 1 rfl rfl
    have g_75 : (G_38.1 96 1).toInt = (G.1 96 1).toInt := by rw [show G_38.1 96 1 = (G.1 96 1) from ((hq_39.i 96 1 (by decide) (by decide)).trans (hq_18.i 96 1 (by decide) (by decide)))]
    have b_76 : 0 ≤ (G.1 96 2).toInt ∧ (G.1 96 2).toInt ≤ 9 := hB_G.i 96 2 rfl rfl
    have g_77 : (G_38.1 96 2).toInt = (G.1 96 2).toInt := by rw [show G_38.1 96 2 = (G.1 96 2) from ((hq_39.i 96 2 (by decide) (by decide)).trans (hq_18.i 96 2 (by decide) (by decide)))]
    exact K G_38 _ _ _ (Or.inl ⟨((((hq_39.r 0 0 (by decide) (by decide)).trans (hq_18.r 0 0 (by decide) (by decide)))).trans (hv_0_0)), ((((hq_39.r 0 1 (by decide) (by decide)).trans (hq_18.r 0 1 (by decide) (by decide)))).trans (hv_0_1)), ((((hq_39.r 6 4 (by decide) (by decide)).trans (hq_18.r 6 4 (by decide) (by decide)))).trans (hv_6_4)), by omega, by omega, by omega, by omega, by omega, by omega, by omega, by omega, by omega, by omega, by omega, by omega, by omega⟩) hB_G_38 hW hS (lv_sub hl [0, 1, 2, 3] rfl)
  · skip
    refine lv_aload_n hx hb dL_law_690 rfl (lv_at hl 1 rfl) ?_
    refine lv_aload_n hx hb dL_law_691 rfl (lv_at hl 0 rfl) ?_
    refine lv_iload_n hx hb dL_law_692 rfl (lv_at hl 3 rfl) ?_
    refine lv_iconst (v := 1) hx hb dL_law_693 (by decide) ?_
    refine lv_iadd hx hb dL_law_694 ?_
    refine lv_topi (fun y_1 ey_1 => ?_)
    have ty_1 : y_1.toInt = i0.toInt + 1 := xI_add rfl rfl ey_1 (by omega) (by omega)
    refine va_sld hx hb hX hbl hbA hS (vin (by omega) (by omega)) dL_law_695 ?_
    refine lv_topi (fun y_2 ey_2 => ?_)
    have u_3 : y_2.toInt = (xs (i0 + 1).toNatClampNeg).toInt := by rw [ey_2, ey_1]
    refine lv_aload_n hx hb dL_law_696 rfl (lv_at hl 0 rfl) ?_
    refine lv_iload_n hx hb dL_law_697 rfl (lv_at hl 3 rfl) ?_
    refine lv_iconst (v := 2) hx hb dL_law_698 (by decide) ?_
    refine lv_iadd hx hb dL_law_699 ?_
    refine lv_topi (fun y_4 ey_4 => ?_)
    have ty_4 : y_4.toInt = i0.toInt + 2 := xI_add rfl rfl ey_4 (by omega) (by omega)
    refine va_sld hx hb hX hbl hbA hS (vin (by omega) (by omega)) dL_law_700 ?_
    refine lv_topi (fun y_5 ey_5 => ?_)
    have u_6 : y_5.toInt = (xs (i0 + 2).toNatClampNeg).toInt := by rw [ey_5, ey_4]
    refine lv_aload_n hx hb dL_law_701 rfl (lv_at hl 0 rfl) ?_
    refine lv_iload_n hx hb dL_law_702 rfl (lv_at hl 3 rfl) ?_
    refine lv_iconst (v := 3) hx hb dL_law_703 (by decide) ?_
    refine lv_iadd hx hb dL_law_704 ?_
    refine lv_topi (fun y_7 ey_7 => ?_)
    have ty_7 : y_7.toInt = i0.toInt + 3 := xI_add rfl rfl ey_7 (by omega) (by omega)
    refine va_sld hx hb hX hbl hbA hS (vin (by omega) (by omega)) dL_law_705 ?_
    refine lv_topi (fun y_8 ey_8 => ?_)
    have u_9 : y_8.toInt = (xs (i0 + 3).toNatClampNeg).toInt := by rw [ey_8, ey_7]
    refine lv_aload_n hx hb dL_law_706 rfl (lv_at hl 0 rfl) ?_
    refine lv_iload_n hx hb dL_law_707 rfl (lv_at hl 3 rfl) ?_
    refine lv_iconst (v := 4) hx hb dL_law_708 (by decide) ?_
    refine lv_iadd hx hb dL_law_709 ?_
    refine lv_topi (fun y_10 ey_10 => ?_)
    have ty_10 : y_10.toInt = i0.toInt + 4 := xI_add rfl rfl ey_10 (by omega) (by omega)
    refine va_sld hx hb hX hbl hbA hS (vin (by omega) (by omega)) dL_law_710 ?_
    refine lv_topi (fun y_11 ey_11 => ?_)
    have u_12 : y_11.toInt = (xs (i0 + 4).toNatClampNeg).toInt := by rw [ey_11, ey_10]
    refine lv_aload_n hx hb dL_law_711 rfl (lv_at hl 0 rfl) ?_
    refine lv_iload_n hx hb dL_law_712 rfl (lv_at hl 3 rfl) ?_
    refine lv_iconst (v := 5) hx hb dL_law_713 (by decide) ?_
    refine lv_iadd hx hb dL_law_714 ?_
    refine lv_topi (fun y_13 ey_13 => ?_)
    have ty_13 : y_13.toInt = i0.toInt + 5 := xI_add rfl rfl ey_13 (by omega) (by omega)
    refine va_sld hx hb hX hbl hbA hS (vin (by omega) (by omega)) dL_law_715 ?_
    refine lv_topi (fun y_14 ey_14 => ?_)
    have u_15 : y_14.toInt = (xs (i0 + 5).toNatClampNeg).toInt := by rw [ey_14, ey_13]
    refine S_calli (va_runV (As := [.int y_2, .int y_5, .int y_8, .int y_11, .int y_14]) (rest := []) ⟨hx, hb, hml, hown, hts⟩ (k_Weven_2 l D k A a z G y_2 y_5 y_8 y_11 y_14 hv_0_0 hv_0_1 hv_6_4) (cwV 5 hts (gd_V hgd m1049 m1050 m1051 m117 m1052) rfl rfl rfl (by decide +kernel) ⟨Nat.le_of_ble_eq_true rfl, Nat.le_of_ble_eq_true rfl⟩) (pre_V hW hB_G hK hZ hS kd_0 rfl) rfl rfl hl.1 rfl (lv_room (Nat.le_of_ble_eq_true rfl)) dL_law_716 ⟨Nat.le_of_ble_eq_true rfl, Nat.le_of_ble_eq_true rfl⟩) hS (fun r_16 G_17 H locs hpo hW hS => ?_)
    have hX_20 : P_Weven_2 y_2 y_5 y_8 y_11 y_14 G r_16 G_17 := hpo
    obtain ⟨hB_G_17, hq_18, -⟩ := hpo
    refine lv_pop hx hb dL_law_719 rfl ?_
    refine lv_aload_n hx hb dL_law_720 rfl (lv_at hl 2 rfl) ?_
    refine lv_aload_n hx hb dL_law_721 rfl (lv_at hl 0 rfl) ?_
    refine lv_iload_n hx hb dL_law_722 rfl (lv_at hl 3 rfl) ?_
    refine lv_iconst (v := 1) hx hb dL_law_723 (by decide) ?_
    refine lv_iadd hx hb dL_law_724 ?_
    refine lv_topi (fun y_21 ey_21 => ?_)
    have ty_21 : y_21.toInt = i0.toInt + 1 := xI_add rfl rfl ey_21 (by omega) (by omega)
    refine va_sld hx hb hX hbl hbA hS (vin (by omega) (by omega)) dL_law_725 ?_
    refine lv_topi (fun y_22 ey_22 => ?_)
    have u_23 : y_22.toInt = (xs (i0 + 1).toNatClampNeg).toInt := by rw [ey_22, ey_21]
    refine lv_aload_n hx hb dL_law_726 rfl (lv_at hl 0 rfl) ?_
    refine lv_iload_n hx hb dL_law_727 rfl (lv_at hl 3 rfl) ?_
    refine lv_iconst (v := 2) hx hb dL_law_728 (by decide) ?_
    refine lv_iadd hx hb dL_law_729 ?_
    refine lv_topi (fun y_24 ey_24 => ?_)
    have ty_24 : y_24.toInt = i0.toInt + 2 := xI_add rfl rfl ey_24 (by omega) (by omega)
    refine va_sld hx hb hX hbl hbA hS (vin (by omega) (by omega)) dL_law_730 ?_
    refine lv_topi (fun y_25 ey_25 => ?_)
    have u_26 : y_25.toInt = (xs (i0 + 2).toNatClampNeg).toInt := by rw [ey_25, ey_24]
    refine lv_aload_n hx hb dL_law_731 rfl (lv_at hl 0 rfl) ?_
    refine lv_iload_n hx hb dL_law_732 rfl (lv_at hl 3 rfl) ?_
    refine lv_iconst (v := 3) hx hb dL_law_733 (by decide) ?_
    refine lv_iadd hx hb dL_law_734 ?_
    refine lv_topi (fun y_27 ey_27 => ?_)
    have ty_27 : y_27.toInt = i0.toInt + 3 := xI_add rfl rfl ey_27 (by omega) (by omega)
    refine va_sld hx hb hX hbl hbA hS (vin (by omega) (by omega)) dL_law_735 ?_
    refine lv_topi (fun y_28 ey_28 => ?_)
    have u_29 : y_28.toInt = (xs (i0 + 3).toNatClampNeg).toInt := by rw [ey_28, ey_27]
    refine lv_aload_n hx hb dL_law_736 rfl (lv_at hl 0 rfl) ?_
    refine lv_iload_n hx hb dL_law_737 rfl (lv_at hl 3 rfl) ?_
    refine lv_iconst (v := 4) hx hb dL_law_738 (by decide) ?_
    refine lv_iadd hx hb dL_law_739 ?_
    refine lv_topi (fun y_30 ey_30 => ?_)
    have ty_30 : y_30.toInt = i0.toInt + 4 := xI_add rfl rfl ey_30 (by omega) (by omega)
    refine va_sld hx hb hX hbl hbA hS (vin (by omega) (by omega)) dL_law_740 ?_
    refine lv_topi (fun y_31 ey_31 => ?_)
    have u_32 : y_31.toInt = (xs (i0 + 4).toNatClampNeg).toInt := by rw [ey_31, ey_30]
    refine lv_aload_n hx hb dL_law_741 rfl (lv_at hl 0 rfl) ?_
    refine lv_iload_n hx hb dL_law_742 rfl (lv_at hl 3 rfl) ?_
    refine lv_iconst (v := 5) hx hb dL_law_743 (by decide) ?_
    refine lv_iadd hx hb dL_law_744 ?_
    refine lv_topi (fun y_33 ey_33 => ?_)
    have ty_33 : y_33.toInt = i0.toInt + 5 := xI_add rfl rfl ey_33 (by omega) (by omega)
    refine va_sld hx hb hX hbl hbA hS (vin (by omega) (by omega)) dL_law_745 ?_
    refine lv_topi (fun y_34 ey_34 => ?_)
    have u_35 : y_34.toInt = (xs (i0 + 5).toNatClampNeg).toInt := by rw [ey_34, ey_33]
    have g_36 : gP G_17 = gP G := gP_fr (rs := [37, 38, 39, 40]) (fs := [(6, 3), (7, 1), (7, 2), (7, 3), (7, 4), (7, 5), (7, 6), (7, 7)]) (Fr.rf.call hq_18 (by decide) (by decide)) (by decide) (by decide)
    refine S_calli (va_runV (As := [.int y_22, .int y_25, .int y_28, .int y_31, .int y_34]) (rest := []) ⟨hx, hb, hml, hown, hts⟩ (n_even l D k A a z G_17 y_22 y_25 y_28 y_31 y_34 (by omega)) (cwV 5 hts (gd_V hgd m1891 m1892 m1893 m131 m1894) rfl rfl rfl (by decide +kernel) ⟨Nat.le_of_ble_eq_true rfl, Nat.le_of_ble_eq_true rfl⟩) (pre_V hW hB_G_17 hK hZ hS kd_66 rfl) rfl rfl hl.1 rfl (lv_room (Nat.le_of_ble_eq_true rfl)) dL_law_746 ⟨Nat.le_of_ble_eq_true rfl, Nat.le_of_ble_eq_true rfl⟩) hS (fun r_37 G_38 H locs hpo hW hS => ?_)
    have hX_41 : Q_even y_22 y_25 y_28 y_31 y_34 G_17 r_37 G_38 := hpo
    obtain ⟨hB_G_38, hq_39, -⟩ := hpo
    have u_42 := L_even_2 hX_20 hX_41 (by omega) (by omega) (by omega) (by omega) (by omega) (by omega)
    refine lv_pop hx hb dL_law_749 rfl ?_
    refine lv_goto (tgt := 1641) hx hb dL_law_750 (by decide) ?_
    have g_43 : gO G_38 = gO G := gO_fr (rs := [37, 38, 39, 40, 76, 97, 98]) (fs := [(6, 3), (7, 1), (7, 2), (7, 3), (7, 4), (7, 5), (7, 6), (7, 7), (66, 59), (66, 60), (66, 61), (66, 62), (66, 63)]) ((Fr.rf.call hq_18 (by decide) (by decide)).call hq_39 (by decide) (by decide)) (by decide) (by decide)
    have g_44 : gP G_38 = gP G := gP_fr (rs := [37, 38, 39, 40, 76, 97, 98]) (fs := [(6, 3), (7, 1), (7, 2), (7, 3), (7, 4), (7, 5), (7, 6), (7, 7), (66, 59), (66, 60), (66, 61), (66, 62), (66, 63)]) ((Fr.rf.call hq_18 (by decide) (by decide)).call hq_39 (by decide) (by decide)) (by decide) (by decide)
    have g_45 : gS G_38 = gS G := gS_fr (rs := [37, 38, 39, 40, 76, 97, 98]) (fs := [(6, 3), (7, 1), (7, 2), (7, 3), (7, 4), (7, 5), (7, 6), (7, 7), (66, 59), (66, 60), (66, 61), (66, 62), (66, 63)]) ((Fr.rf.call hq_18 (by decide) (by decide)).call hq_39 (by decide) (by decide)) (by decide) (by decide)
    have g_46 : gTE G_38 = gTE G := gTE_fr (rs := [37, 38, 39, 40, 76, 97, 98]) (fs := [(6, 3), (7, 1), (7, 2), (7, 3), (7, 4), (7, 5), (7, 6), (7, 7), (66, 59), (66, 60), (66, 61), (66, 62), (66, 63)]) ((Fr.rf.call hq_18 (by decide) (by decide)).call hq_39 (by decide) (by decide)) (by decide) (by decide)
    have g_47 : gW G_38 = gW G := gW_fr (rs := [37, 38, 39, 40, 76, 97, 98]) (fs := [(6, 3), (7, 1), (7, 2), (7, 3), (7, 4), (7, 5), (7, 6), (7, 7), (66, 59), (66, 60), (66, 61), (66, 62), (66, 63)]) ((Fr.rf.call hq_18 (by decide) (by decide)).call hq_39 (by decide) (by decide)) (by decide) (by decide)
    have b_48 : 0 ≤ (G.1 0 11).toInt ∧ (G.1 0 11).toInt ≤ 1600 := hB_G.i 0 11 rfl rfl
    have g_49 : (G_38.1 0 11).toInt = (G.1 0 11).toInt := by rw [show G_38.1 0 11 = (G.1 0 11) from ((hq_39.i 0 11 (by decide) (by decide)).trans (hq_18.i 0 11 (by decide) (by decide)))]
    have b_50 : 0 ≤ (G.1 3 7).toInt ∧ (G.1 3 7).toInt ≤ 4 := hB_G.i 3 7 rfl rfl
    have g_51 : (G_38.1 3 7).toInt = (G.1 3 7).toInt := by rw [show G_38.1 3 7 = (G.1 3 7) from ((hq_39.i 3 7 (by decide) (by decide)).trans (hq_18.i 3 7 (by decide) (by decide)))]
    have b_52 : (-1) ≤ (G.1 3 8).toInt ∧ (G.1 3 8).toInt ≤ 1600 := hB_G.i 3 8 rfl rfl
    have g_53 : (G_38.1 3 8).toInt = (G.1 3 8).toInt := by rw [show G_38.1 3 8 = (G.1 3 8) from ((hq_39.i 3 8 (by decide) (by decide)).trans (hq_18.i 3 8 (by decide) (by decide)))]
    have b_54 : 0 ≤ (G.1 30 4).toInt ∧ (G.1 30 4).toInt ≤ 40 := hB_G.i 30 4 rfl rfl
    have g_55 : (G_38.1 30 4).toInt = (G.1 30 4).toInt := by rw [show G_38.1 30 4 = (G.1 30 4) from ((hq_39.i 30 4 (by decide) (by decide)).trans (hq_18.i 30 4 (by decide) (by decide)))]
    have b_56 : 0 ≤ (G.1 30 5).toInt ∧ (G.1 30 5).toInt ≤ 40 := hB_G.i 30 5 rfl rfl
    have g_57 : (G_38.1 30 5).toInt = (G.1 30 5).toInt := by rw [show G_38.1 30 5 = (G.1 30 5) from ((hq_39.i 30 5 (by decide) (by decide)).trans (hq_18.i 30 5 (by decide) (by decide)))]
    have b_58 : 0 ≤ (G.1 31 6).toInt ∧ (G.1 31 6).toInt ≤ 100000 := hB_G.i 31 6 rfl rfl
    have g_59 : (G_38.1 31 6).toInt = (G.1 31 6).toInt := by rw [show G_38.1 31 6 = (G.1 31 6) from ((hq_39.i 31 6 (by decide) (by decide)).trans (hq_18.i 31 6 (by decide) (by decide)))]
    have b_60 : 0 ≤ (G.1 66 1).toInt ∧ (G.1 66 1).toInt ≤ 1600 := hB_G.i 66 1 rfl rfl
    have g_61 : (G_38.1 66 1).toInt = (G.1 66 1).toInt := by rw [show G_38.1 66 1 = (G.1 66 1) from ((hq_39.i 66 1 (by decide) (by decide)).trans (hq_18.i 66 1 (by decide) (by decide)))]
    have b_62 : 0 ≤ (G.1 66 2).toInt ∧ (G.1 66 2).toInt ≤ 4 := hB_G.i 66 2 rfl rfl
    have g_63 : (G_38.1 66 2).toInt = (G.1 66 2).toInt := by rw [show G_38.1 66 2 = (G.1 66 2) from ((hq_39.i 66 2 (by decide) (by decide)).trans (hq_18.i 66 2 (by decide) (by decide)))]
    have b_64 : (-1) ≤ (G.1 66 3).toInt ∧ (G.1 66 3).toInt ≤ 1600 := hB_G.i 66 3 rfl rfl
    have g_65 : (G_38.1 66 3).toInt = (G.1 66 3).toInt := by rw [show G_38.1 66 3 = (G.1 66 3) from ((hq_39.i 66 3 (by decide) (by decide)).trans (hq_18.i 66 3 (by decide) (by decide)))]
    have b_66 : 0 ≤ (G.1 66 78).toInt ∧ (G.1 66 78).toInt ≤ 40 := hB_G.i 66 78 rfl rfl
    have g_67 : (G_38.1 66 78).toInt = (G.1 66 78).toInt := by rw [show G_38.1 66 78 = (G.1 66 78) from ((hq_39.i 66 78 (by decide) (by decide)).trans (hq_18.i 66 78 (by decide) (by decide)))]
    have b_68 : 0 ≤ (G.1 66 79).toInt ∧ (G.1 66 79).toInt ≤ 40 := hB_G.i 66 79 rfl rfl
    have g_69 : (G_38.1 66 79).toInt = (G.1 66 79).toInt := by rw [show G_38.1 66 79 = (G.1 66 79) from ((hq_39.i 66 79 (by decide) (by decide)).trans (hq_18.i 66 79 (by decide) (by decide)))]
    have b_70 : 0 ≤ (G.1 66 86).toInt ∧ (G.1 66 86).toInt ≤ 100000 := hB_G.i 66 86 rfl rfl
    have g_71 : (G_38.1 66 86).toInt = (G.1 66 86).toInt := by rw [show G_38.1 66 86 = (G.1 66 86) from ((hq_39.i 66 86 (by decide) (by decide)).trans (hq_18.i 66 86 (by decide) (by decide)))]
    have b_72 : 0 ≤ (G.1 96 0).toInt ∧ (G.1 96 0).toInt ≤ 9 := hB_G.i 96 0 rfl rfl
    have g_73 : (G_38.1 96 0).toInt = (G.1 96 0).toInt := by rw [show G_38.1 96 0 = (G.1 96 0) from ((hq_39.i 96 0 (by decide) (by decide)).trans (hq_18.i 96 0 (by decide) (by decide)))]
    have b_74 : 0 ≤ (G.1 96 1).toInt ∧ (G.1 96 1).toInt ≤ 9 := hB_G.i 96 1 rfl rfl
    have g_75 : (G_38.1 96 1).toInt = (G.1 96 1).toInt := by rw [show G_38.1 96 1 = (G.1 96 1) from ((hq_39.i 96 1 (by decide) (by decide)).trans (hq_18.i 96 1 (by decide) (by decide)))]
    have b_76 : 0 ≤ (G.1 96 2).toInt ∧ (G.1 96 2).toInt ≤ 9 := hB_G.i 96 2 rfl rfl
    have g_77 : (G_38.1 96 2).toInt = (G.1 96 2).toInt := by rw [show G_38.1 96 2 = (G.1 96 2) from ((hq_39.i 96 2 (by decide) (by decide)).trans (hq_18.i 96 2 (by decide) (by decide)))]
    exact K G_38 _ _ _ (Or.inr ⟨((((hq_39.r 0 0 (by decide) (by decide)).trans (hq_18.r 0 0 (by decide) (by decide)))).trans (hv_0_0)), ((((hq_39.r 0 1 (by decide) (by decide)).trans (hq_18.r 0 1 (by decide) (by decide)))).trans (hv_0_1)), ((((hq_39.r 6 4 (by decide) (by decide)).trans (hq_18.r 6 4 (by decide) (by decide)))).trans (hv_6_4)), by omega, by omega, by omega, by omega, by omega, by omega, by omega, by omega, by omega, by omega, by omega, by omega, by omega⟩) hB_G_38 hW hS (lv_sub hl [0, 1, 2, 3] rfl)

set_option maxHeartbeats 4000000 in
set_option maxRecDepth 100000 in
theorem law_13 {p : Program} {l : Launch} {e : Env} {s : State} {m : MethodId} {below : List Frame} {meth : Method} {c : Code} {D : va_G} {k : KT} {A : Nat → Prop} {a : Nat → Nat} {z : SK} {b L : Nat} {xs : Nat → Int32} (hL : L ≤ 3072) (C0 : lw_At p s m meth c b L xs) (hK : cK D k s) (hZ : Sx A z s) (hbA : ¬ A b) {G : GS} {i0 : Int32} (hi0 : 0 ≤ i0.toInt) (hi6 : i0.toInt + 6 ≤ L) (hI : LI G) (hB_G : Bd G) {H : Heap} {locs : List Loc} {ls : Array Slot} (hW : Wd D k A a G H) (hS : va_S A s.heap H locs) (hl : lv_has ls 4 [(0, .ref b), (1, .ref (a 0)), (2, .ref (a 66)), (3, .int i0)]) (K : ∀ (G1 : GS) (H1 : Heap) (locs1 : List Loc) (ls1 : Array Slot), LI G1 → Bd G1 → Wd D k A a G1 H1 → va_S A s.heap H1 locs1 → lv_has ls1 4 [(0, .ref b), (1, .ref (a 0)), (2, .ref (a 66)), (3, .int i0)] → W p l e room_1 s m #[Value.ref b] below meth c H1 locs1 119 46443 (lw_Z below #[Value.ref b] s) (F0 m 1641 ls1 [])) : W p l e room_1 s m #[Value.ref b] below meth c H locs 119 46443 (lw_Z below #[Value.ref b] s) (F0 m 753 ls []) := by
  obtain ⟨hx, hb, hr, hml, hown, hts, hX, hbl, hlocks, hgv⟩ := id C0
  have hown : s.vm.findClass RL = some m.cls := hown
  have hgd : ∀ w ∈ gd, w ∈ lw_tbl := fun w h => (List.mem_filter.mp h).1
  have hg : ∀ w ∈ gd, w.before #[Value.ref b] s = true := fun w h => hts w (hgd w h)
  rcases hI with ⟨hv_0_0, hv_0_1, hv_6_4, hj0, hj1, hj2, hj3, hj4, hj5, hj6, hj7, hj8, hj9, hj10, hj11⟩ | ⟨hv_0_0, hv_0_1, hv_6_4, hj0, hj1, hj2, hj3, hj4, hj5, hj6, hj7, hj8, hj9, hj10, hj11⟩
  · skip
    refine lv_aload_n hx hb dL_law_753 rfl (lv_at hl 1 rfl) ?_
    refine lv_aload_n hx hb dL_law_754 rfl (lv_at hl 0 rfl) ?_
    refine lv_iload_n hx hb dL_law_755 rfl (lv_at hl 3 rfl) ?_
    refine lv_iconst (v := 1) hx hb dL_law_756 (by decide) ?_
    refine lv_iadd hx hb dL_law_757 ?_
    refine lv_topi (fun y_1 ey_1 => ?_)
    have ty_1 : y_1.toInt = i0.toInt + 1 := xI_add rfl rfl ey_1 (by omega) (by omega)
    refine va_sld hx hb hX hbl hbA hS (vin (by omega) (by omega)) dL_law_758 ?_
    refine lv_topi (fun y_2 ey_2 => ?_)
    have u_3 : y_2.toInt = (xs (i0 + 1).toNatClampNeg).toInt := by rw [ey_2, ey_1]
    refine lv_aload_n hx hb dL_law_759 rfl (lv_at hl 0 rfl) ?_
    refine lv_iload_n hx hb dL_law_760 rfl (lv_at hl 3 rfl) ?_
    refine lv_iconst (v := 2) hx hb dL_law_761 (by decide) ?_
    refine lv_iadd hx hb dL_law_762 ?_
    refine lv_topi (fun y_4 ey_4 => ?_)
    have ty_4 : y_4.toInt = i0.toInt + 2 := xI_add rfl rfl ey_4 (by omega) (by omega)
    refine va_sld hx hb hX hbl hbA hS (vin (by omega) (by omega)) dL_law_763 ?_
    refine lv_topi (fun y_5 ey_5 => ?_)
    have u_6 : y_5.toInt = (xs (i0 + 2).toNatClampNeg).toInt := by rw [ey_5, ey_4]
    refine lv_aload_n hx hb dL_law_764 rfl (lv_at hl 0 rfl) ?_
    refine lv_iload_n hx hb dL_law_765 rfl (lv_at hl 3 rfl) ?_
    refine lv_iconst (v := 3) hx hb dL_law_766 (by decide) ?_
    refine lv_iadd hx hb dL_law_767 ?_
    refine lv_topi (fun y_7 ey_7 => ?_)
    have ty_7 : y_7.toInt = i0.toInt + 3 := xI_add rfl rfl ey_7 (by omega) (by omega)
    refine va_sld hx hb hX hbl hbA hS (vin (by omega) (by omega)) dL_law_768 ?_
    refine lv_topi (fun y_8 ey_8 => ?_)
    have u_9 : y_8.toInt = (xs (i0 + 3).toNatClampNeg).toInt := by rw [ey_8, ey_7]
    refine S_calli (va_runV (As := [.int y_2, .int y_5, .int y_8]) (rest := []) ⟨hx, hb, hml, hown, hts⟩ (k_Wevens_1 l D k A a z G y_2 y_5 y_8 hv_0_0 hv_0_1 hv_6_4) (cwV 3 hts (gd_V hgd m1053 m1054 m1055 m117 m1056) rfl rfl rfl (by decide +kernel) ⟨Nat.le_of_ble_eq_true rfl, Nat.le_of_ble_eq_true rfl⟩) (pre_V hW hB_G hK hZ hS kd_0 rfl) rfl rfl hl.1 rfl (lv_room (Nat.le_of_ble_eq_true rfl)) dL_law_769 ⟨Nat.le_of_ble_eq_true rfl, Nat.le_of_ble_eq_true rfl⟩) hS (fun r_10 G_11 H locs hpo hW hS => ?_)
    have hX_14 : P_Wevens_1 y_2 y_5 y_8 G r_10 G_11 := hpo
    obtain ⟨hB_G_11, hq_12, -⟩ := hpo
    refine lv_pop hx hb dL_law_772 rfl ?_
    refine lv_aload_n hx hb dL_law_773 rfl (lv_at hl 2 rfl) ?_
    refine lv_aload_n hx hb dL_law_774 rfl (lv_at hl 0 rfl) ?_
    refine lv_iload_n hx hb dL_law_775 rfl (lv_at hl 3 rfl) ?_
    refine lv_iconst (v := 1) hx hb dL_law_776 (by decide) ?_
    refine lv_iadd hx hb dL_law_777 ?_
    refine lv_topi (fun y_15 ey_15 => ?_)
    have ty_15 : y_15.toInt = i0.toInt + 1 := xI_add rfl rfl ey_15 (by omega) (by omega)
    refine va_sld hx hb hX hbl hbA hS (vin (by omega) (by omega)) dL_law_778 ?_
    refine lv_topi (fun y_16 ey_16 => ?_)
    have u_17 : y_16.toInt = (xs (i0 + 1).toNatClampNeg).toInt := by rw [ey_16, ey_15]
    refine lv_aload_n hx hb dL_law_779 rfl (lv_at hl 0 rfl) ?_
    refine lv_iload_n hx hb dL_law_780 rfl (lv_at hl 3 rfl) ?_
    refine lv_iconst (v := 2) hx hb dL_law_781 (by decide) ?_
    refine lv_iadd hx hb dL_law_782 ?_
    refine lv_topi (fun y_18 ey_18 => ?_)
    have ty_18 : y_18.toInt = i0.toInt + 2 := xI_add rfl rfl ey_18 (by omega) (by omega)
    refine va_sld hx hb hX hbl hbA hS (vin (by omega) (by omega)) dL_law_783 ?_
    refine lv_topi (fun y_19 ey_19 => ?_)
    have u_20 : y_19.toInt = (xs (i0 + 2).toNatClampNeg).toInt := by rw [ey_19, ey_18]
    refine lv_aload_n hx hb dL_law_784 rfl (lv_at hl 0 rfl) ?_
    refine lv_iload_n hx hb dL_law_785 rfl (lv_at hl 3 rfl) ?_
    refine lv_iconst (v := 3) hx hb dL_law_786 (by decide) ?_
    refine lv_iadd hx hb dL_law_787 ?_
    refine lv_topi (fun y_21 ey_21 => ?_)
    have ty_21 : y_21.toInt = i0.toInt + 3 := xI_add rfl rfl ey_21 (by omega) (by omega)
    refine va_sld hx hb hX hbl hbA hS (vin (by omega) (by omega)) dL_law_788 ?_
    refine lv_topi (fun y_22 ey_22 => ?_)
    have u_23 : y_22.toInt = (xs (i0 + 3).toNatClampNeg).toInt := by rw [ey_22, ey_21]
    have g_24 : gP G_11 = gP G := gP_fr (rs := [33, 37, 38, 39, 40, 42]) (fs := [(0, 12), (6, 3), (7, 1), (7, 2), (7, 3), (7, 4), (7, 5), (7, 6), (7, 7)]) (Fr.rf.call hq_12 (by decide) (by decide)) (by decide) (by decide)
    have g_25 : gW G_11 = gW G := gW_fr (rs := [33, 37, 38, 39, 40, 42]) (fs := [(0, 12), (6, 3), (7, 1), (7, 2), (7, 3), (7, 4), (7, 5), (7, 6), (7, 7)]) (Fr.rf.call hq_12 (by decide) (by decide)) (by decide) (by decide)
    refine S_calli (va_runV (As := [.int y_16, .int y_19, .int y_22]) (rest := []) ⟨hx, hb, hml, hown, hts⟩ (n_evens l D k A a z G_11 y_16 y_19 y_22 (by omega) (by omega)) (cwV 3 hts (gd_V hgd m1895 m1896 m1897 m131 m1898) rfl rfl rfl (by decide +kernel) ⟨Nat.le_of_ble_eq_true rfl, Nat.le_of_ble_eq_true rfl⟩) (pre_V hW hB_G_11 hK hZ hS kd_66 rfl) rfl rfl hl.1 rfl (lv_room (Nat.le_of_ble_eq_true rfl)) dL_law_789 ⟨Nat.le_of_ble_eq_true rfl, Nat.le_of_ble_eq_true rfl⟩) hS (fun r_26 G_27 H locs hpo hW hS => ?_)
    have hX_30 : Q_evens y_16 y_19 y_22 G_11 r_26 G_27 := hpo
    obtain ⟨hB_G_27, hq_28, -⟩ := hpo
    have u_31 := L_evens_1 hX_14 hX_30 (by omega) (by omega) (by omega) (by omega)
    refine lv_pop hx hb dL_law_792 rfl ?_
    refine lv_goto (tgt := 1641) hx hb dL_law_793 (by decide) ?_
    have g_32 : gO G_27 = gO G := gO_fr (rs := [33, 37, 38, 39, 40, 42, 76, 97, 98, 100]) (fs := [(0, 12), (6, 3), (7, 1), (7, 2), (7, 3), (7, 4), (7, 5), (7, 6), (7, 7), (66, 59), (66, 60), (66, 61), (66, 62), (66, 63), (66, 66)]) ((Fr.rf.call hq_12 (by decide) (by decide)).call hq_28 (by decide) (by decide)) (by decide) (by decide)
    have g_33 : gP G_27 = gP G := gP_fr (rs := [33, 37, 38, 39, 40, 42, 76, 97, 98, 100]) (fs := [(0, 12), (6, 3), (7, 1), (7, 2), (7, 3), (7, 4), (7, 5), (7, 6), (7, 7), (66, 59), (66, 60), (66, 61), (66, 62), (66, 63), (66, 66)]) ((Fr.rf.call hq_12 (by decide) (by decide)).call hq_28 (by decide) (by decide)) (by decide) (by decide)
    have g_34 : gS G_27 = gS G := gS_fr (rs := [33, 37, 38, 39, 40, 42, 76, 97, 98, 100]) (fs := [(0, 12), (6, 3), (7, 1), (7, 2), (7, 3), (7, 4), (7, 5), (7, 6), (7, 7), (66, 59), (66, 60), (66, 61), (66, 62), (66, 63), (66, 66)]) ((Fr.rf.call hq_12 (by decide) (by decide)).call hq_28 (by decide) (by decide)) (by decide) (by decide)
    have g_35 : gTE G_27 = gTE G := gTE_fr (rs := [33, 37, 38, 39, 40, 42, 76, 97, 98, 100]) (fs := [(0, 12), (6, 3), (7, 1), (7, 2), (7, 3), (7, 4), (7, 5), (7, 6), (7, 7), (66, 59), (66, 60), (66, 61), (66, 62), (66, 63), (66, 66)]) ((Fr.rf.call hq_12 (by decide) (by decide)).call hq_28 (by decide) (by decide)) (by decide) (by decide)
    have g_36 : gW G_27 = gW G := gW_fr (rs := [33, 37, 38, 39, 40, 42, 76, 97, 98, 100]) (fs := [(0, 12), (6, 3), (7, 1), (7, 2), (7, 3), (7, 4), (7, 5), (7, 6), (7, 7), (66, 59), (66, 60), (66, 61), (66, 62), (66, 63), (66, 66)]) ((Fr.rf.call hq_12 (by decide) (by decide)).call hq_28 (by decide) (by decide)) (by decide) (by decide)
    have b_37 : 0 ≤ (G.1 0 11).toInt ∧ (G.1 0 11).toInt ≤ 1600 := hB_G.i 0 11 rfl rfl
    have g_38 : (G_27.1 0 11).toInt = (G.1 0 11).toInt := by rw [show G_27.1 0 11 = (G.1 0 11) from ((hq_28.i 0 11 (by decide) (by decide)).trans (hq_12.i 0 11 (by decide) (by decide)))]
    have b_39 : 0 ≤ (G.1 3 7).toInt ∧ (G.1 3 7).toInt ≤ 4 := hB_G.i 3 7 rfl rfl
    have g_40 : (G_27.1 3 7).toInt = (G.1 3 7).toInt := by rw [show G_27.1 3 7 = (G.1 3 7) from ((hq_28.i 3 7 (by decide) (by decide)).trans (hq_12.i 3 7 (by decide) (by decide)))]
    have b_41 : (-1) ≤ (G.1 3 8).toInt ∧ (G.1 3 8).toInt ≤ 1600 := hB_G.i 3 8 rfl rfl
    have g_42 : (G_27.1 3 8).toInt = (G.1 3 8).toInt := by rw [show G_27.1 3 8 = (G.1 3 8) from ((hq_28.i 3 8 (by decide) (by decide)).trans (hq_12.i 3 8 (by decide) (by decide)))]
    have b_43 : 0 ≤ (G.1 30 4).toInt ∧ (G.1 30 4).toInt ≤ 40 := hB_G.i 30 4 rfl rfl
    have g_44 : (G_27.1 30 4).toInt = (G.1 30 4).toInt := by rw [show G_27.1 30 4 = (G.1 30 4) from ((hq_28.i 30 4 (by decide) (by decide)).trans (hq_12.i 30 4 (by decide) (by decide)))]
    have b_45 : 0 ≤ (G.1 30 5).toInt ∧ (G.1 30 5).toInt ≤ 40 := hB_G.i 30 5 rfl rfl
    have g_46 : (G_27.1 30 5).toInt = (G.1 30 5).toInt := by rw [show G_27.1 30 5 = (G.1 30 5) from ((hq_28.i 30 5 (by decide) (by decide)).trans (hq_12.i 30 5 (by decide) (by decide)))]
    have b_47 : 0 ≤ (G.1 31 6).toInt ∧ (G.1 31 6).toInt ≤ 100000 := hB_G.i 31 6 rfl rfl
    have g_48 : (G_27.1 31 6).toInt = (G.1 31 6).toInt := by rw [show G_27.1 31 6 = (G.1 31 6) from ((hq_28.i 31 6 (by decide) (by decide)).trans (hq_12.i 31 6 (by decide) (by decide)))]
    have b_49 : 0 ≤ (G.1 66 1).toInt ∧ (G.1 66 1).toInt ≤ 1600 := hB_G.i 66 1 rfl rfl
    have g_50 : (G_27.1 66 1).toInt = (G.1 66 1).toInt := by rw [show G_27.1 66 1 = (G.1 66 1) from ((hq_28.i 66 1 (by decide) (by decide)).trans (hq_12.i 66 1 (by decide) (by decide)))]
    have b_51 : 0 ≤ (G.1 66 2).toInt ∧ (G.1 66 2).toInt ≤ 4 := hB_G.i 66 2 rfl rfl
    have g_52 : (G_27.1 66 2).toInt = (G.1 66 2).toInt := by rw [show G_27.1 66 2 = (G.1 66 2) from ((hq_28.i 66 2 (by decide) (by decide)).trans (hq_12.i 66 2 (by decide) (by decide)))]
    have b_53 : (-1) ≤ (G.1 66 3).toInt ∧ (G.1 66 3).toInt ≤ 1600 := hB_G.i 66 3 rfl rfl
    have g_54 : (G_27.1 66 3).toInt = (G.1 66 3).toInt := by rw [show G_27.1 66 3 = (G.1 66 3) from ((hq_28.i 66 3 (by decide) (by decide)).trans (hq_12.i 66 3 (by decide) (by decide)))]
    have b_55 : 0 ≤ (G.1 66 78).toInt ∧ (G.1 66 78).toInt ≤ 40 := hB_G.i 66 78 rfl rfl
    have g_56 : (G_27.1 66 78).toInt = (G.1 66 78).toInt := by rw [show G_27.1 66 78 = (G.1 66 78) from ((hq_28.i 66 78 (by decide) (by decide)).trans (hq_12.i 66 78 (by decide) (by decide)))]
    have b_57 : 0 ≤ (G.1 66 79).toInt ∧ (G.1 66 79).toInt ≤ 40 := hB_G.i 66 79 rfl rfl
    have g_58 : (G_27.1 66 79).toInt = (G.1 66 79).toInt := by rw [show G_27.1 66 79 = (G.1 66 79) from ((hq_28.i 66 79 (by decide) (by decide)).trans (hq_12.i 66 79 (by decide) (by decide)))]
    have b_59 : 0 ≤ (G.1 66 86).toInt ∧ (G.1 66 86).toInt ≤ 100000 := hB_G.i 66 86 rfl rfl
    have g_60 : (G_27.1 66 86).toInt = (G.1 66 86).toInt := by rw [show G_27.1 66 86 = (G.1 66 86) from ((hq_28.i 66 86 (by decide) (by decide)).trans (hq_12.i 66 86 (by decide) (by decide)))]
    have b_61 : 0 ≤ (G.1 96 0).toInt ∧ (G.1 96 0).toInt ≤ 9 := hB_G.i 96 0 rfl rfl
    have g_62 : (G_27.1 96 0).toInt = (G.1 96 0).toInt := by rw [show G_27.1 96 0 = (G.1 96 0) from ((hq_28.i 96 0 (by decide) (by decide)).trans (hq_12.i 96 0 (by decide) (by decide)))]
    have b_63 : 0 ≤ (G.1 96 1).toInt ∧ (G.1 96 1).toInt ≤ 9 := hB_G.i 96 1 rfl rfl
    have g_64 : (G_27.1 96 1).toInt = (G.1 96 1).toInt := by rw [show G_27.1 96 1 = (G.1 96 1) from ((hq_28.i 96 1 (by decide) (by decide)).trans (hq_12.i 96 1 (by decide) (by decide)))]
    have b_65 : 0 ≤ (G.1 96 2).toInt ∧ (G.1 96 2).toInt ≤ 9 := hB_G.i 96 2 rfl rfl
    have g_66 : (G_27.1 96 2).toInt = (G.1 96 2).toInt := by rw [show G_27.1 96 2 = (G.1 96 2) from ((hq_28.i 96 2 (by decide) (by decide)).trans (hq_12.i 96 2 (by decide) (by decide)))]
    exact K G_27 _ _ _ (Or.inl ⟨((((hq_28.r 0 0 (by decide) (by decide)).trans (hq_12.r 0 0 (by decide) (by decide)))).trans (hv_0_0)), ((((hq_28.r 0 1 (by decide) (by decide)).trans (hq_12.r 0 1 (by decide) (by decide)))).trans (hv_0_1)), ((((hq_28.r 6 4 (by decide) (by decide)).trans (hq_12.r 6 4 (by decide) (by decide)))).trans (hv_6_4)), by omega, by omega, by omega, by omega, by omega, by omega, by omega, by omega, by omega, by omega, by omega, by omega, by omega⟩) hB_G_27 hW hS (lv_sub hl [0, 1, 2, 3] rfl)
  · skip
    refine lv_aload_n hx hb dL_law_753 rfl (lv_at hl 1 rfl) ?_
    refine lv_aload_n hx hb dL_law_754 rfl (lv_at hl 0 rfl) ?_
    refine lv_iload_n hx hb dL_law_755 rfl (lv_at hl 3 rfl) ?_
    refine lv_iconst (v := 1) hx hb dL_law_756 (by decide) ?_
    refine lv_iadd hx hb dL_law_757 ?_
    refine lv_topi (fun y_1 ey_1 => ?_)
    have ty_1 : y_1.toInt = i0.toInt + 1 := xI_add rfl rfl ey_1 (by omega) (by omega)
    refine va_sld hx hb hX hbl hbA hS (vin (by omega) (by omega)) dL_law_758 ?_
    refine lv_topi (fun y_2 ey_2 => ?_)
    have u_3 : y_2.toInt = (xs (i0 + 1).toNatClampNeg).toInt := by rw [ey_2, ey_1]
    refine lv_aload_n hx hb dL_law_759 rfl (lv_at hl 0 rfl) ?_
    refine lv_iload_n hx hb dL_law_760 rfl (lv_at hl 3 rfl) ?_
    refine lv_iconst (v := 2) hx hb dL_law_761 (by decide) ?_
    refine lv_iadd hx hb dL_law_762 ?_
    refine lv_topi (fun y_4 ey_4 => ?_)
    have ty_4 : y_4.toInt = i0.toInt + 2 := xI_add rfl rfl ey_4 (by omega) (by omega)
    refine va_sld hx hb hX hbl hbA hS (vin (by omega) (by omega)) dL_law_763 ?_
    refine lv_topi (fun y_5 ey_5 => ?_)
    have u_6 : y_5.toInt = (xs (i0 + 2).toNatClampNeg).toInt := by rw [ey_5, ey_4]
    refine lv_aload_n hx hb dL_law_764 rfl (lv_at hl 0 rfl) ?_
    refine lv_iload_n hx hb dL_law_765 rfl (lv_at hl 3 rfl) ?_
    refine lv_iconst (v := 3) hx hb dL_law_766 (by decide) ?_
    refine lv_iadd hx hb dL_law_767 ?_
    refine lv_topi (fun y_7 ey_7 => ?_)
    have ty_7 : y_7.toInt = i0.toInt + 3 := xI_add rfl rfl ey_7 (by omega) (by omega)
    refine va_sld hx hb hX hbl hbA hS (vin (by omega) (by omega)) dL_law_768 ?_
    refine lv_topi (fun y_8 ey_8 => ?_)
    have u_9 : y_8.toInt = (xs (i0 + 3).toNatClampNeg).toInt := by rw [ey_8, ey_7]
    refine S_calli (va_runV (As := [.int y_2, .int y_5, .int y_8]) (rest := []) ⟨hx, hb, hml, hown, hts⟩ (k_Wevens_2 l D k A a z G y_2 y_5 y_8 hv_0_0 hv_0_1 hv_6_4) (cwV 3 hts (gd_V hgd m1053 m1054 m1055 m117 m1056) rfl rfl rfl (by decide +kernel) ⟨Nat.le_of_ble_eq_true rfl, Nat.le_of_ble_eq_true rfl⟩) (pre_V hW hB_G hK hZ hS kd_0 rfl) rfl rfl hl.1 rfl (lv_room (Nat.le_of_ble_eq_true rfl)) dL_law_769 ⟨Nat.le_of_ble_eq_true rfl, Nat.le_of_ble_eq_true rfl⟩) hS (fun r_10 G_11 H locs hpo hW hS => ?_)
    have hX_14 : P_Wevens_2 y_2 y_5 y_8 G r_10 G_11 := hpo
    obtain ⟨hB_G_11, hq_12, -⟩ := hpo
    refine lv_pop hx hb dL_law_772 rfl ?_
    refine lv_aload_n hx hb dL_law_773 rfl (lv_at hl 2 rfl) ?_
    refine lv_aload_n hx hb dL_law_774 rfl (lv_at hl 0 rfl) ?_
    refine lv_iload_n hx hb dL_law_775 rfl (lv_at hl 3 rfl) ?_
    refine lv_iconst (v := 1) hx hb dL_law_776 (by decide) ?_
    refine lv_iadd hx hb dL_law_777 ?_
    refine lv_topi (fun y_15 ey_15 => ?_)
    have ty_15 : y_15.toInt = i0.toInt + 1 := xI_add rfl rfl ey_15 (by omega) (by omega)
    refine va_sld hx hb hX hbl hbA hS (vin (by omega) (by omega)) dL_law_778 ?_
    refine lv_topi (fun y_16 ey_16 => ?_)
    have u_17 : y_16.toInt = (xs (i0 + 1).toNatClampNeg).toInt := by rw [ey_16, ey_15]
    refine lv_aload_n hx hb dL_law_779 rfl (lv_at hl 0 rfl) ?_
    refine lv_iload_n hx hb dL_law_780 rfl (lv_at hl 3 rfl) ?_
    refine lv_iconst (v := 2) hx hb dL_law_781 (by decide) ?_
    refine lv_iadd hx hb dL_law_782 ?_
    refine lv_topi (fun y_18 ey_18 => ?_)
    have ty_18 : y_18.toInt = i0.toInt + 2 := xI_add rfl rfl ey_18 (by omega) (by omega)
    refine va_sld hx hb hX hbl hbA hS (vin (by omega) (by omega)) dL_law_783 ?_
    refine lv_topi (fun y_19 ey_19 => ?_)
    have u_20 : y_19.toInt = (xs (i0 + 2).toNatClampNeg).toInt := by rw [ey_19, ey_18]
    refine lv_aload_n hx hb dL_law_784 rfl (lv_at hl 0 rfl) ?_
    refine lv_iload_n hx hb dL_law_785 rfl (lv_at hl 3 rfl) ?_
    refine lv_iconst (v := 3) hx hb dL_law_786 (by decide) ?_
    refine lv_iadd hx hb dL_law_787 ?_
    refine lv_topi (fun y_21 ey_21 => ?_)
    have ty_21 : y_21.toInt = i0.toInt + 3 := xI_add rfl rfl ey_21 (by omega) (by omega)
    refine va_sld hx hb hX hbl hbA hS (vin (by omega) (by omega)) dL_law_788 ?_
    refine lv_topi (fun y_22 ey_22 => ?_)
    have u_23 : y_22.toInt = (xs (i0 + 3).toNatClampNeg).toInt := by rw [ey_22, ey_21]
    have g_24 : gP G_11 = gP G := gP_fr (rs := [33, 37, 38, 39, 40, 42]) (fs := [(0, 12), (6, 3), (7, 1), (7, 2), (7, 3), (7, 4), (7, 5), (7, 6), (7, 7)]) (Fr.rf.call hq_12 (by decide) (by decide)) (by decide) (by decide)
    have g_25 : gW G_11 = gW G := gW_fr (rs := [33, 37, 38, 39, 40, 42]) (fs := [(0, 12), (6, 3), (7, 1), (7, 2), (7, 3), (7, 4), (7, 5), (7, 6), (7, 7)]) (Fr.rf.call hq_12 (by decide) (by decide)) (by decide) (by decide)
    refine S_calli (va_runV (As := [.int y_16, .int y_19, .int y_22]) (rest := []) ⟨hx, hb, hml, hown, hts⟩ (n_evens l D k A a z G_11 y_16 y_19 y_22 (by omega) (by omega)) (cwV 3 hts (gd_V hgd m1895 m1896 m1897 m131 m1898) rfl rfl rfl (by decide +kernel) ⟨Nat.le_of_ble_eq_true rfl, Nat.le_of_ble_eq_true rfl⟩) (pre_V hW hB_G_11 hK hZ hS kd_66 rfl) rfl rfl hl.1 rfl (lv_room (Nat.le_of_ble_eq_true rfl)) dL_law_789 ⟨Nat.le_of_ble_eq_true rfl, Nat.le_of_ble_eq_true rfl⟩) hS (fun r_26 G_27 H locs hpo hW hS => ?_)
    have hX_30 : Q_evens y_16 y_19 y_22 G_11 r_26 G_27 := hpo
    obtain ⟨hB_G_27, hq_28, -⟩ := hpo
    have u_31 := L_evens_2 hX_14 hX_30 (by omega) (by omega) (by omega) (by omega)
    refine lv_pop hx hb dL_law_792 rfl ?_
    refine lv_goto (tgt := 1641) hx hb dL_law_793 (by decide) ?_
    have g_32 : gO G_27 = gO G := gO_fr (rs := [33, 37, 38, 39, 40, 42, 76, 97, 98, 100]) (fs := [(0, 12), (6, 3), (7, 1), (7, 2), (7, 3), (7, 4), (7, 5), (7, 6), (7, 7), (66, 59), (66, 60), (66, 61), (66, 62), (66, 63), (66, 66)]) ((Fr.rf.call hq_12 (by decide) (by decide)).call hq_28 (by decide) (by decide)) (by decide) (by decide)
    have g_33 : gP G_27 = gP G := gP_fr (rs := [33, 37, 38, 39, 40, 42, 76, 97, 98, 100]) (fs := [(0, 12), (6, 3), (7, 1), (7, 2), (7, 3), (7, 4), (7, 5), (7, 6), (7, 7), (66, 59), (66, 60), (66, 61), (66, 62), (66, 63), (66, 66)]) ((Fr.rf.call hq_12 (by decide) (by decide)).call hq_28 (by decide) (by decide)) (by decide) (by decide)
    have g_34 : gS G_27 = gS G := gS_fr (rs := [33, 37, 38, 39, 40, 42, 76, 97, 98, 100]) (fs := [(0, 12), (6, 3), (7, 1), (7, 2), (7, 3), (7, 4), (7, 5), (7, 6), (7, 7), (66, 59), (66, 60), (66, 61), (66, 62), (66, 63), (66, 66)]) ((Fr.rf.call hq_12 (by decide) (by decide)).call hq_28 (by decide) (by decide)) (by decide) (by decide)
    have g_35 : gTE G_27 = gTE G := gTE_fr (rs := [33, 37, 38, 39, 40, 42, 76, 97, 98, 100]) (fs := [(0, 12), (6, 3), (7, 1), (7, 2), (7, 3), (7, 4), (7, 5), (7, 6), (7, 7), (66, 59), (66, 60), (66, 61), (66, 62), (66, 63), (66, 66)]) ((Fr.rf.call hq_12 (by decide) (by decide)).call hq_28 (by decide) (by decide)) (by decide) (by decide)
    have g_36 : gW G_27 = gW G := gW_fr (rs := [33, 37, 38, 39, 40, 42, 76, 97, 98, 100]) (fs := [(0, 12), (6, 3), (7, 1), (7, 2), (7, 3), (7, 4), (7, 5), (7, 6), (7, 7), (66, 59), (66, 60), (66, 61), (66, 62), (66, 63), (66, 66)]) ((Fr.rf.call hq_12 (by decide) (by decide)).call hq_28 (by decide) (by decide)) (by decide) (by decide)
    have b_37 : 0 ≤ (G.1 0 11).toInt ∧ (G.1 0 11).toInt ≤ 1600 := hB_G.i 0 11 rfl rfl
    have g_38 : (G_27.1 0 11).toInt = (G.1 0 11).toInt := by rw [show G_27.1 0 11 = (G.1 0 11) from ((hq_28.i 0 11 (by decide) (by decide)).trans (hq_12.i 0 11 (by decide) (by decide)))]
    have b_39 : 0 ≤ (G.1 3 7).toInt ∧ (G.1 3 7).toInt ≤ 4 := hB_G.i 3 7 rfl rfl
    have g_40 : (G_27.1 3 7).toInt = (G.1 3 7).toInt := by rw [show G_27.1 3 7 = (G.1 3 7) from ((hq_28.i 3 7 (by decide) (by decide)).trans (hq_12.i 3 7 (by decide) (by decide)))]
    have b_41 : (-1) ≤ (G.1 3 8).toInt ∧ (G.1 3 8).toInt ≤ 1600 := hB_G.i 3 8 rfl rfl
    have g_42 : (G_27.1 3 8).toInt = (G.1 3 8).toInt := by rw [show G_27.1 3 8 = (G.1 3 8) from ((hq_28.i 3 8 (by decide) (by decide)).trans (hq_12.i 3 8 (by decide) (by decide)))]
    have b_43 : 0 ≤ (G.1 30 4).toInt ∧ (G.1 30 4).toInt ≤ 40 := hB_G.i 30 4 rfl rfl
    have g_44 : (G_27.1 30 4).toInt = (G.1 30 4).toInt := by rw [show G_27.1 30 4 = (G.1 30 4) from ((hq_28.i 30 4 (by decide) (by decide)).trans (hq_12.i 30 4 (by decide) (by decide)))]
    have b_45 : 0 ≤ (G.1 30 5).toInt ∧ (G.1 30 5).toInt ≤ 40 := hB_G.i 30 5 rfl rfl
    have g_46 : (G_27.1 30 5).toInt = (G.1 30 5).toInt := by rw [show G_27.1 30 5 = (G.1 30 5) from ((hq_28.i 30 5 (by decide) (by decide)).trans (hq_12.i 30 5 (by decide) (by decide)))]
    have b_47 : 0 ≤ (G.1 31 6).toInt ∧ (G.1 31 6).toInt ≤ 100000 := hB_G.i 31 6 rfl rfl
    have g_48 : (G_27.1 31 6).toInt = (G.1 31 6).toInt := by rw [show G_27.1 31 6 = (G.1 31 6) from ((hq_28.i 31 6 (by decide) (by decide)).trans (hq_12.i 31 6 (by decide) (by decide)))]
    have b_49 : 0 ≤ (G.1 66 1).toInt ∧ (G.1 66 1).toInt ≤ 1600 := hB_G.i 66 1 rfl rfl
    have g_50 : (G_27.1 66 1).toInt = (G.1 66 1).toInt := by rw [show G_27.1 66 1 = (G.1 66 1) from ((hq_28.i 66 1 (by decide) (by decide)).trans (hq_12.i 66 1 (by decide) (by decide)))]
    have b_51 : 0 ≤ (G.1 66 2).toInt ∧ (G.1 66 2).toInt ≤ 4 := hB_G.i 66 2 rfl rfl
    have g_52 : (G_27.1 66 2).toInt = (G.1 66 2).toInt := by rw [show G_27.1 66 2 = (G.1 66 2) from ((hq_28.i 66 2 (by decide) (by decide)).trans (hq_12.i 66 2 (by decide) (by decide)))]
    have b_53 : (-1) ≤ (G.1 66 3).toInt ∧ (G.1 66 3).toInt ≤ 1600 := hB_G.i 66 3 rfl rfl
    have g_54 : (G_27.1 66 3).toInt = (G.1 66 3).toInt := by rw [show G_27.1 66 3 = (G.1 66 3) from ((hq_28.i 66 3 (by decide) (by decide)).trans (hq_12.i 66 3 (by decide) (by decide)))]
    have b_55 : 0 ≤ (G.1 66 78).toInt ∧ (G.1 66 78).toInt ≤ 40 := hB_G.i 66 78 rfl rfl
    have g_56 : (G_27.1 66 78).toInt = (G.1 66 78).toInt := by rw [show G_27.1 66 78 = (G.1 66 78) from ((hq_28.i 66 78 (by decide) (by decide)).trans (hq_12.i 66 78 (by decide) (by decide)))]
    have b_57 : 0 ≤ (G.1 66 79).toInt ∧ (G.1 66 79).toInt ≤ 40 := hB_G.i 66 79 rfl rfl
    have g_58 : (G_27.1 66 79).toInt = (G.1 66 79).toInt := by rw [show G_27.1 66 79 = (G.1 66 79) from ((hq_28.i 66 79 (by decide) (by decide)).trans (hq_12.i 66 79 (by decide) (by decide)))]
    have b_59 : 0 ≤ (G.1 66 86).toInt ∧ (G.1 66 86).toInt ≤ 100000 := hB_G.i 66 86 rfl rfl
    have g_60 : (G_27.1 66 86).toInt = (G.1 66 86).toInt := by rw [show G_27.1 66 86 = (G.1 66 86) from ((hq_28.i 66 86 (by decide) (by decide)).trans (hq_12.i 66 86 (by decide) (by decide)))]
    have b_61 : 0 ≤ (G.1 96 0).toInt ∧ (G.1 96 0).toInt ≤ 9 := hB_G.i 96 0 rfl rfl
    have g_62 : (G_27.1 96 0).toInt = (G.1 96 0).toInt := by rw [show G_27.1 96 0 = (G.1 96 0) from ((hq_28.i 96 0 (by decide) (by decide)).trans (hq_12.i 96 0 (by decide) (by decide)))]
    have b_63 : 0 ≤ (G.1 96 1).toInt ∧ (G.1 96 1).toInt ≤ 9 := hB_G.i 96 1 rfl rfl
    have g_64 : (G_27.1 96 1).toInt = (G.1 96 1).toInt := by rw [show G_27.1 96 1 = (G.1 96 1) from ((hq_28.i 96 1 (by decide) (by decide)).trans (hq_12.i 96 1 (by decide) (by decide)))]
    have b_65 : 0 ≤ (G.1 96 2).toInt ∧ (G.1 96 2).toInt ≤ 9 := hB_G.i 96 2 rfl rfl
    have g_66 : (G_27.1 96 2).toInt = (G.1 96 2).toInt := by rw [show G_27.1 96 2 = (G.1 96 2) from ((hq_28.i 96 2 (by decide) (by decide)).trans (hq_12.i 96 2 (by decide) (by decide)))]
    exact K G_27 _ _ _ (Or.inr ⟨((((hq_28.r 0 0 (by decide) (by decide)).trans (hq_12.r 0 0 (by decide) (by decide)))).trans (hv_0_0)), ((((hq_28.r 0 1 (by decide) (by decide)).trans (hq_12.r 0 1 (by decide) (by decide)))).trans (hv_0_1)), ((((hq_28.r 6 4 (by decide) (by decide)).trans (hq_12.r 6 4 (by decide) (by decide)))).trans (hv_6_4)), by omega, by omega, by omega, by omega, by omega, by omega, by omega, by omega, by omega, by omega, by omega, by omega, by omega⟩) hB_G_27 hW hS (lv_sub hl [0, 1, 2, 3] rfl)
