set_option maxRecDepth 100000 in
set_option maxHeartbeats 1000000 in
theorem lw_16 {xt : Nat × (Nat → Int)} {M : gj_M} {i : Int} (hx : ∀ j, gj_in (xt.2 j)) (hN : xt.1 ≤ 2560) (hi : 0 ≤ i ∧ i + 5 ≤ (xt.1 : Int)) (hR : R_ M M) {Q : Option gj_V → List gj_H → gj_M → Prop} (kk : ∀ M2 : gj_M, R_ M2 M2 → gj_G xt YL_law gS 88 14392 1017 [some (gR 1001), some (gR 0), some (gR 69), some (gI i)] [] M2 Q) : gj_G xt YL_law gS 88 14392 598 [some (gR 1001), some (gR 0), some (gR 69), some (gI i)] [] M Q := by
  refine gj_aload_n 599 dL_law_598 rfl rfl ?_
  refine gj_aload_n 600 dL_law_599 rfl rfl ?_
  refine gj_iload_n 601 dL_law_600 rfl rfl ?_
  refine gj_iconst 602 dL_law_601 rfl ?_
  refine gj_iadd 603 dL_law_602 rfl ?_
  refine gj_xld 604 dL_law_603 rfl (by omega) (by omega) ?_
  refine gj_callV 607 dL_law_604 rfl ok_7_ask ml_L_82 iv_7_ask (As := [gI _]) rfl rfl rfl rfl (Nat.le_of_ble_eq_true rfl) ⟨Nat.le_of_ble_eq_true rfl, Nat.le_of_ble_eq_true rfl⟩ (Nat.le_of_ble_eq_true rfl) ⟨rfl, rfl⟩ ⟨Nat.le_of_ble_eq_true rfl, Nat.le_of_ble_eq_true rfl⟩ (s7_ask hR.I (hx _)) (fun r_604 M_604 q_604 => ?_)
  obtain ⟨rfl, hE⟩ := q_604
  have hR1 := hR.k (hE.cK (by decide))
  have hq := hR1.ask (xt.2 (i + 1).toNat)
  show gj_G _ _ gS _ _ 607 _ (gI _ :: []) M_604 _
  refine gj_aload_n 608 dL_law_607 rfl rfl ?_
  refine gj_aload_n 609 dL_law_608 rfl rfl ?_
  refine gj_iload_n 610 dL_law_609 rfl rfl ?_
  refine gj_iconst 611 dL_law_610 rfl ?_
  refine gj_iadd 612 dL_law_611 rfl ?_
  refine gj_xld 613 dL_law_612 rfl (by omega) (by omega) ?_
  refine gj_fV 616 dL_law_613 rfl ok_8_ask ml_L_85 iv_8_ask (As := [gI _]) rfl rfl rfl rfl (Nat.le_of_ble_eq_true rfl) ⟨Nat.le_of_ble_eq_true rfl, Nat.le_of_ble_eq_true rfl⟩ (Nat.le_of_ble_eq_true rfl) ⟨rfl, rfl⟩ ⟨Nat.le_of_ble_eq_true rfl, Nat.le_of_ble_eq_true rfl⟩ (s8_ask hR1.1 hR1.yI (hx _)) ?_
  refine gj_eqT 1017 619 dL_law_616 (by decide) rfl hq ?_
  exact kk _ (hR1.cE hE (by decide))

set_option maxRecDepth 100000 in
set_option maxHeartbeats 1000000 in
theorem lw_17 {xt : Nat × (Nat → Int)} {M : gj_M} {i : Int} (hx : ∀ j, gj_in (xt.2 j)) (hN : xt.1 ≤ 2560) (hi : 0 ≤ i ∧ i + 5 ≤ (xt.1 : Int)) (hR : R_ M M) {Q : Option gj_V → List gj_H → gj_M → Prop} (kk : ∀ M2 : gj_M, R_ M2 M2 → gj_G xt YL_law gS 88 14392 1017 [some (gR 1001), some (gR 0), some (gR 69), some (gI i)] [] M2 Q) : gj_G xt YL_law gS 88 14392 621 [some (gR 1001), some (gR 0), some (gR 69), some (gI i)] [] M Q := by
  refine gj_aload_n 622 dL_law_621 rfl rfl ?_
  refine gj_aload_n 623 dL_law_622 rfl rfl ?_
  refine gj_iload_n 624 dL_law_623 rfl rfl ?_
  refine gj_iconst 625 dL_law_624 rfl ?_
  refine gj_iadd 626 dL_law_625 rfl ?_
  refine gj_xld 627 dL_law_626 rfl (by omega) (by omega) ?_
  refine gj_aload_n 628 dL_law_627 rfl rfl ?_
  refine gj_iload_n 629 dL_law_628 rfl rfl ?_
  refine gj_iconst 630 dL_law_629 rfl ?_
  refine gj_iadd 631 dL_law_630 rfl ?_
  refine gj_xld 632 dL_law_631 rfl (by omega) (by omega) ?_
  refine gj_i2l 633 dL_law_632 rfl (hx _) ?_
  refine gj_bipush 635 dL_law_633 rfl (by decide) ?_
  refine gj_lshl 636 dL_law_635 rfl ?_
  refine gj_aload_n 637 dL_law_636 rfl rfl ?_
  refine gj_iload_n 638 dL_law_637 rfl rfl ?_
  refine gj_iconst 639 dL_law_638 rfl ?_
  refine gj_iadd 640 dL_law_639 rfl ?_
  refine gj_xld 641 dL_law_640 rfl (by omega) (by omega) ?_
  refine gj_i2l 642 dL_law_641 rfl (hx _) ?_
  refine gj_ldc2 (a := 4294967295) 645 dL_law_642 rfl lc_L_86 ?_
  refine gj_land 646 dL_law_645 rfl ?_
  refine gj_lor 647 dL_law_646 rfl ?_
  refine gj_callV 650 dL_law_647 rfl ok_7_judge ml_L_88 iv_7_judge (As := [gI _, gL _]) rfl rfl rfl rfl (Nat.le_of_ble_eq_true rfl) ⟨Nat.le_of_ble_eq_true rfl, Nat.le_of_ble_eq_true rfl⟩ (Nat.le_of_ble_eq_true rfl) ⟨rfl, rfl⟩ ⟨Nat.le_of_ble_eq_true rfl, Nat.le_of_ble_eq_true rfl⟩ (s7_judge hR.I (hx _) (gj_in64 _)) (fun r_647 M_647 q_647 => ?_)
  obtain ⟨rfl, hE⟩ := q_647
  have hR1 := hR.k (hE.cK (by decide))
  show gj_G _ _ gS _ _ 650 _ (gI (x_judge M _ _) :: []) M_647 _
  refine gj_aload_n 651 dL_law_650 rfl rfl ?_
  refine gj_aload_n 652 dL_law_651 rfl rfl ?_
  refine gj_iload_n 653 dL_law_652 rfl rfl ?_
  refine gj_iconst 654 dL_law_653 rfl ?_
  refine gj_iadd 655 dL_law_654 rfl ?_
  refine gj_xld 656 dL_law_655 rfl (by omega) (by omega) ?_
  refine gj_aload_n 657 dL_law_656 rfl rfl ?_
  refine gj_iload_n 658 dL_law_657 rfl rfl ?_
  refine gj_iconst 659 dL_law_658 rfl ?_
  refine gj_iadd 660 dL_law_659 rfl ?_
  refine gj_xld 661 dL_law_660 rfl (by omega) (by omega) ?_
  refine gj_i2l 662 dL_law_661 rfl (hx _) ?_
  refine gj_bipush 664 dL_law_662 rfl (by decide) ?_
  refine gj_lshl 665 dL_law_664 rfl ?_
  refine gj_aload_n 666 dL_law_665 rfl rfl ?_
  refine gj_iload_n 667 dL_law_666 rfl rfl ?_
  refine gj_iconst 668 dL_law_667 rfl ?_
  refine gj_iadd 669 dL_law_668 rfl ?_
  refine gj_xld 670 dL_law_669 rfl (by omega) (by omega) ?_
  refine gj_i2l 671 dL_law_670 rfl (hx _) ?_
  refine gj_ldc2 (a := 4294967295) 674 dL_law_671 rfl lc_L_86 ?_
  refine gj_land 675 dL_law_674 rfl ?_
  refine gj_lor 676 dL_law_675 rfl ?_
  refine gj_callV 679 dL_law_676 rfl ok_8_judge ml_L_92 iv_8_judge (As := [gI _, gL _]) rfl rfl rfl rfl (Nat.le_of_ble_eq_true rfl) ⟨Nat.le_of_ble_eq_true rfl, Nat.le_of_ble_eq_true rfl⟩ (Nat.le_of_ble_eq_true rfl) ⟨rfl, rfl⟩ ⟨Nat.le_of_ble_eq_true rfl, Nat.le_of_ble_eq_true rfl⟩ (s8_judge hR1.1 hR1.yI (hx _) (gj_in64 _)) (fun r_676 M_676 q_676 => ?_)
  obtain ⟨rfl, hE2⟩ := q_676
  have hq := hR1.judge
  show gj_G _ _ gS _ _ 679 _ (gI (z_judge M_647 _ _) :: gI (x_judge M _ _) :: []) M_676 _
  refine gj_eqT 1017 682 dL_law_679 (by decide) rfl (hq _ _) ?_
  exact kk _ (((hR1.cE hE (by decide)).kE hE2 (by decide)).c (hE2.rK (by decide)))

set_option maxRecDepth 100000 in
set_option maxHeartbeats 1000000 in
theorem lw_18 {xt : Nat × (Nat → Int)} {M : gj_M} {i : Int} (hx : ∀ j, gj_in (xt.2 j)) (hN : xt.1 ≤ 2560) (hi : 0 ≤ i ∧ i + 5 ≤ (xt.1 : Int)) (hR : R_ M M) {Q : Option gj_V → List gj_H → gj_M → Prop} (kk : ∀ M2 : gj_M, R_ M2 M2 → gj_G xt YL_law gS 88 14392 1017 [some (gR 1001), some (gR 0), some (gR 69), some (gI i)] [] M2 Q) : gj_G xt YL_law gS 88 14392 684 [some (gR 1001), some (gR 0), some (gR 69), some (gI i)] [] M Q := by
  have hR1 := hR.k (ck_see M (xt.2 (i + 1).toNat) (xt.2 (i + 2).toNat) (xt.2 (i + 3).toNat))
  have hq := hR1.see (xt.2 (i + 1).toNat) (xt.2 (i + 2).toNat) (xt.2 (i + 3).toNat)
  refine gj_aload_n 685 dL_law_684 rfl rfl ?_
  refine gj_aload_n 686 dL_law_685 rfl rfl ?_
  refine gj_iload_n 687 dL_law_686 rfl rfl ?_
  refine gj_iconst 688 dL_law_687 rfl ?_
  refine gj_iadd 689 dL_law_688 rfl ?_
  refine gj_xld 690 dL_law_689 rfl (by omega) (by omega) ?_
  refine gj_aload_n 691 dL_law_690 rfl rfl ?_
  refine gj_iload_n 692 dL_law_691 rfl rfl ?_
  refine gj_iconst 693 dL_law_692 rfl ?_
  refine gj_iadd 694 dL_law_693 rfl ?_
  refine gj_xld 695 dL_law_694 rfl (by omega) (by omega) ?_
  refine gj_aload_n 696 dL_law_695 rfl rfl ?_
  refine gj_iload_n 697 dL_law_696 rfl rfl ?_
  refine gj_iconst 698 dL_law_697 rfl ?_
  refine gj_iadd 699 dL_law_698 rfl ?_
  refine gj_xld 700 dL_law_699 rfl (by omega) (by omega) ?_
  refine gj_fV 703 dL_law_700 rfl ok_7_see ml_L_93 iv_7_see (As := [gI _, gI _, gI _]) rfl rfl rfl rfl (Nat.le_of_ble_eq_true rfl) ⟨Nat.le_of_ble_eq_true rfl, Nat.le_of_ble_eq_true rfl⟩ (Nat.le_of_ble_eq_true rfl) ⟨rfl, rfl⟩ ⟨Nat.le_of_ble_eq_true rfl, Nat.le_of_ble_eq_true rfl⟩ (s7_see hR.g (hx _) (hx _) (hx _)) ?_
  refine gj_aload_n 704 dL_law_703 rfl rfl ?_
  refine gj_aload_n 705 dL_law_704 rfl rfl ?_
  refine gj_iload_n 706 dL_law_705 rfl rfl ?_
  refine gj_iconst 707 dL_law_706 rfl ?_
  refine gj_iadd 708 dL_law_707 rfl ?_
  refine gj_xld 709 dL_law_708 rfl (by omega) (by omega) ?_
  refine gj_aload_n 710 dL_law_709 rfl rfl ?_
  refine gj_iload_n 711 dL_law_710 rfl rfl ?_
  refine gj_iconst 712 dL_law_711 rfl ?_
  refine gj_iadd 713 dL_law_712 rfl ?_
  refine gj_xld 714 dL_law_713 rfl (by omega) (by omega) ?_
  refine gj_aload_n 715 dL_law_714 rfl rfl ?_
  refine gj_iload_n 716 dL_law_715 rfl rfl ?_
  refine gj_iconst 717 dL_law_716 rfl ?_
  refine gj_iadd 718 dL_law_717 rfl ?_
  refine gj_xld 719 dL_law_718 rfl (by omega) (by omega) ?_
  refine gj_fV 722 dL_law_719 rfl ok_8_see ml_L_96 iv_8_see (As := [gI _, gI _, gI _]) rfl rfl rfl rfl (Nat.le_of_ble_eq_true rfl) ⟨Nat.le_of_ble_eq_true rfl, Nat.le_of_ble_eq_true rfl⟩ (Nat.le_of_ble_eq_true rfl) ⟨rfl, rfl⟩ ⟨Nat.le_of_ble_eq_true rfl, Nat.le_of_ble_eq_true rfl⟩ (s8_see hR1.1 hR1.gk (hx _) (hx _) (hx _)) ?_
  refine gj_eqT 1017 725 dL_law_722 (by decide) rfl hq.1 ?_
  exact kk _ (hq.2.c (rk_see _ _ _ _))

set_option maxRecDepth 100000 in
set_option maxHeartbeats 1000000 in
theorem lw_19 {xt : Nat × (Nat → Int)} {M : gj_M} {i : Int} (hx : ∀ j, gj_in (xt.2 j)) (hN : xt.1 ≤ 2560) (hi : 0 ≤ i ∧ i + 5 ≤ (xt.1 : Int)) (hR : R_ M M) {Q : Option gj_V → List gj_H → gj_M → Prop} (kk : ∀ M2 : gj_M, R_ M2 M2 → gj_G xt YL_law gS 88 14392 1017 [some (gR 1001), some (gR 0), some (gR 69), some (gI i)] [] M2 Q) : gj_G xt YL_law gS 88 14392 727 [some (gR 1001), some (gR 0), some (gR 69), some (gI i)] [] M Q := by
  have hR1 := hR.k (ck_u (h := 37) (i := 0) (v := 0) (by decide))
  have hq := hR1.unsee
  refine gj_aload_n 728 dL_law_727 rfl rfl ?_
  refine gj_fV 731 dL_law_728 rfl ok_7_unsee ml_L_97 iv_7_unsee (As := []) rfl rfl rfl rfl (Nat.le_of_ble_eq_true rfl) ⟨Nat.le_of_ble_eq_true rfl, Nat.le_of_ble_eq_true rfl⟩ (Nat.le_of_ble_eq_true rfl) ⟨rfl, rfl⟩ ⟨Nat.le_of_ble_eq_true rfl, Nat.le_of_ble_eq_true rfl⟩ (s7_unsee) ?_
  refine gj_aload_n 732 dL_law_731 rfl rfl ?_
  refine gj_fV 735 dL_law_732 rfl ok_8_unsee ml_L_100 iv_8_unsee (As := []) rfl rfl rfl rfl (Nat.le_of_ble_eq_true rfl) ⟨Nat.le_of_ble_eq_true rfl, Nat.le_of_ble_eq_true rfl⟩ (Nat.le_of_ble_eq_true rfl) ⟨rfl, rfl⟩ ⟨Nat.le_of_ble_eq_true rfl, Nat.le_of_ble_eq_true rfl⟩ (s8_unsee hR1.1) ?_
  refine gj_eqT 1017 738 dL_law_735 (by decide) rfl hq.1 ?_
  exact kk _ (hq.2.c (rk_u (by decide)))

set_option maxRecDepth 100000 in
set_option maxHeartbeats 1000000 in
theorem lw_20 {xt : Nat × (Nat → Int)} {M : gj_M} {i : Int} (hx : ∀ j, gj_in (xt.2 j)) (hN : xt.1 ≤ 2560) (hi : 0 ≤ i ∧ i + 5 ≤ (xt.1 : Int)) (hR : R_ M M) {Q : Option gj_V → List gj_H → gj_M → Prop} (kk : ∀ M2 : gj_M, R_ M2 M2 → gj_G xt YL_law gS 88 14392 1017 [some (gR 1001), some (gR 0), some (gR 69), some (gI i)] [] M2 Q) : gj_G xt YL_law gS 88 14392 740 [some (gR 1001), some (gR 0), some (gR 69), some (gI i)] [] M Q := by
  have hq := hR.which
  refine gj_aload_n 741 dL_law_740 rfl rfl ?_
  refine gj_fV 744 dL_law_741 rfl ok_7_which ml_L_101 iv_7_which (As := []) rfl rfl rfl rfl (Nat.le_of_ble_eq_true rfl) ⟨Nat.le_of_ble_eq_true rfl, Nat.le_of_ble_eq_true rfl⟩ (Nat.le_of_ble_eq_true rfl) ⟨rfl, rfl⟩ ⟨Nat.le_of_ble_eq_true rfl, Nat.le_of_ble_eq_true rfl⟩ (s7_which hR.I hR.g hR.gc) ?_
  refine gj_aload_n 745 dL_law_744 rfl rfl ?_
  refine gj_fV 748 dL_law_745 rfl ok_8_which ml_L_104 iv_8_which (As := []) rfl rfl rfl rfl (Nat.le_of_ble_eq_true rfl) ⟨Nat.le_of_ble_eq_true rfl, Nat.le_of_ble_eq_true rfl⟩ (Nat.le_of_ble_eq_true rfl) ⟨rfl, rfl⟩ ⟨Nat.le_of_ble_eq_true rfl, Nat.le_of_ble_eq_true rfl⟩ (s8_which hR.1 hR.yI hR.gk hR.gkc) ?_
  refine gj_eqT 1017 751 dL_law_748 (by decide) rfl hq ?_
  exact kk _ hR

set_option maxRecDepth 100000 in
set_option maxHeartbeats 1000000 in
theorem lw_21 {xt : Nat × (Nat → Int)} {M : gj_M} {i : Int} (hx : ∀ j, gj_in (xt.2 j)) (hN : xt.1 ≤ 2560) (hi : 0 ≤ i ∧ i + 5 ≤ (xt.1 : Int)) (hR : R_ M M) {Q : Option gj_V → List gj_H → gj_M → Prop} (kk : ∀ M2 : gj_M, R_ M2 M2 → gj_G xt YL_law gS 88 14392 1017 [some (gR 1001), some (gR 0), some (gR 69), some (gI i)] [] M2 Q) : gj_G xt YL_law gS 88 14392 753 [some (gR 1001), some (gR 0), some (gR 69), some (gI i)] [] M Q := by
  refine gj_aload_n 754 dL_law_753 rfl rfl ?_
  refine gj_aload_n 755 dL_law_754 rfl rfl ?_
  refine gj_iload_n 756 dL_law_755 rfl rfl ?_
  refine gj_iconst 757 dL_law_756 rfl ?_
  refine gj_iadd 758 dL_law_757 rfl ?_
  refine gj_xld 759 dL_law_758 rfl (by omega) (by omega) ?_
  refine gj_aload_n 760 dL_law_759 rfl rfl ?_
  refine gj_iload_n 761 dL_law_760 rfl rfl ?_
  refine gj_iconst 762 dL_law_761 rfl ?_
  refine gj_iadd 763 dL_law_762 rfl ?_
  refine gj_xld 764 dL_law_763 rfl (by omega) (by omega) ?_
  refine gj_if_eq 771 767 dL_law_764 (by decide) rfl (hx _) (fun c_764 => ?_) (fun c_764 => ?_)
  · refine gj_iconst 772 dL_law_771 rfl ?_
    refine gj_fV 775 dL_law_772 rfl ok_7_share ml_L_105 iv_7_share (As := [gI _, gI _]) rfl rfl rfl rfl (Nat.le_of_ble_eq_true rfl) ⟨Nat.le_of_ble_eq_true rfl, Nat.le_of_ble_eq_true rfl⟩ (Nat.le_of_ble_eq_true rfl) ⟨rfl, rfl⟩ ⟨Nat.le_of_ble_eq_true rfl, Nat.le_of_ble_eq_true rfl⟩ (s7_share hR.I (hx _) (by decide)) ?_
    refine gj_aload_n 776 dL_law_775 rfl rfl ?_
    refine gj_aload_n 777 dL_law_776 rfl rfl ?_
    refine gj_iload_n 778 dL_law_777 rfl rfl ?_
    refine gj_iconst 779 dL_law_778 rfl ?_
    refine gj_iadd 780 dL_law_779 rfl ?_
    refine gj_xld 781 dL_law_780 rfl (by omega) (by omega) ?_
    refine gj_aload_n 782 dL_law_781 rfl rfl ?_
    refine gj_iload_n 783 dL_law_782 rfl rfl ?_
    refine gj_iconst 784 dL_law_783 rfl ?_
    refine gj_iadd 785 dL_law_784 rfl ?_
    refine gj_xld 786 dL_law_785 rfl (by omega) (by omega) ?_
    refine gj_if_eq 793 789 dL_law_786 (by decide) rfl (hx _) (fun c_786 => ?_) (fun c_786 => ?_)
    · refine gj_iconst 794 dL_law_793 rfl ?_
      refine gj_fV 797 dL_law_794 rfl ok_8_share ml_L_109 iv_8_share (As := [gI _, gI _]) rfl rfl rfl rfl (Nat.le_of_ble_eq_true rfl) ⟨Nat.le_of_ble_eq_true rfl, Nat.le_of_ble_eq_true rfl⟩ (Nat.le_of_ble_eq_true rfl) ⟨rfl, rfl⟩ ⟨Nat.le_of_ble_eq_true rfl, Nat.le_of_ble_eq_true rfl⟩ (s8_share hR.1 hR.yI (hx _) (by decide) hR.up1) ?_
      first
      | exact absurd c_764 c_786
      | exact absurd c_786 c_764
      | (
        refine gj_eqT 1017 800 dL_law_797 (by decide) rfl (hR.share _ _) ?_
        exact kk _ hR)
    · refine gj_iconst 790 dL_law_789 rfl ?_
      refine gj_goto 794 dL_law_790 (by decide) ?_
      refine gj_fV 797 dL_law_794 rfl ok_8_share ml_L_109 iv_8_share (As := [gI _, gI _]) rfl rfl rfl rfl (Nat.le_of_ble_eq_true rfl) ⟨Nat.le_of_ble_eq_true rfl, Nat.le_of_ble_eq_true rfl⟩ (Nat.le_of_ble_eq_true rfl) ⟨rfl, rfl⟩ ⟨Nat.le_of_ble_eq_true rfl, Nat.le_of_ble_eq_true rfl⟩ (s8_share hR.1 hR.yI (hx _) (by decide) hR.up1) ?_
      first
      | exact absurd c_764 c_786
      | exact absurd c_786 c_764
      | (
        refine gj_eqT 1017 800 dL_law_797 (by decide) rfl (hR.share _ _) ?_
        exact kk _ hR)
  · refine gj_iconst 768 dL_law_767 rfl ?_
    refine gj_goto 772 dL_law_768 (by decide) ?_
    refine gj_fV 775 dL_law_772 rfl ok_7_share ml_L_105 iv_7_share (As := [gI _, gI _]) rfl rfl rfl rfl (Nat.le_of_ble_eq_true rfl) ⟨Nat.le_of_ble_eq_true rfl, Nat.le_of_ble_eq_true rfl⟩ (Nat.le_of_ble_eq_true rfl) ⟨rfl, rfl⟩ ⟨Nat.le_of_ble_eq_true rfl, Nat.le_of_ble_eq_true rfl⟩ (s7_share hR.I (hx _) (by decide)) ?_
    refine gj_aload_n 776 dL_law_775 rfl rfl ?_
    refine gj_aload_n 777 dL_law_776 rfl rfl ?_
    refine gj_iload_n 778 dL_law_777 rfl rfl ?_
    refine gj_iconst 779 dL_law_778 rfl ?_
    refine gj_iadd 780 dL_law_779 rfl ?_
    refine gj_xld 781 dL_law_780 rfl (by omega) (by omega) ?_
    refine gj_aload_n 782 dL_law_781 rfl rfl ?_
    refine gj_iload_n 783 dL_law_782 rfl rfl ?_
    refine gj_iconst 784 dL_law_783 rfl ?_
    refine gj_iadd 785 dL_law_784 rfl ?_
    refine gj_xld 786 dL_law_785 rfl (by omega) (by omega) ?_
    refine gj_if_eq 793 789 dL_law_786 (by decide) rfl (hx _) (fun c_786 => ?_) (fun c_786 => ?_)
    · refine gj_iconst 794 dL_law_793 rfl ?_
      refine gj_fV 797 dL_law_794 rfl ok_8_share ml_L_109 iv_8_share (As := [gI _, gI _]) rfl rfl rfl rfl (Nat.le_of_ble_eq_true rfl) ⟨Nat.le_of_ble_eq_true rfl, Nat.le_of_ble_eq_true rfl⟩ (Nat.le_of_ble_eq_true rfl) ⟨rfl, rfl⟩ ⟨Nat.le_of_ble_eq_true rfl, Nat.le_of_ble_eq_true rfl⟩ (s8_share hR.1 hR.yI (hx _) (by decide) hR.up1) ?_
      first
      | exact absurd c_764 c_786
      | exact absurd c_786 c_764
      | (
        refine gj_eqT 1017 800 dL_law_797 (by decide) rfl (hR.share _ _) ?_
        exact kk _ hR)
    · refine gj_iconst 790 dL_law_789 rfl ?_
      refine gj_goto 794 dL_law_790 (by decide) ?_
      refine gj_fV 797 dL_law_794 rfl ok_8_share ml_L_109 iv_8_share (As := [gI _, gI _]) rfl rfl rfl rfl (Nat.le_of_ble_eq_true rfl) ⟨Nat.le_of_ble_eq_true rfl, Nat.le_of_ble_eq_true rfl⟩ (Nat.le_of_ble_eq_true rfl) ⟨rfl, rfl⟩ ⟨Nat.le_of_ble_eq_true rfl, Nat.le_of_ble_eq_true rfl⟩ (s8_share hR.1 hR.yI (hx _) (by decide) hR.up1) ?_
      first
      | exact absurd c_764 c_786
      | exact absurd c_786 c_764
      | (
        refine gj_eqT 1017 800 dL_law_797 (by decide) rfl (hR.share _ _) ?_
        exact kk _ hR)

set_option maxRecDepth 100000 in
set_option maxHeartbeats 1000000 in
theorem lw_22 {xt : Nat × (Nat → Int)} {M : gj_M} {i : Int} (hx : ∀ j, gj_in (xt.2 j)) (hN : xt.1 ≤ 2560) (hi : 0 ≤ i ∧ i + 5 ≤ (xt.1 : Int)) (hR : R_ M M) {Q : Option gj_V → List gj_H → gj_M → Prop} (kk : ∀ M2 : gj_M, R_ M2 M2 → gj_G xt YL_law gS 88 14392 1017 [some (gR 1001), some (gR 0), some (gR 69), some (gI i)] [] M2 Q) : gj_G xt YL_law gS 88 14392 802 [some (gR 1001), some (gR 0), some (gR 69), some (gI i)] [] M Q := by
  refine gj_aload_n 803 dL_law_802 rfl rfl ?_
  refine gj_aload_n 804 dL_law_803 rfl rfl ?_
  refine gj_iload_n 805 dL_law_804 rfl rfl ?_
  refine gj_iconst 806 dL_law_805 rfl ?_
  refine gj_iadd 807 dL_law_806 rfl ?_
  refine gj_xld 808 dL_law_807 rfl (by omega) (by omega) ?_
  refine gj_aload_n 809 dL_law_808 rfl rfl ?_
  refine gj_iload_n 810 dL_law_809 rfl rfl ?_
  refine gj_iconst 811 dL_law_810 rfl ?_
  refine gj_iadd 812 dL_law_811 rfl ?_
  refine gj_xld 813 dL_law_812 rfl (by omega) (by omega) ?_
  refine gj_aload_n 814 dL_law_813 rfl rfl ?_
  refine gj_iload_n 815 dL_law_814 rfl rfl ?_
  refine gj_iconst 816 dL_law_815 rfl ?_
  refine gj_iadd 817 dL_law_816 rfl ?_
  refine gj_xld 818 dL_law_817 rfl (by omega) (by omega) ?_
  refine gj_aload_n 819 dL_law_818 rfl rfl ?_
  refine gj_iload_n 820 dL_law_819 rfl rfl ?_
  refine gj_iconst 821 dL_law_820 rfl ?_
  refine gj_iadd 822 dL_law_821 rfl ?_
  refine gj_xld 823 dL_law_822 rfl (by omega) (by omega) ?_
  refine gj_if_eq 830 826 dL_law_823 (by decide) rfl (hx _) (fun c_823 => ?_) (fun c_823 => ?_)
  · refine gj_iconst 831 dL_law_830 rfl ?_
    refine gj_fV 834 dL_law_831 rfl ok_7_lost ml_L_110 iv_7_lost (As := [gI _, gI _, gI _, gI _]) rfl rfl rfl rfl (Nat.le_of_ble_eq_true rfl) ⟨Nat.le_of_ble_eq_true rfl, Nat.le_of_ble_eq_true rfl⟩ (Nat.le_of_ble_eq_true rfl) ⟨rfl, rfl⟩ ⟨Nat.le_of_ble_eq_true rfl, Nat.le_of_ble_eq_true rfl⟩ (s7_lost hR.I (hx _) (hx _) (hx _) (by decide)) ?_
    refine gj_aload_n 835 dL_law_834 rfl rfl ?_
    refine gj_aload_n 836 dL_law_835 rfl rfl ?_
    refine gj_iload_n 837 dL_law_836 rfl rfl ?_
    refine gj_iconst 838 dL_law_837 rfl ?_
    refine gj_iadd 839 dL_law_838 rfl ?_
    refine gj_xld 840 dL_law_839 rfl (by omega) (by omega) ?_
    refine gj_aload_n 841 dL_law_840 rfl rfl ?_
    refine gj_iload_n 842 dL_law_841 rfl rfl ?_
    refine gj_iconst 843 dL_law_842 rfl ?_
    refine gj_iadd 844 dL_law_843 rfl ?_
    refine gj_xld 845 dL_law_844 rfl (by omega) (by omega) ?_
    refine gj_aload_n 846 dL_law_845 rfl rfl ?_
    refine gj_iload_n 847 dL_law_846 rfl rfl ?_
    refine gj_iconst 848 dL_law_847 rfl ?_
    refine gj_iadd 849 dL_law_848 rfl ?_
    refine gj_xld 850 dL_law_849 rfl (by omega) (by omega) ?_
    refine gj_aload_n 851 dL_law_850 rfl rfl ?_
    refine gj_iload_n 852 dL_law_851 rfl rfl ?_
    refine gj_iconst 853 dL_law_852 rfl ?_
    refine gj_iadd 854 dL_law_853 rfl ?_
    refine gj_xld 855 dL_law_854 rfl (by omega) (by omega) ?_
    refine gj_if_eq 862 858 dL_law_855 (by decide) rfl (hx _) (fun c_855 => ?_) (fun c_855 => ?_)
    · refine gj_iconst 863 dL_law_862 rfl ?_
      refine gj_fV 866 dL_law_863 rfl ok_8_lost ml_L_114 iv_8_lost (As := [gI _, gI _, gI _, gI _]) rfl rfl rfl rfl (Nat.le_of_ble_eq_true rfl) ⟨Nat.le_of_ble_eq_true rfl, Nat.le_of_ble_eq_true rfl⟩ (Nat.le_of_ble_eq_true rfl) ⟨rfl, rfl⟩ ⟨Nat.le_of_ble_eq_true rfl, Nat.le_of_ble_eq_true rfl⟩ (s8_lost hR.1 hR.yI (hx _) (hx _) (hx _) (by decide) hR.up2) ?_
      first
      | exact absurd c_823 c_855
      | exact absurd c_855 c_823
      | (
        refine gj_eqT 1017 869 dL_law_866 (by decide) rfl (hR.lost _ _ _ _) ?_
        exact kk _ hR)
    · refine gj_iconst 859 dL_law_858 rfl ?_
      refine gj_goto 863 dL_law_859 (by decide) ?_
      refine gj_fV 866 dL_law_863 rfl ok_8_lost ml_L_114 iv_8_lost (As := [gI _, gI _, gI _, gI _]) rfl rfl rfl rfl (Nat.le_of_ble_eq_true rfl) ⟨Nat.le_of_ble_eq_true rfl, Nat.le_of_ble_eq_true rfl⟩ (Nat.le_of_ble_eq_true rfl) ⟨rfl, rfl⟩ ⟨Nat.le_of_ble_eq_true rfl, Nat.le_of_ble_eq_true rfl⟩ (s8_lost hR.1 hR.yI (hx _) (hx _) (hx _) (by decide) hR.up2) ?_
      first
      | exact absurd c_823 c_855
      | exact absurd c_855 c_823
      | (
        refine gj_eqT 1017 869 dL_law_866 (by decide) rfl (hR.lost _ _ _ _) ?_
        exact kk _ hR)
  · refine gj_iconst 827 dL_law_826 rfl ?_
    refine gj_goto 831 dL_law_827 (by decide) ?_
    refine gj_fV 834 dL_law_831 rfl ok_7_lost ml_L_110 iv_7_lost (As := [gI _, gI _, gI _, gI _]) rfl rfl rfl rfl (Nat.le_of_ble_eq_true rfl) ⟨Nat.le_of_ble_eq_true rfl, Nat.le_of_ble_eq_true rfl⟩ (Nat.le_of_ble_eq_true rfl) ⟨rfl, rfl⟩ ⟨Nat.le_of_ble_eq_true rfl, Nat.le_of_ble_eq_true rfl⟩ (s7_lost hR.I (hx _) (hx _) (hx _) (by decide)) ?_
    refine gj_aload_n 835 dL_law_834 rfl rfl ?_
    refine gj_aload_n 836 dL_law_835 rfl rfl ?_
    refine gj_iload_n 837 dL_law_836 rfl rfl ?_
    refine gj_iconst 838 dL_law_837 rfl ?_
    refine gj_iadd 839 dL_law_838 rfl ?_
    refine gj_xld 840 dL_law_839 rfl (by omega) (by omega) ?_
    refine gj_aload_n 841 dL_law_840 rfl rfl ?_
    refine gj_iload_n 842 dL_law_841 rfl rfl ?_
    refine gj_iconst 843 dL_law_842 rfl ?_
    refine gj_iadd 844 dL_law_843 rfl ?_
    refine gj_xld 845 dL_law_844 rfl (by omega) (by omega) ?_
    refine gj_aload_n 846 dL_law_845 rfl rfl ?_
    refine gj_iload_n 847 dL_law_846 rfl rfl ?_
    refine gj_iconst 848 dL_law_847 rfl ?_
    refine gj_iadd 849 dL_law_848 rfl ?_
    refine gj_xld 850 dL_law_849 rfl (by omega) (by omega) ?_
    refine gj_aload_n 851 dL_law_850 rfl rfl ?_
    refine gj_iload_n 852 dL_law_851 rfl rfl ?_
    refine gj_iconst 853 dL_law_852 rfl ?_
    refine gj_iadd 854 dL_law_853 rfl ?_
    refine gj_xld 855 dL_law_854 rfl (by omega) (by omega) ?_
    refine gj_if_eq 862 858 dL_law_855 (by decide) rfl (hx _) (fun c_855 => ?_) (fun c_855 => ?_)
    · refine gj_iconst 863 dL_law_862 rfl ?_
      refine gj_fV 866 dL_law_863 rfl ok_8_lost ml_L_114 iv_8_lost (As := [gI _, gI _, gI _, gI _]) rfl rfl rfl rfl (Nat.le_of_ble_eq_true rfl) ⟨Nat.le_of_ble_eq_true rfl, Nat.le_of_ble_eq_true rfl⟩ (Nat.le_of_ble_eq_true rfl) ⟨rfl, rfl⟩ ⟨Nat.le_of_ble_eq_true rfl, Nat.le_of_ble_eq_true rfl⟩ (s8_lost hR.1 hR.yI (hx _) (hx _) (hx _) (by decide) hR.up2) ?_
      first
      | exact absurd c_823 c_855
      | exact absurd c_855 c_823
      | (
        refine gj_eqT 1017 869 dL_law_866 (by decide) rfl (hR.lost _ _ _ _) ?_
        exact kk _ hR)
    · refine gj_iconst 859 dL_law_858 rfl ?_
      refine gj_goto 863 dL_law_859 (by decide) ?_
      refine gj_fV 866 dL_law_863 rfl ok_8_lost ml_L_114 iv_8_lost (As := [gI _, gI _, gI _, gI _]) rfl rfl rfl rfl (Nat.le_of_ble_eq_true rfl) ⟨Nat.le_of_ble_eq_true rfl, Nat.le_of_ble_eq_true rfl⟩ (Nat.le_of_ble_eq_true rfl) ⟨rfl, rfl⟩ ⟨Nat.le_of_ble_eq_true rfl, Nat.le_of_ble_eq_true rfl⟩ (s8_lost hR.1 hR.yI (hx _) (hx _) (hx _) (by decide) hR.up2) ?_
      first
      | exact absurd c_823 c_855
      | exact absurd c_855 c_823
      | (
        refine gj_eqT 1017 869 dL_law_866 (by decide) rfl (hR.lost _ _ _ _) ?_
        exact kk _ hR)

set_option maxRecDepth 100000 in
set_option maxHeartbeats 1000000 in
theorem lw_23 {xt : Nat × (Nat → Int)} {M : gj_M} {i : Int} (hx : ∀ j, gj_in (xt.2 j)) (hN : xt.1 ≤ 2560) (hi : 0 ≤ i ∧ i + 5 ≤ (xt.1 : Int)) (hR : R_ M M) {Q : Option gj_V → List gj_H → gj_M → Prop} (kk : ∀ M2 : gj_M, R_ M2 M2 → gj_G xt YL_law gS 88 14392 1017 [some (gR 1001), some (gR 0), some (gR 69), some (gI i)] [] M2 Q) : gj_G xt YL_law gS 88 14392 871 [some (gR 1001), some (gR 0), some (gR 69), some (gI i)] [] M Q := by
  have hR1 := hR.k (ck_u (h := 5000) (i := 12) (v := (Int64.ofInt (Int64.ofInt (xt.2 (i + 1).toNat) <<< ((Int32.ofInt 32).toInt64 &&& 63)).toInt ||| Int64.ofInt (Int64.ofInt (xt.2 (i + 2).toNat) &&& Int64.ofInt 4294967295).toInt).toInt) (by decide))
  have hq := hR1.seed (Int64.ofInt (Int64.ofInt (xt.2 (i + 1).toNat) <<< ((Int32.ofInt 32).toInt64 &&& 63)).toInt ||| Int64.ofInt (Int64.ofInt (xt.2 (i + 2).toNat) &&& Int64.ofInt 4294967295).toInt).toInt
  refine gj_aload_n 872 dL_law_871 rfl rfl ?_
  refine gj_aload_n 873 dL_law_872 rfl rfl ?_
  refine gj_iload_n 874 dL_law_873 rfl rfl ?_
  refine gj_iconst 875 dL_law_874 rfl ?_
  refine gj_iadd 876 dL_law_875 rfl ?_
  refine gj_xld 877 dL_law_876 rfl (by omega) (by omega) ?_
  refine gj_i2l 878 dL_law_877 rfl (hx _) ?_
  refine gj_bipush 880 dL_law_878 rfl (by decide) ?_
  refine gj_lshl 881 dL_law_880 rfl ?_
  refine gj_aload_n 882 dL_law_881 rfl rfl ?_
  refine gj_iload_n 883 dL_law_882 rfl rfl ?_
  refine gj_iconst 884 dL_law_883 rfl ?_
  refine gj_iadd 885 dL_law_884 rfl ?_
  refine gj_xld 886 dL_law_885 rfl (by omega) (by omega) ?_
  refine gj_i2l 887 dL_law_886 rfl (hx _) ?_
  refine gj_ldc2 (a := 4294967295) 890 dL_law_887 rfl lc_L_86 ?_
  refine gj_land 891 dL_law_890 rfl ?_
  refine gj_lor 892 dL_law_891 rfl ?_
  refine gj_fV 895 dL_law_892 rfl ok_7_seed ml_L_115 iv_7_seed (As := [gL _]) rfl rfl rfl rfl (Nat.le_of_ble_eq_true rfl) ⟨Nat.le_of_ble_eq_true rfl, Nat.le_of_ble_eq_true rfl⟩ (Nat.le_of_ble_eq_true rfl) ⟨rfl, rfl⟩ ⟨Nat.le_of_ble_eq_true rfl, Nat.le_of_ble_eq_true rfl⟩ (s7_seed) ?_
  refine gj_aload_n 896 dL_law_895 rfl rfl ?_
  refine gj_aload_n 897 dL_law_896 rfl rfl ?_
  refine gj_iload_n 898 dL_law_897 rfl rfl ?_
  refine gj_iconst 899 dL_law_898 rfl ?_
  refine gj_iadd 900 dL_law_899 rfl ?_
  refine gj_xld 901 dL_law_900 rfl (by omega) (by omega) ?_
  refine gj_i2l 902 dL_law_901 rfl (hx _) ?_
  refine gj_bipush 904 dL_law_902 rfl (by decide) ?_
  refine gj_lshl 905 dL_law_904 rfl ?_
  refine gj_aload_n 906 dL_law_905 rfl rfl ?_
  refine gj_iload_n 907 dL_law_906 rfl rfl ?_
  refine gj_iconst 908 dL_law_907 rfl ?_
  refine gj_iadd 909 dL_law_908 rfl ?_
  refine gj_xld 910 dL_law_909 rfl (by omega) (by omega) ?_
  refine gj_i2l 911 dL_law_910 rfl (hx _) ?_
  refine gj_ldc2 (a := 4294967295) 914 dL_law_911 rfl lc_L_86 ?_
  refine gj_land 915 dL_law_914 rfl ?_
  refine gj_lor 916 dL_law_915 rfl ?_
  refine gj_fV 919 dL_law_916 rfl ok_8_seed ml_L_119 iv_8_seed (As := [gL _]) rfl rfl rfl rfl (Nat.le_of_ble_eq_true rfl) ⟨Nat.le_of_ble_eq_true rfl, Nat.le_of_ble_eq_true rfl⟩ (Nat.le_of_ble_eq_true rfl) ⟨rfl, rfl⟩ ⟨Nat.le_of_ble_eq_true rfl, Nat.le_of_ble_eq_true rfl⟩ (s8_seed hR1.1) ?_
  refine gj_lcT 920 dL_law_919 rfl hq.1 ?_
  refine gj_if_eq 1017 923 dL_law_920 (by decide) rfl (by decide) (fun _ => ?_) (fun q => absurd rfl q)
  exact kk _ (hq.2.c (rk_u (by decide)))

set_option maxRecDepth 100000 in
set_option maxHeartbeats 1000000 in
theorem lw_24 {xt : Nat × (Nat → Int)} {M : gj_M} {i : Int} (hx : ∀ j, gj_in (xt.2 j)) (hN : xt.1 ≤ 2560) (hi : 0 ≤ i ∧ i + 5 ≤ (xt.1 : Int)) (hR : R_ M M) {Q : Option gj_V → List gj_H → gj_M → Prop} (kk : ∀ M2 : gj_M, R_ M2 M2 → gj_G xt YL_law gS 88 14392 1017 [some (gR 1001), some (gR 0), some (gR 69), some (gI i)] [] M2 Q) : gj_G xt YL_law gS 88 14392 925 [some (gR 1001), some (gR 0), some (gR 69), some (gI i)] [] M Q := by
  have hR1 := hR.k (ck_looks M (xt.2 (i + 1).toNat))
  have hq := hR1.looks (xt.2 (i + 1).toNat)
  refine gj_aload_n 926 dL_law_925 rfl rfl ?_
  refine gj_aload_n 927 dL_law_926 rfl rfl ?_
  refine gj_iload_n 928 dL_law_927 rfl rfl ?_
  refine gj_iconst 929 dL_law_928 rfl ?_
  refine gj_iadd 930 dL_law_929 rfl ?_
  refine gj_xld 931 dL_law_930 rfl (by omega) (by omega) ?_
  refine gj_fV 934 dL_law_931 rfl ok_7_looks ml_L_120 iv_7_looks (As := [gI _]) rfl rfl rfl rfl (Nat.le_of_ble_eq_true rfl) ⟨Nat.le_of_ble_eq_true rfl, Nat.le_of_ble_eq_true rfl⟩ (Nat.le_of_ble_eq_true rfl) ⟨rfl, rfl⟩ ⟨Nat.le_of_ble_eq_true rfl, Nat.le_of_ble_eq_true rfl⟩ (s7_looks hR.I (hx _)) ?_
  refine gj_aload_n 935 dL_law_934 rfl rfl ?_
  refine gj_aload_n 936 dL_law_935 rfl rfl ?_
  refine gj_iload_n 937 dL_law_936 rfl rfl ?_
  refine gj_iconst 938 dL_law_937 rfl ?_
  refine gj_iadd 939 dL_law_938 rfl ?_
  refine gj_xld 940 dL_law_939 rfl (by omega) (by omega) ?_
  refine gj_fV 943 dL_law_940 rfl ok_8_looks ml_L_123 iv_8_looks (As := [gI _]) rfl rfl rfl rfl (Nat.le_of_ble_eq_true rfl) ⟨Nat.le_of_ble_eq_true rfl, Nat.le_of_ble_eq_true rfl⟩ (Nat.le_of_ble_eq_true rfl) ⟨rfl, rfl⟩ ⟨Nat.le_of_ble_eq_true rfl, Nat.le_of_ble_eq_true rfl⟩ (s8_looks hR1.1 hR1.yI (hx _)) ?_
  refine gj_eqT 1017 946 dL_law_943 (by decide) rfl hq.1 ?_
  exact kk _ (hq.2.c (rk_looks _ _))

set_option maxRecDepth 100000 in
set_option maxHeartbeats 1000000 in
theorem lw_25 {xt : Nat × (Nat → Int)} {M : gj_M} {i : Int} (hx : ∀ j, gj_in (xt.2 j)) (hN : xt.1 ≤ 2560) (hi : 0 ≤ i ∧ i + 5 ≤ (xt.1 : Int)) (hR : R_ M M) {Q : Option gj_V → List gj_H → gj_M → Prop} (kk : ∀ M2 : gj_M, R_ M2 M2 → gj_G xt YL_law gS 88 14392 1017 [some (gR 1001), some (gR 0), some (gR 69), some (gI i)] [] M2 Q) : gj_G xt YL_law gS 88 14392 948 [some (gR 1001), some (gR 0), some (gR 69), some (gI i)] [] M Q := by
  have hR1 := hR.k (ck_keep M (xt.2 (i + 1).toNat))
  have hq := hR1.keep (xt.2 (i + 1).toNat)
  refine gj_aload_n 949 dL_law_948 rfl rfl ?_
  refine gj_aload_n 950 dL_law_949 rfl rfl ?_
  refine gj_iload_n 951 dL_law_950 rfl rfl ?_
  refine gj_iconst 952 dL_law_951 rfl ?_
  refine gj_iadd 953 dL_law_952 rfl ?_
  refine gj_xld 954 dL_law_953 rfl (by omega) (by omega) ?_
  refine gj_fV 957 dL_law_954 rfl ok_7_keep ml_L_124 iv_7_keep (As := [gI _]) rfl rfl rfl rfl (Nat.le_of_ble_eq_true rfl) ⟨Nat.le_of_ble_eq_true rfl, Nat.le_of_ble_eq_true rfl⟩ (Nat.le_of_ble_eq_true rfl) ⟨rfl, rfl⟩ ⟨Nat.le_of_ble_eq_true rfl, Nat.le_of_ble_eq_true rfl⟩ (s7_keep (hx _)) ?_
  refine gj_aload_n 958 dL_law_957 rfl rfl ?_
  refine gj_aload_n 959 dL_law_958 rfl rfl ?_
  refine gj_iload_n 960 dL_law_959 rfl rfl ?_
  refine gj_iconst 961 dL_law_960 rfl ?_
  refine gj_iadd 962 dL_law_961 rfl ?_
  refine gj_xld 963 dL_law_962 rfl (by omega) (by omega) ?_
  refine gj_fV 966 dL_law_963 rfl ok_8_keep ml_L_127 iv_8_keep (As := [gI _]) rfl rfl rfl rfl (Nat.le_of_ble_eq_true rfl) ⟨Nat.le_of_ble_eq_true rfl, Nat.le_of_ble_eq_true rfl⟩ (Nat.le_of_ble_eq_true rfl) ⟨rfl, rfl⟩ ⟨Nat.le_of_ble_eq_true rfl, Nat.le_of_ble_eq_true rfl⟩ (s8_keep hR1.1 (hx _)) ?_
  refine gj_eqT 1017 969 dL_law_966 (by decide) rfl hq.1 ?_
  exact kk _ (hq.2.c (rk_keep _ _))

set_option maxRecDepth 100000 in
set_option maxHeartbeats 1000000 in
theorem lw_26 {xt : Nat × (Nat → Int)} {M : gj_M} {i : Int} (hx : ∀ j, gj_in (xt.2 j)) (hN : xt.1 ≤ 2560) (hi : 0 ≤ i ∧ i + 5 ≤ (xt.1 : Int)) (hR : R_ M M) {Q : Option gj_V → List gj_H → gj_M → Prop} (kk : ∀ M2 : gj_M, R_ M2 M2 → gj_G xt YL_law gS 88 14392 1017 [some (gR 1001), some (gR 0), some (gR 69), some (gI i)] [] M2 Q) : gj_G xt YL_law gS 88 14392 971 [some (gR 1001), some (gR 0), some (gR 69), some (gI i)] [] M Q := by
  have hR1 := hR.k (ck_again M (xt.2 (i + 1).toNat))
  have hq := hR1.again (xt.2 (i + 1).toNat)
  refine gj_aload_n 972 dL_law_971 rfl rfl ?_
  refine gj_aload_n 973 dL_law_972 rfl rfl ?_
  refine gj_iload_n 974 dL_law_973 rfl rfl ?_
  refine gj_iconst 975 dL_law_974 rfl ?_
  refine gj_iadd 976 dL_law_975 rfl ?_
  refine gj_xld 977 dL_law_976 rfl (by omega) (by omega) ?_
  refine gj_fV 980 dL_law_977 rfl ok_7_again ml_L_128 iv_7_again (As := [gI _]) rfl rfl rfl rfl (Nat.le_of_ble_eq_true rfl) ⟨Nat.le_of_ble_eq_true rfl, Nat.le_of_ble_eq_true rfl⟩ (Nat.le_of_ble_eq_true rfl) ⟨rfl, rfl⟩ ⟨Nat.le_of_ble_eq_true rfl, Nat.le_of_ble_eq_true rfl⟩ (s7_again (hx _)) ?_
  refine gj_aload_n 981 dL_law_980 rfl rfl ?_
  refine gj_aload_n 982 dL_law_981 rfl rfl ?_
  refine gj_iload_n 983 dL_law_982 rfl rfl ?_
  refine gj_iconst 984 dL_law_983 rfl ?_
  refine gj_iadd 985 dL_law_984 rfl ?_
  refine gj_xld 986 dL_law_985 rfl (by omega) (by omega) ?_
  refine gj_fV 989 dL_law_986 rfl ok_8_again ml_L_131 iv_8_again (As := [gI _]) rfl rfl rfl rfl (Nat.le_of_ble_eq_true rfl) ⟨Nat.le_of_ble_eq_true rfl, Nat.le_of_ble_eq_true rfl⟩ (Nat.le_of_ble_eq_true rfl) ⟨rfl, rfl⟩ ⟨Nat.le_of_ble_eq_true rfl, Nat.le_of_ble_eq_true rfl⟩ (s8_again hR1.1 (hx _)) ?_
  refine gj_eqT 1017 992 dL_law_989 (by decide) rfl hq.1 ?_
  exact kk _ (hq.2.c (rk_again _ _))

set_option maxRecDepth 100000 in
set_option maxHeartbeats 1000000 in
theorem lw_27 {xt : Nat × (Nat → Int)} {M : gj_M} {i : Int} (hx : ∀ j, gj_in (xt.2 j)) (hN : xt.1 ≤ 2560) (hi : 0 ≤ i ∧ i + 5 ≤ (xt.1 : Int)) (hR : R_ M M) {Q : Option gj_V → List gj_H → gj_M → Prop} (kk : ∀ M2 : gj_M, R_ M2 M2 → gj_G xt YL_law gS 88 14392 1017 [some (gR 1001), some (gR 0), some (gR 69), some (gI i)] [] M2 Q) : gj_G xt YL_law gS 88 14392 994 [some (gR 1001), some (gR 0), some (gR 69), some (gI i)] [] M Q := by
  have hq := hR.count (xt.2 (i + 1).toNat)
  refine gj_aload_n 995 dL_law_994 rfl rfl ?_
  refine gj_aload_n 996 dL_law_995 rfl rfl ?_
  refine gj_iload_n 997 dL_law_996 rfl rfl ?_
  refine gj_iconst 998 dL_law_997 rfl ?_
  refine gj_iadd 999 dL_law_998 rfl ?_
  refine gj_xld 1000 dL_law_999 rfl (by omega) (by omega) ?_
  refine gj_fV 1003 dL_law_1000 rfl ok_7_count ml_L_132 iv_7_count (As := [gI _]) rfl rfl rfl rfl (Nat.le_of_ble_eq_true rfl) ⟨Nat.le_of_ble_eq_true rfl, Nat.le_of_ble_eq_true rfl⟩ (Nat.le_of_ble_eq_true rfl) ⟨rfl, rfl⟩ ⟨Nat.le_of_ble_eq_true rfl, Nat.le_of_ble_eq_true rfl⟩ (s7_count (hx _)) ?_
  refine gj_aload_n 1004 dL_law_1003 rfl rfl ?_
  refine gj_aload_n 1005 dL_law_1004 rfl rfl ?_
  refine gj_iload_n 1006 dL_law_1005 rfl rfl ?_
  refine gj_iconst 1007 dL_law_1006 rfl ?_
  refine gj_iadd 1008 dL_law_1007 rfl ?_
  refine gj_xld 1009 dL_law_1008 rfl (by omega) (by omega) ?_
  refine gj_fV 1012 dL_law_1009 rfl ok_8_count ml_L_135 iv_8_count (As := [gI _]) rfl rfl rfl rfl (Nat.le_of_ble_eq_true rfl) ⟨Nat.le_of_ble_eq_true rfl, Nat.le_of_ble_eq_true rfl⟩ (Nat.le_of_ble_eq_true rfl) ⟨rfl, rfl⟩ ⟨Nat.le_of_ble_eq_true rfl, Nat.le_of_ble_eq_true rfl⟩ (s8_count hR.1 (hx _)) ?_
  refine gj_eqT 1017 1015 dL_law_1012 (by decide) rfl hq ?_
  exact kk _ hR

