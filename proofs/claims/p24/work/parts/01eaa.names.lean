theorem x_g1 {big : List Cond} {c : Cond} (i : Nat) (h : big[i]? = some c) (hg : goodWord c = true) : GoodIn big [c] := by
  intro w hw
  obtain rfl := List.mem_singleton.mp hw
  exact ⟨List.mem_of_getElem? h, good_of_word hg⟩
theorem x_gc {big : List Cond} {c : Cond} {ws : List Cond} (h0 : GoodIn big [c]) (h : GoodIn big ws) : GoodIn big (c :: ws) := fun w hw => (List.mem_cons.mp hw).elim (fun e => h0 w (by rw [e]; exact List.mem_singleton_self _)) (h w)
theorem x_gn {big : List Cond} : GoodIn big [] := fun w hw => absurd hw List.not_mem_nil
theorem dL_refusesAny_598 : decode cL_refusesAny 598 = .ok (.iconst 0, 1) := by decide +kernel
theorem dL_refusesAny_599 : decode cL_refusesAny 599 = .ok (.invokevirtual 56, 3) := by decide +kernel
theorem dL_refusesAny_602 : decode cL_refusesAny 602 = .ok (.bipush (-2), 2) := by decide +kernel
theorem dL_refusesAny_604 : decode cL_refusesAny 604 = .ok (.if_icmp .ne 95, 3) := by decide +kernel
theorem dL_refusesAny_607 : decode cL_refusesAny 607 = .ok (.aload_n 0, 1) := by decide +kernel
theorem dL_refusesAny_608 : decode cL_refusesAny 608 = .ok (.iload_n 2, 1) := by decide +kernel
theorem dL_refusesAny_609 : decode cL_refusesAny 609 = .ok (.iconst 0, 1) := by decide +kernel
theorem dL_refusesAny_610 : decode cL_refusesAny 610 = .ok (.iconst 0, 1) := by decide +kernel
theorem dL_refusesAny_611 : decode cL_refusesAny 611 = .ok (.invokevirtual 59, 3) := by decide +kernel
theorem dL_refusesAny_614 : decode cL_refusesAny 614 = .ok (.iconst (-1), 1) := by decide +kernel
theorem dL_refusesAny_615 : decode cL_refusesAny 615 = .ok (.if_icmp .ne 84, 3) := by decide +kernel
theorem dL_refusesAny_618 : decode cL_refusesAny 618 = .ok (.aload_n 0, 1) := by decide +kernel
theorem dL_refusesAny_619 : decode cL_refusesAny 619 = .ok (.iconst 0, 1) := by decide +kernel
theorem dL_refusesAny_620 : decode cL_refusesAny 620 = .ok (.iconst 1, 1) := by decide +kernel
theorem dL_refusesAny_621 : decode cL_refusesAny 621 = .ok (.iload_n 3, 1) := by decide +kernel
theorem dL_refusesAny_622 : decode cL_refusesAny 622 = .ok (.invokevirtual 59, 3) := by decide +kernel
theorem dL_refusesAny_625 : decode cL_refusesAny 625 = .ok (.bipush (-2), 2) := by decide +kernel
theorem dL_refusesAny_627 : decode cL_refusesAny 627 = .ok (.if_icmp .ne 72, 3) := by decide +kernel
theorem dL_refusesAny_630 : decode cL_refusesAny 630 = .ok (.aload_n 0, 1) := by decide +kernel
theorem dL_refusesAny_631 : decode cL_refusesAny 631 = .ok (.iconst 0, 1) := by decide +kernel
theorem dL_refusesAny_632 : decode cL_refusesAny 632 = .ok (.iload_n 2, 1) := by decide +kernel
theorem dL_refusesAny_633 : decode cL_refusesAny 633 = .ok (.iconst 0, 1) := by decide +kernel
theorem dL_refusesAny_634 : decode cL_refusesAny 634 = .ok (.invokevirtual 62, 3) := by decide +kernel
theorem dL_refusesAny_637 : decode cL_refusesAny 637 = .ok (.iconst (-1), 1) := by decide +kernel
theorem dL_refusesAny_638 : decode cL_refusesAny 638 = .ok (.if_icmp .ne 61, 3) := by decide +kernel
theorem dL_refusesAny_641 : decode cL_refusesAny 641 = .ok (.aload_n 0, 1) := by decide +kernel
theorem dL_refusesAny_642 : decode cL_refusesAny 642 = .ok (.iconst 0, 1) := by decide +kernel
theorem dL_refusesAny_643 : decode cL_refusesAny 643 = .ok (.iconst 1, 1) := by decide +kernel
theorem dL_refusesAny_644 : decode cL_refusesAny 644 = .ok (.iload_n 1, 1) := by decide +kernel
theorem dL_refusesAny_645 : decode cL_refusesAny 645 = .ok (.ifCond .ne 7, 3) := by decide +kernel
theorem dL_refusesAny_648 : decode cL_refusesAny 648 = .ok (.iconst (-1), 1) := by decide +kernel
theorem dL_refusesAny_649 : decode cL_refusesAny 649 = .ok (.goto 4, 3) := by decide +kernel
theorem dL_refusesAny_652 : decode cL_refusesAny 652 = .ok (.iconst 2, 1) := by decide +kernel
theorem dL_refusesAny_653 : decode cL_refusesAny 653 = .ok (.invokevirtual 62, 3) := by decide +kernel
theorem dL_refusesAny_656 : decode cL_refusesAny 656 = .ok (.bipush (-2), 2) := by decide +kernel
theorem dL_refusesAny_658 : decode cL_refusesAny 658 = .ok (.if_icmp .ne 41, 3) := by decide +kernel
theorem dL_refusesAny_661 : decode cL_refusesAny 661 = .ok (.aload_n 0, 1) := by decide +kernel
theorem dL_refusesAny_662 : decode cL_refusesAny 662 = .ok (.iconst 1, 1) := by decide +kernel
theorem dL_refusesAny_663 : decode cL_refusesAny 663 = .ok (.iconst 1, 1) := by decide +kernel
theorem dL_refusesAny_664 : decode cL_refusesAny 664 = .ok (.iconst 0, 1) := by decide +kernel
theorem dL_refusesAny_665 : decode cL_refusesAny 665 = .ok (.invokevirtual 62, 3) := by decide +kernel
theorem dL_refusesAny_668 : decode cL_refusesAny 668 = .ok (.bipush (-2), 2) := by decide +kernel
theorem dL_refusesAny_670 : decode cL_refusesAny 670 = .ok (.if_icmp .ne 29, 3) := by decide +kernel
theorem dL_refusesAny_673 : decode cL_refusesAny 673 = .ok (.aload_n 0, 1) := by decide +kernel
theorem dL_refusesAny_674 : decode cL_refusesAny 674 = .ok (.iload_n 2, 1) := by decide +kernel
theorem dL_refusesAny_675 : decode cL_refusesAny 675 = .ok (.iconst 0, 1) := by decide +kernel
theorem dL_refusesAny_676 : decode cL_refusesAny 676 = .ok (.iconst 0, 1) := by decide +kernel
theorem dL_refusesAny_677 : decode cL_refusesAny 677 = .ok (.iconst 0, 1) := by decide +kernel
theorem dL_refusesAny_678 : decode cL_refusesAny 678 = .ok (.invokevirtual 65, 3) := by decide +kernel
theorem dL_refusesAny_681 : decode cL_refusesAny 681 = .ok (.iconst (-1), 1) := by decide +kernel
theorem dL_refusesAny_682 : decode cL_refusesAny 682 = .ok (.if_icmp .ne 17, 3) := by decide +kernel
theorem dL_refusesAny_685 : decode cL_refusesAny 685 = .ok (.aload_n 0, 1) := by decide +kernel
theorem dL_refusesAny_686 : decode cL_refusesAny 686 = .ok (.iconst 0, 1) := by decide +kernel
theorem dL_refusesAny_687 : decode cL_refusesAny 687 = .ok (.iconst 1, 1) := by decide +kernel
theorem dL_refusesAny_688 : decode cL_refusesAny 688 = .ok (.iconst 0, 1) := by decide +kernel
theorem dL_refusesAny_689 : decode cL_refusesAny 689 = .ok (.iload 4, 2) := by decide +kernel
theorem dL_refusesAny_691 : decode cL_refusesAny 691 = .ok (.invokevirtual 65, 3) := by decide +kernel
theorem dL_refusesAny_694 : decode cL_refusesAny 694 = .ok (.bipush (-2), 2) := by decide +kernel
theorem dL_refusesAny_696 : decode cL_refusesAny 696 = .ok (.if_icmp .eq 5, 3) := by decide +kernel
theorem dL_refusesAny_699 : decode cL_refusesAny 699 = .ok (.iconst 0, 1) := by decide +kernel
theorem dL_refusesAny_700 : decode cL_refusesAny 700 = .ok (.ireturn, 1) := by decide +kernel
theorem dL_refusesAny_701 : decode cL_refusesAny 701 = .ok (.aload_n 0, 1) := by decide +kernel
theorem dL_refusesAny_702 : decode cL_refusesAny 702 = .ok (.iload_n 1, 1) := by decide +kernel
theorem dL_refusesAny_703 : decode cL_refusesAny 703 = .ok (.ifCond .ne 7, 3) := by decide +kernel
theorem dL_refusesAny_706 : decode cL_refusesAny 706 = .ok (.iconst (-1), 1) := by decide +kernel
theorem dL_refusesAny_707 : decode cL_refusesAny 707 = .ok (.goto 4, 3) := by decide +kernel
theorem dL_refusesAny_710 : decode cL_refusesAny 710 = .ok (.iconst 2, 1) := by decide +kernel
theorem dL_refusesAny_711 : decode cL_refusesAny 711 = .ok (.invokevirtual 69, 3) := by decide +kernel
theorem dL_refusesAny_714 : decode cL_refusesAny 714 = .ok (.bipush (-2), 2) := by decide +kernel
theorem dL_refusesAny_716 : decode cL_refusesAny 716 = .ok (.if_icmp .ne 67, 3) := by decide +kernel
theorem dL_refusesAny_719 : decode cL_refusesAny 719 = .ok (.aload_n 0, 1) := by decide +kernel
theorem dL_refusesAny_720 : decode cL_refusesAny 720 = .ok (.iload_n 1, 1) := by decide +kernel
theorem dL_refusesAny_721 : decode cL_refusesAny 721 = .ok (.ifCond .ne 7, 3) := by decide +kernel
theorem dL_refusesAny_724 : decode cL_refusesAny 724 = .ok (.iconst (-1), 1) := by decide +kernel
theorem dL_refusesAny_725 : decode cL_refusesAny 725 = .ok (.goto 4, 3) := by decide +kernel
theorem dL_refusesAny_728 : decode cL_refusesAny 728 = .ok (.iconst 2, 1) := by decide +kernel
theorem dL_refusesAny_729 : decode cL_refusesAny 729 = .ok (.invokevirtual 72, 3) := by decide +kernel
theorem dL_refusesAny_732 : decode cL_refusesAny 732 = .ok (.bipush (-2), 2) := by decide +kernel
theorem dL_refusesAny_734 : decode cL_refusesAny 734 = .ok (.if_icmp .ne 49, 3) := by decide +kernel
theorem dL_refusesAny_737 : decode cL_refusesAny 737 = .ok (.aload_n 0, 1) := by decide +kernel
theorem dL_refusesAny_738 : decode cL_refusesAny 738 = .ok (.iload_n 1, 1) := by decide +kernel
theorem dL_refusesAny_739 : decode cL_refusesAny 739 = .ok (.ifCond .ne 7, 3) := by decide +kernel
theorem dL_refusesAny_742 : decode cL_refusesAny 742 = .ok (.lconst 0, 1) := by decide +kernel
theorem dL_refusesAny_743 : decode cL_refusesAny 743 = .ok (.goto 6, 3) := by decide +kernel
theorem dL_refusesAny_746 : decode cL_refusesAny 746 = .ok (.ldc2_w 75, 3) := by decide +kernel
theorem dL_refusesAny_749 : decode cL_refusesAny 749 = .ok (.invokevirtual 77, 3) := by decide +kernel
theorem dL_refusesAny_752 : decode cL_refusesAny 752 = .ok (.bipush (-2), 2) := by decide +kernel
theorem dL_refusesAny_754 : decode cL_refusesAny 754 = .ok (.if_icmp .ne 29, 3) := by decide +kernel
theorem dL_refusesAny_757 : decode cL_refusesAny 757 = .ok (.aload_n 0, 1) := by decide +kernel
theorem dL_refusesAny_758 : decode cL_refusesAny 758 = .ok (.iload_n 1, 1) := by decide +kernel
theorem dL_refusesAny_759 : decode cL_refusesAny 759 = .ok (.ifCond .ne 9, 3) := by decide +kernel
theorem dL_refusesAny_762 : decode cL_refusesAny 762 = .ok (.ldc2_w 81, 3) := by decide +kernel
theorem dL_refusesAny_765 : decode cL_refusesAny 765 = .ok (.goto 6, 3) := by decide +kernel
theorem dL_refusesAny_768 : decode cL_refusesAny 768 = .ok (.ldc2_w 83, 3) := by decide +kernel
theorem dL_refusesAny_771 : decode cL_refusesAny 771 = .ok (.invokevirtual 77, 3) := by decide +kernel
theorem dL_refusesAny_774 : decode cL_refusesAny 774 = .ok (.bipush (-2), 2) := by decide +kernel
theorem dL_refusesAny_776 : decode cL_refusesAny 776 = .ok (.if_icmp .ne 7, 3) := by decide +kernel
theorem dL_refusesAny_779 : decode cL_refusesAny 779 = .ok (.iconst 1, 1) := by decide +kernel
theorem dL_refusesAny_780 : decode cL_refusesAny 780 = .ok (.goto 4, 3) := by decide +kernel
theorem dL_refusesAny_783 : decode cL_refusesAny 783 = .ok (.iconst 0, 1) := by decide +kernel
theorem dL_refusesAny_784 : decode cL_refusesAny 784 = .ok (.ireturn, 1) := by decide +kernel
