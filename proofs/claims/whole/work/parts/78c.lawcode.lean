-- the law's code, forty rows at once
def zLaw10 : List (Nat × Instr × Nat) := [(660, .iconst 1, 1), (661, .iadd, 1), (662, .iaload, 1), (663, .invokevirtual 77, 3), (666, .aload_n 2, 1), (667, .aload_n 0, 1), (668, .iload_n 3, 1), (669, .iconst 1, 1), (670, .iadd, 1), (671, .iaload, 1), (672, .invokevirtual 80, 3), (675, .if_icmp .eq 627, 3), (678, .iconst 0, 1), (679, .ireturn, 1), (680, .aload_n 1, 1), (681, .aload_n 0, 1), (682, .iload_n 3, 1), (683, .iconst 1, 1), (684, .iadd, 1), (685, .iaload, 1), (686, .invokevirtual 81, 3), (689, .aload_n 2, 1), (690, .aload_n 0, 1), (691, .iload_n 3, 1), (692, .iconst 1, 1), (693, .iadd, 1), (694, .iaload, 1), (695, .invokevirtual 84, 3), (698, .if_icmp .eq 604, 3), (701, .iconst 0, 1), (702, .ireturn, 1), (703, .aload_n 1, 1), (704, .aload_n 0, 1), (705, .iload_n 3, 1), (706, .iconst 1, 1), (707, .iadd, 1), (708, .iaload, 1), (709, .invokevirtual 85, 3), (712, .aload_n 2, 1), (713, .aload_n 0, 1)]
theorem zLaw10_ok : zLaw10.all (fun e => match decode code e.1 with | .ok x => decide (x.1 = e.2.1 ∧ x.2 = e.2.2) | _ => false) = true := by decide +kernel
set_option maxRecDepth 100000 in
theorem dL_660 : decode code 660 = .ok (.iconst 1, 1) := dLg zLaw10_ok (by decide +kernel)
set_option maxRecDepth 100000 in
theorem dL_661 : decode code 661 = .ok (.iadd, 1) := dLg zLaw10_ok (by decide +kernel)
set_option maxRecDepth 100000 in
theorem dL_662 : decode code 662 = .ok (.iaload, 1) := dLg zLaw10_ok (by decide +kernel)
set_option maxRecDepth 100000 in
theorem dL_663 : decode code 663 = .ok (.invokevirtual 77, 3) := dLg zLaw10_ok (by decide +kernel)
set_option maxRecDepth 100000 in
theorem dL_666 : decode code 666 = .ok (.aload_n 2, 1) := dLg zLaw10_ok (by decide +kernel)
set_option maxRecDepth 100000 in
theorem dL_667 : decode code 667 = .ok (.aload_n 0, 1) := dLg zLaw10_ok (by decide +kernel)
set_option maxRecDepth 100000 in
theorem dL_668 : decode code 668 = .ok (.iload_n 3, 1) := dLg zLaw10_ok (by decide +kernel)
set_option maxRecDepth 100000 in
theorem dL_669 : decode code 669 = .ok (.iconst 1, 1) := dLg zLaw10_ok (by decide +kernel)
set_option maxRecDepth 100000 in
theorem dL_670 : decode code 670 = .ok (.iadd, 1) := dLg zLaw10_ok (by decide +kernel)
set_option maxRecDepth 100000 in
theorem dL_671 : decode code 671 = .ok (.iaload, 1) := dLg zLaw10_ok (by decide +kernel)
set_option maxRecDepth 100000 in
theorem dL_672 : decode code 672 = .ok (.invokevirtual 80, 3) := dLg zLaw10_ok (by decide +kernel)
set_option maxRecDepth 100000 in
theorem dL_675 : decode code 675 = .ok (.if_icmp .eq 627, 3) := dLg zLaw10_ok (by decide +kernel)
set_option maxRecDepth 100000 in
theorem dL_678 : decode code 678 = .ok (.iconst 0, 1) := dLg zLaw10_ok (by decide +kernel)
set_option maxRecDepth 100000 in
theorem dL_679 : decode code 679 = .ok (.ireturn, 1) := dLg zLaw10_ok (by decide +kernel)
set_option maxRecDepth 100000 in
theorem dL_680 : decode code 680 = .ok (.aload_n 1, 1) := dLg zLaw10_ok (by decide +kernel)
set_option maxRecDepth 100000 in
theorem dL_681 : decode code 681 = .ok (.aload_n 0, 1) := dLg zLaw10_ok (by decide +kernel)
set_option maxRecDepth 100000 in
theorem dL_682 : decode code 682 = .ok (.iload_n 3, 1) := dLg zLaw10_ok (by decide +kernel)
set_option maxRecDepth 100000 in
theorem dL_683 : decode code 683 = .ok (.iconst 1, 1) := dLg zLaw10_ok (by decide +kernel)
set_option maxRecDepth 100000 in
theorem dL_684 : decode code 684 = .ok (.iadd, 1) := dLg zLaw10_ok (by decide +kernel)
set_option maxRecDepth 100000 in
theorem dL_685 : decode code 685 = .ok (.iaload, 1) := dLg zLaw10_ok (by decide +kernel)
set_option maxRecDepth 100000 in
theorem dL_686 : decode code 686 = .ok (.invokevirtual 81, 3) := dLg zLaw10_ok (by decide +kernel)
set_option maxRecDepth 100000 in
theorem dL_689 : decode code 689 = .ok (.aload_n 2, 1) := dLg zLaw10_ok (by decide +kernel)
set_option maxRecDepth 100000 in
theorem dL_690 : decode code 690 = .ok (.aload_n 0, 1) := dLg zLaw10_ok (by decide +kernel)
set_option maxRecDepth 100000 in
theorem dL_691 : decode code 691 = .ok (.iload_n 3, 1) := dLg zLaw10_ok (by decide +kernel)
set_option maxRecDepth 100000 in
theorem dL_692 : decode code 692 = .ok (.iconst 1, 1) := dLg zLaw10_ok (by decide +kernel)
set_option maxRecDepth 100000 in
theorem dL_693 : decode code 693 = .ok (.iadd, 1) := dLg zLaw10_ok (by decide +kernel)
set_option maxRecDepth 100000 in
theorem dL_694 : decode code 694 = .ok (.iaload, 1) := dLg zLaw10_ok (by decide +kernel)
set_option maxRecDepth 100000 in
theorem dL_695 : decode code 695 = .ok (.invokevirtual 84, 3) := dLg zLaw10_ok (by decide +kernel)
set_option maxRecDepth 100000 in
theorem dL_698 : decode code 698 = .ok (.if_icmp .eq 604, 3) := dLg zLaw10_ok (by decide +kernel)
set_option maxRecDepth 100000 in
theorem dL_701 : decode code 701 = .ok (.iconst 0, 1) := dLg zLaw10_ok (by decide +kernel)
set_option maxRecDepth 100000 in
theorem dL_702 : decode code 702 = .ok (.ireturn, 1) := dLg zLaw10_ok (by decide +kernel)
set_option maxRecDepth 100000 in
theorem dL_703 : decode code 703 = .ok (.aload_n 1, 1) := dLg zLaw10_ok (by decide +kernel)
set_option maxRecDepth 100000 in
theorem dL_704 : decode code 704 = .ok (.aload_n 0, 1) := dLg zLaw10_ok (by decide +kernel)
set_option maxRecDepth 100000 in
theorem dL_705 : decode code 705 = .ok (.iload_n 3, 1) := dLg zLaw10_ok (by decide +kernel)
set_option maxRecDepth 100000 in
theorem dL_706 : decode code 706 = .ok (.iconst 1, 1) := dLg zLaw10_ok (by decide +kernel)
set_option maxRecDepth 100000 in
theorem dL_707 : decode code 707 = .ok (.iadd, 1) := dLg zLaw10_ok (by decide +kernel)
set_option maxRecDepth 100000 in
theorem dL_708 : decode code 708 = .ok (.iaload, 1) := dLg zLaw10_ok (by decide +kernel)
set_option maxRecDepth 100000 in
theorem dL_709 : decode code 709 = .ok (.invokevirtual 85, 3) := dLg zLaw10_ok (by decide +kernel)
set_option maxRecDepth 100000 in
theorem dL_712 : decode code 712 = .ok (.aload_n 2, 1) := dLg zLaw10_ok (by decide +kernel)
set_option maxRecDepth 100000 in
theorem dL_713 : decode code 713 = .ok (.aload_n 0, 1) := dLg zLaw10_ok (by decide +kernel)
def zLaw11 : List (Nat × Instr × Nat) := [(714, .iload_n 3, 1), (715, .iconst 1, 1), (716, .iadd, 1), (717, .iaload, 1), (718, .invokevirtual 88, 3), (721, .if_icmp .eq 581, 3), (724, .iconst 0, 1), (725, .ireturn, 1), (726, .aload_n 1, 1), (727, .aload_n 0, 1), (728, .iload_n 3, 1), (729, .iconst 1, 1), (730, .iadd, 1), (731, .iaload, 1), (732, .aload_n 0, 1), (733, .iload_n 3, 1), (734, .iconst 2, 1), (735, .iadd, 1), (736, .iaload, 1), (737, .aload_n 0, 1), (738, .iload_n 3, 1), (739, .iconst 3, 1), (740, .iadd, 1), (741, .iaload, 1), (742, .aload_n 0, 1), (743, .iload_n 3, 1), (744, .iconst 4, 1), (745, .iadd, 1), (746, .iaload, 1), (747, .invokevirtual 89, 3), (750, .aload_n 2, 1), (751, .aload_n 0, 1), (752, .iload_n 3, 1), (753, .iconst 1, 1), (754, .iadd, 1), (755, .iaload, 1), (756, .aload_n 0, 1), (757, .iload_n 3, 1), (758, .iconst 2, 1), (759, .iadd, 1)]
theorem zLaw11_ok : zLaw11.all (fun e => match decode code e.1 with | .ok x => decide (x.1 = e.2.1 ∧ x.2 = e.2.2) | _ => false) = true := by decide +kernel
set_option maxRecDepth 100000 in
theorem dL_714 : decode code 714 = .ok (.iload_n 3, 1) := dLg zLaw11_ok (by decide +kernel)
set_option maxRecDepth 100000 in
theorem dL_715 : decode code 715 = .ok (.iconst 1, 1) := dLg zLaw11_ok (by decide +kernel)
set_option maxRecDepth 100000 in
theorem dL_716 : decode code 716 = .ok (.iadd, 1) := dLg zLaw11_ok (by decide +kernel)
set_option maxRecDepth 100000 in
theorem dL_717 : decode code 717 = .ok (.iaload, 1) := dLg zLaw11_ok (by decide +kernel)
set_option maxRecDepth 100000 in
theorem dL_718 : decode code 718 = .ok (.invokevirtual 88, 3) := dLg zLaw11_ok (by decide +kernel)
set_option maxRecDepth 100000 in
theorem dL_721 : decode code 721 = .ok (.if_icmp .eq 581, 3) := dLg zLaw11_ok (by decide +kernel)
set_option maxRecDepth 100000 in
theorem dL_724 : decode code 724 = .ok (.iconst 0, 1) := dLg zLaw11_ok (by decide +kernel)
set_option maxRecDepth 100000 in
theorem dL_725 : decode code 725 = .ok (.ireturn, 1) := dLg zLaw11_ok (by decide +kernel)
set_option maxRecDepth 100000 in
theorem dL_726 : decode code 726 = .ok (.aload_n 1, 1) := dLg zLaw11_ok (by decide +kernel)
set_option maxRecDepth 100000 in
theorem dL_727 : decode code 727 = .ok (.aload_n 0, 1) := dLg zLaw11_ok (by decide +kernel)
set_option maxRecDepth 100000 in
theorem dL_728 : decode code 728 = .ok (.iload_n 3, 1) := dLg zLaw11_ok (by decide +kernel)
set_option maxRecDepth 100000 in
theorem dL_729 : decode code 729 = .ok (.iconst 1, 1) := dLg zLaw11_ok (by decide +kernel)
set_option maxRecDepth 100000 in
theorem dL_730 : decode code 730 = .ok (.iadd, 1) := dLg zLaw11_ok (by decide +kernel)
set_option maxRecDepth 100000 in
theorem dL_731 : decode code 731 = .ok (.iaload, 1) := dLg zLaw11_ok (by decide +kernel)
set_option maxRecDepth 100000 in
theorem dL_732 : decode code 732 = .ok (.aload_n 0, 1) := dLg zLaw11_ok (by decide +kernel)
set_option maxRecDepth 100000 in
theorem dL_733 : decode code 733 = .ok (.iload_n 3, 1) := dLg zLaw11_ok (by decide +kernel)
set_option maxRecDepth 100000 in
theorem dL_734 : decode code 734 = .ok (.iconst 2, 1) := dLg zLaw11_ok (by decide +kernel)
set_option maxRecDepth 100000 in
theorem dL_735 : decode code 735 = .ok (.iadd, 1) := dLg zLaw11_ok (by decide +kernel)
set_option maxRecDepth 100000 in
theorem dL_736 : decode code 736 = .ok (.iaload, 1) := dLg zLaw11_ok (by decide +kernel)
set_option maxRecDepth 100000 in
theorem dL_737 : decode code 737 = .ok (.aload_n 0, 1) := dLg zLaw11_ok (by decide +kernel)
set_option maxRecDepth 100000 in
theorem dL_738 : decode code 738 = .ok (.iload_n 3, 1) := dLg zLaw11_ok (by decide +kernel)
set_option maxRecDepth 100000 in
theorem dL_739 : decode code 739 = .ok (.iconst 3, 1) := dLg zLaw11_ok (by decide +kernel)
set_option maxRecDepth 100000 in
theorem dL_740 : decode code 740 = .ok (.iadd, 1) := dLg zLaw11_ok (by decide +kernel)
set_option maxRecDepth 100000 in
theorem dL_741 : decode code 741 = .ok (.iaload, 1) := dLg zLaw11_ok (by decide +kernel)
set_option maxRecDepth 100000 in
theorem dL_742 : decode code 742 = .ok (.aload_n 0, 1) := dLg zLaw11_ok (by decide +kernel)
set_option maxRecDepth 100000 in
theorem dL_743 : decode code 743 = .ok (.iload_n 3, 1) := dLg zLaw11_ok (by decide +kernel)
set_option maxRecDepth 100000 in
theorem dL_744 : decode code 744 = .ok (.iconst 4, 1) := dLg zLaw11_ok (by decide +kernel)
set_option maxRecDepth 100000 in
theorem dL_745 : decode code 745 = .ok (.iadd, 1) := dLg zLaw11_ok (by decide +kernel)
set_option maxRecDepth 100000 in
theorem dL_746 : decode code 746 = .ok (.iaload, 1) := dLg zLaw11_ok (by decide +kernel)
set_option maxRecDepth 100000 in
theorem dL_747 : decode code 747 = .ok (.invokevirtual 89, 3) := dLg zLaw11_ok (by decide +kernel)
set_option maxRecDepth 100000 in
theorem dL_750 : decode code 750 = .ok (.aload_n 2, 1) := dLg zLaw11_ok (by decide +kernel)
set_option maxRecDepth 100000 in
theorem dL_751 : decode code 751 = .ok (.aload_n 0, 1) := dLg zLaw11_ok (by decide +kernel)
set_option maxRecDepth 100000 in
theorem dL_752 : decode code 752 = .ok (.iload_n 3, 1) := dLg zLaw11_ok (by decide +kernel)
set_option maxRecDepth 100000 in
theorem dL_753 : decode code 753 = .ok (.iconst 1, 1) := dLg zLaw11_ok (by decide +kernel)
set_option maxRecDepth 100000 in
theorem dL_754 : decode code 754 = .ok (.iadd, 1) := dLg zLaw11_ok (by decide +kernel)
set_option maxRecDepth 100000 in
theorem dL_755 : decode code 755 = .ok (.iaload, 1) := dLg zLaw11_ok (by decide +kernel)
set_option maxRecDepth 100000 in
theorem dL_756 : decode code 756 = .ok (.aload_n 0, 1) := dLg zLaw11_ok (by decide +kernel)
set_option maxRecDepth 100000 in
theorem dL_757 : decode code 757 = .ok (.iload_n 3, 1) := dLg zLaw11_ok (by decide +kernel)
set_option maxRecDepth 100000 in
theorem dL_758 : decode code 758 = .ok (.iconst 2, 1) := dLg zLaw11_ok (by decide +kernel)
set_option maxRecDepth 100000 in
theorem dL_759 : decode code 759 = .ok (.iadd, 1) := dLg zLaw11_ok (by decide +kernel)
def zLaw12 : List (Nat × Instr × Nat) := [(760, .iaload, 1), (761, .aload_n 0, 1), (762, .iload_n 3, 1), (763, .iconst 3, 1), (764, .iadd, 1), (765, .iaload, 1), (766, .aload_n 0, 1), (767, .iload_n 3, 1), (768, .iconst 4, 1), (769, .iadd, 1), (770, .iaload, 1), (771, .invokevirtual 92, 3), (774, .if_icmp .eq 528, 3), (777, .iconst 0, 1), (778, .ireturn, 1), (779, .aload_n 1, 1), (780, .aload_n 0, 1), (781, .iload_n 3, 1), (782, .iconst 1, 1), (783, .iadd, 1), (784, .iaload, 1), (785, .aload_n 0, 1), (786, .iload_n 3, 1), (787, .iconst 2, 1), (788, .iadd, 1), (789, .iaload, 1), (790, .aload_n 0, 1), (791, .iload_n 3, 1), (792, .iconst 3, 1), (793, .iadd, 1), (794, .iaload, 1), (795, .invokevirtual 93, 3), (798, .aload_n 2, 1), (799, .aload_n 0, 1), (800, .iload_n 3, 1), (801, .iconst 1, 1), (802, .iadd, 1), (803, .iaload, 1), (804, .aload_n 0, 1), (805, .iload_n 3, 1)]
theorem zLaw12_ok : zLaw12.all (fun e => match decode code e.1 with | .ok x => decide (x.1 = e.2.1 ∧ x.2 = e.2.2) | _ => false) = true := by decide +kernel
set_option maxRecDepth 100000 in
theorem dL_760 : decode code 760 = .ok (.iaload, 1) := dLg zLaw12_ok (by decide +kernel)
set_option maxRecDepth 100000 in
theorem dL_761 : decode code 761 = .ok (.aload_n 0, 1) := dLg zLaw12_ok (by decide +kernel)
set_option maxRecDepth 100000 in
theorem dL_762 : decode code 762 = .ok (.iload_n 3, 1) := dLg zLaw12_ok (by decide +kernel)
set_option maxRecDepth 100000 in
theorem dL_763 : decode code 763 = .ok (.iconst 3, 1) := dLg zLaw12_ok (by decide +kernel)
set_option maxRecDepth 100000 in
theorem dL_764 : decode code 764 = .ok (.iadd, 1) := dLg zLaw12_ok (by decide +kernel)
set_option maxRecDepth 100000 in
theorem dL_765 : decode code 765 = .ok (.iaload, 1) := dLg zLaw12_ok (by decide +kernel)
set_option maxRecDepth 100000 in
theorem dL_766 : decode code 766 = .ok (.aload_n 0, 1) := dLg zLaw12_ok (by decide +kernel)
set_option maxRecDepth 100000 in
theorem dL_767 : decode code 767 = .ok (.iload_n 3, 1) := dLg zLaw12_ok (by decide +kernel)
set_option maxRecDepth 100000 in
theorem dL_768 : decode code 768 = .ok (.iconst 4, 1) := dLg zLaw12_ok (by decide +kernel)
set_option maxRecDepth 100000 in
theorem dL_769 : decode code 769 = .ok (.iadd, 1) := dLg zLaw12_ok (by decide +kernel)
set_option maxRecDepth 100000 in
theorem dL_770 : decode code 770 = .ok (.iaload, 1) := dLg zLaw12_ok (by decide +kernel)
set_option maxRecDepth 100000 in
theorem dL_771 : decode code 771 = .ok (.invokevirtual 92, 3) := dLg zLaw12_ok (by decide +kernel)
set_option maxRecDepth 100000 in
theorem dL_774 : decode code 774 = .ok (.if_icmp .eq 528, 3) := dLg zLaw12_ok (by decide +kernel)
set_option maxRecDepth 100000 in
theorem dL_777 : decode code 777 = .ok (.iconst 0, 1) := dLg zLaw12_ok (by decide +kernel)
set_option maxRecDepth 100000 in
theorem dL_778 : decode code 778 = .ok (.ireturn, 1) := dLg zLaw12_ok (by decide +kernel)
set_option maxRecDepth 100000 in
theorem dL_779 : decode code 779 = .ok (.aload_n 1, 1) := dLg zLaw12_ok (by decide +kernel)
set_option maxRecDepth 100000 in
theorem dL_780 : decode code 780 = .ok (.aload_n 0, 1) := dLg zLaw12_ok (by decide +kernel)
set_option maxRecDepth 100000 in
theorem dL_781 : decode code 781 = .ok (.iload_n 3, 1) := dLg zLaw12_ok (by decide +kernel)
set_option maxRecDepth 100000 in
theorem dL_782 : decode code 782 = .ok (.iconst 1, 1) := dLg zLaw12_ok (by decide +kernel)
set_option maxRecDepth 100000 in
theorem dL_783 : decode code 783 = .ok (.iadd, 1) := dLg zLaw12_ok (by decide +kernel)
set_option maxRecDepth 100000 in
theorem dL_784 : decode code 784 = .ok (.iaload, 1) := dLg zLaw12_ok (by decide +kernel)
set_option maxRecDepth 100000 in
theorem dL_785 : decode code 785 = .ok (.aload_n 0, 1) := dLg zLaw12_ok (by decide +kernel)
set_option maxRecDepth 100000 in
theorem dL_786 : decode code 786 = .ok (.iload_n 3, 1) := dLg zLaw12_ok (by decide +kernel)
set_option maxRecDepth 100000 in
theorem dL_787 : decode code 787 = .ok (.iconst 2, 1) := dLg zLaw12_ok (by decide +kernel)
set_option maxRecDepth 100000 in
theorem dL_788 : decode code 788 = .ok (.iadd, 1) := dLg zLaw12_ok (by decide +kernel)
set_option maxRecDepth 100000 in
theorem dL_789 : decode code 789 = .ok (.iaload, 1) := dLg zLaw12_ok (by decide +kernel)
set_option maxRecDepth 100000 in
theorem dL_790 : decode code 790 = .ok (.aload_n 0, 1) := dLg zLaw12_ok (by decide +kernel)
set_option maxRecDepth 100000 in
theorem dL_791 : decode code 791 = .ok (.iload_n 3, 1) := dLg zLaw12_ok (by decide +kernel)
set_option maxRecDepth 100000 in
theorem dL_792 : decode code 792 = .ok (.iconst 3, 1) := dLg zLaw12_ok (by decide +kernel)
set_option maxRecDepth 100000 in
theorem dL_793 : decode code 793 = .ok (.iadd, 1) := dLg zLaw12_ok (by decide +kernel)
set_option maxRecDepth 100000 in
theorem dL_794 : decode code 794 = .ok (.iaload, 1) := dLg zLaw12_ok (by decide +kernel)
set_option maxRecDepth 100000 in
theorem dL_795 : decode code 795 = .ok (.invokevirtual 93, 3) := dLg zLaw12_ok (by decide +kernel)
set_option maxRecDepth 100000 in
theorem dL_798 : decode code 798 = .ok (.aload_n 2, 1) := dLg zLaw12_ok (by decide +kernel)
set_option maxRecDepth 100000 in
theorem dL_799 : decode code 799 = .ok (.aload_n 0, 1) := dLg zLaw12_ok (by decide +kernel)
set_option maxRecDepth 100000 in
theorem dL_800 : decode code 800 = .ok (.iload_n 3, 1) := dLg zLaw12_ok (by decide +kernel)
set_option maxRecDepth 100000 in
theorem dL_801 : decode code 801 = .ok (.iconst 1, 1) := dLg zLaw12_ok (by decide +kernel)
set_option maxRecDepth 100000 in
theorem dL_802 : decode code 802 = .ok (.iadd, 1) := dLg zLaw12_ok (by decide +kernel)
set_option maxRecDepth 100000 in
theorem dL_803 : decode code 803 = .ok (.iaload, 1) := dLg zLaw12_ok (by decide +kernel)
set_option maxRecDepth 100000 in
theorem dL_804 : decode code 804 = .ok (.aload_n 0, 1) := dLg zLaw12_ok (by decide +kernel)
set_option maxRecDepth 100000 in
theorem dL_805 : decode code 805 = .ok (.iload_n 3, 1) := dLg zLaw12_ok (by decide +kernel)
def zLaw13 : List (Nat × Instr × Nat) := [(806, .iconst 2, 1), (807, .iadd, 1), (808, .iaload, 1), (809, .aload_n 0, 1), (810, .iload_n 3, 1), (811, .iconst 3, 1), (812, .iadd, 1), (813, .iaload, 1), (814, .invokevirtual 97, 3), (817, .if_icmp .eq 485, 3), (820, .iconst 0, 1), (821, .ireturn, 1), (822, .aload_n 1, 1), (823, .aload_n 0, 1), (824, .iload_n 3, 1), (825, .iconst 1, 1), (826, .iadd, 1), (827, .iaload, 1), (828, .invokevirtual 98, 3), (831, .aload_n 2, 1), (832, .aload_n 0, 1), (833, .iload_n 3, 1), (834, .iconst 1, 1), (835, .iadd, 1), (836, .iaload, 1), (837, .invokevirtual 101, 3), (840, .if_icmp .eq 462, 3), (843, .iconst 0, 1), (844, .ireturn, 1), (845, .aload_n 1, 1), (846, .aload_n 0, 1), (847, .iload_n 3, 1), (848, .iconst 1, 1), (849, .iadd, 1), (850, .iaload, 1), (851, .invokevirtual 102, 3), (854, .aload_n 2, 1), (855, .aload_n 0, 1), (856, .iload_n 3, 1), (857, .iconst 1, 1)]
theorem zLaw13_ok : zLaw13.all (fun e => match decode code e.1 with | .ok x => decide (x.1 = e.2.1 ∧ x.2 = e.2.2) | _ => false) = true := by decide +kernel
set_option maxRecDepth 100000 in
theorem dL_806 : decode code 806 = .ok (.iconst 2, 1) := dLg zLaw13_ok (by decide +kernel)
set_option maxRecDepth 100000 in
theorem dL_807 : decode code 807 = .ok (.iadd, 1) := dLg zLaw13_ok (by decide +kernel)
set_option maxRecDepth 100000 in
theorem dL_808 : decode code 808 = .ok (.iaload, 1) := dLg zLaw13_ok (by decide +kernel)
set_option maxRecDepth 100000 in
theorem dL_809 : decode code 809 = .ok (.aload_n 0, 1) := dLg zLaw13_ok (by decide +kernel)
set_option maxRecDepth 100000 in
theorem dL_810 : decode code 810 = .ok (.iload_n 3, 1) := dLg zLaw13_ok (by decide +kernel)
set_option maxRecDepth 100000 in
theorem dL_811 : decode code 811 = .ok (.iconst 3, 1) := dLg zLaw13_ok (by decide +kernel)
set_option maxRecDepth 100000 in
theorem dL_812 : decode code 812 = .ok (.iadd, 1) := dLg zLaw13_ok (by decide +kernel)
set_option maxRecDepth 100000 in
theorem dL_813 : decode code 813 = .ok (.iaload, 1) := dLg zLaw13_ok (by decide +kernel)
set_option maxRecDepth 100000 in
theorem dL_814 : decode code 814 = .ok (.invokevirtual 97, 3) := dLg zLaw13_ok (by decide +kernel)
set_option maxRecDepth 100000 in
theorem dL_817 : decode code 817 = .ok (.if_icmp .eq 485, 3) := dLg zLaw13_ok (by decide +kernel)
set_option maxRecDepth 100000 in
theorem dL_820 : decode code 820 = .ok (.iconst 0, 1) := dLg zLaw13_ok (by decide +kernel)
set_option maxRecDepth 100000 in
theorem dL_821 : decode code 821 = .ok (.ireturn, 1) := dLg zLaw13_ok (by decide +kernel)
set_option maxRecDepth 100000 in
theorem dL_822 : decode code 822 = .ok (.aload_n 1, 1) := dLg zLaw13_ok (by decide +kernel)
set_option maxRecDepth 100000 in
theorem dL_823 : decode code 823 = .ok (.aload_n 0, 1) := dLg zLaw13_ok (by decide +kernel)
set_option maxRecDepth 100000 in
theorem dL_824 : decode code 824 = .ok (.iload_n 3, 1) := dLg zLaw13_ok (by decide +kernel)
set_option maxRecDepth 100000 in
theorem dL_825 : decode code 825 = .ok (.iconst 1, 1) := dLg zLaw13_ok (by decide +kernel)
set_option maxRecDepth 100000 in
theorem dL_826 : decode code 826 = .ok (.iadd, 1) := dLg zLaw13_ok (by decide +kernel)
set_option maxRecDepth 100000 in
theorem dL_827 : decode code 827 = .ok (.iaload, 1) := dLg zLaw13_ok (by decide +kernel)
set_option maxRecDepth 100000 in
theorem dL_828 : decode code 828 = .ok (.invokevirtual 98, 3) := dLg zLaw13_ok (by decide +kernel)
set_option maxRecDepth 100000 in
theorem dL_831 : decode code 831 = .ok (.aload_n 2, 1) := dLg zLaw13_ok (by decide +kernel)
set_option maxRecDepth 100000 in
theorem dL_832 : decode code 832 = .ok (.aload_n 0, 1) := dLg zLaw13_ok (by decide +kernel)
set_option maxRecDepth 100000 in
theorem dL_833 : decode code 833 = .ok (.iload_n 3, 1) := dLg zLaw13_ok (by decide +kernel)
set_option maxRecDepth 100000 in
theorem dL_834 : decode code 834 = .ok (.iconst 1, 1) := dLg zLaw13_ok (by decide +kernel)
set_option maxRecDepth 100000 in
theorem dL_835 : decode code 835 = .ok (.iadd, 1) := dLg zLaw13_ok (by decide +kernel)
set_option maxRecDepth 100000 in
theorem dL_836 : decode code 836 = .ok (.iaload, 1) := dLg zLaw13_ok (by decide +kernel)
set_option maxRecDepth 100000 in
theorem dL_837 : decode code 837 = .ok (.invokevirtual 101, 3) := dLg zLaw13_ok (by decide +kernel)
set_option maxRecDepth 100000 in
theorem dL_840 : decode code 840 = .ok (.if_icmp .eq 462, 3) := dLg zLaw13_ok (by decide +kernel)
set_option maxRecDepth 100000 in
theorem dL_843 : decode code 843 = .ok (.iconst 0, 1) := dLg zLaw13_ok (by decide +kernel)
set_option maxRecDepth 100000 in
theorem dL_844 : decode code 844 = .ok (.ireturn, 1) := dLg zLaw13_ok (by decide +kernel)
set_option maxRecDepth 100000 in
theorem dL_845 : decode code 845 = .ok (.aload_n 1, 1) := dLg zLaw13_ok (by decide +kernel)
set_option maxRecDepth 100000 in
theorem dL_846 : decode code 846 = .ok (.aload_n 0, 1) := dLg zLaw13_ok (by decide +kernel)
set_option maxRecDepth 100000 in
theorem dL_847 : decode code 847 = .ok (.iload_n 3, 1) := dLg zLaw13_ok (by decide +kernel)
set_option maxRecDepth 100000 in
theorem dL_848 : decode code 848 = .ok (.iconst 1, 1) := dLg zLaw13_ok (by decide +kernel)
set_option maxRecDepth 100000 in
theorem dL_849 : decode code 849 = .ok (.iadd, 1) := dLg zLaw13_ok (by decide +kernel)
set_option maxRecDepth 100000 in
theorem dL_850 : decode code 850 = .ok (.iaload, 1) := dLg zLaw13_ok (by decide +kernel)
set_option maxRecDepth 100000 in
theorem dL_851 : decode code 851 = .ok (.invokevirtual 102, 3) := dLg zLaw13_ok (by decide +kernel)
set_option maxRecDepth 100000 in
theorem dL_854 : decode code 854 = .ok (.aload_n 2, 1) := dLg zLaw13_ok (by decide +kernel)
set_option maxRecDepth 100000 in
theorem dL_855 : decode code 855 = .ok (.aload_n 0, 1) := dLg zLaw13_ok (by decide +kernel)
set_option maxRecDepth 100000 in
theorem dL_856 : decode code 856 = .ok (.iload_n 3, 1) := dLg zLaw13_ok (by decide +kernel)
set_option maxRecDepth 100000 in
theorem dL_857 : decode code 857 = .ok (.iconst 1, 1) := dLg zLaw13_ok (by decide +kernel)
def zLaw14 : List (Nat × Instr × Nat) := [(858, .iadd, 1), (859, .iaload, 1), (860, .invokevirtual 105, 3), (863, .if_icmp .eq 439, 3), (866, .iconst 0, 1), (867, .ireturn, 1), (868, .aload_n 1, 1), (869, .aload_n 0, 1), (870, .iload_n 3, 1), (871, .iconst 1, 1), (872, .iadd, 1), (873, .iaload, 1), (874, .invokevirtual 106, 3), (877, .aload_n 2, 1), (878, .aload_n 0, 1), (879, .iload_n 3, 1), (880, .iconst 1, 1), (881, .iadd, 1), (882, .iaload, 1), (883, .invokevirtual 109, 3), (886, .if_icmp .eq 416, 3), (889, .iconst 0, 1), (890, .ireturn, 1), (891, .aload_n 1, 1), (892, .aload_n 0, 1), (893, .iload_n 3, 1), (894, .iconst 1, 1), (895, .iadd, 1), (896, .iaload, 1), (897, .invokevirtual 110, 3), (900, .aload_n 2, 1), (901, .aload_n 0, 1), (902, .iload_n 3, 1), (903, .iconst 1, 1), (904, .iadd, 1), (905, .iaload, 1), (906, .invokevirtual 113, 3), (909, .if_icmp .eq 393, 3), (912, .iconst 0, 1), (913, .ireturn, 1)]
theorem zLaw14_ok : zLaw14.all (fun e => match decode code e.1 with | .ok x => decide (x.1 = e.2.1 ∧ x.2 = e.2.2) | _ => false) = true := by decide +kernel
set_option maxRecDepth 100000 in
theorem dL_858 : decode code 858 = .ok (.iadd, 1) := dLg zLaw14_ok (by decide +kernel)
set_option maxRecDepth 100000 in
theorem dL_859 : decode code 859 = .ok (.iaload, 1) := dLg zLaw14_ok (by decide +kernel)
set_option maxRecDepth 100000 in
theorem dL_860 : decode code 860 = .ok (.invokevirtual 105, 3) := dLg zLaw14_ok (by decide +kernel)
set_option maxRecDepth 100000 in
theorem dL_863 : decode code 863 = .ok (.if_icmp .eq 439, 3) := dLg zLaw14_ok (by decide +kernel)
set_option maxRecDepth 100000 in
theorem dL_866 : decode code 866 = .ok (.iconst 0, 1) := dLg zLaw14_ok (by decide +kernel)
set_option maxRecDepth 100000 in
theorem dL_867 : decode code 867 = .ok (.ireturn, 1) := dLg zLaw14_ok (by decide +kernel)
set_option maxRecDepth 100000 in
theorem dL_868 : decode code 868 = .ok (.aload_n 1, 1) := dLg zLaw14_ok (by decide +kernel)
set_option maxRecDepth 100000 in
theorem dL_869 : decode code 869 = .ok (.aload_n 0, 1) := dLg zLaw14_ok (by decide +kernel)
set_option maxRecDepth 100000 in
theorem dL_870 : decode code 870 = .ok (.iload_n 3, 1) := dLg zLaw14_ok (by decide +kernel)
set_option maxRecDepth 100000 in
theorem dL_871 : decode code 871 = .ok (.iconst 1, 1) := dLg zLaw14_ok (by decide +kernel)
set_option maxRecDepth 100000 in
theorem dL_872 : decode code 872 = .ok (.iadd, 1) := dLg zLaw14_ok (by decide +kernel)
set_option maxRecDepth 100000 in
theorem dL_873 : decode code 873 = .ok (.iaload, 1) := dLg zLaw14_ok (by decide +kernel)
set_option maxRecDepth 100000 in
theorem dL_874 : decode code 874 = .ok (.invokevirtual 106, 3) := dLg zLaw14_ok (by decide +kernel)
set_option maxRecDepth 100000 in
theorem dL_877 : decode code 877 = .ok (.aload_n 2, 1) := dLg zLaw14_ok (by decide +kernel)
set_option maxRecDepth 100000 in
theorem dL_878 : decode code 878 = .ok (.aload_n 0, 1) := dLg zLaw14_ok (by decide +kernel)
set_option maxRecDepth 100000 in
theorem dL_879 : decode code 879 = .ok (.iload_n 3, 1) := dLg zLaw14_ok (by decide +kernel)
set_option maxRecDepth 100000 in
theorem dL_880 : decode code 880 = .ok (.iconst 1, 1) := dLg zLaw14_ok (by decide +kernel)
set_option maxRecDepth 100000 in
theorem dL_881 : decode code 881 = .ok (.iadd, 1) := dLg zLaw14_ok (by decide +kernel)
set_option maxRecDepth 100000 in
theorem dL_882 : decode code 882 = .ok (.iaload, 1) := dLg zLaw14_ok (by decide +kernel)
set_option maxRecDepth 100000 in
theorem dL_883 : decode code 883 = .ok (.invokevirtual 109, 3) := dLg zLaw14_ok (by decide +kernel)
set_option maxRecDepth 100000 in
theorem dL_886 : decode code 886 = .ok (.if_icmp .eq 416, 3) := dLg zLaw14_ok (by decide +kernel)
set_option maxRecDepth 100000 in
theorem dL_889 : decode code 889 = .ok (.iconst 0, 1) := dLg zLaw14_ok (by decide +kernel)
set_option maxRecDepth 100000 in
theorem dL_890 : decode code 890 = .ok (.ireturn, 1) := dLg zLaw14_ok (by decide +kernel)
set_option maxRecDepth 100000 in
theorem dL_891 : decode code 891 = .ok (.aload_n 1, 1) := dLg zLaw14_ok (by decide +kernel)
set_option maxRecDepth 100000 in
theorem dL_892 : decode code 892 = .ok (.aload_n 0, 1) := dLg zLaw14_ok (by decide +kernel)
set_option maxRecDepth 100000 in
theorem dL_893 : decode code 893 = .ok (.iload_n 3, 1) := dLg zLaw14_ok (by decide +kernel)
set_option maxRecDepth 100000 in
theorem dL_894 : decode code 894 = .ok (.iconst 1, 1) := dLg zLaw14_ok (by decide +kernel)
set_option maxRecDepth 100000 in
theorem dL_895 : decode code 895 = .ok (.iadd, 1) := dLg zLaw14_ok (by decide +kernel)
set_option maxRecDepth 100000 in
theorem dL_896 : decode code 896 = .ok (.iaload, 1) := dLg zLaw14_ok (by decide +kernel)
set_option maxRecDepth 100000 in
theorem dL_897 : decode code 897 = .ok (.invokevirtual 110, 3) := dLg zLaw14_ok (by decide +kernel)
set_option maxRecDepth 100000 in
theorem dL_900 : decode code 900 = .ok (.aload_n 2, 1) := dLg zLaw14_ok (by decide +kernel)
set_option maxRecDepth 100000 in
theorem dL_901 : decode code 901 = .ok (.aload_n 0, 1) := dLg zLaw14_ok (by decide +kernel)
set_option maxRecDepth 100000 in
theorem dL_902 : decode code 902 = .ok (.iload_n 3, 1) := dLg zLaw14_ok (by decide +kernel)
set_option maxRecDepth 100000 in
theorem dL_903 : decode code 903 = .ok (.iconst 1, 1) := dLg zLaw14_ok (by decide +kernel)
set_option maxRecDepth 100000 in
theorem dL_904 : decode code 904 = .ok (.iadd, 1) := dLg zLaw14_ok (by decide +kernel)
set_option maxRecDepth 100000 in
theorem dL_905 : decode code 905 = .ok (.iaload, 1) := dLg zLaw14_ok (by decide +kernel)
set_option maxRecDepth 100000 in
theorem dL_906 : decode code 906 = .ok (.invokevirtual 113, 3) := dLg zLaw14_ok (by decide +kernel)
set_option maxRecDepth 100000 in
theorem dL_909 : decode code 909 = .ok (.if_icmp .eq 393, 3) := dLg zLaw14_ok (by decide +kernel)
set_option maxRecDepth 100000 in
theorem dL_912 : decode code 912 = .ok (.iconst 0, 1) := dLg zLaw14_ok (by decide +kernel)
set_option maxRecDepth 100000 in
theorem dL_913 : decode code 913 = .ok (.ireturn, 1) := dLg zLaw14_ok (by decide +kernel)
