/-! rows of the law, by program -/
theorem dL_law_579 : decode cL_law 579 = .ok (.iconst 4, 1) := by decide +kernel
theorem dL_law_580 : decode cL_law 580 = .ok (.if_icmp .ge 46, 3) := by decide +kernel
theorem dL_law_583 : decode cL_law 583 = .ok (.aload_n 1, 1) := by decide +kernel
theorem dL_law_584 : decode cL_law 584 = .ok (.iload 16, 2) := by decide +kernel
theorem dL_law_586 : decode cL_law 586 = .ok (.invokevirtual 158, 3) := by decide +kernel
theorem dL_law_589 : decode cL_law 589 = .ok (.ifCond .eq 31, 3) := by decide +kernel
theorem dL_law_592 : decode cL_law 592 = .ok (.aload_n 1, 1) := by decide +kernel
theorem dL_law_593 : decode cL_law 593 = .ok (.iload 9, 2) := by decide +kernel
theorem dL_law_595 : decode cL_law 595 = .ok (.getstatic 161, 3) := by decide +kernel
theorem dL_law_598 : decode cL_law 598 = .ok (.iload 16, 2) := by decide +kernel
theorem dL_law_600 : decode cL_law 600 = .ok (.iaload, 1) := by decide +kernel
theorem dL_law_601 : decode cL_law 601 = .ok (.iadd, 1) := by decide +kernel
theorem dL_law_602 : decode cL_law 602 = .ok (.iload 10, 2) := by decide +kernel
theorem dL_law_604 : decode cL_law 604 = .ok (.getstatic 164, 3) := by decide +kernel
theorem dL_law_607 : decode cL_law 607 = .ok (.iload 16, 2) := by decide +kernel
theorem dL_law_609 : decode cL_law 609 = .ok (.iaload, 1) := by decide +kernel
theorem dL_law_610 : decode cL_law 610 = .ok (.iadd, 1) := by decide +kernel
theorem dL_law_611 : decode cL_law 611 = .ok (.invokevirtual 143, 3) := by decide +kernel
theorem dL_law_614 : decode cL_law 614 = .ok (.iconst 1, 1) := by decide +kernel
theorem dL_law_615 : decode cL_law 615 = .ok (.if_icmp .eq 5, 3) := by decide +kernel
theorem dL_law_618 : decode cL_law 618 = .ok (.iconst 0, 1) := by decide +kernel
theorem dL_law_619 : decode cL_law 619 = .ok (.ireturn, 1) := by decide +kernel
theorem dL_law_620 : decode cL_law 620 = .ok (.iinc 16 1, 3) := by decide +kernel
theorem dL_law_623 : decode cL_law 623 = .ok (.goto (-46), 3) := by decide +kernel
theorem dL_law_626 : decode cL_law 626 = .ok (.iload 4, 2) := by decide +kernel
theorem dL_law_628 : decode cL_law 628 = .ok (.iconst 4, 1) := by decide +kernel
theorem dL_law_629 : decode cL_law 629 = .ok (.ishr, 1) := by decide +kernel
theorem dL_law_630 : decode cL_law 630 = .ok (.iload 7, 2) := by decide +kernel
theorem dL_law_632 : decode cL_law 632 = .ok (.invokestatic 15, 3) := by decide +kernel
theorem dL_law_635 : decode cL_law 635 = .ok (.istore 16, 2) := by decide +kernel
theorem dL_law_637 : decode cL_law 637 = .ok (.iload 4, 2) := by decide +kernel
theorem dL_law_639 : decode cL_law 639 = .ok (.bipush 6, 2) := by decide +kernel
theorem dL_law_641 : decode cL_law 641 = .ok (.ishr, 1) := by decide +kernel
theorem dL_law_642 : decode cL_law 642 = .ok (.iload 8, 2) := by decide +kernel
theorem dL_law_644 : decode cL_law 644 = .ok (.invokestatic 15, 3) := by decide +kernel
theorem dL_law_647 : decode cL_law 647 = .ok (.istore 17, 2) := by decide +kernel
theorem dL_law_649 : decode cL_law 649 = .ok (.iconst 1, 1) := by decide +kernel
theorem dL_law_650 : decode cL_law 650 = .ok (.iload 4, 2) := by decide +kernel
theorem dL_law_652 : decode cL_law 652 = .ok (.iconst 5, 1) := by decide +kernel
theorem dL_law_653 : decode cL_law 653 = .ok (.ishr, 1) := by decide +kernel
theorem dL_law_654 : decode cL_law 654 = .ok (.bipush 6, 2) := by decide +kernel
theorem dL_law_656 : decode cL_law 656 = .ok (.invokestatic 15, 3) := by decide +kernel
theorem dL_law_659 : decode cL_law 659 = .ok (.iadd, 1) := by decide +kernel
theorem dL_law_660 : decode cL_law 660 = .ok (.istore 18, 2) := by decide +kernel
theorem dL_law_662 : decode cL_law 662 = .ok (.aload_n 1, 1) := by decide +kernel
theorem dL_law_663 : decode cL_law 663 = .ok (.iload 16, 2) := by decide +kernel
theorem dL_law_665 : decode cL_law 665 = .ok (.iload 17, 2) := by decide +kernel
theorem dL_law_667 : decode cL_law 667 = .ok (.iload 18, 2) := by decide +kernel
theorem dL_law_669 : decode cL_law 669 = .ok (.invokevirtual 167, 3) := by decide +kernel
theorem dL_law_672 : decode cL_law 672 = .ok (.istore 19, 2) := by decide +kernel
theorem dL_law_674 : decode cL_law 674 = .ok (.aload_n 1, 1) := by decide +kernel
theorem dL_law_675 : decode cL_law 675 = .ok (.iload 16, 2) := by decide +kernel
theorem dL_law_677 : decode cL_law 677 = .ok (.iload 17, 2) := by decide +kernel
theorem dL_law_679 : decode cL_law 679 = .ok (.iload 18, 2) := by decide +kernel
theorem dL_law_681 : decode cL_law 681 = .ok (.invokevirtual 171, 3) := by decide +kernel
theorem dL_law_684 : decode cL_law 684 = .ok (.istore 20, 2) := by decide +kernel
theorem dL_law_686 : decode cL_law 686 = .ok (.iload 19, 2) := by decide +kernel
theorem dL_law_688 : decode cL_law 688 = .ok (.ifCond .lt 16, 3) := by decide +kernel
theorem dL_law_691 : decode cL_law 691 = .ok (.iload 19, 2) := by decide +kernel
theorem dL_law_693 : decode cL_law 693 = .ok (.aload_n 1, 1) := by decide +kernel
