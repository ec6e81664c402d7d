/-! ===== the law's instructions, 375 to 401 ===== -/
theorem dL_639 : decode code 639 = .ok (.iload_n 3, 1) := by decide +kernel
theorem dL_640 : decode code 640 = .ok (.iconst 1, 1) := by decide +kernel
theorem dL_641 : decode code 641 = .ok (.iadd, 1) := by decide +kernel
theorem dL_642 : decode code 642 = .ok (.iaload, 1) := by decide +kernel
theorem dL_643 : decode code 643 = .ok (.invokevirtual 109, 3) := by decide +kernel
theorem dL_646 : decode code 646 = .ok (.aload_n 2, 1) := by decide +kernel
theorem dL_647 : decode code 647 = .ok (.aload_n 0, 1) := by decide +kernel
theorem dL_648 : decode code 648 = .ok (.iload_n 3, 1) := by decide +kernel
theorem dL_649 : decode code 649 = .ok (.iconst 1, 1) := by decide +kernel
theorem dL_650 : decode code 650 = .ok (.iadd, 1) := by decide +kernel
theorem dL_651 : decode code 651 = .ok (.iaload, 1) := by decide +kernel
theorem dL_652 : decode code 652 = .ok (.invokevirtual 112, 3) := by decide +kernel
theorem dL_655 : decode code 655 = .ok (.if_icmp .eq 19, 3) := by decide +kernel
theorem dL_658 : decode code 658 = .ok (.iconst 0, 1) := by decide +kernel
theorem dL_659 : decode code 659 = .ok (.ireturn, 1) := by decide +kernel
theorem dL_660 : decode code 660 = .ok (.aload_n 1, 1) := by decide +kernel
theorem dL_661 : decode code 661 = .ok (.invokevirtual 113, 3) := by decide +kernel
theorem dL_664 : decode code 664 = .ok (.aload_n 2, 1) := by decide +kernel
theorem dL_665 : decode code 665 = .ok (.invokevirtual 117, 3) := by decide +kernel
theorem dL_668 : decode code 668 = .ok (.lcmp, 1) := by decide +kernel
theorem dL_669 : decode code 669 = .ok (.ifCond .eq 5, 3) := by decide +kernel
theorem dL_672 : decode code 672 = .ok (.iconst 0, 1) := by decide +kernel
theorem dL_673 : decode code 673 = .ok (.ireturn, 1) := by decide +kernel
theorem dL_674 : decode code 674 = .ok (.iinc 3 4, 3) := by decide +kernel
theorem dL_677 : decode code 677 = .ok (.goto (-659), 3) := by decide +kernel
theorem dL_680 : decode code 680 = .ok (.iconst 1, 1) := by decide +kernel
theorem dL_681 : decode code 681 = .ok (.ireturn, 1) := by decide +kernel
