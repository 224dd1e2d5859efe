/-! decode rows -/
theorem d_La_law_632 : decode code 632 = .ok (.aload_n 0, 1) := by decide +kernel
theorem d_La_law_633 : decode code 633 = .ok (.iload_n 3, 1) := by decide +kernel
theorem d_La_law_634 : decode code 634 = .ok (.iconst 1, 1) := by decide +kernel
theorem d_La_law_635 : decode code 635 = .ok (.iadd, 1) := by decide +kernel
theorem d_La_law_636 : decode code 636 = .ok (.iaload, 1) := by decide +kernel
theorem d_La_law_637 : decode code 637 = .ok (.aload_n 0, 1) := by decide +kernel
theorem d_La_law_638 : decode code 638 = .ok (.iload_n 3, 1) := by decide +kernel
theorem d_La_law_639 : decode code 639 = .ok (.iconst 2, 1) := by decide +kernel
theorem d_La_law_640 : decode code 640 = .ok (.iadd, 1) := by decide +kernel
theorem d_La_law_641 : decode code 641 = .ok (.iaload, 1) := by decide +kernel
theorem d_La_law_642 : decode code 642 = .ok (.invokevirtual 84, 3) := by decide +kernel
theorem d_La_law_645 : decode code 645 = .ok (.if_icmp .eq 5, 3) := by decide +kernel
theorem d_La_law_648 : decode code 648 = .ok (.iconst 0, 1) := by decide +kernel
theorem d_La_law_649 : decode code 649 = .ok (.ireturn, 1) := by decide +kernel
theorem d_La_law_650 : decode code 650 = .ok (.iinc 3 6, 3) := by decide +kernel
theorem d_La_law_653 : decode code 653 = .ok (.goto (-635), 3) := by decide +kernel
theorem d_La_law_656 : decode code 656 = .ok (.iconst 1, 1) := by decide +kernel
theorem d_La_law_657 : decode code 657 = .ok (.ireturn, 1) := by decide +kernel
