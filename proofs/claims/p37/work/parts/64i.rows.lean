/-! rows of the law, by program -/
theorem dL_law_928 : decode cL_law 928 = .ok (.aload_n 1, 1) := by decide +kernel
theorem dL_law_929 : decode cL_law 929 = .ok (.iload 26, 2) := by decide +kernel
theorem dL_law_931 : decode cL_law 931 = .ok (.invokevirtual 177, 3) := by decide +kernel
theorem dL_law_934 : decode cL_law 934 = .ok (.isub, 1) := by decide +kernel
theorem dL_law_935 : decode cL_law 935 = .ok (.istore 24, 2) := by decide +kernel
theorem dL_law_937 : decode cL_law 937 = .ok (.iinc 26 1, 3) := by decide +kernel
theorem dL_law_940 : decode cL_law 940 = .ok (.goto (-21), 3) := by decide +kernel
theorem dL_law_943 : decode cL_law 943 = .ok (.iload 24, 2) := by decide +kernel
theorem dL_law_945 : decode cL_law 945 = .ok (.aload_n 1, 1) := by decide +kernel
theorem dL_law_946 : decode cL_law 946 = .ok (.invokevirtual 137, 3) := by decide +kernel
theorem dL_law_949 : decode cL_law 949 = .ok (.iload 25, 2) := by decide +kernel
theorem dL_law_951 : decode cL_law 951 = .ok (.isub, 1) := by decide +kernel
theorem dL_law_952 : decode cL_law 952 = .ok (.if_icmp .ne 9, 3) := by decide +kernel
theorem dL_law_955 : decode cL_law 955 = .ok (.iload 24, 2) := by decide +kernel
theorem dL_law_957 : decode cL_law 957 = .ok (.iconst 2, 1) := by decide +kernel
theorem dL_law_958 : decode cL_law 958 = .ok (.if_icmp .le 5, 3) := by decide +kernel
theorem dL_law_961 : decode cL_law 961 = .ok (.iconst 0, 1) := by decide +kernel
theorem dL_law_962 : decode cL_law 962 = .ok (.ireturn, 1) := by decide +kernel
theorem dL_law_963 : decode cL_law 963 = .ok (.iinc 3 1, 3) := by decide +kernel
theorem dL_law_966 : decode cL_law 966 = .ok (.goto (-944), 3) := by decide +kernel
theorem dL_law_969 : decode cL_law 969 = .ok (.aload_n 2, 1) := by decide +kernel
theorem dL_law_970 : decode cL_law 970 = .ok (.aload_n 1, 1) := by decide +kernel
theorem dL_law_971 : decode cL_law 971 = .ok (.invokevirtual 180, 3) := by decide +kernel
theorem dL_law_974 : decode cL_law 974 = .ok (.ireturn, 1) := by decide +kernel
