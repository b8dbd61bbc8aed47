def lwTab : Array Int := #[207, 250, 293, 326, 369, 402, 435, 468, 531, 554, 567, 580, 593, 606, 619, 632, 655, 688, 711, 754, 797, 820, 853, 866, 879, 892, 935, 988, 1001, 1024, 1047, 1100, 1143, 1166, 1189, 1212, 1235, 1258, 1271, 1324, 1337, 1360, 1373, 1406, 1439, 1462, 1485, 1508]
/-! rows of the law's frame -/
theorem d_law_0 : decode code 0 = .ok (.new 7, 3) := by decide +kernel
theorem d_law_3 : decode code 3 = .ok (.dup, 1) := by decide +kernel
theorem d_law_4 : decode code 4 = .ok (.invokespecial 9, 3) := by decide +kernel
theorem d_law_7 : decode code 7 = .ok (.astore_n 1, 1) := by decide +kernel
theorem d_law_8 : decode code 8 = .ok (.new 10, 3) := by decide +kernel
theorem d_law_11 : decode code 11 = .ok (.dup, 1) := by decide +kernel
theorem d_law_12 : decode code 12 = .ok (.invokespecial 12, 3) := by decide +kernel
theorem d_law_15 : decode code 15 = .ok (.astore_n 2, 1) := by decide +kernel
theorem d_law_16 : decode code 16 = .ok (.iconst 0, 1) := by decide +kernel
theorem d_law_17 : decode code 17 = .ok (.istore_n 3, 1) := by decide +kernel
theorem d_law_18 : decode code 18 = .ok (.iload_n 3, 1) := by decide +kernel
theorem d_law_19 : decode code 19 = .ok (.aload_n 0, 1) := by decide +kernel
theorem d_law_20 : decode code 20 = .ok (.arraylength, 1) := by decide +kernel
theorem d_law_21 : decode code 21 = .ok (.bipush 6, 2) := by decide +kernel
theorem d_law_23 : decode code 23 = .ok (.isub, 1) := by decide +kernel
theorem d_law_24 : decode code 24 = .ok (.if_icmp .gt 1536, 3) := by decide +kernel
theorem d_law_27 : decode code 27 = .ok (.aload_n 0, 1) := by decide +kernel
theorem d_law_28 : decode code 28 = .ok (.iload_n 3, 1) := by decide +kernel
theorem d_law_29 : decode code 29 = .ok (.iaload, 1) := by decide +kernel
theorem d_law_30 : decode code 30 = .ok (.bipush 63, 2) := by decide +kernel
theorem d_law_32 : decode code 32 = .ok (.iand, 1) := by decide +kernel
theorem d_law_33 : decode code 33 = .ok (.tableswitch 1521 0 47 lwTab, 207) := by decide +kernel
theorem d_law_1554 : decode code 1554 = .ok (.iinc 3 6, 3) := by decide +kernel
theorem d_law_1557 : decode code 1557 = .ok (.goto (-1539), 3) := by decide +kernel
theorem d_law_1560 : decode code 1560 = .ok (.iconst 1, 1) := by decide +kernel
theorem d_law_1561 : decode code 1561 = .ok (.ireturn, 1) := by decide +kernel

