/-! words of the constructors -/
theorem ff_RX0_18 : zFlf RX0 18 0 2 (.array .int) := ⟨RX0, TX0, 7, rfl, by decide, mt_wsX00, (mc_wsL_law_r7 _ (List.mem_of_getElem? (i := 19) rfl)), rfl, by decide +kernel, rfl⟩
theorem ff_RX0_22 : zFlf RX0 22 0 3 (.array .int) := ⟨RX0, TX0, 7, rfl, by decide, mt_wsX00, (mc_wsL_law_r7 _ (List.mem_of_getElem? (i := 20) rfl)), rfl, by decide +kernel, rfl⟩
theorem ff_RX0_25 : zFlf RX0 25 0 4 (.array .int) := ⟨RX0, TX0, 7, rfl, by decide, mt_wsX00, (mc_wsL_law_r7 _ (List.mem_of_getElem? (i := 21) rfl)), rfl, by decide +kernel, rfl⟩
theorem ff_RX0_28 : zFlf RX0 28 0 5 (.array .int) := ⟨RX0, TX0, 7, rfl, by decide, mt_wsX00, (mc_wsL_law_r7 _ (List.mem_of_getElem? (i := 22) rfl)), rfl, by decide +kernel, rfl⟩
theorem ff_RX0_31 : zFlf RX0 31 0 6 (.array .int) := ⟨RX0, TX0, 7, rfl, by decide, mt_wsX00, (mc_wsL_law_r7 _ (List.mem_of_getElem? (i := 23) rfl)), rfl, by decide +kernel, rfl⟩
theorem ff_RX1_28 : zFlf RX1 28 1 6 (.object "StraitGame$Position") := ⟨RX1, TX1, 7, rfl, by decide, mt_wsX10, (mc_wsL_law_r7 _ (List.mem_of_getElem? (i := 11) rfl)), rfl, by decide +kernel, rfl⟩
theorem ff_RX1_32 : zFlf RX1 32 1 0 (.object "StraitGame$Laws") := ⟨RX1, TX1, 7, rfl, by decide, mt_wsX10, (mc_wsL_law_r7 _ (List.mem_of_getElem? (i := 12) rfl)), rfl, by decide +kernel, rfl⟩
theorem ff_RX1_36 : zFlf RX1 36 1 1 (.object "StraitGame$Nights") := ⟨RX1, TX1, 7, rfl, by decide, mt_wsX10, (mc_wsL_law_r7 _ (List.mem_of_getElem? (i := 13) rfl)), rfl, by decide +kernel, rfl⟩
theorem ff_RX10_27 : zFlf RX10 27 10 5 (.array .boolean) := ⟨RX10, TX10, 13, rfl, by decide, mt_wsX100, (mc_wsL_law_r3 _ (List.mem_of_getElem? (i := 13) rfl)), rfl, by decide +kernel, rfl⟩
theorem ff_RX10_31 : zFlf RX10 31 10 6 (.array .boolean) := ⟨RX10, TX10, 13, rfl, by decide, mt_wsX100, (mc_wsL_law_r3 _ (List.mem_of_getElem? (i := 14) rfl)), rfl, by decide +kernel, rfl⟩
theorem ff_RX10_34 : zFlf RX10 34 10 7 (.array .int) := ⟨RX10, TX10, 13, rfl, by decide, mt_wsX100, (mc_wsL_law_r3 _ (List.mem_of_getElem? (i := 16) rfl)), rfl, by decide +kernel, rfl⟩
theorem ff_RX10_38 : zFlf RX10 38 10 8 (.array .boolean) := ⟨RX10, TX10, 13, rfl, by decide, mt_wsX100, (mc_wsL_law_r3 _ (List.mem_of_getElem? (i := 17) rfl)), rfl, by decide +kernel, rfl⟩
theorem ff_RX10_41 : zFlf RX10 41 10 9 (.array .int) := ⟨RX10, TX10, 13, rfl, by decide, mt_wsX100, (mc_wsL_law_r3 _ (List.mem_of_getElem? (i := 18) rfl)), rfl, by decide +kernel, rfl⟩
theorem ff_RX10_44 : zFlf RX10 44 10 10 (.array .int) := ⟨RX10, TX10, 13, rfl, by decide, mt_wsX100, (mc_wsL_law_r3 _ (List.mem_of_getElem? (i := 19) rfl)), rfl, by decide +kernel, rfl⟩
theorem ff_RX10_47 : zFlf RX10 47 10 11 (.array .int) := ⟨RX10, TX10, 13, rfl, by decide, mt_wsX100, (mc_wsL_law_r3 _ (List.mem_of_getElem? (i := 20) rfl)), rfl, by decide +kernel, rfl⟩
theorem ff_RX10_53 : zFlf RX10 53 10 12 (.object "StraitGame$Position") := ⟨RX10, TX10, 13, rfl, by decide, mt_wsX100, (mc_wsL_law_r4 _ (List.mem_of_getElem? (i := 0) rfl)), rfl, by decide +kernel, rfl⟩
theorem ff_RX11_9 : zFlf RX11 9 11 0 (.array .byte) := ⟨RX11, TX11, 12, rfl, by decide, mt_wsX110, (mc_wsL_law_r1 _ (List.mem_of_getElem? (i := 13) rfl)), rfl, by decide +kernel, rfl⟩
theorem ff_RX11_32 : zFlf RX11 32 11 4 (.object "StraitGame$Reader") := ⟨RX11, TX11, 12, rfl, by decide, mt_wsX110, (mc_wsL_law_r1 _ (List.mem_of_getElem? (i := 23) rfl)), rfl, by decide +kernel, rfl⟩
theorem ff_RX11_39 : zFlf RX11 39 11 5 (.object "StraitGame$Laws") := ⟨RX11, TX11, 12, rfl, by decide, mt_wsX110, (mc_wsL_law_r2 _ (List.mem_of_getElem? (i := 3) rfl)), rfl, by decide +kernel, rfl⟩
theorem ff_RX11_48 : zFlf RX11 48 11 6 (.object "StraitGame$Search") := ⟨RX11, TX11, 12, rfl, by decide, mt_wsX110, (mc_wsL_law_r2 _ (List.mem_of_getElem? (i := 7) rfl)), rfl, by decide +kernel, rfl⟩
theorem ff_RX11_55 : zFlf RX11 55 11 7 (.object "StraitGame$Nights") := ⟨RX11, TX11, 12, rfl, by decide, mt_wsX110, (mc_wsL_law_r2 _ (List.mem_of_getElem? (i := 11) rfl)), rfl, by decide +kernel, rfl⟩
theorem ff_RX11_64 : zFlf RX11 64 11 8 (.object "StraitGame$Guess") := ⟨RX11, TX11, 12, rfl, by decide, mt_wsX110, (mc_wsL_law_r2 _ (List.mem_of_getElem? (i := 15) rfl)), rfl, by decide +kernel, rfl⟩
theorem ff_RX11_71 : zFlf RX11 71 11 9 (.object "StraitGame$Codes") := ⟨RX11, TX11, 12, rfl, by decide, mt_wsX110, (mc_wsL_law_r2 _ (List.mem_of_getElem? (i := 19) rfl)), rfl, by decide +kernel, rfl⟩
theorem ff_RX11_78 : zFlf RX11 78 11 10 (.object "StraitGame$Sights") := ⟨RX11, TX11, 12, rfl, by decide, mt_wsX110, (mc_wsL_law_r2 _ (List.mem_of_getElem? (i := 23) rfl)), rfl, by decide +kernel, rfl⟩
theorem ff_RX11_87 : zFlf RX11 87 11 11 (.object "StraitGame$Storms") := ⟨RX11, TX11, 12, rfl, by decide, mt_wsX110, (mc_wsL_law_r3 _ (List.mem_of_getElem? (i := 3) rfl)), rfl, by decide +kernel, rfl⟩
theorem ff_RX12_7 : zFlf RX12 7 12 0 (.array .byte) := ⟨RX12, TX12, 55, rfl, by decide, mt_wsX120, (mc_wsL_law_r12 _ (List.mem_of_getElem? (i := 20) rfl)), rfl, by decide +kernel, rfl⟩
theorem ff_RX12_13 : zFlf RX12 13 12 1 (.array .byte) := ⟨RX12, TX12, 55, rfl, by decide, mt_wsX120, (mc_wsL_law_r12 _ (List.mem_of_getElem? (i := 21) rfl)), rfl, by decide +kernel, rfl⟩
theorem ff_RX12_16 : zFlf RX12 16 12 2 (.array .int) := ⟨RX12, TX12, 55, rfl, by decide, mt_wsX120, (mc_wsL_law_r12 _ (List.mem_of_getElem? (i := 22) rfl)), rfl, by decide +kernel, rfl⟩
theorem ff_RX12_24 : zFlf RX12 24 12 12 (.array .int) := ⟨RX12, TX12, 55, rfl, by decide, mt_wsX120, (mc_wsL_law_r13 _ (List.mem_of_getElem? (i := 0) rfl)), rfl, by decide +kernel, rfl⟩
theorem ff_RX12_27 : zFlf RX12 27 12 13 (.array .int) := ⟨RX12, TX12, 55, rfl, by decide, mt_wsX120, (mc_wsL_law_r13 _ (List.mem_of_getElem? (i := 1) rfl)), rfl, by decide +kernel, rfl⟩
theorem ff_RX12_30 : zFlf RX12 30 12 14 (.array .int) := ⟨RX12, TX12, 55, rfl, by decide, mt_wsX120, (mc_wsL_law_r13 _ (List.mem_of_getElem? (i := 2) rfl)), rfl, by decide +kernel, rfl⟩
theorem ff_RX12_33 : zFlf RX12 33 12 15 (.array .int) := ⟨RX12, TX12, 55, rfl, by decide, mt_wsX120, (mc_wsL_law_r13 _ (List.mem_of_getElem? (i := 3) rfl)), rfl, by decide +kernel, rfl⟩
theorem ff_RX12_36 : zFlf RX12 36 12 16 (.array .int) := ⟨RX12, TX12, 55, rfl, by decide, mt_wsX120, (mc_wsL_law_r13 _ (List.mem_of_getElem? (i := 4) rfl)), rfl, by decide +kernel, rfl⟩
theorem ff_RX12_39 : zFlf RX12 39 12 17 (.array .int) := ⟨RX12, TX12, 55, rfl, by decide, mt_wsX120, (mc_wsL_law_r13 _ (List.mem_of_getElem? (i := 5) rfl)), rfl, by decide +kernel, rfl⟩
theorem ff_RX12_42 : zFlf RX12 42 12 18 (.array .int) := ⟨RX12, TX12, 55, rfl, by decide, mt_wsX120, (mc_wsL_law_r13 _ (List.mem_of_getElem? (i := 6) rfl)), rfl, by decide +kernel, rfl⟩
theorem ff_RX12_45 : zFlf RX12 45 12 19 (.array .int) := ⟨RX12, TX12, 55, rfl, by decide, mt_wsX120, (mc_wsL_law_r13 _ (List.mem_of_getElem? (i := 7) rfl)), rfl, by decide +kernel, rfl⟩
theorem ff_RX12_48 : zFlf RX12 48 12 20 (.array .int) := ⟨RX12, TX12, 55, rfl, by decide, mt_wsX120, (mc_wsL_law_r13 _ (List.mem_of_getElem? (i := 8) rfl)), rfl, by decide +kernel, rfl⟩
theorem ff_RX12_51 : zFlf RX12 51 12 21 (.array .boolean) := ⟨RX12, TX12, 55, rfl, by decide, mt_wsX120, (mc_wsL_law_r13 _ (List.mem_of_getElem? (i := 9) rfl)), rfl, by decide +kernel, rfl⟩
theorem ff_RX12_55 : zFlf RX12 55 12 22 (.array .boolean) := ⟨RX12, TX12, 55, rfl, by decide, mt_wsX120, (mc_wsL_law_r13 _ (List.mem_of_getElem? (i := 10) rfl)), rfl, by decide +kernel, rfl⟩
theorem ff_RX12_58 : zFlf RX12 58 12 23 (.array .boolean) := ⟨RX12, TX12, 55, rfl, by decide, mt_wsX120, (mc_wsL_law_r13 _ (List.mem_of_getElem? (i := 11) rfl)), rfl, by decide +kernel, rfl⟩
theorem ff_RX12_61 : zFlf RX12 61 12 24 (.array .boolean) := ⟨RX12, TX12, 55, rfl, by decide, mt_wsX120, (mc_wsL_law_r13 _ (List.mem_of_getElem? (i := 12) rfl)), rfl, by decide +kernel, rfl⟩
theorem ff_RX12_64 : zFlf RX12 64 12 25 (.array .long) := ⟨RX12, TX12, 55, rfl, by decide, mt_wsX120, (mc_wsL_law_r13 _ (List.mem_of_getElem? (i := 14) rfl)), rfl, by decide +kernel, rfl⟩
theorem ff_RX12_68 : zFlf RX12 68 12 30 (.array .int) := ⟨RX12, TX12, 55, rfl, by decide, mt_wsX120, (mc_wsL_law_r13 _ (List.mem_of_getElem? (i := 15) rfl)), rfl, by decide +kernel, rfl⟩
theorem ff_RX12_71 : zFlf RX12 71 12 31 (.array .int) := ⟨RX12, TX12, 55, rfl, by decide, mt_wsX120, (mc_wsL_law_r13 _ (List.mem_of_getElem? (i := 16) rfl)), rfl, by decide +kernel, rfl⟩
theorem ff_RX12_74 : zFlf RX12 74 12 33 (.array .int) := ⟨RX12, TX12, 55, rfl, by decide, mt_wsX120, (mc_wsL_law_r13 _ (List.mem_of_getElem? (i := 17) rfl)), rfl, by decide +kernel, rfl⟩
theorem ff_RX12_77 : zFlf RX12 77 12 34 (.array .int) := ⟨RX12, TX12, 55, rfl, by decide, mt_wsX120, (mc_wsL_law_r13 _ (List.mem_of_getElem? (i := 18) rfl)), rfl, by decide +kernel, rfl⟩
theorem ff_RX12_80 : zFlf RX12 80 12 35 (.array .boolean) := ⟨RX12, TX12, 55, rfl, by decide, mt_wsX120, (mc_wsL_law_r13 _ (List.mem_of_getElem? (i := 19) rfl)), rfl, by decide +kernel, rfl⟩
theorem ff_RX12_83 : zFlf RX12 83 12 36 (.array .boolean) := ⟨RX12, TX12, 55, rfl, by decide, mt_wsX120, (mc_wsL_law_r13 _ (List.mem_of_getElem? (i := 20) rfl)), rfl, by decide +kernel, rfl⟩
theorem ff_RX12_86 : zFlf RX12 86 12 40 (.array .int) := ⟨RX12, TX12, 55, rfl, by decide, mt_wsX120, (mc_wsL_law_r13 _ (List.mem_of_getElem? (i := 21) rfl)), rfl, by decide +kernel, rfl⟩
theorem ff_RX12_89 : zFlf RX12 89 12 41 (.array .int) := ⟨RX12, TX12, 55, rfl, by decide, mt_wsX120, (mc_wsL_law_r13 _ (List.mem_of_getElem? (i := 22) rfl)), rfl, by decide +kernel, rfl⟩
theorem ff_RX12_92 : zFlf RX12 92 12 42 (.array .int) := ⟨RX12, TX12, 55, rfl, by decide, mt_wsX120, (mc_wsL_law_r13 _ (List.mem_of_getElem? (i := 23) rfl)), rfl, by decide +kernel, rfl⟩
theorem ff_RX12_95 : zFlf RX12 95 12 43 (.array .int) := ⟨RX12, TX12, 55, rfl, by decide, mt_wsX120, (mc_wsL_law_r14 _ (List.mem_of_getElem? (i := 0) rfl)), rfl, by decide +kernel, rfl⟩
theorem ff_RX12_98 : zFlf RX12 98 12 44 (.array .int) := ⟨RX12, TX12, 55, rfl, by decide, mt_wsX120, (mc_wsL_law_r14 _ (List.mem_of_getElem? (i := 1) rfl)), rfl, by decide +kernel, rfl⟩
theorem ff_RX12_101 : zFlf RX12 101 12 45 (.array .int) := ⟨RX12, TX12, 55, rfl, by decide, mt_wsX120, (mc_wsL_law_r14 _ (List.mem_of_getElem? (i := 2) rfl)), rfl, by decide +kernel, rfl⟩
theorem ff_RX12_104 : zFlf RX12 104 12 46 (.array .int) := ⟨RX12, TX12, 55, rfl, by decide, mt_wsX120, (mc_wsL_law_r14 _ (List.mem_of_getElem? (i := 3) rfl)), rfl, by decide +kernel, rfl⟩
theorem ff_RX12_107 : zFlf RX12 107 12 49 (.array .int) := ⟨RX12, TX12, 55, rfl, by decide, mt_wsX120, (mc_wsL_law_r14 _ (List.mem_of_getElem? (i := 4) rfl)), rfl, by decide +kernel, rfl⟩
theorem ff_RX12_110 : zFlf RX12 110 12 50 (.array .int) := ⟨RX12, TX12, 55, rfl, by decide, mt_wsX120, (mc_wsL_law_r14 _ (List.mem_of_getElem? (i := 5) rfl)), rfl, by decide +kernel, rfl⟩
theorem ff_RX12_113 : zFlf RX12 113 12 51 (.array .int) := ⟨RX12, TX12, 55, rfl, by decide, mt_wsX120, (mc_wsL_law_r14 _ (List.mem_of_getElem? (i := 6) rfl)), rfl, by decide +kernel, rfl⟩
theorem ff_RX12_116 : zFlf RX12 116 12 52 (.array .int) := ⟨RX12, TX12, 55, rfl, by decide, mt_wsX120, (mc_wsL_law_r14 _ (List.mem_of_getElem? (i := 7) rfl)), rfl, by decide +kernel, rfl⟩
theorem ff_RX12_119 : zFlf RX12 119 12 53 (.array .boolean) := ⟨RX12, TX12, 55, rfl, by decide, mt_wsX120, (mc_wsL_law_r14 _ (List.mem_of_getElem? (i := 8) rfl)), rfl, by decide +kernel, rfl⟩
theorem ff_RX12_122 : zFlf RX12 122 12 54 (.array .boolean) := ⟨RX12, TX12, 55, rfl, by decide, mt_wsX120, (mc_wsL_law_r14 _ (List.mem_of_getElem? (i := 9) rfl)), rfl, by decide +kernel, rfl⟩
theorem ff_RX2_28 : zFlf RX2 28 2 5 (.array .int) := ⟨RX2, TX2, 12, rfl, by decide, mt_wsX20, (mc_wsL_law_r5 _ (List.mem_of_getElem? (i := 21) rfl)), rfl, by decide +kernel, rfl⟩
theorem ff_RX2_32 : zFlf RX2 32 2 6 (.array .boolean) := ⟨RX2, TX2, 12, rfl, by decide, mt_wsX20, (mc_wsL_law_r5 _ (List.mem_of_getElem? (i := 22) rfl)), rfl, by decide +kernel, rfl⟩
theorem ff_RX2_36 : zFlf RX2 36 2 7 (.array .int) := ⟨RX2, TX2, 12, rfl, by decide, mt_wsX20, (mc_wsL_law_r5 _ (List.mem_of_getElem? (i := 23) rfl)), rfl, by decide +kernel, rfl⟩
theorem ff_RX2_39 : zFlf RX2 39 2 8 (.array .int) := ⟨RX2, TX2, 12, rfl, by decide, mt_wsX20, (mc_wsL_law_r6 _ (List.mem_of_getElem? (i := 0) rfl)), rfl, by decide +kernel, rfl⟩
theorem ff_RX2_42 : zFlf RX2 42 2 9 (.array .int) := ⟨RX2, TX2, 12, rfl, by decide, mt_wsX20, (mc_wsL_law_r6 _ (List.mem_of_getElem? (i := 1) rfl)), rfl, by decide +kernel, rfl⟩
theorem ff_RX2_45 : zFlf RX2 45 2 10 (.array .int) := ⟨RX2, TX2, 12, rfl, by decide, mt_wsX20, (mc_wsL_law_r6 _ (List.mem_of_getElem? (i := 2) rfl)), rfl, by decide +kernel, rfl⟩
theorem ff_RX2_48 : zFlf RX2 48 2 11 (.array .int) := ⟨RX2, TX2, 12, rfl, by decide, mt_wsX20, (mc_wsL_law_r6 _ (List.mem_of_getElem? (i := 3) rfl)), rfl, by decide +kernel, rfl⟩
theorem ff_RX3_18 : zFlf RX3 18 3 2 (.array .int) := ⟨RX3, TX3, 9, rfl, by decide, mt_wsX30, (mc_wsL_law_r6 _ (List.mem_of_getElem? (i := 18) rfl)), rfl, by decide +kernel, rfl⟩
theorem ff_RX3_22 : zFlf RX3 22 3 3 (.array .int) := ⟨RX3, TX3, 9, rfl, by decide, mt_wsX30, (mc_wsL_law_r6 _ (List.mem_of_getElem? (i := 19) rfl)), rfl, by decide +kernel, rfl⟩
theorem ff_RX3_25 : zFlf RX3 25 3 4 (.array .boolean) := ⟨RX3, TX3, 9, rfl, by decide, mt_wsX30, (mc_wsL_law_r6 _ (List.mem_of_getElem? (i := 20) rfl)), rfl, by decide +kernel, rfl⟩
theorem ff_RX3_29 : zFlf RX3 29 3 5 (.array .boolean) := ⟨RX3, TX3, 9, rfl, by decide, mt_wsX30, (mc_wsL_law_r6 _ (List.mem_of_getElem? (i := 21) rfl)), rfl, by decide +kernel, rfl⟩
theorem ff_RX3_34 : zFlf RX3 34 3 7 (.array (.object "StraitGame$Position")) := ⟨RX3, TX3, 9, rfl, by decide, mt_wsX30, (mc_wsL_law_r6 _ (List.mem_of_getElem? (i := 23) rfl)), rfl, by decide +kernel, rfl⟩
theorem ff_RX3_38 : zFlf RX3 38 3 8 (.array .int) := ⟨RX3, TX3, 9, rfl, by decide, mt_wsX30, (mc_wsL_law_r7 _ (List.mem_of_getElem? (i := 0) rfl)), rfl, by decide +kernel, rfl⟩
theorem ff_RX3_41 : zFlf RX3 41 3 6 (.object "StraitGame$Laws") := ⟨RX3, TX3, 9, rfl, by decide, mt_wsX30, (mc_wsL_law_r7 _ (List.mem_of_getElem? (i := 1) rfl)), rfl, by decide +kernel, rfl⟩
theorem ff_RX5_35 : zFlf RX5 35 5 9 (.array .int) := ⟨RX5, TX5, 10, rfl, by decide, mt_wsX50, (mc_wsL_law_r4 _ (List.mem_of_getElem? (i := 22) rfl)), rfl, by decide +kernel, rfl⟩
theorem ff_RX5_42 : zFlf RX5 42 5 2 (.object "StraitGame$Tokens") := ⟨RX5, TX5, 10, rfl, by decide, mt_wsX50, (mc_wsL_law_r5 _ (List.mem_of_getElem? (i := 2) rfl)), rfl, by decide +kernel, rfl⟩
theorem ff_RX6_11 : zFlf RX6 11 6 1 (.array (.object "StraitGame$Position")) := ⟨RX6, TX6, 3, rfl, by decide, mt_wsX60, (mc_wsL_law_r6 _ (List.mem_of_getElem? (i := 9) rfl)), rfl, by decide +kernel, rfl⟩
theorem ff_RX6_21 : zFlf RX6 21 6 0 (.object "StraitGame$Laws") := ⟨RX6, TX6, 3, rfl, by decide, mt_wsX60, (mc_wsL_law_r6 _ (List.mem_of_getElem? (i := 11) rfl)), rfl, by decide +kernel, rfl⟩
theorem ff_RX7_18 : zFlf RX7 18 7 2 (.array .int) := ⟨RX7, TX7, 8, rfl, by decide, mt_wsX70, (mc_wsL_law_r8 _ (List.mem_of_getElem? (i := 5) rfl)), rfl, by decide +kernel, rfl⟩
theorem ff_RX7_22 : zFlf RX7 22 7 3 (.array .int) := ⟨RX7, TX7, 8, rfl, by decide, mt_wsX70, (mc_wsL_law_r8 _ (List.mem_of_getElem? (i := 6) rfl)), rfl, by decide +kernel, rfl⟩
theorem ff_RX7_25 : zFlf RX7 25 7 4 (.array .int) := ⟨RX7, TX7, 8, rfl, by decide, mt_wsX70, (mc_wsL_law_r8 _ (List.mem_of_getElem? (i := 7) rfl)), rfl, by decide +kernel, rfl⟩
theorem ff_RX7_28 : zFlf RX7 28 7 5 (.array .int) := ⟨RX7, TX7, 8, rfl, by decide, mt_wsX70, (mc_wsL_law_r8 _ (List.mem_of_getElem? (i := 8) rfl)), rfl, by decide +kernel, rfl⟩
theorem ff_RX7_31 : zFlf RX7 31 7 6 (.array .int) := ⟨RX7, TX7, 8, rfl, by decide, mt_wsX70, (mc_wsL_law_r8 _ (List.mem_of_getElem? (i := 9) rfl)), rfl, by decide +kernel, rfl⟩
theorem ff_RX7_34 : zFlf RX7 34 7 7 (.array .int) := ⟨RX7, TX7, 8, rfl, by decide, mt_wsX70, (mc_wsL_law_r8 _ (List.mem_of_getElem? (i := 10) rfl)), rfl, by decide +kernel, rfl⟩
theorem ff_RX8_26 : zFlf RX8 26 8 7 (.array (.object "StraitGame$Position")) := ⟨RX8, TX8, 10, rfl, by decide, mt_wsX80, (mc_wsL_law_r8 _ (List.mem_of_getElem? (i := 20) rfl)), rfl, by decide +kernel, rfl⟩
theorem ff_RX8_30 : zFlf RX8 30 8 8 (.array (.object "StraitGame$Position")) := ⟨RX8, TX8, 10, rfl, by decide, mt_wsX80, (mc_wsL_law_r8 _ (List.mem_of_getElem? (i := 21) rfl)), rfl, by decide +kernel, rfl⟩
theorem ff_RX8_36 : zFlf RX8 36 8 4 (.object "StraitGame$Laws") := ⟨RX8, TX8, 10, rfl, by decide, mt_wsX80, (mc_wsL_law_r8 _ (List.mem_of_getElem? (i := 23) rfl)), rfl, by decide +kernel, rfl⟩
theorem ff_RX8_40 : zFlf RX8 40 8 5 (.object "StraitGame$Nights") := ⟨RX8, TX8, 10, rfl, by decide, mt_wsX80, (mc_wsL_law_r9 _ (List.mem_of_getElem? (i := 0) rfl)), rfl, by decide +kernel, rfl⟩
theorem ff_RX8_44 : zFlf RX8 44 8 6 (.object "StraitGame$Sights") := ⟨RX8, TX8, 10, rfl, by decide, mt_wsX80, (mc_wsL_law_r9 _ (List.mem_of_getElem? (i := 1) rfl)), rfl, by decide +kernel, rfl⟩
theorem ff_RX9_15 : zFlf RX9 15 9 1 (.array .byte) := ⟨RX9, TX9, 5, rfl, by decide, mt_wsX90, (mc_wsL_law_r5 _ (List.mem_of_getElem? (i := 9) rfl)), rfl, by decide +kernel, rfl⟩
theorem ff_RX9_19 : zFlf RX9 19 9 2 (.array .int) := ⟨RX9, TX9, 5, rfl, by decide, mt_wsX90, (mc_wsL_law_r5 _ (List.mem_of_getElem? (i := 10) rfl)), rfl, by decide +kernel, rfl⟩
theorem ff_RX9_26 : zFlf RX9 26 9 3 (.array .byte) := ⟨RX9, TX9, 5, rfl, by decide, mt_wsX90, (mc_wsL_law_r5 _ (List.mem_of_getElem? (i := 12) rfl)), rfl, by decide +kernel, rfl⟩
theorem nw_RL_7 : zNw RL 7 11 12 [.null, .int 0, .null, .null, .null, .null, .null, .null, .null, .null, .null, .null] := ⟨RX11, TX11, tyX11, rfl, mt_wsX110, tyX11_ok, (mc_wsL_law_r1 _ (List.mem_of_getElem? (i := 0) rfl)), (mc_wsL_law_r1 _ (List.mem_of_getElem? (i := 1) rfl)), (mc_wsL_law_r1 _ (List.mem_of_getElem? (i := 2) rfl)), rfl, fun k hk => match k, hk with
  | 0, _ => rfl
  | 1, _ => rfl
  | 2, _ => rfl
  | 3, _ => rfl
  | 4, _ => rfl
  | 5, _ => rfl
  | 6, _ => rfl
  | 7, _ => rfl
  | 8, _ => rfl
  | 9, _ => rfl
  | 10, _ => rfl
  | 11, _ => rfl
  | k + 12, h => absurd h (by omega)⟩
theorem nw_RL_10 : zNw RL 10 12 55 [.null, .null, .null, .int 0, .int 0, .int 0, .int 0, .int 0, .int 0, .int 0, .int 0, .long 0, .null, .null, .null, .null, .null, .null, .null, .null, .null, .null, .null, .null, .null, .null, .int 0, .int 0, .int 0, .int 0, .null, .null, .int 0, .null, .null, .null, .null, .int 0, .int 0, .int 0, .null, .null, .null, .null, .null, .null, .null, .int 0, .int 0, .null, .null, .null, .null, .null, .null] := ⟨RX12, TX12, tyX12, rfl, mt_wsX120, tyX12_ok, (mc_wsL_law_r1 _ (List.mem_of_getElem? (i := 3) rfl)), (mc_wsL_law_r1 _ (List.mem_of_getElem? (i := 4) rfl)), (mc_wsL_law_r1 _ (List.mem_of_getElem? (i := 5) rfl)), rfl, fun k hk => match k, hk with
  | 0, _ => rfl
  | 1, _ => rfl
  | 2, _ => rfl
  | 3, _ => rfl
  | 4, _ => rfl
  | 5, _ => rfl
  | 6, _ => rfl
  | 7, _ => rfl
  | 8, _ => rfl
  | 9, _ => rfl
  | 10, _ => rfl
  | 11, _ => rfl
  | 12, _ => rfl
  | 13, _ => rfl
  | 14, _ => rfl
  | 15, _ => rfl
  | 16, _ => rfl
  | 17, _ => rfl
  | 18, _ => rfl
  | 19, _ => rfl
  | 20, _ => rfl
  | 21, _ => rfl
  | 22, _ => rfl
  | 23, _ => rfl
  | 24, _ => rfl
  | 25, _ => rfl
  | 26, _ => rfl
  | 27, _ => rfl
  | 28, _ => rfl
  | 29, _ => rfl
  | 30, _ => rfl
  | 31, _ => rfl
  | 32, _ => rfl
  | 33, _ => rfl
  | 34, _ => rfl
  | 35, _ => rfl
  | 36, _ => rfl
  | 37, _ => rfl
  | 38, _ => rfl
  | 39, _ => rfl
  | 40, _ => rfl
  | 41, _ => rfl
  | 42, _ => rfl
  | 43, _ => rfl
  | 44, _ => rfl
  | 45, _ => rfl
  | 46, _ => rfl
  | 47, _ => rfl
  | 48, _ => rfl
  | 49, _ => rfl
  | 50, _ => rfl
  | 51, _ => rfl
  | 52, _ => rfl
  | 53, _ => rfl
  | 54, _ => rfl
  | k + 55, h => absurd h (by omega)⟩
theorem nw_RX1_9 : zNw RX1 9 4 7 [.int 0, .int 0, .int 0, .int 0, .int 0, .int 0, .int 0] := ⟨RX4, TX4, tyX4, rfl, mt_wsX40, tyX4_ok, (mc_wsL_law_r7 _ (List.mem_of_getElem? (i := 6) rfl)), (mc_wsL_law_r3 _ (List.mem_of_getElem? (i := 22) rfl)), (mc_wsL_law_r3 _ (List.mem_of_getElem? (i := 23) rfl)), rfl, fun k hk => match k, hk with
  | 0, _ => rfl
  | 1, _ => rfl
  | 2, _ => rfl
  | 3, _ => rfl
  | 4, _ => rfl
  | 5, _ => rfl
  | 6, _ => rfl
  | k + 7, h => absurd h (by omega)⟩
theorem nw_RX10_50 : zNw RX10 50 4 7 [.int 0, .int 0, .int 0, .int 0, .int 0, .int 0, .int 0] := ⟨RX4, TX4, tyX4, rfl, mt_wsX40, tyX4_ok, (mc_wsL_law_r3 _ (List.mem_of_getElem? (i := 21) rfl)), (mc_wsL_law_r3 _ (List.mem_of_getElem? (i := 22) rfl)), (mc_wsL_law_r3 _ (List.mem_of_getElem? (i := 23) rfl)), rfl, fun k hk => match k, hk with
  | 0, _ => rfl
  | 1, _ => rfl
  | 2, _ => rfl
  | 3, _ => rfl
  | 4, _ => rfl
  | 5, _ => rfl
  | 6, _ => rfl
  | k + 7, h => absurd h (by omega)⟩
theorem nw_RX11_17 : zNw RX11 17 10 13 [.int 0, .int 0, .int 0, .int 0, .int 0, .null, .null, .null, .null, .null, .null, .null, .null] := ⟨RX10, TX10, tyX10, rfl, mt_wsX100, tyX10_ok, (mc_wsL_law_r1 _ (List.mem_of_getElem? (i := 15) rfl)), (mc_wsL_law_r1 _ (List.mem_of_getElem? (i := 16) rfl)), (mc_wsL_law_r1 _ (List.mem_of_getElem? (i := 17) rfl)), rfl, fun k hk => match k, hk with
  | 0, _ => rfl
  | 1, _ => rfl
  | 2, _ => rfl
  | 3, _ => rfl
  | 4, _ => rfl
  | 5, _ => rfl
  | 6, _ => rfl
  | 7, _ => rfl
  | 8, _ => rfl
  | 9, _ => rfl
  | 10, _ => rfl
  | 11, _ => rfl
  | 12, _ => rfl
  | k + 13, h => absurd h (by omega)⟩
theorem nw_RX11_27 : zNw RX11 27 5 10 [.int 0, .int 0, .null, .null, .int 0, .int 0, .int 0, .int 0, .int 0, .null] := ⟨RX5, TX5, tyX5, rfl, mt_wsX50, tyX5_ok, (mc_wsL_law_r1 _ (List.mem_of_getElem? (i := 20) rfl)), (mc_wsL_law_r1 _ (List.mem_of_getElem? (i := 21) rfl)), (mc_wsL_law_r1 _ (List.mem_of_getElem? (i := 22) rfl)), rfl, fun k hk => match k, hk with
  | 0, _ => rfl
  | 1, _ => rfl
  | 2, _ => rfl
  | 3, _ => rfl
  | 4, _ => rfl
  | 5, _ => rfl
  | 6, _ => rfl
  | 7, _ => rfl
  | 8, _ => rfl
  | 9, _ => rfl
  | k + 10, h => absurd h (by omega)⟩
theorem nw_RX11_36 : zNw RX11 36 2 12 [.int 0, .int 0, .int 0, .int 0, .int 0, .null, .null, .null, .null, .null, .null, .null] := ⟨RX2, TX2, tyX2, rfl, mt_wsX20, tyX2_ok, (mc_wsL_law_r2 _ (List.mem_of_getElem? (i := 0) rfl)), (mc_wsL_law_r2 _ (List.mem_of_getElem? (i := 1) rfl)), (mc_wsL_law_r2 _ (List.mem_of_getElem? (i := 2) rfl)), rfl, fun k hk => match k, hk with
  | 0, _ => rfl
  | 1, _ => rfl
  | 2, _ => rfl
  | 3, _ => rfl
  | 4, _ => rfl
  | 5, _ => rfl
  | 6, _ => rfl
  | 7, _ => rfl
  | 8, _ => rfl
  | 9, _ => rfl
  | 10, _ => rfl
  | 11, _ => rfl
  | k + 12, h => absurd h (by omega)⟩
theorem nw_RX11_43 : zNw RX11 43 6 3 [.null, .null, .int 0] := ⟨RX6, TX6, tyX6, rfl, mt_wsX60, tyX6_ok, (mc_wsL_law_r2 _ (List.mem_of_getElem? (i := 4) rfl)), (mc_wsL_law_r2 _ (List.mem_of_getElem? (i := 5) rfl)), (mc_wsL_law_r2 _ (List.mem_of_getElem? (i := 6) rfl)), rfl, fun k hk => match k, hk with
  | 0, _ => rfl
  | 1, _ => rfl
  | 2, _ => rfl
  | k + 3, h => absurd h (by omega)⟩
theorem nw_RX11_52 : zNw RX11 52 3 9 [.int 0, .int 0, .null, .null, .null, .null, .null, .null, .null] := ⟨RX3, TX3, tyX3, rfl, mt_wsX30, tyX3_ok, (mc_wsL_law_r2 _ (List.mem_of_getElem? (i := 8) rfl)), (mc_wsL_law_r2 _ (List.mem_of_getElem? (i := 9) rfl)), (mc_wsL_law_r2 _ (List.mem_of_getElem? (i := 10) rfl)), rfl, fun k hk => match k, hk with
  | 0, _ => rfl
  | 1, _ => rfl
  | 2, _ => rfl
  | 3, _ => rfl
  | 4, _ => rfl
  | 5, _ => rfl
  | 6, _ => rfl
  | 7, _ => rfl
  | 8, _ => rfl
  | k + 9, h => absurd h (by omega)⟩
theorem nw_RX11_59 : zNw RX11 59 1 7 [.null, .null, .null, .null, .int 0, .int 0, .null] := ⟨RX1, TX1, tyX1, rfl, mt_wsX10, tyX1_ok, (mc_wsL_law_r2 _ (List.mem_of_getElem? (i := 12) rfl)), (mc_wsL_law_r2 _ (List.mem_of_getElem? (i := 13) rfl)), (mc_wsL_law_r2 _ (List.mem_of_getElem? (i := 14) rfl)), rfl, fun k hk => match k, hk with
  | 0, _ => rfl
  | 1, _ => rfl
  | 2, _ => rfl
  | 3, _ => rfl
  | 4, _ => rfl
  | 5, _ => rfl
  | 6, _ => rfl
  | k + 7, h => absurd h (by omega)⟩
theorem nw_RX11_68 : zNw RX11 68 0 7 [.int 0, .int 0, .null, .null, .null, .null, .null] := ⟨RX0, TX0, tyX0, rfl, mt_wsX00, tyX0_ok, (mc_wsL_law_r2 _ (List.mem_of_getElem? (i := 16) rfl)), (mc_wsL_law_r2 _ (List.mem_of_getElem? (i := 17) rfl)), (mc_wsL_law_r2 _ (List.mem_of_getElem? (i := 18) rfl)), rfl, fun k hk => match k, hk with
  | 0, _ => rfl
  | 1, _ => rfl
  | 2, _ => rfl
  | 3, _ => rfl
  | 4, _ => rfl
  | 5, _ => rfl
  | 6, _ => rfl
  | k + 7, h => absurd h (by omega)⟩
theorem nw_RX11_75 : zNw RX11 75 7 8 [.int 0, .int 0, .null, .null, .null, .null, .null, .null] := ⟨RX7, TX7, tyX7, rfl, mt_wsX70, tyX7_ok, (mc_wsL_law_r2 _ (List.mem_of_getElem? (i := 20) rfl)), (mc_wsL_law_r2 _ (List.mem_of_getElem? (i := 21) rfl)), (mc_wsL_law_r2 _ (List.mem_of_getElem? (i := 22) rfl)), rfl, fun k hk => match k, hk with
  | 0, _ => rfl
  | 1, _ => rfl
  | 2, _ => rfl
  | 3, _ => rfl
  | 4, _ => rfl
  | 5, _ => rfl
  | 6, _ => rfl
  | 7, _ => rfl
  | k + 8, h => absurd h (by omega)⟩
theorem nw_RX11_82 : zNw RX11 82 8 10 [.int 0, .int 0, .int 0, .int 0, .null, .null, .null, .null, .null, .int 0] := ⟨RX8, TX8, tyX8, rfl, mt_wsX80, tyX8_ok, (mc_wsL_law_r3 _ (List.mem_of_getElem? (i := 0) rfl)), (mc_wsL_law_r3 _ (List.mem_of_getElem? (i := 1) rfl)), (mc_wsL_law_r3 _ (List.mem_of_getElem? (i := 2) rfl)), rfl, fun k hk => match k, hk with
  | 0, _ => rfl
  | 1, _ => rfl
  | 2, _ => rfl
  | 3, _ => rfl
  | 4, _ => rfl
  | 5, _ => rfl
  | 6, _ => rfl
  | 7, _ => rfl
  | 8, _ => rfl
  | 9, _ => rfl
  | k + 10, h => absurd h (by omega)⟩
theorem nw_RX3_32 : zNw RX3 32 4 7 [.int 0, .int 0, .int 0, .int 0, .int 0, .int 0, .int 0] := ⟨RX4, TX4, tyX4, rfl, mt_wsX40, tyX4_ok, (mc_wsL_law_r6 _ (List.mem_of_getElem? (i := 22) rfl)), (mc_wsL_law_r3 _ (List.mem_of_getElem? (i := 22) rfl)), (mc_wsL_law_r3 _ (List.mem_of_getElem? (i := 23) rfl)), rfl, fun k hk => match k, hk with
  | 0, _ => rfl
  | 1, _ => rfl
  | 2, _ => rfl
  | 3, _ => rfl
  | 4, _ => rfl
  | 5, _ => rfl
  | 6, _ => rfl
  | k + 7, h => absurd h (by omega)⟩
theorem nw_RX5_21 : zNw RX5 21 9 5 [.int 0, .null, .null, .null, .int 0] := ⟨RX9, TX9, tyX9, rfl, mt_wsX90, tyX9_ok, (mc_wsL_law_r4 _ (List.mem_of_getElem? (i := 23) rfl)), (mc_wsL_law_r5 _ (List.mem_of_getElem? (i := 0) rfl)), (mc_wsL_law_r5 _ (List.mem_of_getElem? (i := 1) rfl)), rfl, fun k hk => match k, hk with
  | 0, _ => rfl
  | 1, _ => rfl
  | 2, _ => rfl
  | 3, _ => rfl
  | 4, _ => rfl
  | k + 5, h => absurd h (by omega)⟩
theorem nw_RX6_9 : zNw RX6 9 4 7 [.int 0, .int 0, .int 0, .int 0, .int 0, .int 0, .int 0] := ⟨RX4, TX4, tyX4, rfl, mt_wsX40, tyX4_ok, (mc_wsL_law_r6 _ (List.mem_of_getElem? (i := 8) rfl)), (mc_wsL_law_r3 _ (List.mem_of_getElem? (i := 22) rfl)), (mc_wsL_law_r3 _ (List.mem_of_getElem? (i := 23) rfl)), rfl, fun k hk => match k, hk with
  | 0, _ => rfl
  | 1, _ => rfl
  | 2, _ => rfl
  | 3, _ => rfl
  | 4, _ => rfl
  | 5, _ => rfl
  | 6, _ => rfl
  | k + 7, h => absurd h (by omega)⟩
theorem nw_RX8_24 : zNw RX8 24 4 7 [.int 0, .int 0, .int 0, .int 0, .int 0, .int 0, .int 0] := ⟨RX4, TX4, tyX4, rfl, mt_wsX40, tyX4_ok, (mc_wsL_law_r8 _ (List.mem_of_getElem? (i := 19) rfl)), (mc_wsL_law_r3 _ (List.mem_of_getElem? (i := 22) rfl)), (mc_wsL_law_r3 _ (List.mem_of_getElem? (i := 23) rfl)), rfl, fun k hk => match k, hk with
  | 0, _ => rfl
  | 1, _ => rfl
  | 2, _ => rfl
  | 3, _ => rfl
  | 4, _ => rfl
  | 5, _ => rfl
  | 6, _ => rfl
  | k + 7, h => absurd h (by omega)⟩
theorem ci_RL_9 : zCi RL 9 yX11_init cX11_init 1 0 := ⟨(mc_wsL_law_r1 _ (List.mem_of_getElem? (i := 8) rfl)), (mc_wsL_law_r1 _ (List.mem_of_getElem? (i := 2) rfl)), (mc_wsL_law_r1 _ (List.mem_of_getElem? (i := 6) rfl)), (mc_wsL_law_r1 _ (List.mem_of_getElem? (i := 7) rfl)), rfl, by decide +kernel⟩
theorem ci_RL_12 : zCi RL 12 yX12_init cX12_init 1 0 := ⟨(mc_wsL_law_r12 _ (List.mem_of_getElem? (i := 18) rfl)), (mc_wsL_law_r1 _ (List.mem_of_getElem? (i := 5) rfl)), (mc_wsL_law_r12 _ (List.mem_of_getElem? (i := 16) rfl)), (mc_wsL_law_r12 _ (List.mem_of_getElem? (i := 17) rfl)), rfl, by decide +kernel⟩
theorem ci_RX11_29 : zCi RX11 29 yX5_init cX5_init 3 2 := ⟨(mc_wsL_law_r4 _ (List.mem_of_getElem? (i := 13) rfl)), (mc_wsL_law_r1 _ (List.mem_of_getElem? (i := 22) rfl)), (mc_wsL_law_r4 _ (List.mem_of_getElem? (i := 11) rfl)), (mc_wsL_law_r4 _ (List.mem_of_getElem? (i := 12) rfl)), rfl, by decide +kernel⟩
theorem ci_RX11_45 : zCi RX11 45 yX6_init cX6_init 3 1 := ⟨(mc_wsL_law_r6 _ (List.mem_of_getElem? (i := 6) rfl)), (mc_wsL_law_r2 _ (List.mem_of_getElem? (i := 6) rfl)), (mc_wsL_law_r6 _ (List.mem_of_getElem? (i := 4) rfl)), (mc_wsL_law_r6 _ (List.mem_of_getElem? (i := 5) rfl)), rfl, by decide +kernel⟩
theorem ci_RX11_54 : zCi RX11 54 yX3_init cX3_init 3 1 := ⟨(mc_wsL_law_r6 _ (List.mem_of_getElem? (i := 14) rfl)), (mc_wsL_law_r2 _ (List.mem_of_getElem? (i := 10) rfl)), (mc_wsL_law_r6 _ (List.mem_of_getElem? (i := 12) rfl)), (mc_wsL_law_r6 _ (List.mem_of_getElem? (i := 13) rfl)), rfl, by decide +kernel⟩
theorem ci_RX11_61 : zCi RX11 61 yX1_init cX1_init 4 2 := ⟨(mc_wsL_law_r7 _ (List.mem_of_getElem? (i := 4) rfl)), (mc_wsL_law_r2 _ (List.mem_of_getElem? (i := 14) rfl)), (mc_wsL_law_r7 _ (List.mem_of_getElem? (i := 2) rfl)), (mc_wsL_law_r7 _ (List.mem_of_getElem? (i := 3) rfl)), rfl, by decide +kernel⟩
theorem ci_RX11_84 : zCi RX11 84 yX8_init cX8_init 5 3 := ⟨(mc_wsL_law_r8 _ (List.mem_of_getElem? (i := 13) rfl)), (mc_wsL_law_r3 _ (List.mem_of_getElem? (i := 2) rfl)), (mc_wsL_law_r8 _ (List.mem_of_getElem? (i := 11) rfl)), (mc_wsL_law_r8 _ (List.mem_of_getElem? (i := 12) rfl)), rfl, by decide +kernel⟩
theorem ci_RX5_39 : zCi RX5 39 yX9_init cX9_init 2 1 := ⟨(mc_wsL_law_r5 _ (List.mem_of_getElem? (i := 6) rfl)), (mc_wsL_law_r5 _ (List.mem_of_getElem? (i := 1) rfl)), (mc_wsL_law_r5 _ (List.mem_of_getElem? (i := 4) rfl)), (mc_wsL_law_r5 _ (List.mem_of_getElem? (i := 5) rfl)), rfl, by decide +kernel⟩
theorem cn_RX1_27 : zCn RX1 27 yX4_init RX11 cX4_init 1 0 := ⟨(mc_wsL_law_r4 _ (List.mem_of_getElem? (i := 2) rfl)), (mc_wsL_law_r3 _ (List.mem_of_getElem? (i := 23) rfl)), List.mem_of_getElem? (i := 5) rfl, (mc_wsL_law_r4 _ (List.mem_of_getElem? (i := 1) rfl)), rfl, by decide +kernel⟩
theorem cn_RX10_52 : zCn RX10 52 yX4_init RX11 cX4_init 1 0 := ⟨(mc_wsL_law_r4 _ (List.mem_of_getElem? (i := 2) rfl)), (mc_wsL_law_r3 _ (List.mem_of_getElem? (i := 23) rfl)), List.mem_of_getElem? (i := 9) rfl, (mc_wsL_law_r4 _ (List.mem_of_getElem? (i := 1) rfl)), rfl, by decide +kernel⟩
theorem cn_RX11_19 : zCn RX11 19 yX10_init RX11 cX10_init 1 0 := ⟨(mc_wsL_law_r3 _ (List.mem_of_getElem? (i := 5) rfl)), (mc_wsL_law_r1 _ (List.mem_of_getElem? (i := 17) rfl)), List.mem_of_getElem? (i := 0) rfl, (mc_wsL_law_r3 _ (List.mem_of_getElem? (i := 4) rfl)), rfl, by decide +kernel⟩
theorem cn_RX11_38 : zCn RX11 38 yX2_init RX11 cX2_init 1 0 := ⟨(mc_wsL_law_r5 _ (List.mem_of_getElem? (i := 14) rfl)), (mc_wsL_law_r2 _ (List.mem_of_getElem? (i := 2) rfl)), List.mem_of_getElem? (i := 1) rfl, (mc_wsL_law_r5 _ (List.mem_of_getElem? (i := 13) rfl)), rfl, by decide +kernel⟩
theorem cn_RX11_70 : zCn RX11 70 yX0_init RX11 cX0_init 1 0 := ⟨(mc_wsL_law_r7 _ (List.mem_of_getElem? (i := 15) rfl)), (mc_wsL_law_r2 _ (List.mem_of_getElem? (i := 18) rfl)), List.mem_of_getElem? (i := 2) rfl, (mc_wsL_law_r7 _ (List.mem_of_getElem? (i := 14) rfl)), rfl, by decide +kernel⟩
theorem cn_RX11_77 : zCn RX11 77 yX7_init RX11 cX7_init 1 0 := ⟨(mc_wsL_law_r8 _ (List.mem_of_getElem? (i := 1) rfl)), (mc_wsL_law_r2 _ (List.mem_of_getElem? (i := 22) rfl)), List.mem_of_getElem? (i := 3) rfl, (mc_wsL_law_r8 _ (List.mem_of_getElem? (i := 0) rfl)), rfl, by decide +kernel⟩
theorem cn_RX3_45 : zCn RX3 45 yX4_init RX11 cX4_init 1 0 := ⟨(mc_wsL_law_r4 _ (List.mem_of_getElem? (i := 2) rfl)), (mc_wsL_law_r3 _ (List.mem_of_getElem? (i := 23) rfl)), List.mem_of_getElem? (i := 6) rfl, (mc_wsL_law_r4 _ (List.mem_of_getElem? (i := 1) rfl)), rfl, by decide +kernel⟩
theorem cn_RX6_25 : zCn RX6 25 yX4_init RX11 cX4_init 1 0 := ⟨(mc_wsL_law_r4 _ (List.mem_of_getElem? (i := 2) rfl)), (mc_wsL_law_r3 _ (List.mem_of_getElem? (i := 23) rfl)), List.mem_of_getElem? (i := 7) rfl, (mc_wsL_law_r4 _ (List.mem_of_getElem? (i := 1) rfl)), rfl, by decide +kernel⟩
theorem cn_RX8_48 : zCn RX8 48 yX4_init RX11 cX4_init 1 0 := ⟨(mc_wsL_law_r4 _ (List.mem_of_getElem? (i := 2) rfl)), (mc_wsL_law_r3 _ (List.mem_of_getElem? (i := 23) rfl)), List.mem_of_getElem? (i := 8) rfl, (mc_wsL_law_r4 _ (List.mem_of_getElem? (i := 1) rfl)), rfl, by decide +kernel⟩
theorem dn_i {K : Nat → Nat} {lo hi : Int} {x : Int32} (h1 : lo ≤ x.toInt) (h2 : x.toInt ≤ hi) : dn K (.inl (lo, hi)) (.int x) := ⟨x, rfl, h1, h2⟩
theorem dn_r {K : Nat → Nat} {k b : Nat} (h : K b = k) : dn K (.inr (.inl k)) (.ref b) := ⟨b, rfl, h⟩
theorem dn_l {K : Nat → Nat} {y : Int64} : dn K (.inr (.inr 0)) (.long y) := ⟨y, rfl⟩
theorem dn_t {K : Nat → Nat} {t : Int} (h : t = 0) : dn K (.inl (t, t)) (.int 0) := by
  subst h; exact ⟨0, rfl, by decide, by decide⟩
theorem dn_p {K : Nat → Nat} (j : Nat) : dn K (if j % 31 = 30 then .inl (-2147483648, 2147483647) else .inl (-1, 11)) (.int 0) := zpl_dn.mpr ⟨0, rfl, Or.inr ⟨by decide, by decide⟩⟩
theorem zKi.nil {E : zE} {n : Nat} : zKi E n [] := fun _ _ h => by simp at h
theorem zKi.ne {E : zE} {n : Nat} {L : List Nat} (h : zKi E n L) (o mc : Nat) (h2 : ((L.drop o).take mc).all (fun k => Nat.blt 0 k) = true) (h3 : Nat.ble (o + mc) L.length = true) : ∀ q : Nat, n + o ≤ q → q < n + o + mc → eK E q ≠ 0 := by
  intro q h4 h5 h6
  obtain ⟨i, rfl⟩ : ∃ i, q = n + (o + i) := ⟨q - n - o, by omega⟩
  have hl : o + i < L.length := by have := Nat.le_of_ble_eq_true h3; omega
  have e1 := h (o + i) _ (List.getElem?_eq_getElem hl)
  have hm : L[o + i] ∈ (L.drop o).take mc := by
    refine List.mem_of_getElem? (i := i) ?_
    rw [List.getElem?_take, if_pos (by omega), List.getElem?_drop, List.getElem?_eq_getElem hl]
  have := List.all_eq_true.mp h2 _ hm
  rw [← e1, h6] at this
  cases this
theorem zCo.cast {E : zE} {b : Nat} {O : List Nat} {H0 H : Heap} {z z' : Nat} {locs : List Loc} (h : zCo E b O H0 H z locs) (e : z = z') : zCo E b O H0 H z' locs := by subst e; exact h
theorem zCo.ht {E : zE} {b : Nat} {H0 H : Heap} {z : Nat} {locs : List Loc} (hC : zCo E b [] H0 H z locs) (hd : HTq E H b) (hold : ∀ q : Nat, q < H0.size → q ≠ b → eK E q ≠ 0 → HTq E H0 q) (hend : ∀ q : Nat, H0.size + z ≤ q → eK E q = 0) : HT E H := by
  refine HT.ofq (fun q hq => ?_)
  by_cases e : q = b
  · subst e; exact hd
  · by_cases h1 : q < H0.size
    · exact (hold q h1 e hq).kept (hC.2.1 q h1 e)
    · by_cases h2 : q < H0.size + z
      · exact (hC.2.2.1 q (by omega) h2).2 (fun h => by cases h)
      · exact absurd (hend q (by omega)) hq
def zQ0 (E : zE) (mc : Nat) (H0 : Heap) (P : Heap → Prop) : Array Value → State → Outcome → State → Prop := fun _ _ oc t => oc = .returned none ∧ t.heap.size = H0.size + mc ∧ HT E t.heap ∧ (∀ a : Nat, eK E a = 0 → t.heap[a]? = H0[a]?) ∧ P t.heap
def zfb (E : zE) (n : Nat) : Nat → Prop := fun q => eK E q ≠ 0 ∨ n ≤ q
def zLo (E : zE) (n : Nat) (locs : List Loc) : Prop := ∀ q ∈ locs, eK E q.base ≠ 0 ∨ n ≤ q.base
theorem zCo.lo {E : zE} {b : Nat} {O : List Nat} {H0 H : Heap} {z : Nat} {locs : List Loc} (hC : zCo E b O H0 H z locs) (hb : eK E b ≠ 0) : zLo E H0.size locs := fun q hq => (hC.2.2.2 q hq).elim (fun h => Or.inl (by rw [h]; exact hb)) Or.inr
section ZB0
variable {p : Program} {l : Launch} {e : Env} {R : Room} {s : State} {m : MethodId} {args : Array Value} {below : List Frame} {meth : Method} {c : Code} {H H0 : Heap} {locs : List Loc} {cells slots : Nat} {Q : State → Prop} {cc : ByteArray} {pc nL n mc ms : Nat} {ls : Array Slot} {rest st0 : List Value} {E : zE} {W1 : List (Nat × Nat)} {own : String}
theorem zkB {P : Heap → Prop} {av : Array Value} (hr : va_Run p l e R s m args below meth c H locs cells slots 0 0 (F0 m pc ls st0) rest (zQV E E W1 P av) (zfr E)) (hL0 : zLo E n locs) (kk : ∀ (H1 : Heap) (locs1 : List Loc), P H1 → HT E H1 → zFr E W1 H H1 → zLo E n locs1 → W p l e R s m args below meth c H1 locs1 cells slots Q (F0 m (pc + 3) ls rest)) : W p l e R s m args below meth c H locs cells slots Q (F0 m pc ls st0) := by
  intro T hT X
  obtain ⟨v, st₀, t, T', L, h0, X', hL, e1, e2, ⟨⟨hv, hp⟩, hh, hf⟩, st⟩ := hr T hT X
  cases hv
  rw [h0, ← e1] at hf
  rw [← e1] at hp hh
  obtain ⟨t2, a1, b1⟩ := kk T'.heap (locs ++ L) hp hh hf (fun q hq => (List.mem_append.mp hq).elim (hL0 q) (fun h => Or.inl (hL q h))) T' rfl X'
  exact ⟨t2, st t2 a1, b1⟩
theorem m_ret0 (B : zB p s m args c E cc own nL) {P : Heap → Prop} (hr : meth.sig.returnType = none) (hlocks : meth.locks = false) (hQ : Q = MQ below (zQ0 E mc H0 P) args s mc ms (zfb E H0.size)) (hz : H.size = H0.size + mc) (hT : HT E H) (hO : ∀ a : Nat, eK E a = 0 → H[a]? = H0[a]?) (hP : P H) (hL : zLo E H0.size locs) (hdg : decode cc pc = .ok (.return_, 1)) : W p l e R s m args below meth c H locs mc ms Q (F0 m pc ls []) := by
  subst hQ
  exact W.vret B.1 B.2.1 hr (fun t ht hW => ⟨rfl, by rw [ht]; exact hz, by rw [ht]; exact hT, fun a ha => by rw [ht]; exact hO a ha, by rw [ht]; exact hP⟩) (fun q hq => hL q hq) hdg hlocks
/-- the length of an array that is being filled -/
theorem m_alen (B : zB p s m args c E cc own nL) {a ka i N : Nat} {ty : FieldType} (hO : zOp E a H i) (hk : eK E a = ka) (ho : zo ka = false) (hat : zat ka = some ty) (hN : zn ka = N) (hdg : decode cc pc = .ok (.arraylength, 1))
    (kk : W p l e R s m args below meth c H locs cells slots Q (F0 m (pc + 1) ls (.int (nI N) :: rest))) : W p l e R s m args below meth c H locs cells slots Q (F0 m pc ls (.ref a :: rest)) := by
  obtain ⟨hx, hb, -, hown, hts, hK⟩ := B
  obtain ⟨cell, q1, q2, q3, q4⟩ := hO.1
  rw [hk] at q2 q4
  exact W.alen hx hb q1 (zarr (H := H) hK hk ho hat q2 q3) (by rw [q4 ho, hN]; rfl) rfl rfl hdg kk
end ZB0
