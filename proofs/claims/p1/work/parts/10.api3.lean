theorem dX11_about_0 : decode cX11_about 0 = .ok (.iload_n 1, 1) := by decide +kernel
theorem dX11_about_1 : decode cX11_about 1 = .ok (.tableswitch 140 0 9 #[55, 63, 71, 79, 87, 103, 111, 119, 124, 132], 55) := by decide +kernel
theorem dX11_about_102 : decode cX11_about 102 = .ok (.isub, 1) := by decide +kernel
theorem dX11_about_103 : decode cX11_about 103 = .ok (.ireturn, 1) := by decide +kernel
theorem dX11_about_104 : decode cX11_about 104 = .ok (.aload_n 0, 1) := by decide +kernel
theorem dX11_about_105 : decode cX11_about 105 = .ok (.getfield 78, 3) := by decide +kernel
theorem dX11_about_108 : decode cX11_about 108 = .ok (.getfield 122, 3) := by decide +kernel
theorem dX11_about_111 : decode cX11_about 111 = .ok (.ireturn, 1) := by decide +kernel
theorem dX11_about_112 : decode cX11_about 112 = .ok (.aload_n 0, 1) := by decide +kernel
theorem dX11_about_113 : decode cX11_about 113 = .ok (.getfield 78, 3) := by decide +kernel
theorem dX11_about_116 : decode cX11_about 116 = .ok (.getfield 226, 3) := by decide +kernel
theorem dX11_about_119 : decode cX11_about 119 = .ok (.ireturn, 1) := by decide +kernel
theorem dX11_about_120 : decode cX11_about 120 = .ok (.aload_n 0, 1) := by decide +kernel
theorem dX11_about_121 : decode cX11_about 121 = .ok (.getfield 13, 3) := by decide +kernel
theorem dX11_about_124 : decode cX11_about 124 = .ok (.ireturn, 1) := by decide +kernel
theorem dX11_about_125 : decode cX11_about 125 = .ok (.aload_n 0, 1) := by decide +kernel
theorem dX11_about_126 : decode cX11_about 126 = .ok (.getfield 20, 3) := by decide +kernel
theorem dX11_about_129 : decode cX11_about 129 = .ok (.getfield 254, 3) := by decide +kernel
theorem dX11_about_132 : decode cX11_about 132 = .ok (.ireturn, 1) := by decide +kernel
theorem dX11_about_133 : decode cX11_about 133 = .ok (.aload_n 0, 1) := by decide +kernel
theorem dX11_about_134 : decode cX11_about 134 = .ok (.getfield 55, 3) := by decide +kernel
theorem dX11_about_137 : decode cX11_about 137 = .ok (.invokevirtual 257, 3) := by decide +kernel
theorem dX11_about_140 : decode cX11_about 140 = .ok (.ireturn, 1) := by decide +kernel
theorem dX11_about_141 : decode cX11_about 141 = .ok (.iconst (-1), 1) := by decide +kernel
theorem dX11_about_142 : decode cX11_about 142 = .ok (.ireturn, 1) := by decide +kernel
theorem dX11_about_56 : decode cX11_about 56 = .ok (.aload_n 0, 1) := by decide +kernel
theorem dX11_about_57 : decode cX11_about 57 = .ok (.getfield 39, 3) := by decide +kernel
theorem dX11_about_60 : decode cX11_about 60 = .ok (.getfield 135, 3) := by decide +kernel
theorem dX11_about_63 : decode cX11_about 63 = .ok (.ireturn, 1) := by decide +kernel
theorem dX11_about_64 : decode cX11_about 64 = .ok (.aload_n 0, 1) := by decide +kernel
theorem dX11_about_65 : decode cX11_about 65 = .ok (.getfield 20, 3) := by decide +kernel
theorem dX11_about_68 : decode cX11_about 68 = .ok (.getfield 216, 3) := by decide +kernel
theorem dX11_about_71 : decode cX11_about 71 = .ok (.ireturn, 1) := by decide +kernel
theorem dX11_about_72 : decode cX11_about 72 = .ok (.aload_n 0, 1) := by decide +kernel
theorem dX11_about_73 : decode cX11_about 73 = .ok (.getfield 20, 3) := by decide +kernel
theorem dX11_about_76 : decode cX11_about 76 = .ok (.getfield 105, 3) := by decide +kernel
theorem dX11_about_79 : decode cX11_about 79 = .ok (.ireturn, 1) := by decide +kernel
theorem dX11_about_80 : decode cX11_about 80 = .ok (.aload_n 0, 1) := by decide +kernel
theorem dX11_about_81 : decode cX11_about 81 = .ok (.getfield 55, 3) := by decide +kernel
theorem dX11_about_84 : decode cX11_about 84 = .ok (.getfield 171, 3) := by decide +kernel
theorem dX11_about_87 : decode cX11_about 87 = .ok (.ireturn, 1) := by decide +kernel
theorem dX11_about_88 : decode cX11_about 88 = .ok (.aload_n 0, 1) := by decide +kernel
theorem dX11_about_89 : decode cX11_about 89 = .ok (.getfield 55, 3) := by decide +kernel
theorem dX11_about_92 : decode cX11_about 92 = .ok (.getfield 176, 3) := by decide +kernel
theorem dX11_about_95 : decode cX11_about 95 = .ok (.aload_n 0, 1) := by decide +kernel
theorem dX11_about_96 : decode cX11_about 96 = .ok (.getfield 55, 3) := by decide +kernel
theorem dX11_about_99 : decode cX11_about 99 = .ok (.getfield 171, 3) := by decide +kernel
theorem dX11_back_0 : decode cX11_back 0 = .ok (.iload_n 1, 1) := by decide +kernel
theorem dX11_back_1 : decode cX11_back 1 = .ok (.ifCond .lt 19, 3) := by decide +kernel
theorem dX11_back_10 : decode cX11_back 10 = .ok (.getfield 55, 3) := by decide +kernel
theorem dX11_back_13 : decode cX11_back 13 = .ok (.iload_n 1, 1) := by decide +kernel
theorem dX11_back_14 : decode cX11_back 14 = .ok (.invokevirtual 251, 3) := by decide +kernel
theorem dX11_back_17 : decode cX11_back 17 = .ok (.goto 4, 3) := by decide +kernel
theorem dX11_back_20 : decode cX11_back 20 = .ok (.iconst (-1), 1) := by decide +kernel
theorem dX11_back_21 : decode cX11_back 21 = .ok (.ireturn, 1) := by decide +kernel
theorem dX11_back_4 : decode cX11_back 4 = .ok (.iload_n 1, 1) := by decide +kernel
theorem dX11_back_5 : decode cX11_back 5 = .ok (.iconst 3, 1) := by decide +kernel
theorem dX11_back_6 : decode cX11_back 6 = .ok (.if_icmp .ge 14, 3) := by decide +kernel
theorem dX11_back_9 : decode cX11_back 9 = .ok (.aload_n 0, 1) := by decide +kernel
theorem dX11_image_0 : decode cX11_image 0 = .ok (.iload_n 1, 1) := by decide +kernel
theorem dX11_image_1 : decode cX11_image 1 = .ok (.ifCond .lt 19, 3) := by decide +kernel
theorem dX11_image_10 : decode cX11_image 10 = .ok (.getfield 55, 3) := by decide +kernel
theorem dX11_image_13 : decode cX11_image 13 = .ok (.iload_n 1, 1) := by decide +kernel
theorem dX11_image_14 : decode cX11_image 14 = .ok (.invokevirtual 248, 3) := by decide +kernel
theorem dX11_image_17 : decode cX11_image 17 = .ok (.goto 4, 3) := by decide +kernel
theorem dX11_image_20 : decode cX11_image 20 = .ok (.iconst (-1), 1) := by decide +kernel
theorem dX11_image_21 : decode cX11_image 21 = .ok (.ireturn, 1) := by decide +kernel
theorem dX11_image_4 : decode cX11_image 4 = .ok (.iload_n 1, 1) := by decide +kernel
theorem dX11_image_5 : decode cX11_image 5 = .ok (.iconst 3, 1) := by decide +kernel
theorem dX11_image_6 : decode cX11_image 6 = .ok (.if_icmp .ge 14, 3) := by decide +kernel
theorem dX11_image_9 : decode cX11_image 9 = .ok (.aload_n 0, 1) := by decide +kernel
theorem dX11_later_11 : decode cX11_later 11 = .ok (.aload_n 0, 1) := by decide +kernel
theorem dX11_later_12 : decode cX11_later 12 = .ok (.getfield 78, 3) := by decide +kernel
theorem dX11_later_15 : decode cX11_later 15 = .ok (.getfield 226, 3) := by decide +kernel
theorem dX11_later_18 : decode cX11_later 18 = .ok (.iload_n 1, 1) := by decide +kernel
theorem dX11_later_19 : decode cX11_later 19 = .ok (.iadd, 1) := by decide +kernel
theorem dX11_later_20 : decode cX11_later 20 = .ok (.ldc 229, 2) := by decide +kernel
theorem dX11_later_22 : decode cX11_later 22 = .ok (.if_icmp .le 5, 3) := by decide +kernel
theorem dX11_later_27 : decode cX11_later 27 = .ok (.aload_n 0, 1) := by decide +kernel
theorem dX11_later_28 : decode cX11_later 28 = .ok (.getfield 78, 3) := by decide +kernel
theorem dX11_later_31 : decode cX11_later 31 = .ok (.dup, 1) := by decide +kernel
theorem dX11_later_32 : decode cX11_later 32 = .ok (.getfield 226, 3) := by decide +kernel
theorem dX11_later_35 : decode cX11_later 35 = .ok (.iload_n 1, 1) := by decide +kernel
theorem dX11_later_36 : decode cX11_later 36 = .ok (.iadd, 1) := by decide +kernel
theorem dX11_later_37 : decode cX11_later 37 = .ok (.putfield 226, 3) := by decide +kernel
theorem dX11_later_4 : decode cX11_later 4 = .ok (.iload_n 1, 1) := by decide +kernel
theorem dX11_later_40 : decode cX11_later 40 = .ok (.aload_n 0, 1) := by decide +kernel
theorem dX11_later_41 : decode cX11_later 41 = .ok (.getfield 78, 3) := by decide +kernel
theorem dX11_later_44 : decode cX11_later 44 = .ok (.getfield 226, 3) := by decide +kernel
theorem dX11_later_47 : decode cX11_later 47 = .ok (.ireturn, 1) := by decide +kernel
theorem dX11_later_5 : decode cX11_later 5 = .ok (.sipush 1000, 3) := by decide +kernel
theorem dX11_later_8 : decode cX11_later 8 = .ok (.if_icmp .gt 17, 3) := by decide +kernel
theorem dX11_storms_0 : decode cX11_storms 0 = .ok (.iload_n 1, 1) := by decide +kernel
theorem dX11_storms_1 : decode cX11_storms 1 = .ok (.ifCond .lt 8, 3) := by decide +kernel
theorem dX11_storms_11 : decode cX11_storms 11 = .ok (.ireturn, 1) := by decide +kernel
theorem dX11_storms_12 : decode cX11_storms 12 = .ok (.aload_n 0, 1) := by decide +kernel
theorem dX11_storms_13 : decode cX11_storms 13 = .ok (.getfield 87, 3) := by decide +kernel
theorem dX11_storms_16 : decode cX11_storms 16 = .ok (.iload_n 2, 1) := by decide +kernel
theorem dX11_storms_17 : decode cX11_storms 17 = .ok (.invokevirtual 230, 3) := by decide +kernel
theorem dX11_storms_20 : decode cX11_storms 20 = .ok (.aload_n 0, 1) := by decide +kernel
theorem dX11_storms_21 : decode cX11_storms 21 = .ok (.getfield 87, 3) := by decide +kernel
theorem dX11_storms_24 : decode cX11_storms 24 = .ok (.iconst 0, 1) := by decide +kernel
theorem dX11_storms_25 : decode cX11_storms 25 = .ok (.iconst 0, 1) := by decide +kernel
theorem dX11_storms_26 : decode cX11_storms 26 = .ok (.iconst 0, 1) := by decide +kernel
theorem dX11_storms_27 : decode cX11_storms 27 = .ok (.invokevirtual 232, 3) := by decide +kernel
theorem dX11_storms_30 : decode cX11_storms 30 = .ok (.iload_n 1, 1) := by decide +kernel
theorem dX11_storms_31 : decode cX11_storms 31 = .ok (.tableswitch 49 0 2 #[25, 33, 41], 25) := by decide +kernel
theorem dX11_storms_4 : decode cX11_storms 4 = .ok (.iload_n 1, 1) := by decide +kernel
theorem dX11_storms_5 : decode cX11_storms 5 = .ok (.iconst 3, 1) := by decide +kernel
theorem dX11_storms_56 : decode cX11_storms 56 = .ok (.aload_n 0, 1) := by decide +kernel
theorem dX11_storms_57 : decode cX11_storms 57 = .ok (.getfield 87, 3) := by decide +kernel
theorem dX11_storms_6 : decode cX11_storms 6 = .ok (.if_icmp .le 6, 3) := by decide +kernel
theorem dX11_storms_60 : decode cX11_storms 60 = .ok (.getfield 236, 3) := by decide +kernel
theorem dX11_storms_63 : decode cX11_storms 63 = .ok (.ireturn, 1) := by decide +kernel
theorem dX11_storms_64 : decode cX11_storms 64 = .ok (.aload_n 0, 1) := by decide +kernel
theorem dX11_storms_65 : decode cX11_storms 65 = .ok (.getfield 87, 3) := by decide +kernel
theorem dX11_storms_68 : decode cX11_storms 68 = .ok (.getfield 239, 3) := by decide +kernel
theorem dX11_storms_71 : decode cX11_storms 71 = .ok (.ireturn, 1) := by decide +kernel
theorem dX11_storms_72 : decode cX11_storms 72 = .ok (.aload_n 0, 1) := by decide +kernel
theorem dX11_storms_73 : decode cX11_storms 73 = .ok (.getfield 87, 3) := by decide +kernel
theorem dX11_storms_76 : decode cX11_storms 76 = .ok (.getfield 242, 3) := by decide +kernel
theorem dX11_storms_79 : decode cX11_storms 79 = .ok (.ireturn, 1) := by decide +kernel
theorem dX11_storms_80 : decode cX11_storms 80 = .ok (.aload_n 0, 1) := by decide +kernel
theorem dX11_storms_81 : decode cX11_storms 81 = .ok (.getfield 87, 3) := by decide +kernel
theorem dX11_storms_84 : decode cX11_storms 84 = .ok (.getfield 245, 3) := by decide +kernel
theorem dX11_storms_87 : decode cX11_storms 87 = .ok (.ireturn, 1) := by decide +kernel
theorem dX11_storms_9 : decode cX11_storms 9 = .ok (.bipush (-2), 2) := by decide +kernel
theorem dX3_copyNights_0 : decode cX3_copyNights 0 = .ok (.iconst 0, 1) := by decide +kernel
theorem dX3_copyNights_1 : decode cX3_copyNights 1 = .ok (.istore 4, 2) := by decide +kernel
theorem dX3_copyNights_3 : decode cX3_copyNights 3 = .ok (.iload 4, 2) := by decide +kernel
theorem dX3_copyNights_5 : decode cX3_copyNights 5 = .ok (.iload_n 3, 1) := by decide +kernel
theorem dX3_copyNights_6 : decode cX3_copyNights 6 = .ok (.if_icmp .ge 70, 3) := by decide +kernel
theorem dX3_copyNights_76 : decode cX3_copyNights 76 = .ok (.return_, 1) := by decide +kernel
theorem dX3_countNoticed_0 : decode cX3_countNoticed 0 = .ok (.iconst 0, 1) := by decide +kernel
theorem dX3_countNoticed_1 : decode cX3_countNoticed 1 = .ok (.istore_n 1, 1) := by decide +kernel
theorem dX3_countNoticed_2 : decode cX3_countNoticed 2 = .ok (.iconst 0, 1) := by decide +kernel
theorem dX3_countNoticed_3 : decode cX3_countNoticed 3 = .ok (.istore_n 2, 1) := by decide +kernel
theorem dX3_countNoticed_35 : decode cX3_countNoticed 35 = .ok (.iload_n 1, 1) := by decide +kernel
theorem dX3_countNoticed_36 : decode cX3_countNoticed 36 = .ok (.ireturn, 1) := by decide +kernel
theorem dX3_countNoticed_4 : decode cX3_countNoticed 4 = .ok (.iload_n 2, 1) := by decide +kernel
theorem dX3_countNoticed_5 : decode cX3_countNoticed 5 = .ok (.aload_n 0, 1) := by decide +kernel
theorem dX3_countNoticed_6 : decode cX3_countNoticed 6 = .ok (.getfield 9, 3) := by decide +kernel
theorem dX3_countNoticed_9 : decode cX3_countNoticed 9 = .ok (.if_icmp .ge 26, 3) := by decide +kernel
theorem dX3_goBack_0 : decode cX3_goBack 0 = .ok (.aload_n 0, 1) := by decide +kernel
theorem dX3_goBack_1 : decode cX3_goBack 1 = .ok (.getfield 38, 3) := by decide +kernel
theorem dX3_goBack_10 : decode cX3_goBack 10 = .ok (.iconst (-1), 1) := by decide +kernel
theorem dX3_goBack_11 : decode cX3_goBack 11 = .ok (.ireturn, 1) := by decide +kernel
theorem dX3_goBack_4 : decode cX3_goBack 4 = .ok (.iload_n 1, 1) := by decide +kernel
theorem dX3_goBack_5 : decode cX3_goBack 5 = .ok (.iaload, 1) := by decide +kernel
theorem dX3_goBack_6 : decode cX3_goBack 6 = .ok (.iconst (-1), 1) := by decide +kernel
theorem dX3_goBack_7 : decode cX3_goBack 7 = .ok (.if_icmp .ne 5, 3) := by decide +kernel
theorem dX3_keep_0 : decode cX3_keep 0 = .ok (.aload_n 0, 1) := by decide +kernel
theorem dX3_keep_1 : decode cX3_keep 1 = .ok (.getfield 38, 3) := by decide +kernel
theorem dX3_keep_10 : decode cX3_keep 10 = .ok (.aload_n 0, 1) := by decide +kernel
theorem dX3_keep_11 : decode cX3_keep 11 = .ok (.iconst 0, 1) := by decide +kernel
theorem dX3_keep_12 : decode cX3_keep 12 = .ok (.iconst 1, 1) := by decide +kernel
theorem dX3_keep_13 : decode cX3_keep 13 = .ok (.iload_n 1, 1) := by decide +kernel
theorem dX3_keep_14 : decode cX3_keep 14 = .ok (.iadd, 1) := by decide +kernel
theorem dX3_keep_15 : decode cX3_keep 15 = .ok (.bipush 60, 2) := by decide +kernel
theorem dX3_keep_17 : decode cX3_keep 17 = .ok (.imul, 1) := by decide +kernel
theorem dX3_keep_18 : decode cX3_keep 18 = .ok (.aload_n 0, 1) := by decide +kernel
theorem dX3_keep_19 : decode cX3_keep 19 = .ok (.getfield 9, 3) := by decide +kernel
theorem dX3_keep_22 : decode cX3_keep 22 = .ok (.invokevirtual 66, 3) := by decide +kernel
theorem dX3_keep_25 : decode cX3_keep 25 = .ok (.aload_n 0, 1) := by decide +kernel
theorem dX3_keep_26 : decode cX3_keep 26 = .ok (.getfield 9, 3) := by decide +kernel
theorem dX3_keep_29 : decode cX3_keep 29 = .ok (.ireturn, 1) := by decide +kernel
theorem dX3_keep_4 : decode cX3_keep 4 = .ok (.iload_n 1, 1) := by decide +kernel
theorem dX3_keep_5 : decode cX3_keep 5 = .ok (.aload_n 0, 1) := by decide +kernel
theorem dX3_keep_6 : decode cX3_keep 6 = .ok (.getfield 9, 3) := by decide +kernel
theorem dX3_keep_9 : decode cX3_keep 9 = .ok (.iastore, 1) := by decide +kernel
theorem dX8_add_0 : decode cX8_add 0 = .ok (.iload_n 2, 1) := by decide +kernel
theorem dX8_add_1 : decode cX8_add 1 = .ok (.iconst (-1), 1) := by decide +kernel
theorem dX8_add_10 : decode cX8_add 10 = .ok (.iload_n 2, 1) := by decide +kernel
theorem dX8_add_11 : decode cX8_add 11 = .ok (.invokestatic 97, 3) := by decide +kernel
theorem dX8_add_14 : decode cX8_add 14 = .ok (.istore 4, 2) := by decide +kernel
theorem dX8_add_16 : decode cX8_add 16 = .ok (.aload_n 0, 1) := by decide +kernel
theorem dX8_add_17 : decode cX8_add 17 = .ok (.aload_n 0, 1) := by decide +kernel
theorem dX8_add_18 : decode cX8_add 18 = .ok (.getfield 9, 3) := by decide +kernel
theorem dX8_add_2 : decode cX8_add 2 = .ok (.ixor, 1) := by decide +kernel
theorem dX8_add_21 : decode cX8_add 21 = .ok (.ifCond .ne 7, 3) := by decide +kernel
theorem dX8_add_24 : decode cX8_add 24 = .ok (.iload_n 2, 1) := by decide +kernel
theorem dX8_add_25 : decode cX8_add 25 = .ok (.goto 9, 3) := by decide +kernel
theorem dX8_add_3 : decode cX8_add 3 = .ok (.iconst 1, 1) := by decide +kernel
theorem dX8_add_34 : decode cX8_add 34 = .ok (.putfield 15, 3) := by decide +kernel
theorem dX8_add_37 : decode cX8_add 37 = .ok (.aload_n 0, 1) := by decide +kernel
theorem dX8_add_38 : decode cX8_add 38 = .ok (.aload_n 0, 1) := by decide +kernel
theorem dX8_add_39 : decode cX8_add 39 = .ok (.getfield 9, 3) := by decide +kernel
theorem dX8_add_4 : decode cX8_add 4 = .ok (.iload_n 1, 1) := by decide +kernel
theorem dX8_add_42 : decode cX8_add 42 = .ok (.ifCond .ne 7, 3) := by decide +kernel
theorem dX8_add_45 : decode cX8_add 45 = .ok (.iload_n 3, 1) := by decide +kernel
theorem dX8_add_46 : decode cX8_add 46 = .ok (.goto 9, 3) := by decide +kernel
theorem dX8_add_5 : decode cX8_add 5 = .ok (.ishl, 1) := by decide +kernel
theorem dX8_add_55 : decode cX8_add 55 = .ok (.putfield 18, 3) := by decide +kernel
theorem dX8_add_58 : decode cX8_add 58 = .ok (.aload_n 0, 1) := by decide +kernel
theorem dX8_add_59 : decode cX8_add 59 = .ok (.aload_n 0, 1) := by decide +kernel
theorem dX8_add_6 : decode cX8_add 6 = .ok (.iconst 1, 1) := by decide +kernel
theorem dX8_add_60 : decode cX8_add 60 = .ok (.getfield 9, 3) := by decide +kernel
theorem dX8_add_63 : decode cX8_add 63 = .ok (.ifCond .ne 8, 3) := by decide +kernel
theorem dX8_add_66 : decode cX8_add 66 = .ok (.iload 4, 2) := by decide +kernel
theorem dX8_add_68 : decode cX8_add 68 = .ok (.goto 12, 3) := by decide +kernel
theorem dX8_add_7 : decode cX8_add 7 = .ok (.isub, 1) := by decide +kernel
theorem dX8_add_8 : decode cX8_add 8 = .ok (.iand, 1) := by decide +kernel
theorem dX8_add_80 : decode cX8_add 80 = .ok (.putfield 21, 3) := by decide +kernel
theorem dX8_add_83 : decode cX8_add 83 = .ok (.aload_n 0, 1) := by decide +kernel
theorem dX8_add_84 : decode cX8_add 84 = .ok (.dup, 1) := by decide +kernel
theorem dX8_add_85 : decode cX8_add 85 = .ok (.getfield 9, 3) := by decide +kernel
theorem dX8_add_88 : decode cX8_add 88 = .ok (.iconst 1, 1) := by decide +kernel
theorem dX8_add_89 : decode cX8_add 89 = .ok (.iadd, 1) := by decide +kernel
theorem dX8_add_9 : decode cX8_add 9 = .ok (.istore_n 3, 1) := by decide +kernel
theorem dX8_add_90 : decode cX8_add 90 = .ok (.putfield 9, 3) := by decide +kernel
theorem dX8_add_93 : decode cX8_add 93 = .ok (.return_, 1) := by decide +kernel
theorem dX8_begin_0 : decode cX8_begin 0 = .ok (.aload_n 0, 1) := by decide +kernel
theorem dX8_begin_1 : decode cX8_begin 1 = .ok (.iload_n 1, 1) := by decide +kernel
theorem dX8_begin_10 : decode cX8_begin 10 = .ok (.aload_n 0, 1) := by decide +kernel
theorem dX8_begin_11 : decode cX8_begin 11 = .ok (.iconst 0, 1) := by decide +kernel
theorem dX8_begin_12 : decode cX8_begin 12 = .ok (.putfield 15, 3) := by decide +kernel
theorem dX8_begin_15 : decode cX8_begin 15 = .ok (.aload_n 0, 1) := by decide +kernel
theorem dX8_begin_16 : decode cX8_begin 16 = .ok (.iconst 0, 1) := by decide +kernel
theorem dX8_begin_17 : decode cX8_begin 17 = .ok (.putfield 18, 3) := by decide +kernel
theorem dX8_begin_2 : decode cX8_begin 2 = .ok (.putfield 33, 3) := by decide +kernel
theorem dX8_begin_20 : decode cX8_begin 20 = .ok (.aload_n 0, 1) := by decide +kernel
theorem dX8_begin_21 : decode cX8_begin 21 = .ok (.iconst (-1), 1) := by decide +kernel
theorem dX8_begin_22 : decode cX8_begin 22 = .ok (.putfield 21, 3) := by decide +kernel
theorem dX8_begin_25 : decode cX8_begin 25 = .ok (.aload_n 0, 1) := by decide +kernel
theorem dX8_begin_26 : decode cX8_begin 26 = .ok (.getfield 26, 3) := by decide +kernel
theorem dX8_begin_29 : decode cX8_begin 29 = .ok (.iconst 0, 1) := by decide +kernel
theorem dX8_begin_30 : decode cX8_begin 30 = .ok (.aaload, 1) := by decide +kernel
theorem dX8_begin_31 : decode cX8_begin 31 = .ok (.aload_n 0, 1) := by decide +kernel
theorem dX8_begin_32 : decode cX8_begin 32 = .ok (.getfield 40, 3) := by decide +kernel
theorem dX8_begin_35 : decode cX8_begin 35 = .ok (.invokevirtual 49, 3) := by decide +kernel
theorem dX8_begin_38 : decode cX8_begin 38 = .ok (.invokevirtual 55, 3) := by decide +kernel
theorem dX8_begin_41 : decode cX8_begin 41 = .ok (.aload_n 0, 1) := by decide +kernel
theorem dX8_begin_42 : decode cX8_begin 42 = .ok (.getfield 30, 3) := by decide +kernel
theorem dX8_begin_45 : decode cX8_begin 45 = .ok (.iconst 0, 1) := by decide +kernel
theorem dX8_begin_46 : decode cX8_begin 46 = .ok (.aaload, 1) := by decide +kernel
theorem dX8_begin_47 : decode cX8_begin 47 = .ok (.aload_n 0, 1) := by decide +kernel
theorem dX8_begin_48 : decode cX8_begin 48 = .ok (.getfield 40, 3) := by decide +kernel
theorem dX8_begin_5 : decode cX8_begin 5 = .ok (.aload_n 0, 1) := by decide +kernel
theorem dX8_begin_51 : decode cX8_begin 51 = .ok (.invokevirtual 49, 3) := by decide +kernel
theorem dX8_begin_54 : decode cX8_begin 54 = .ok (.invokevirtual 55, 3) := by decide +kernel
theorem dX8_begin_57 : decode cX8_begin 57 = .ok (.return_, 1) := by decide +kernel
theorem dX8_begin_6 : decode cX8_begin 6 = .ok (.iconst 0, 1) := by decide +kernel
theorem dX8_begin_7 : decode cX8_begin 7 = .ok (.putfield 9, 3) := by decide +kernel
theorem dX8_goOn_0 : decode cX8_goOn 0 = .ok (.iload_n 1, 1) := by decide +kernel
theorem dX8_goOn_1 : decode cX8_goOn 1 = .ok (.istore 4, 2) := by decide +kernel
theorem dX8_goOn_12 : decode cX8_goOn 12 = .ok (.if_icmp .ge 139, 3) := by decide +kernel
theorem dX8_goOn_151 : decode cX8_goOn 151 = .ok (.aload_n 0, 1) := by decide +kernel
theorem dX8_goOn_152 : decode cX8_goOn 152 = .ok (.iload_n 2, 1) := by decide +kernel
theorem dX8_goOn_153 : decode cX8_goOn 153 = .ok (.iload_n 3, 1) := by decide +kernel
theorem dX8_goOn_154 : decode cX8_goOn 154 = .ok (.invokevirtual 78, 3) := by decide +kernel
theorem dX8_goOn_157 : decode cX8_goOn 157 = .ok (.return_, 1) := by decide +kernel
theorem dX8_goOn_3 : decode cX8_goOn 3 = .ok (.iload 4, 2) := by decide +kernel
theorem dX8_goOn_5 : decode cX8_goOn 5 = .ok (.aload_n 0, 1) := by decide +kernel
theorem dX8_goOn_6 : decode cX8_goOn 6 = .ok (.getfield 40, 3) := by decide +kernel
theorem dX8_goOn_9 : decode cX8_goOn 9 = .ok (.getfield 59, 3) := by decide +kernel
set_option maxRecDepth 20000 in
theorem ggX11_about_X3_countNoticed : GoodIn wsX11_about wsX3_countNoticed := goodIn_r _ [18, 19, 20, 58, 59, 60, 61, 62, 63, 64, 65, 66] (by decide +kernel) (by decide +kernel)
set_option maxRecDepth 20000 in
theorem gX11_about_X3_countNoticed : GoodIn wsX11_about (wsV RX11 257 RX3 yX3_countNoticed wsX3_countNoticed) := goodIn_app (goodIn_of _ (by decide +kernel)) ggX11_about_X3_countNoticed
set_option maxRecDepth 20000 in
theorem ggX11_back_X3_goBack : GoodIn wsX11_back wsX3_goBack := goodIn_r _ [6, 7, 8, 9, 10, 11, 12, 5, 13, 14, 15, 16, 17, 18, 19, 20, 21, 22, 23, 24, 25, 26, 27, 28, 29, 30, 31, 32, 33, 34, 35, 36, 37, 38, 39, 40, 41, 42, 43, 44, 45, 46, 47, 48, 49, 50, 51, 52, 53, 54, 55, 56, 57, 58, 59, 60, 61, 62, 63, 64, 65, 66, 67, 68, 69, 70, 71, 72, 73, 74, 75, 76, 77, 78, 79, 80, 81, 82, 83, 84, 85, 86, 87, 88, 89, 90, 91, 92, 93, 94, 95, 96, 97, 98, 99, 100, 101, 102, 103, 116, 117, 118, 119, 120, 121, 122, 123, 124, 125, 126, 127, 128, 129, 130, 131, 132, 133, 134, 135, 136, 137, 138, 139, 140, 141, 142, 143] (by decide +kernel) (by decide +kernel)
set_option maxRecDepth 20000 in
theorem gX11_back_X3_goBack : GoodIn wsX11_back (wsV RX11 251 RX3 yX3_goBack wsX3_goBack) := goodIn_app (goodIn_of _ (by decide +kernel)) ggX11_back_X3_goBack
set_option maxRecDepth 20000 in
theorem ggX11_image_X3_keep : GoodIn wsX11_image wsX3_keep := goodIn_r _ [6, 7, 8, 9, 10, 11, 5, 12, 13, 14, 15, 28, 29, 30, 31, 32, 33, 34, 35, 36] (by decide +kernel) (by decide +kernel)
set_option maxRecDepth 20000 in
theorem gX11_image_X3_keep : GoodIn wsX11_image (wsV RX11 248 RX3 yX3_keep wsX3_keep) := goodIn_app (goodIn_of _ (by decide +kernel)) ggX11_image_X3_keep
set_option maxRecDepth 20000 in
theorem ggX11_storms_X8_begin : GoodIn wsX11_storms wsX8_begin := goodIn_r _ [10, 11, 12, 13, 14, 15, 16, 17, 18, 19, 20, 21, 22, 23, 24, 25, 26, 27, 28, 29, 30, 31, 32, 33, 34, 35, 36, 165, 166, 167, 168, 169, 170, 171, 172, 173, 174, 175, 176, 177, 178, 179, 180, 181, 182, 183, 184, 185, 186, 187, 188, 189, 190] (by decide +kernel) (by decide +kernel)
set_option maxRecDepth 20000 in
theorem gX11_storms_X8_begin : GoodIn wsX11_storms (wsV RX11 230 RX8 yX8_begin wsX8_begin) := goodIn_app (goodIn_of _ (by decide +kernel)) ggX11_storms_X8_begin
set_option maxRecDepth 20000 in
theorem ggX11_storms_X8_goOn : GoodIn wsX11_storms wsX8_goOn := goodIn_r _ [39, 17, 40, 41, 16, 18, 42, 25, 26, 27, 28, 29, 30, 31, 32, 33, 34, 35, 36, 43, 44, 45, 9, 46, 47, 48, 49, 11, 50, 51, 52, 53, 54, 55, 56, 57, 58, 59, 60, 61, 62, 63, 64, 65, 66, 67, 68, 69, 70, 71, 72, 73, 74, 75, 76, 77, 78, 79, 80, 81, 82, 83, 84, 85, 86, 87, 88, 89, 90, 91, 92, 93, 94, 95, 96, 97, 98, 99, 100, 101, 102, 103, 104, 105, 106, 107, 108, 109, 110, 111, 112, 113, 114, 115, 116, 117, 118, 119, 120, 121, 122, 123, 124, 125, 126, 127, 128, 129, 130, 131, 132, 133, 134, 135, 136, 137, 138, 139, 140, 141, 142, 143, 37, 38, 144, 145, 146, 147, 12, 13, 14, 15, 148, 149, 150, 151, 152, 165, 166, 167, 168, 169, 170, 171, 172, 173, 174, 175, 176, 177, 178, 179, 180, 181, 182, 183, 184, 185, 186, 187, 188, 189, 190, 191, 192, 193, 194, 195, 196, 197, 198, 199, 200, 201, 202, 203, 204, 205, 206, 207, 208, 209, 210] (by decide +kernel) (by decide +kernel)
set_option maxRecDepth 20000 in
theorem gX11_storms_X8_goOn_n232 : GoodIn wsX11_storms (wsX8_goOn) := ggX11_storms_X8_goOn
set_option maxRecDepth 20000 in
theorem ggX3_keep_X3_copyNights : GoodIn wsX3_keep wsX3_copyNights := goodIn_r _ [7, 8, 9, 10, 11, 12, 13, 14, 15, 16, 17, 18, 19] (by decide +kernel) (by decide +kernel)
set_option maxRecDepth 20000 in
theorem gX3_keep_X3_copyNights : GoodIn wsX3_keep (wsV RX3 66 RX3 yX3_copyNights wsX3_copyNights) := goodIn_app (goodIn_of _ (by decide +kernel)) ggX3_keep_X3_copyNights
set_option maxRecDepth 20000 in
theorem ggX8_add_J6_bitCount_0f7a4 : GoodIn wsX8_add wsJ6_bitCount_0f7a4 := goodIn_r _ [12, 13, 14, 15] (by decide +kernel) (by decide +kernel)
set_option maxRecDepth 20000 in
theorem gX8_add_J6_bitCount_0f7a4 : GoodIn wsX8_add (va_wsS RX8 97 yJ6_bitCount_0f7a4 wsJ6_bitCount_0f7a4) := goodIn_app (goodIn_of _ (by decide +kernel)) ggX8_add_J6_bitCount_0f7a4
set_option maxRecDepth 20000 in
theorem ggX8_begin_X3_start : GoodIn wsX8_begin wsX3_start := goodIn_r _ [13, 14, 37, 38, 39, 40, 41, 42, 43, 44, 45] (by decide +kernel) (by decide +kernel)
set_option maxRecDepth 20000 in
theorem gX8_begin_X3_start : GoodIn wsX8_begin (wsV RX8 49 RX3 yX3_start wsX3_start) := goodIn_app (goodIn_of _ (by decide +kernel)) ggX8_begin_X3_start
set_option maxRecDepth 20000 in
theorem ggX8_begin_X4_copyOf : GoodIn wsX8_begin wsX4_copyOf := goodIn_r _ [19, 20, 21, 22, 23, 24, 25, 26, 46, 47, 48, 49, 50, 51, 52] (by decide +kernel) (by decide +kernel)
set_option maxRecDepth 20000 in
theorem gX8_begin_X4_copyOf : GoodIn wsX8_begin (wsV RX8 55 RX4 yX4_copyOf wsX4_copyOf) := goodIn_app (goodIn_of _ (by decide +kernel)) ggX8_begin_X4_copyOf
set_option maxRecDepth 20000 in
theorem ggX8_goOn_X8_add : GoodIn wsX8_goOn wsX8_add := goodIn_r _ [127, 128, 129, 130, 131, 132, 133, 134, 135, 136, 74, 75, 76, 77, 78, 79, 137, 138, 139, 140, 141, 142, 143, 144, 145, 146] (by decide +kernel) (by decide +kernel)
set_option maxRecDepth 20000 in
theorem gX8_goOn_X8_add : GoodIn wsX8_goOn (wsV RX8 78 RX8 yX8_add wsX8_add) := goodIn_app (goodIn_of _ (by decide +kernel)) ggX8_goOn_X8_add
theorem zk_1000 : (1000 : Int32).toInt = 1000 := by decide
theorem zk_100000 : (100000 : Int32).toInt = 100000 := by decide
theorem zk_3 : (3 : Int32).toInt = 3 := by decide
theorem zk_5 : (5 : Int32).toInt = 5 := by decide
theorem zk_6 : (6 : Int32).toInt = 6 := by decide
theorem zk_7 : (7 : Int32).toInt = 7 := by decide
theorem zk_8 : (8 : Int32).toInt = 8 := by decide
theorem zk_9 : (9 : Int32).toInt = 9 := by decide
theorem iuX11_later_X11 : ∀ w ∈ u_ws RX11 TX11 12, w ∈ wsX11_later := fun _ h => List.mem_cons_of_mem _ (List.mem_append_left _ (List.mem_append_right _ h))
theorem iuX11_later_X7 : ∀ w ∈ u_ws RX7 TX7 8, w ∈ wsX11_later := fun _ h => List.mem_cons_of_mem _ (List.mem_append_right _ h)
theorem iuX8_begin_X8 : ∀ w ∈ u_ws RX8 TX8 10, w ∈ wsX8_begin := fun _ h => List.mem_cons_of_mem _ (List.mem_append_left _ (List.mem_append_left _ (List.mem_append_right _ h)))
theorem iuX8_add_X8 : ∀ w ∈ u_ws RX8 TX8 10, w ∈ wsX8_add := fun _ h => List.mem_cons_of_mem _ (List.mem_append_right _ h)
theorem iuX8_goOn_X3 : ∀ w ∈ u_ws RX3 TX3 9, w ∈ wsX8_goOn := fun _ h => List.mem_cons_of_mem _ (List.mem_append_left _ (List.mem_append_left _ (List.mem_append_left _ (List.mem_append_right _ h))))
theorem iuX8_goOn_X8 : ∀ w ∈ u_ws RX8 TX8 10, w ∈ wsX8_goOn := fun _ h => List.mem_cons_of_mem _ (List.mem_append_left _ (List.mem_append_left _ (List.mem_append_left _ (List.mem_append_left _ (List.mem_append_right _ h)))))
theorem iuX11_storms_X11 : ∀ w ∈ u_ws RX11 TX11 12, w ∈ wsX11_storms := fun _ h => List.mem_cons_of_mem _ (List.mem_append_left _ (List.mem_append_left _ (List.mem_append_left _ (List.mem_append_left _ (List.mem_append_left _ (List.mem_append_right _ h))))))
theorem iuX11_storms_X8 : ∀ w ∈ u_ws RX8 TX8 10, w ∈ wsX11_storms := fun _ h => List.mem_cons_of_mem _ (List.mem_append_left _ (List.mem_append_left _ (List.mem_append_left _ (List.mem_append_left _ (List.mem_append_right _ h)))))
theorem iuX3_keep_X3 : ∀ w ∈ u_ws RX3 TX3 9, w ∈ wsX3_keep := fun _ h => List.mem_cons_of_mem _ (List.mem_append_right _ h)
theorem iuX11_image_X11 : ∀ w ∈ u_ws RX11 TX11 12, w ∈ wsX11_image := fun _ h => List.mem_cons_of_mem _ (List.mem_append_left _ (List.mem_append_right _ h))
theorem iuX3_goBack_X3 : ∀ w ∈ u_ws RX3 TX3 9, w ∈ wsX3_goBack := fun _ h => List.mem_cons_of_mem _ (List.mem_append_left _ (List.mem_append_left _ (List.mem_append_right _ h)))
theorem iuX11_back_X11 : ∀ w ∈ u_ws RX11 TX11 12, w ∈ wsX11_back := fun _ h => List.mem_cons_of_mem _ (List.mem_append_left _ (List.mem_append_left _ (List.mem_append_left _ (List.mem_append_right _ h))))
theorem iuX3_countNoticed_X3 : ∀ w ∈ u_ws RX3 TX3 9, w ∈ wsX3_countNoticed := fun _ h => List.mem_cons_of_mem _ (List.mem_append_right _ h)
theorem iuX11_about_X11 : ∀ w ∈ u_ws RX11 TX11 12, w ∈ wsX11_about := fun _ h => List.mem_cons_of_mem _ (List.mem_append_left _ (List.mem_append_left _ (List.mem_append_left _ (List.mem_append_left _ (List.mem_append_right _ h)))))
theorem iuX11_about_X2 : ∀ w ∈ u_ws RX2 TX2 12, w ∈ wsX11_about := fun _ h => List.mem_cons_of_mem _ (List.mem_append_left _ (List.mem_append_left _ (List.mem_append_left _ (List.mem_append_right _ h))))
theorem iuX11_about_X10 : ∀ w ∈ u_ws RX10 TX10 13, w ∈ wsX11_about := fun _ h => List.mem_cons_of_mem _ (List.mem_append_left _ (List.mem_append_left _ (List.mem_append_right _ h)))
theorem iuX11_about_X3 : ∀ w ∈ u_ws RX3 TX3 9, w ∈ wsX11_about := fun _ h => List.mem_cons_of_mem _ (List.mem_append_left _ (List.mem_append_right _ h))
theorem iuX11_about_X7 : ∀ w ∈ u_ws RX7 TX7 8, w ∈ wsX11_about := fun _ h => List.mem_cons_of_mem _ (List.mem_append_right _ h)
set_option maxHeartbeats 4000000 in
set_option maxRecDepth 100000 in
theorem aX11_later_c2 (l : Launch) (D : va_G) (h0 h1 r0 r1 r2 r3 r4 r5 r6 r7 r8 r9 r10 r11 r12 r13 r14 r15 : Nat) (x0 : Int32) (sz : Nat) (hx0 : 0 ≤ x0.toInt ∧ x0.toInt ≤ 1000) : Met l yX11_later wsX11_later ({ frames := 0, cells := 0, slots := 0, locals := 0 }) (zPre D [.ref h0, .int x0] [(h0, .inr (11, [.ref r0, .int 0, .ref r1, .ref r2, .ref r3, .ref r4, .ref r5, .ref r6, .ref r7, .ref r8, .ref h1, .ref r9])), (h1, .inr (7, [.int 0, .int 0, .ref r10, .ref r11, .ref r12, .ref r13, .ref r14, .ref r15]))] [] sz) ((fun A => va_Qi (fun (r : Int32) (u : Unit) => r = (an_later x0)) (zB D A (fun (u : Unit) => match u with | _ => []) (fun (u : Unit) => match u with | _ => [])) A) (va_A [(h0, .inr (11, [.ref r0, .int 0, .ref r1, .ref r2, .ref r3, .ref r4, .ref r5, .ref r6, .ref r7, .ref r8, .ref h1, .ref r9])), (h1, .inr (7, [.int 0, .int 0, .ref r10, .ref r11, .ref r12, .ref r13, .ref r14, .ref r15]))] sz)) 0 0 (va_A [(h0, .inr (11, [.ref r0, .int 0, .ref r1, .ref r2, .ref r3, .ref r4, .ref r5, .ref r6, .ref r7, .ref r8, .ref h1, .ref r9])), (h1, .inr (7, [.int 0, .int 0, .ref r10, .ref r11, .ref r12, .ref r13, .ref r14, .ref r15]))] sz) := by
  refine zOfW (QF := fun A => va_Qi (fun (r : Int32) (u : Unit) => r = (an_later x0)) (zB D A (fun (u : Unit) => match u with | _ => []) (fun (u : Unit) => match u with | _ => [])) A) (cc := cX11_later) (maxL := 2) (ret := (some .int)) (by decide) rfl (Nat.le_of_ble_eq_true rfl) ?_
  intro p e s m below meth c A ls hx hb hr hml hts hown hlocks hin hA hS hP hD hK hN hl
  have hl : lv_has ls 2 [(0, .ref h0), (1, .int x0)] := hl
  refine lv_iload_n hx hb dX11_later_0 rfl (lv_at hl 1 rfl) ?_
  refine lv_if_lt (tgt := 25) hx hb dX11_later_1 (by decide) (fun h9 => absurd h9 (z_cmp (show ¬ ((x0 : Int32) < 0) from by simp only [fa_lt, fa_le, fa_eq, zk_0]; have := hx0; omega))) (fun _ => ?_)
  refine lv_iload_n hx hb dX11_later_4 rfl (lv_at hl 1 rfl) ?_
  refine lv_sipush (v := 1000) hx hb dX11_later_5 (by decide) ?_
  refine lv_icmp_gt (tgt := 25) hx hb dX11_later_8 (by decide) (fun h9 => absurd h9 (z_cmp (show ¬ ((1000 : Int32) < x0) from by simp only [fa_lt, fa_le, fa_eq, zk_1000]; have := hx0; omega))) (fun _ => ?_)
  refine lv_aload_n hx hb dX11_later_11 rfl (lv_at hl 0 rfl) ?_
  refine va_get (D := D) (ci := 11) (v := .ref h1) (C := RX11) (T := TX11) (N := 12) hx hb hts iuX11_later_X11 hown hK hP 0 rfl rfl 10 (by decide) (hts (.fieldLink RX11 78 "StraitGame" "sights" "LStraitGame$Sights;") (List.mem_of_getElem? (i := 1) rfl)) (fun _ h9 => h9) rfl dX11_later_12 ?_
  refine va_get (D := D) (ci := 7) (v := .int 0) (C := RX7) (T := TX7) (N := 8) hx hb hts iuX11_later_X7 hown hK hP 1 rfl rfl 1 (by decide) (hts (.fieldLink RX11 226 "StraitGame$Sights" "time" "I") (List.mem_of_getElem? (i := 2) rfl)) (fun _ h9 => h9) rfl dX11_later_15 ?_
  refine lv_iload_n hx hb dX11_later_18 rfl (lv_at hl 1 rfl) ?_
  refine lv_iadd hx hb dX11_later_19 ?_
  refine z_top (y := x0) (z_add0 _) ?_
  refine lv_ldc (v := 100000) hx hb hown (hts (.constant RX11 229 (100000)) (List.mem_of_getElem? (i := 3) rfl)) dX11_later_20 ?_
  refine lv_icmp_le (tgt := 27) hx hb dX11_later_22 (by decide) (fun _ => ?_) (fun h9 => absurd (z_cmp (show (x0 : Int32) ≤ 100000 from by simp only [fa_lt, fa_le, fa_eq, zk_100000]; have := hx0; omega)) h9)
  refine lv_aload_n hx hb dX11_later_27 rfl (lv_at hl 0 rfl) ?_
  refine va_get (D := D) (ci := 11) (v := .ref h1) (C := RX11) (T := TX11) (N := 12) hx hb hts iuX11_later_X11 hown hK hP 0 rfl rfl 10 (by decide) (hts (.fieldLink RX11 78 "StraitGame" "sights" "LStraitGame$Sights;") (List.mem_of_getElem? (i := 1) rfl)) (fun _ h9 => h9) rfl dX11_later_28 ?_
  refine lv_dup hx hb dX11_later_31 rfl ?_
  refine va_get (D := D) (ci := 7) (v := .int 0) (C := RX7) (T := TX7) (N := 8) hx hb hts iuX11_later_X7 hown hK hP 1 rfl rfl 1 (by decide) (hts (.fieldLink RX11 226 "StraitGame$Sights" "time" "I") (List.mem_of_getElem? (i := 2) rfl)) (fun _ h9 => h9) rfl dX11_later_32 ?_
  refine lv_iload_n hx hb dX11_later_35 rfl (lv_at hl 1 rfl) ?_
  refine lv_iadd hx hb dX11_later_36 ?_
  refine z_top (y := x0) (z_add0 _) ?_
  refine va_put (D := D) (ci := 7) (v := .int x0) (ty := .int) (C := RX7) (T := TX7) (N := 8) hx hb hts iuX11_later_X7 tyX7 tyX7_ok nmX7 hown hK hP hD hS 1 rfl rfl 1 (by decide) (hts (.fieldLink RX11 226 "StraitGame$Sights" "time" "I") (List.mem_of_getElem? (i := 2) rfl)) (fun _ h9 => h9) rfl (by decide +kernel) rfl rfl (Nat.le_of_ble_eq_true rfl) dX11_later_37 (fun H locs hP hD hS => ?_)
  have hP : va_P D vwCl [(h0, .inr (11, [.ref r0, .int 0, .ref r1, .ref r2, .ref r3, .ref r4, .ref r5, .ref r6, .ref r7, .ref r8, .ref h1, .ref r9])), (h1, .inr (7, [.int 0, .int x0, .ref r10, .ref r11, .ref r12, .ref r13, .ref r14, .ref r15]))] H := hP
  have hD : va_D A [(h0, .inr (11, [.ref r0, .int 0, .ref r1, .ref r2, .ref r3, .ref r4, .ref r5, .ref r6, .ref r7, .ref r8, .ref h1, .ref r9])), (h1, .inr (7, [.int 0, .int x0, .ref r10, .ref r11, .ref r12, .ref r13, .ref r14, .ref r15]))] := hD
  refine lv_aload_n hx hb dX11_later_40 rfl (lv_at hl 0 rfl) ?_
  refine va_get (D := D) (ci := 11) (v := .ref h1) (C := RX11) (T := TX11) (N := 12) hx hb hts iuX11_later_X11 hown hK hP 0 rfl rfl 10 (by decide) (hts (.fieldLink RX11 78 "StraitGame" "sights" "LStraitGame$Sights;") (List.mem_of_getElem? (i := 1) rfl)) (fun _ h9 => h9) rfl dX11_later_41 ?_
  refine va_get (D := D) (ci := 7) (v := .int x0) (C := RX7) (T := TX7) (N := 8) hx hb hts iuX11_later_X7 hown hK hP 1 rfl rfl 1 (by decide) (hts (.fieldLink RX11 226 "StraitGame$Sights" "time" "I") (List.mem_of_getElem? (i := 2) rfl)) (fun _ h9 => h9) rfl dX11_later_44 ?_
  exact zret_i hx hb hr hlocks hP hD hK hS () ((if_pos (by have := hx0; omega)).symm) [] [] (by decide) rfl rfl (Nat.le_of_ble_eq_true rfl) (Nat.le_of_ble_eq_true rfl) dX11_later_47
set_option maxHeartbeats 4000000 in
set_option maxRecDepth 100000 in
theorem aX11_later_c3 (l : Launch) (D : va_G) (h0 h1 r0 r1 r2 r3 r4 r5 r6 r7 r8 r9 r10 r11 r12 r13 r14 r15 : Nat) (x0 : Int32) (sz : Nat) (hx0 : 1001 ≤ x0.toInt ∧ x0.toInt ≤ 2147483647) : Met l yX11_later wsX11_later ({ frames := 0, cells := 0, slots := 0, locals := 0 }) (zPre D [.ref h0, .int x0] [(h0, .inr (11, [.ref r0, .int 0, .ref r1, .ref r2, .ref r3, .ref r4, .ref r5, .ref r6, .ref r7, .ref r8, .ref h1, .ref r9])), (h1, .inr (7, [.int 0, .int 0, .ref r10, .ref r11, .ref r12, .ref r13, .ref r14, .ref r15]))] [] sz) ((fun A => va_Qi (fun (r : Int32) (u : Unit) => r = (an_later x0)) (zB D A (fun (u : Unit) => match u with | _ => []) (fun (u : Unit) => match u with | _ => [])) A) (va_A [(h0, .inr (11, [.ref r0, .int 0, .ref r1, .ref r2, .ref r3, .ref r4, .ref r5, .ref r6, .ref r7, .ref r8, .ref h1, .ref r9])), (h1, .inr (7, [.int 0, .int 0, .ref r10, .ref r11, .ref r12, .ref r13, .ref r14, .ref r15]))] sz)) 0 0 (va_A [(h0, .inr (11, [.ref r0, .int 0, .ref r1, .ref r2, .ref r3, .ref r4, .ref r5, .ref r6, .ref r7, .ref r8, .ref h1, .ref r9])), (h1, .inr (7, [.int 0, .int 0, .ref r10, .ref r11, .ref r12, .ref r13, .ref r14, .ref r15]))] sz) := by
  refine zOfW (QF := fun A => va_Qi (fun (r : Int32) (u : Unit) => r = (an_later x0)) (zB D A (fun (u : Unit) => match u with | _ => []) (fun (u : Unit) => match u with | _ => [])) A) (cc := cX11_later) (maxL := 2) (ret := (some .int)) (by decide) rfl (Nat.le_of_ble_eq_true rfl) ?_
  intro p e s m below meth c A ls hx hb hr hml hts hown hlocks hin hA hS hP hD hK hN hl
  have hl : lv_has ls 2 [(0, .ref h0), (1, .int x0)] := hl
  refine lv_iload_n hx hb dX11_later_0 rfl (lv_at hl 1 rfl) ?_
  refine lv_if_lt (tgt := 25) hx hb dX11_later_1 (by decide) (fun h9 => absurd h9 (z_cmp (show ¬ ((x0 : Int32) < 0) from by simp only [fa_lt, fa_le, fa_eq, zk_0]; have := hx0; omega))) (fun _ => ?_)
  refine lv_iload_n hx hb dX11_later_4 rfl (lv_at hl 1 rfl) ?_
  refine lv_sipush (v := 1000) hx hb dX11_later_5 (by decide) ?_
  refine lv_icmp_gt (tgt := 25) hx hb dX11_later_8 (by decide) (fun _ => ?_) (fun h9 => absurd (z_cmp (show (1000 : Int32) < x0 from by simp only [fa_lt, fa_le, fa_eq, zk_1000]; have := hx0; omega)) h9)
  refine lv_iconst (v := (-1)) hx hb dX11_later_25 (by decide) ?_
  exact zret_i hx hb hr hlocks hP hD hK hS () ((if_neg (by have := hx0; omega)).symm) [] [] (by decide) rfl rfl (Nat.le_of_ble_eq_true rfl) (Nat.le_of_ble_eq_true rfl) dX11_later_26
theorem aX11_later (l : Launch) (D : va_G) (h0 h1 r0 r1 r2 r3 r4 r5 r6 r7 r8 r9 r10 r11 r12 r13 r14 r15 : Nat) (x0 : Int32) (sz : Nat) : Met l yX11_later wsX11_later ({ frames := 0, cells := 0, slots := 0, locals := 0 }) (zPre D [.ref h0, .int x0] [(h0, .inr (11, [.ref r0, .int 0, .ref r1, .ref r2, .ref r3, .ref r4, .ref r5, .ref r6, .ref r7, .ref r8, .ref h1, .ref r9])), (h1, .inr (7, [.int 0, .int 0, .ref r10, .ref r11, .ref r12, .ref r13, .ref r14, .ref r15]))] [] sz) ((fun A => va_Qi (fun (r : Int32) (u : Unit) => r = (an_later x0)) (zB D A (fun (u : Unit) => match u with | _ => []) (fun (u : Unit) => match u with | _ => [])) A) (va_A [(h0, .inr (11, [.ref r0, .int 0, .ref r1, .ref r2, .ref r3, .ref r4, .ref r5, .ref r6, .ref r7, .ref r8, .ref h1, .ref r9])), (h1, .inr (7, [.int 0, .int 0, .ref r10, .ref r11, .ref r12, .ref r13, .ref r14, .ref r15]))] sz)) 0 0 (va_A [(h0, .inr (11, [.ref r0, .int 0, .ref r1, .ref r2, .ref r3, .ref r4, .ref r5, .ref r6, .ref r7, .ref r8, .ref h1, .ref r9])), (h1, .inr (7, [.int 0, .int 0, .ref r10, .ref r11, .ref r12, .ref r13, .ref r14, .ref r15]))] sz) := by
  rcases (show (-2147483648 ≤ x0.toInt ∧ x0.toInt ≤ -1) ∨ (0 ≤ x0.toInt ∧ x0.toInt ≤ 1000) ∨ (1001 ≤ x0.toInt ∧ x0.toInt ≤ 2147483647) from by have := z_rng x0; omega) with b0 | b0 | b0
  ·
    exact aX11_later_c1 l D h0 h1 r0 r1 r2 r3 r4 r5 r6 r7 r8 r9 r10 r11 r12 r13 r14 r15 x0 _  b0
  ·
    exact aX11_later_c2 l D h0 h1 r0 r1 r2 r3 r4 r5 r6 r7 r8 r9 r10 r11 r12 r13 r14 r15 x0 _  b0
  ·
    exact aX11_later_c3 l D h0 h1 r0 r1 r2 r3 r4 r5 r6 r7 r8 r9 r10 r11 r12 r13 r14 r15 x0 _  b0
set_option maxHeartbeats 4000000 in
set_option maxRecDepth 100000 in
theorem zX8_begin_1 (l : Launch) (D : va_G) (h0 h1 h2 h3 h4 h5 h6 h7 r0 r1 r2 r3 r4 r5 r6 r7 r8 r9 : Nat) (k0 k1 k2 : ClassId) (f0 : Nat → Option Nat) (f1 : Nat → Option Nat) (f2 : Nat → Option Nat) (x0 : Int32) (sz : Nat) (hf_f0_0 : f0 0 = some h4) (hf_f1_0 : f1 0 = some h5) (hf_f1_1 : f1 1 = some r7) (hf_f1_2 : f1 2 = some r8) (hf_f1_3 : f1 3 = some r9) (hf_f2_0 : f2 0 = some h7) (hx0 : -2147483648 ≤ x0.toInt ∧ x0.toInt ≤ 2147483647) : Met l yX8_begin wsX8_begin ({ frames := 1, cells := 0, slots := 0, locals := 21 }) (zPre D [.ref h0, .int x0] [(h0, .inr (8, [.int 0, .int 0, .int 0, .int (-1), .ref r0, .ref h2, .ref r1, .ref h1, .ref h6, .int 0])), (h1, .inl (k0, 11, .inr (.inr (.inr (.inr f0))))), (h2, .inr (3, [.int 0, .int 0, .ref r2, .ref r3, .ref r4, .ref r5, .ref r0, .ref h3, .ref r6])), (h3, .inl (k1, 122, .inr (.inr (.inr (.inr f1))))), (h4, .inr (4, [.int 0, .int 0, .int 0, .int 0, .int 0, .int 0, .int 0])), (h5, .inr (4, [.int 0, .int 0, .int 0, .int 0, .int 0, .int 0, .int 0])), (h6, .inl (k2, 11, .inr (.inr (.inr (.inr f2))))), (h7, .inr (4, [.int 0, .int 0, .int 0, .int 0, .int 0, .int 0, .int 0]))] [(k0, .object RX4), (k1, .object RX4), (k2, .object RX4)] sz) ((fun A => va_Qv (fun (u : Unit) => match u with | _ => True) (zB D A (fun (u : Unit) => match u with | _ => [(h0, .inr (8, [.int 0, .int 0, .int 0, .int (-1), .ref r0, .ref h2, .ref r1, .ref h1, .ref h6, .int x0])), (h1, .inl (k0, 11, .inr (.inr (.inr (.inr f0))))), (h2, .inr (3, [.int 0, .int 0, .ref r2, .ref r3, .ref r4, .ref r5, .ref r0, .ref h3, .ref r6])), (h3, .inl (k1, 122, .inr (.inr (.inr (.inr f1))))), (h4, .inr (4, [.int 0, .int 0, .int 0, .int 0, .int 0, .int 0, .int 0])), (h5, .inr (4, [.int 0, .int 0, .int 0, .int 0, .int 0, .int 0, .int 0])), (h6, .inl (k2, 11, .inr (.inr (.inr (.inr f2))))), (h7, .inr (4, [.int 0, .int 0, .int 0, .int 0, .int 0, .int 0, .int 0]))]) (fun (u : Unit) => match u with | _ => [])) A) (va_A [(h0, .inr (8, [.int 0, .int 0, .int 0, .int (-1), .ref r0, .ref h2, .ref r1, .ref h1, .ref h6, .int 0])), (h1, .inl (k0, 11, .inr (.inr (.inr (.inr f0))))), (h2, .inr (3, [.int 0, .int 0, .ref r2, .ref r3, .ref r4, .ref r5, .ref r0, .ref h3, .ref r6])), (h3, .inl (k1, 122, .inr (.inr (.inr (.inr f1))))), (h4, .inr (4, [.int 0, .int 0, .int 0, .int 0, .int 0, .int 0, .int 0])), (h5, .inr (4, [.int 0, .int 0, .int 0, .int 0, .int 0, .int 0, .int 0])), (h6, .inl (k2, 11, .inr (.inr (.inr (.inr f2))))), (h7, .inr (4, [.int 0, .int 0, .int 0, .int 0, .int 0, .int 0, .int 0]))] sz)) 0 0 (va_A [(h0, .inr (8, [.int 0, .int 0, .int 0, .int (-1), .ref r0, .ref h2, .ref r1, .ref h1, .ref h6, .int 0])), (h1, .inl (k0, 11, .inr (.inr (.inr (.inr f0))))), (h2, .inr (3, [.int 0, .int 0, .ref r2, .ref r3, .ref r4, .ref r5, .ref r0, .ref h3, .ref r6])), (h3, .inl (k1, 122, .inr (.inr (.inr (.inr f1))))), (h4, .inr (4, [.int 0, .int 0, .int 0, .int 0, .int 0, .int 0, .int 0])), (h5, .inr (4, [.int 0, .int 0, .int 0, .int 0, .int 0, .int 0, .int 0])), (h6, .inl (k2, 11, .inr (.inr (.inr (.inr f2))))), (h7, .inr (4, [.int 0, .int 0, .int 0, .int 0, .int 0, .int 0, .int 0]))] sz) := by
  refine zOfW (QF := fun A => va_Qv (fun (u : Unit) => match u with | _ => True) (zB D A (fun (u : Unit) => match u with | _ => [(h0, .inr (8, [.int 0, .int 0, .int 0, .int (-1), .ref r0, .ref h2, .ref r1, .ref h1, .ref h6, .int x0])), (h1, .inl (k0, 11, .inr (.inr (.inr (.inr f0))))), (h2, .inr (3, [.int 0, .int 0, .ref r2, .ref r3, .ref r4, .ref r5, .ref r0, .ref h3, .ref r6])), (h3, .inl (k1, 122, .inr (.inr (.inr (.inr f1))))), (h4, .inr (4, [.int 0, .int 0, .int 0, .int 0, .int 0, .int 0, .int 0])), (h5, .inr (4, [.int 0, .int 0, .int 0, .int 0, .int 0, .int 0, .int 0])), (h6, .inl (k2, 11, .inr (.inr (.inr (.inr f2))))), (h7, .inr (4, [.int 0, .int 0, .int 0, .int 0, .int 0, .int 0, .int 0]))]) (fun (u : Unit) => match u with | _ => [])) A) (cc := cX8_begin) (maxL := 2) (ret := none) (by decide) rfl (Nat.le_of_ble_eq_true rfl) ?_
  intro p e s m below meth c A ls hx hb hr hml hts hown hlocks hin hA hS hP hD hK hN hl
  have hl : lv_has ls 2 [(0, .ref h0), (1, .int x0)] := hl
  refine lv_aload_n hx hb dX8_begin_0 rfl (lv_at hl 0 rfl) ?_
  refine lv_iload_n hx hb dX8_begin_1 rfl (lv_at hl 1 rfl) ?_
  refine va_put (D := D) (ci := 8) (v := .int x0) (ty := .int) (C := RX8) (T := TX8) (N := 10) hx hb hts iuX8_begin_X8 tyX8 tyX8_ok nmX8 hown hK hP hD hS 0 rfl rfl 9 (by decide) (hts (.fieldLink RX8 33 "StraitGame$Storms" "known" "I") (List.mem_of_getElem? (i := 1) rfl)) (fun _ h9 => h9) rfl (by decide +kernel) rfl rfl (Nat.le_of_ble_eq_true rfl) dX8_begin_2 (fun H locs hP hD hS => ?_)
  have hP : va_P D vwCl [(h0, .inr (8, [.int 0, .int 0, .int 0, .int (-1), .ref r0, .ref h2, .ref r1, .ref h1, .ref h6, .int x0])), (h1, .inl (k0, 11, .inr (.inr (.inr (.inr f0))))), (h2, .inr (3, [.int 0, .int 0, .ref r2, .ref r3, .ref r4, .ref r5, .ref r0, .ref h3, .ref r6])), (h3, .inl (k1, 122, .inr (.inr (.inr (.inr f1))))), (h4, .inr (4, [.int 0, .int 0, .int 0, .int 0, .int 0, .int 0, .int 0])), (h5, .inr (4, [.int 0, .int 0, .int 0, .int 0, .int 0, .int 0, .int 0])), (h6, .inl (k2, 11, .inr (.inr (.inr (.inr f2))))), (h7, .inr (4, [.int 0, .int 0, .int 0, .int 0, .int 0, .int 0, .int 0]))] H := hP
  have hD : va_D A [(h0, .inr (8, [.int 0, .int 0, .int 0, .int (-1), .ref r0, .ref h2, .ref r1, .ref h1, .ref h6, .int x0])), (h1, .inl (k0, 11, .inr (.inr (.inr (.inr f0))))), (h2, .inr (3, [.int 0, .int 0, .ref r2, .ref r3, .ref r4, .ref r5, .ref r0, .ref h3, .ref r6])), (h3, .inl (k1, 122, .inr (.inr (.inr (.inr f1))))), (h4, .inr (4, [.int 0, .int 0, .int 0, .int 0, .int 0, .int 0, .int 0])), (h5, .inr (4, [.int 0, .int 0, .int 0, .int 0, .int 0, .int 0, .int 0])), (h6, .inl (k2, 11, .inr (.inr (.inr (.inr f2))))), (h7, .inr (4, [.int 0, .int 0, .int 0, .int 0, .int 0, .int 0, .int 0]))] := hD
  refine lv_aload_n hx hb dX8_begin_5 rfl (lv_at hl 0 rfl) ?_
  refine lv_iconst (v := 0) hx hb dX8_begin_6 (by decide) ?_
  refine va_put (D := D) (ci := 8) (v := .int 0) (ty := .int) (C := RX8) (T := TX8) (N := 10) hx hb hts iuX8_begin_X8 tyX8 tyX8_ok nmX8 hown hK hP hD hS 0 rfl rfl 0 (by decide) (hts (.fieldLink RX8 9 "StraitGame$Storms" "sets" "I") (List.mem_of_getElem? (i := 2) rfl)) (fun _ h9 => h9) rfl (by decide +kernel) rfl rfl (Nat.le_of_ble_eq_true rfl) dX8_begin_7 (fun H locs hP hD hS => ?_)
  have hP : va_P D vwCl [(h0, .inr (8, [.int 0, .int 0, .int 0, .int (-1), .ref r0, .ref h2, .ref r1, .ref h1, .ref h6, .int x0])), (h1, .inl (k0, 11, .inr (.inr (.inr (.inr f0))))), (h2, .inr (3, [.int 0, .int 0, .ref r2, .ref r3, .ref r4, .ref r5, .ref r0, .ref h3, .ref r6])), (h3, .inl (k1, 122, .inr (.inr (.inr (.inr f1))))), (h4, .inr (4, [.int 0, .int 0, .int 0, .int 0, .int 0, .int 0, .int 0])), (h5, .inr (4, [.int 0, .int 0, .int 0, .int 0, .int 0, .int 0, .int 0])), (h6, .inl (k2, 11, .inr (.inr (.inr (.inr f2))))), (h7, .inr (4, [.int 0, .int 0, .int 0, .int 0, .int 0, .int 0, .int 0]))] H := hP
  have hD : va_D A [(h0, .inr (8, [.int 0, .int 0, .int 0, .int (-1), .ref r0, .ref h2, .ref r1, .ref h1, .ref h6, .int x0])), (h1, .inl (k0, 11, .inr (.inr (.inr (.inr f0))))), (h2, .inr (3, [.int 0, .int 0, .ref r2, .ref r3, .ref r4, .ref r5, .ref r0, .ref h3, .ref r6])), (h3, .inl (k1, 122, .inr (.inr (.inr (.inr f1))))), (h4, .inr (4, [.int 0, .int 0, .int 0, .int 0, .int 0, .int 0, .int 0])), (h5, .inr (4, [.int 0, .int 0, .int 0, .int 0, .int 0, .int 0, .int 0])), (h6, .inl (k2, 11, .inr (.inr (.inr (.inr f2))))), (h7, .inr (4, [.int 0, .int 0, .int 0, .int 0, .int 0, .int 0, .int 0]))] := hD
  refine lv_aload_n hx hb dX8_begin_10 rfl (lv_at hl 0 rfl) ?_
  refine lv_iconst (v := 0) hx hb dX8_begin_11 (by decide) ?_
  refine va_put (D := D) (ci := 8) (v := .int 0) (ty := .int) (C := RX8) (T := TX8) (N := 10) hx hb hts iuX8_begin_X8 tyX8 tyX8_ok nmX8 hown hK hP hD hS 0 rfl rfl 1 (by decide) (hts (.fieldLink RX8 15 "StraitGame$Storms" "lostForSure" "I") (List.mem_of_getElem? (i := 3) rfl)) (fun _ h9 => h9) rfl (by decide +kernel) rfl rfl (Nat.le_of_ble_eq_true rfl) dX8_begin_12 (fun H locs hP hD hS => ?_)
  have hP : va_P D vwCl [(h0, .inr (8, [.int 0, .int 0, .int 0, .int (-1), .ref r0, .ref h2, .ref r1, .ref h1, .ref h6, .int x0])), (h1, .inl (k0, 11, .inr (.inr (.inr (.inr f0))))), (h2, .inr (3, [.int 0, .int 0, .ref r2, .ref r3, .ref r4, .ref r5, .ref r0, .ref h3, .ref r6])), (h3, .inl (k1, 122, .inr (.inr (.inr (.inr f1))))), (h4, .inr (4, [.int 0, .int 0, .int 0, .int 0, .int 0, .int 0, .int 0])), (h5, .inr (4, [.int 0, .int 0, .int 0, .int 0, .int 0, .int 0, .int 0])), (h6, .inl (k2, 11, .inr (.inr (.inr (.inr f2))))), (h7, .inr (4, [.int 0, .int 0, .int 0, .int 0, .int 0, .int 0, .int 0]))] H := hP
  have hD : va_D A [(h0, .inr (8, [.int 0, .int 0, .int 0, .int (-1), .ref r0, .ref h2, .ref r1, .ref h1, .ref h6, .int x0])), (h1, .inl (k0, 11, .inr (.inr (.inr (.inr f0))))), (h2, .inr (3, [.int 0, .int 0, .ref r2, .ref r3, .ref r4, .ref r5, .ref r0, .ref h3, .ref r6])), (h3, .inl (k1, 122, .inr (.inr (.inr (.inr f1))))), (h4, .inr (4, [.int 0, .int 0, .int 0, .int 0, .int 0, .int 0, .int 0])), (h5, .inr (4, [.int 0, .int 0, .int 0, .int 0, .int 0, .int 0, .int 0])), (h6, .inl (k2, 11, .inr (.inr (.inr (.inr f2))))), (h7, .inr (4, [.int 0, .int 0, .int 0, .int 0, .int 0, .int 0, .int 0]))] := hD
  refine lv_aload_n hx hb dX8_begin_15 rfl (lv_at hl 0 rfl) ?_
  refine lv_iconst (v := 0) hx hb dX8_begin_16 (by decide) ?_
  refine va_put (D := D) (ci := 8) (v := .int 0) (ty := .int) (C := RX8) (T := TX8) (N := 10) hx hb hts iuX8_begin_X8 tyX8 tyX8_ok nmX8 hown hK hP hD hS 0 rfl rfl 2 (by decide) (hts (.fieldLink RX8 18 "StraitGame$Storms" "heardForSure" "I") (List.mem_of_getElem? (i := 4) rfl)) (fun _ h9 => h9) rfl (by decide +kernel) rfl rfl (Nat.le_of_ble_eq_true rfl) dX8_begin_17 (fun H locs hP hD hS => ?_)
  have hP : va_P D vwCl [(h0, .inr (8, [.int 0, .int 0, .int 0, .int (-1), .ref r0, .ref h2, .ref r1, .ref h1, .ref h6, .int x0])), (h1, .inl (k0, 11, .inr (.inr (.inr (.inr f0))))), (h2, .inr (3, [.int 0, .int 0, .ref r2, .ref r3, .ref r4, .ref r5, .ref r0, .ref h3, .ref r6])), (h3, .inl (k1, 122, .inr (.inr (.inr (.inr f1))))), (h4, .inr (4, [.int 0, .int 0, .int 0, .int 0, .int 0, .int 0, .int 0])), (h5, .inr (4, [.int 0, .int 0, .int 0, .int 0, .int 0, .int 0, .int 0])), (h6, .inl (k2, 11, .inr (.inr (.inr (.inr f2))))), (h7, .inr (4, [.int 0, .int 0, .int 0, .int 0, .int 0, .int 0, .int 0]))] H := hP
  have hD : va_D A [(h0, .inr (8, [.int 0, .int 0, .int 0, .int (-1), .ref r0, .ref h2, .ref r1, .ref h1, .ref h6, .int x0])), (h1, .inl (k0, 11, .inr (.inr (.inr (.inr f0))))), (h2, .inr (3, [.int 0, .int 0, .ref r2, .ref r3, .ref r4, .ref r5, .ref r0, .ref h3, .ref r6])), (h3, .inl (k1, 122, .inr (.inr (.inr (.inr f1))))), (h4, .inr (4, [.int 0, .int 0, .int 0, .int 0, .int 0, .int 0, .int 0])), (h5, .inr (4, [.int 0, .int 0, .int 0, .int 0, .int 0, .int 0, .int 0])), (h6, .inl (k2, 11, .inr (.inr (.inr (.inr f2))))), (h7, .inr (4, [.int 0, .int 0, .int 0, .int 0, .int 0, .int 0, .int 0]))] := hD
  refine lv_aload_n hx hb dX8_begin_20 rfl (lv_at hl 0 rfl) ?_
  refine lv_iconst (v := (-1)) hx hb dX8_begin_21 (by decide) ?_
  refine va_put (D := D) (ci := 8) (v := .int (-1)) (ty := .int) (C := RX8) (T := TX8) (N := 10) hx hb hts iuX8_begin_X8 tyX8 tyX8_ok nmX8 hown hK hP hD hS 0 rfl rfl 3 (by decide) (hts (.fieldLink RX8 21 "StraitGame$Storms" "fewest" "I") (List.mem_of_getElem? (i := 5) rfl)) (fun _ h9 => h9) rfl (by decide +kernel) rfl rfl (Nat.le_of_ble_eq_true rfl) dX8_begin_22 (fun H locs hP hD hS => ?_)
  have hP : va_P D vwCl [(h0, .inr (8, [.int 0, .int 0, .int 0, .int (-1), .ref r0, .ref h2, .ref r1, .ref h1, .ref h6, .int x0])), (h1, .inl (k0, 11, .inr (.inr (.inr (.inr f0))))), (h2, .inr (3, [.int 0, .int 0, .ref r2, .ref r3, .ref r4, .ref r5, .ref r0, .ref h3, .ref r6])), (h3, .inl (k1, 122, .inr (.inr (.inr (.inr f1))))), (h4, .inr (4, [.int 0, .int 0, .int 0, .int 0, .int 0, .int 0, .int 0])), (h5, .inr (4, [.int 0, .int 0, .int 0, .int 0, .int 0, .int 0, .int 0])), (h6, .inl (k2, 11, .inr (.inr (.inr (.inr f2))))), (h7, .inr (4, [.int 0, .int 0, .int 0, .int 0, .int 0, .int 0, .int 0]))] H := hP
  have hD : va_D A [(h0, .inr (8, [.int 0, .int 0, .int 0, .int (-1), .ref r0, .ref h2, .ref r1, .ref h1, .ref h6, .int x0])), (h1, .inl (k0, 11, .inr (.inr (.inr (.inr f0))))), (h2, .inr (3, [.int 0, .int 0, .ref r2, .ref r3, .ref r4, .ref r5, .ref r0, .ref h3, .ref r6])), (h3, .inl (k1, 122, .inr (.inr (.inr (.inr f1))))), (h4, .inr (4, [.int 0, .int 0, .int 0, .int 0, .int 0, .int 0, .int 0])), (h5, .inr (4, [.int 0, .int 0, .int 0, .int 0, .int 0, .int 0, .int 0])), (h6, .inl (k2, 11, .inr (.inr (.inr (.inr f2))))), (h7, .inr (4, [.int 0, .int 0, .int 0, .int 0, .int 0, .int 0, .int 0]))] := hD
  refine lv_aload_n hx hb dX8_begin_25 rfl (lv_at hl 0 rfl) ?_
  refine va_get (D := D) (ci := 8) (v := .ref h1) (C := RX8) (T := TX8) (N := 10) hx hb hts iuX8_begin_X8 hown hK hP 0 rfl rfl 7 (by decide) (hts (.fieldLink RX8 26 "StraitGame$Storms" "white" "[LStraitGame$Position;") (List.mem_of_getElem? (i := 6) rfl)) (fun _ h9 => h9) rfl dX8_begin_26 ?_
  refine lv_iconst (v := 0) hx hb dX8_begin_29 (by decide) ?_
  refine va_aldq hx hb hK hP 1 0 rfl rfl (z_in (by decide)) dX8_begin_30 ?_
  refine z_topv (y := .ref h4) (congrArg va_rf ((congrArg f0 (show Int32.toNatClampNeg 0 = 0 from by decide)).trans hf_f0_0)) ?_
  refine lv_aload_n hx hb dX8_begin_31 rfl (lv_at hl 0 rfl) ?_
  refine va_get (D := D) (ci := 8) (v := .ref h2) (C := RX8) (T := TX8) (N := 10) hx hb hts iuX8_begin_X8 hown hK hP 0 rfl rfl 5 (by decide) (hts (.fieldLink RX8 40 "StraitGame$Storms" "nights" "LStraitGame$Nights;") (List.mem_of_getElem? (i := 7) rfl)) (fun _ h9 => h9) rfl dX8_begin_32 ?_
  refine zA_r (zR_V (As := []) (rest := [.ref h4]) ⟨hx, hb, hml, hown, hts⟩ (zX3_start_1 l D h2 h3 r2 r3 r4 r5 r0 r6 h5 r7 r8 r9 k1 f1 _ (hf_f1_0) (hf_f1_1) (hf_f1_2) (hf_f1_3)) (cwV 0 hts gX8_begin_X3_start rfl rfl rfl (by decide +kernel) ⟨(Nat.le_of_ble_eq_true rfl), (Nat.le_of_ble_eq_true rfl)⟩) hP hD hK hN [2, 3] [1] rfl (by decide) rfl 0 3 rfl rfl rfl hl.1 rfl (Nat.le_of_ble_eq_true rfl) dX8_begin_35 ⟨(Nat.le_of_ble_eq_true rfl), (Nat.le_of_ble_eq_true rfl)⟩) hP hD hK hS hA [2, 3] [0, 1, 4, 5, 6, 7] rfl rfl (by decide) (by decide) (fun u H locs hw hP hD hK hS => ?_)
  have hK : va_K D vwCl [(k0, .object RX4), (k1, .object RX4), (k2, .object RX4)] s := hK
  have hP : va_P D vwCl [(h0, .inr (8, [.int 0, .int 0, .int 0, .int (-1), .ref r0, .ref h2, .ref r1, .ref h1, .ref h6, .int x0])), (h1, .inl (k0, 11, .inr (.inr (.inr (.inr f0))))), (h4, .inr (4, [.int 0, .int 0, .int 0, .int 0, .int 0, .int 0, .int 0])), (h5, .inr (4, [.int 0, .int 0, .int 0, .int 0, .int 0, .int 0, .int 0])), (h6, .inl (k2, 11, .inr (.inr (.inr (.inr f2))))), (h7, .inr (4, [.int 0, .int 0, .int 0, .int 0, .int 0, .int 0, .int 0])), (h2, .inr (3, [.int 0, .int 0, .ref r2, .ref r3, .ref r4, .ref r5, .ref r0, .ref h3, .ref r6])), (h3, .inl (k1, 122, .inr (.inr (.inr (.inr f1)))))] H := hP
  have hD : va_D A [(h0, .inr (8, [.int 0, .int 0, .int 0, .int (-1), .ref r0, .ref h2, .ref r1, .ref h1, .ref h6, .int x0])), (h1, .inl (k0, 11, .inr (.inr (.inr (.inr f0))))), (h4, .inr (4, [.int 0, .int 0, .int 0, .int 0, .int 0, .int 0, .int 0])), (h5, .inr (4, [.int 0, .int 0, .int 0, .int 0, .int 0, .int 0, .int 0])), (h6, .inl (k2, 11, .inr (.inr (.inr (.inr f2))))), (h7, .inr (4, [.int 0, .int 0, .int 0, .int 0, .int 0, .int 0, .int 0])), (h2, .inr (3, [.int 0, .int 0, .ref r2, .ref r3, .ref r4, .ref r5, .ref r0, .ref h3, .ref r6])), (h3, .inl (k1, 122, .inr (.inr (.inr (.inr f1)))))] := hD
  refine W.widen (k := 0) (n := 0) (Nat.le_of_ble_eq_true rfl) (Nat.le_of_ble_eq_true rfl) ?_
  refine zA_v (zR_V (As := [.ref h5]) (rest := []) ⟨hx, hb, hml, hown, hts⟩ (zX4_copyOf_1 l D h5 h4 _) (cwV 1 hts gX8_begin_X4_copyOf rfl rfl rfl (by decide +kernel) ⟨(Nat.le_of_ble_eq_true rfl), (Nat.le_of_ble_eq_true rfl)⟩) hP hD hK hN [3, 2] [] rfl (by decide) rfl 1 4 rfl rfl rfl hl.1 rfl (Nat.le_of_ble_eq_true rfl) dX8_begin_38 ⟨(Nat.le_of_ble_eq_true rfl), (Nat.le_of_ble_eq_true rfl)⟩) hP hD hK hS hA [3, 2] [0, 1, 4, 5, 6, 7] rfl rfl (by decide) (by decide) (fun u H locs hw hP hD hK hS => ?_)
  have hK : va_K D vwCl [(k0, .object RX4), (k1, .object RX4), (k2, .object RX4)] s := hK
  have hP : va_P D vwCl [(h0, .inr (8, [.int 0, .int 0, .int 0, .int (-1), .ref r0, .ref h2, .ref r1, .ref h1, .ref h6, .int x0])), (h1, .inl (k0, 11, .inr (.inr (.inr (.inr f0))))), (h6, .inl (k2, 11, .inr (.inr (.inr (.inr f2))))), (h7, .inr (4, [.int 0, .int 0, .int 0, .int 0, .int 0, .int 0, .int 0])), (h2, .inr (3, [.int 0, .int 0, .ref r2, .ref r3, .ref r4, .ref r5, .ref r0, .ref h3, .ref r6])), (h3, .inl (k1, 122, .inr (.inr (.inr (.inr f1))))), (h5, .inr (4, [.int 0, .int 0, .int 0, .int 0, .int 0, .int 0, .int 0])), (h4, .inr (4, [.int 0, .int 0, .int 0, .int 0, .int 0, .int 0, .int 0]))] H := hP
  have hD : va_D A [(h0, .inr (8, [.int 0, .int 0, .int 0, .int (-1), .ref r0, .ref h2, .ref r1, .ref h1, .ref h6, .int x0])), (h1, .inl (k0, 11, .inr (.inr (.inr (.inr f0))))), (h6, .inl (k2, 11, .inr (.inr (.inr (.inr f2))))), (h7, .inr (4, [.int 0, .int 0, .int 0, .int 0, .int 0, .int 0, .int 0])), (h2, .inr (3, [.int 0, .int 0, .ref r2, .ref r3, .ref r4, .ref r5, .ref r0, .ref h3, .ref r6])), (h3, .inl (k1, 122, .inr (.inr (.inr (.inr f1))))), (h5, .inr (4, [.int 0, .int 0, .int 0, .int 0, .int 0, .int 0, .int 0])), (h4, .inr (4, [.int 0, .int 0, .int 0, .int 0, .int 0, .int 0, .int 0]))] := hD
  refine W.widen (k := 0) (n := 0) (Nat.le_of_ble_eq_true rfl) (Nat.le_of_ble_eq_true rfl) ?_
  refine lv_aload_n hx hb dX8_begin_41 rfl (lv_at hl 0 rfl) ?_
  refine va_get (D := D) (ci := 8) (v := .ref h6) (C := RX8) (T := TX8) (N := 10) hx hb hts iuX8_begin_X8 hown hK hP 0 rfl rfl 8 (by decide) (hts (.fieldLink RX8 30 "StraitGame$Storms" "black" "[LStraitGame$Position;") (List.mem_of_getElem? (i := 8) rfl)) (fun _ h9 => h9) rfl dX8_begin_42 ?_
  refine lv_iconst (v := 0) hx hb dX8_begin_45 (by decide) ?_
  refine va_aldq hx hb hK hP 2 2 rfl rfl (z_in (by decide)) dX8_begin_46 ?_
  refine z_topv (y := .ref h7) (congrArg va_rf ((congrArg f2 (show Int32.toNatClampNeg 0 = 0 from by decide)).trans hf_f2_0)) ?_
  refine lv_aload_n hx hb dX8_begin_47 rfl (lv_at hl 0 rfl) ?_
  refine va_get (D := D) (ci := 8) (v := .ref h2) (C := RX8) (T := TX8) (N := 10) hx hb hts iuX8_begin_X8 hown hK hP 0 rfl rfl 5 (by decide) (hts (.fieldLink RX8 40 "StraitGame$Storms" "nights" "LStraitGame$Nights;") (List.mem_of_getElem? (i := 7) rfl)) (fun _ h9 => h9) rfl dX8_begin_48 ?_
  refine zA_r (zR_V (As := []) (rest := [.ref h7]) ⟨hx, hb, hml, hown, hts⟩ (zX3_start_1 l D h2 h3 r2 r3 r4 r5 r0 r6 h5 r7 r8 r9 k1 f1 _ ((by first | rfl | (simp [upd, va_up]; done) | (simp [upd, va_up, *]; done))) ((by first | rfl | (simp [upd, va_up]; done) | (simp [upd, va_up, *]; done))) ((by first | rfl | (simp [upd, va_up]; done) | (simp [upd, va_up, *]; done))) ((by first | rfl | (simp [upd, va_up]; done) | (simp [upd, va_up, *]; done)))) (cwV 0 hts gX8_begin_X3_start rfl rfl rfl (by decide +kernel) ⟨(Nat.le_of_ble_eq_true rfl), (Nat.le_of_ble_eq_true rfl)⟩) hP hD hK hN [4, 5] [1] rfl (by decide) rfl 0 3 rfl rfl rfl hl.1 rfl (Nat.le_of_ble_eq_true rfl) dX8_begin_51 ⟨(Nat.le_of_ble_eq_true rfl), (Nat.le_of_ble_eq_true rfl)⟩) hP hD hK hS hA [4, 5] [0, 1, 2, 3, 6, 7] rfl rfl (by decide) (by decide) (fun u H locs hw hP hD hK hS => ?_)
  have hK : va_K D vwCl [(k0, .object RX4), (k1, .object RX4), (k2, .object RX4)] s := hK
  have hP : va_P D vwCl [(h0, .inr (8, [.int 0, .int 0, .int 0, .int (-1), .ref r0, .ref h2, .ref r1, .ref h1, .ref h6, .int x0])), (h1, .inl (k0, 11, .inr (.inr (.inr (.inr f0))))), (h6, .inl (k2, 11, .inr (.inr (.inr (.inr f2))))), (h7, .inr (4, [.int 0, .int 0, .int 0, .int 0, .int 0, .int 0, .int 0])), (h5, .inr (4, [.int 0, .int 0, .int 0, .int 0, .int 0, .int 0, .int 0])), (h4, .inr (4, [.int 0, .int 0, .int 0, .int 0, .int 0, .int 0, .int 0])), (h2, .inr (3, [.int 0, .int 0, .ref r2, .ref r3, .ref r4, .ref r5, .ref r0, .ref h3, .ref r6])), (h3, .inl (k1, 122, .inr (.inr (.inr (.inr f1)))))] H := hP
  have hD : va_D A [(h0, .inr (8, [.int 0, .int 0, .int 0, .int (-1), .ref r0, .ref h2, .ref r1, .ref h1, .ref h6, .int x0])), (h1, .inl (k0, 11, .inr (.inr (.inr (.inr f0))))), (h6, .inl (k2, 11, .inr (.inr (.inr (.inr f2))))), (h7, .inr (4, [.int 0, .int 0, .int 0, .int 0, .int 0, .int 0, .int 0])), (h5, .inr (4, [.int 0, .int 0, .int 0, .int 0, .int 0, .int 0, .int 0])), (h4, .inr (4, [.int 0, .int 0, .int 0, .int 0, .int 0, .int 0, .int 0])), (h2, .inr (3, [.int 0, .int 0, .ref r2, .ref r3, .ref r4, .ref r5, .ref r0, .ref h3, .ref r6])), (h3, .inl (k1, 122, .inr (.inr (.inr (.inr f1)))))] := hD
  refine W.widen (k := 0) (n := 0) (Nat.le_of_ble_eq_true rfl) (Nat.le_of_ble_eq_true rfl) ?_
  refine zA_v (zR_V (As := [.ref h5]) (rest := []) ⟨hx, hb, hml, hown, hts⟩ (zX4_copyOf_1 l D h5 h7 _) (cwV 1 hts gX8_begin_X4_copyOf rfl rfl rfl (by decide +kernel) ⟨(Nat.le_of_ble_eq_true rfl), (Nat.le_of_ble_eq_true rfl)⟩) hP hD hK hN [4, 3] [] rfl (by decide) rfl 1 4 rfl rfl rfl hl.1 rfl (Nat.le_of_ble_eq_true rfl) dX8_begin_54 ⟨(Nat.le_of_ble_eq_true rfl), (Nat.le_of_ble_eq_true rfl)⟩) hP hD hK hS hA [4, 3] [0, 1, 2, 5, 6, 7] rfl rfl (by decide) (by decide) (fun u H locs hw hP hD hK hS => ?_)
  have hK : va_K D vwCl [(k0, .object RX4), (k1, .object RX4), (k2, .object RX4)] s := hK
  have hP : va_P D vwCl [(h0, .inr (8, [.int 0, .int 0, .int 0, .int (-1), .ref r0, .ref h2, .ref r1, .ref h1, .ref h6, .int x0])), (h1, .inl (k0, 11, .inr (.inr (.inr (.inr f0))))), (h6, .inl (k2, 11, .inr (.inr (.inr (.inr f2))))), (h4, .inr (4, [.int 0, .int 0, .int 0, .int 0, .int 0, .int 0, .int 0])), (h2, .inr (3, [.int 0, .int 0, .ref r2, .ref r3, .ref r4, .ref r5, .ref r0, .ref h3, .ref r6])), (h3, .inl (k1, 122, .inr (.inr (.inr (.inr f1))))), (h5, .inr (4, [.int 0, .int 0, .int 0, .int 0, .int 0, .int 0, .int 0])), (h7, .inr (4, [.int 0, .int 0, .int 0, .int 0, .int 0, .int 0, .int 0]))] H := hP
  have hD : va_D A [(h0, .inr (8, [.int 0, .int 0, .int 0, .int (-1), .ref r0, .ref h2, .ref r1, .ref h1, .ref h6, .int x0])), (h1, .inl (k0, 11, .inr (.inr (.inr (.inr f0))))), (h6, .inl (k2, 11, .inr (.inr (.inr (.inr f2))))), (h4, .inr (4, [.int 0, .int 0, .int 0, .int 0, .int 0, .int 0, .int 0])), (h2, .inr (3, [.int 0, .int 0, .ref r2, .ref r3, .ref r4, .ref r5, .ref r0, .ref h3, .ref r6])), (h3, .inl (k1, 122, .inr (.inr (.inr (.inr f1))))), (h5, .inr (4, [.int 0, .int 0, .int 0, .int 0, .int 0, .int 0, .int 0])), (h7, .inr (4, [.int 0, .int 0, .int 0, .int 0, .int 0, .int 0, .int 0]))] := hD
  refine W.widen (k := 0) (n := 0) (Nat.le_of_ble_eq_true rfl) (Nat.le_of_ble_eq_true rfl) ?_
  exact zret_v hx hb hr hlocks hP hD hK hS () trivial [0, 1, 4, 5, 3, 6, 2, 7] [] (by decide) rfl rfl (Nat.le_of_ble_eq_true rfl) (Nat.le_of_ble_eq_true rfl) dX8_begin_57
set_option maxHeartbeats 4000000 in
set_option maxRecDepth 100000 in
theorem zX8_add_1 (l : Launch) (D : va_G) (h0 r0 r1 r2 r3 r4 : Nat) (x0 : Int32) (sz : Nat) (hx0 : -2147483648 ≤ x0.toInt ∧ x0.toInt ≤ 2147483647) : Met l yX8_add wsX8_add ({ frames := 1, cells := 0, slots := 0, locals := 20 }) (zPre D [.ref h0, .int 0, .int 0] [(h0, .inr (8, [.int 0, .int 0, .int 0, .int (-1), .ref r0, .ref r1, .ref r2, .ref r3, .ref r4, .int x0]))] [] sz) ((fun A => va_Qv (fun (u : Unit) => match u with | _ => True) (zB D A (fun (u : Unit) => match u with | _ => [(h0, .inr (8, [.int 1, .int 0, .int 0, .int 0, .ref r0, .ref r1, .ref r2, .ref r3, .ref r4, .int x0]))]) (fun (u : Unit) => match u with | _ => [])) A) (va_A [(h0, .inr (8, [.int 0, .int 0, .int 0, .int (-1), .ref r0, .ref r1, .ref r2, .ref r3, .ref r4, .int x0]))] sz)) 0 0 (va_A [(h0, .inr (8, [.int 0, .int 0, .int 0, .int (-1), .ref r0, .ref r1, .ref r2, .ref r3, .ref r4, .int x0]))] sz) := by
  refine zOfW (QF := fun A => va_Qv (fun (u : Unit) => match u with | _ => True) (zB D A (fun (u : Unit) => match u with | _ => [(h0, .inr (8, [.int 1, .int 0, .int 0, .int 0, .ref r0, .ref r1, .ref r2, .ref r3, .ref r4, .int x0]))]) (fun (u : Unit) => match u with | _ => [])) A) (cc := cX8_add) (maxL := 5) (ret := none) (by decide) rfl (Nat.le_of_ble_eq_true rfl) ?_
  intro p e s m below meth c A ls hx hb hr hml hts hown hlocks hin hA hS hP hD hK hN hl
  have hl : lv_has ls 5 [(0, .ref h0), (1, .int 0), (2, .int 0)] := hl
  refine lv_iload_n hx hb dX8_add_0 rfl (lv_at hl 2 rfl) ?_
  refine lv_iconst (v := (-1)) hx hb dX8_add_1 (by decide) ?_
  refine lv_ixor hx hb dX8_add_2 ?_
  refine z_top (y := (-1)) (by decide) ?_
  refine lv_iconst (v := 1) hx hb dX8_add_3 (by decide) ?_
  refine lv_iload_n hx hb dX8_add_4 rfl (lv_at hl 1 rfl) ?_
  refine lv_ishl hx hb dX8_add_5 ?_
  refine z_top (y := 1) (by decide) ?_
  refine lv_iconst (v := 1) hx hb dX8_add_6 (by decide) ?_
  refine lv_isub hx hb dX8_add_7 ?_
  refine z_top (y := 0) (by decide) ?_
  refine lv_iand hx hb dX8_add_8 ?_
  refine z_top (y := 0) (by decide) ?_
  refine lv_istore_n (lv' := [(3, .int 0), (0, .ref h0), (1, .int 0), (2, .int 0)]) hx hb dX8_add_9 rfl hl (by decide) rfl (fun ls hl => ?_)
  refine lv_iload_n hx hb dX8_add_10 rfl (lv_at hl 3 rfl) ?_
  refine zA_i (zR_S (As := [.int 0]) (rest := []) ⟨hx, hb, hml, hown, hts⟩ (zJ6_bitCount_0f7a4_1 l D _) (va_cwS 1 hts gX8_add_J6_bitCount_0f7a4 rfl rfl rfl (by decide +kernel) ⟨(Nat.le_of_ble_eq_true rfl), (Nat.le_of_ble_eq_true rfl)⟩) hP hD hK hN [] [] rfl (by decide) rfl rfl hl.1 rfl (Nat.le_of_ble_eq_true rfl) dX8_add_11 ⟨(Nat.le_of_ble_eq_true rfl), (Nat.le_of_ble_eq_true rfl)⟩) hP hD hK hS hA [] [0] rfl rfl (by decide) (by decide) (fun r_487 u H locs hw hP hD hK hS => ?_)
  have hK : va_K D vwCl [] s := hK
  have hP : va_P D vwCl [(h0, .inr (8, [.int 0, .int 0, .int 0, .int (-1), .ref r0, .ref r1, .ref r2, .ref r3, .ref r4, .int x0]))] H := hP
  have hD : va_D A [(h0, .inr (8, [.int 0, .int 0, .int 0, .int (-1), .ref r0, .ref r1, .ref r2, .ref r3, .ref r4, .int x0]))] := hD
  refine W.widen (k := 0) (n := 0) (Nat.le_of_ble_eq_true rfl) (Nat.le_of_ble_eq_true rfl) ?_
  have er : r_487 = 0 := hw
  refine z_top (y := 0) er ?_
  refine lv_istore (lv' := [(4, .int 0), (3, .int 0), (0, .ref h0), (1, .int 0), (2, .int 0)]) hx hb dX8_add_14 hl (by decide) rfl (fun ls hl => ?_)
  refine lv_aload_n hx hb dX8_add_16 rfl (lv_at hl 2 rfl) ?_
  refine lv_aload_n hx hb dX8_add_17 rfl (lv_at hl 2 rfl) ?_
  refine va_get (D := D) (ci := 8) (v := .int 0) (C := RX8) (T := TX8) (N := 10) hx hb hts iuX8_add_X8 hown hK hP 0 rfl rfl 0 (by decide) (hts (.fieldLink RX8 9 "StraitGame$Storms" "sets" "I") (List.mem_of_getElem? (i := 1) rfl)) (fun _ h9 => h9) rfl dX8_add_18 ?_
  refine lv_if_ne (tgt := 28) hx hb dX8_add_21 (by decide) (fun h9 => absurd (by decide) h9) (fun _ => ?_)
  refine lv_iload_n hx hb dX8_add_24 rfl (lv_at hl 4 rfl) ?_
  refine lv_goto (tgt := 34) hx hb dX8_add_25 (by decide) ?_
  refine va_put (D := D) (ci := 8) (v := .int 0) (ty := .int) (C := RX8) (T := TX8) (N := 10) hx hb hts iuX8_add_X8 tyX8 tyX8_ok nmX8 hown hK hP hD hS 0 rfl rfl 1 (by decide) (hts (.fieldLink RX8 15 "StraitGame$Storms" "lostForSure" "I") (List.mem_of_getElem? (i := 2) rfl)) (fun _ h9 => h9) rfl (by decide +kernel) rfl rfl (Nat.le_of_ble_eq_true rfl) dX8_add_34 (fun H locs hP hD hS => ?_)
  have hP : va_P D vwCl [(h0, .inr (8, [.int 0, .int 0, .int 0, .int (-1), .ref r0, .ref r1, .ref r2, .ref r3, .ref r4, .int x0]))] H := hP
  have hD : va_D A [(h0, .inr (8, [.int 0, .int 0, .int 0, .int (-1), .ref r0, .ref r1, .ref r2, .ref r3, .ref r4, .int x0]))] := hD
  refine lv_aload_n hx hb dX8_add_37 rfl (lv_at hl 2 rfl) ?_
  refine lv_aload_n hx hb dX8_add_38 rfl (lv_at hl 2 rfl) ?_
  refine va_get (D := D) (ci := 8) (v := .int 0) (C := RX8) (T := TX8) (N := 10) hx hb hts iuX8_add_X8 hown hK hP 0 rfl rfl 0 (by decide) (hts (.fieldLink RX8 9 "StraitGame$Storms" "sets" "I") (List.mem_of_getElem? (i := 1) rfl)) (fun _ h9 => h9) rfl dX8_add_39 ?_
  refine lv_if_ne (tgt := 49) hx hb dX8_add_42 (by decide) (fun h9 => absurd (by decide) h9) (fun _ => ?_)
  refine lv_iload_n hx hb dX8_add_45 rfl (lv_at hl 1 rfl) ?_
  refine lv_goto (tgt := 55) hx hb dX8_add_46 (by decide) ?_
  refine va_put (D := D) (ci := 8) (v := .int 0) (ty := .int) (C := RX8) (T := TX8) (N := 10) hx hb hts iuX8_add_X8 tyX8 tyX8_ok nmX8 hown hK hP hD hS 0 rfl rfl 2 (by decide) (hts (.fieldLink RX8 18 "StraitGame$Storms" "heardForSure" "I") (List.mem_of_getElem? (i := 3) rfl)) (fun _ h9 => h9) rfl (by decide +kernel) rfl rfl (Nat.le_of_ble_eq_true rfl) dX8_add_55 (fun H locs hP hD hS => ?_)
  have hP : va_P D vwCl [(h0, .inr (8, [.int 0, .int 0, .int 0, .int (-1), .ref r0, .ref r1, .ref r2, .ref r3, .ref r4, .int x0]))] H := hP
  have hD : va_D A [(h0, .inr (8, [.int 0, .int 0, .int 0, .int (-1), .ref r0, .ref r1, .ref r2, .ref r3, .ref r4, .int x0]))] := hD
  refine lv_aload_n hx hb dX8_add_58 rfl (lv_at hl 2 rfl) ?_
  refine lv_aload_n hx hb dX8_add_59 rfl (lv_at hl 2 rfl) ?_
  refine va_get (D := D) (ci := 8) (v := .int 0) (C := RX8) (T := TX8) (N := 10) hx hb hts iuX8_add_X8 hown hK hP 0 rfl rfl 0 (by decide) (hts (.fieldLink RX8 9 "StraitGame$Storms" "sets" "I") (List.mem_of_getElem? (i := 1) rfl)) (fun _ h9 => h9) rfl dX8_add_60 ?_
  refine lv_if_ne (tgt := 71) hx hb dX8_add_63 (by decide) (fun h9 => absurd (by decide) h9) (fun _ => ?_)
  refine lv_iload hx hb dX8_add_66 (lv_at hl 0 rfl) ?_
  refine lv_goto (tgt := 80) hx hb dX8_add_68 (by decide) ?_
  refine va_put (D := D) (ci := 8) (v := .int 0) (ty := .int) (C := RX8) (T := TX8) (N := 10) hx hb hts iuX8_add_X8 tyX8 tyX8_ok nmX8 hown hK hP hD hS 0 rfl rfl 3 (by decide) (hts (.fieldLink RX8 21 "StraitGame$Storms" "fewest" "I") (List.mem_of_getElem? (i := 4) rfl)) (fun _ h9 => h9) rfl (by decide +kernel) rfl rfl (Nat.le_of_ble_eq_true rfl) dX8_add_80 (fun H locs hP hD hS => ?_)
  have hP : va_P D vwCl [(h0, .inr (8, [.int 0, .int 0, .int 0, .int 0, .ref r0, .ref r1, .ref r2, .ref r3, .ref r4, .int x0]))] H := hP
  have hD : va_D A [(h0, .inr (8, [.int 0, .int 0, .int 0, .int 0, .ref r0, .ref r1, .ref r2, .ref r3, .ref r4, .int x0]))] := hD
  refine lv_aload_n hx hb dX8_add_83 rfl (lv_at hl 2 rfl) ?_
  refine lv_dup hx hb dX8_add_84 rfl ?_
  refine va_get (D := D) (ci := 8) (v := .int 0) (C := RX8) (T := TX8) (N := 10) hx hb hts iuX8_add_X8 hown hK hP 0 rfl rfl 0 (by decide) (hts (.fieldLink RX8 9 "StraitGame$Storms" "sets" "I") (List.mem_of_getElem? (i := 1) rfl)) (fun _ h9 => h9) rfl dX8_add_85 ?_
  refine lv_iconst (v := 1) hx hb dX8_add_88 (by decide) ?_
  refine lv_iadd hx hb dX8_add_89 ?_
  refine z_top (y := 1) (by decide) ?_
  refine va_put (D := D) (ci := 8) (v := .int 1) (ty := .int) (C := RX8) (T := TX8) (N := 10) hx hb hts iuX8_add_X8 tyX8 tyX8_ok nmX8 hown hK hP hD hS 0 rfl rfl 0 (by decide) (hts (.fieldLink RX8 9 "StraitGame$Storms" "sets" "I") (List.mem_of_getElem? (i := 1) rfl)) (fun _ h9 => h9) rfl (by decide +kernel) rfl rfl (Nat.le_of_ble_eq_true rfl) dX8_add_90 (fun H locs hP hD hS => ?_)
  have hP : va_P D vwCl [(h0, .inr (8, [.int 1, .int 0, .int 0, .int 0, .ref r0, .ref r1, .ref r2, .ref r3, .ref r4, .int x0]))] H := hP
  have hD : va_D A [(h0, .inr (8, [.int 1, .int 0, .int 0, .int 0, .ref r0, .ref r1, .ref r2, .ref r3, .ref r4, .int x0]))] := hD
  exact zret_v hx hb hr hlocks hP hD hK hS () trivial [0] [] (by decide) rfl rfl (Nat.le_of_ble_eq_true rfl) (Nat.le_of_ble_eq_true rfl) dX8_add_93
set_option maxHeartbeats 4000000 in
set_option maxRecDepth 100000 in
theorem zX8_goOn_1 (l : Launch) (D : va_G) (h0 h1 r0 r1 r2 r3 r4 r5 r6 r7 r8 r9 : Nat) (x0 : Int32) (sz : Nat) (hx0 : -2147483648 ≤ x0.toInt ∧ x0.toInt ≤ 2147483647) : Met l yX8_goOn wsX8_goOn ({ frames := 2, cells := 0, slots := 0, locals := 44 }) (zPre D [.ref h0, .int 0, .int 0, .int 0] [(h0, .inr (8, [.int 0, .int 0, .int 0, .int (-1), .ref r0, .ref h1, .ref r1, .ref r2, .ref r3, .int x0])), (h1, .inr (3, [.int 0, .int 0, .ref r4, .ref r5, .ref r6, .ref r7, .ref r0, .ref r8, .ref r9]))] [] sz) ((fun A => va_Qv (fun (u : Unit) => match u with | _ => True) (zB D A (fun (u : Unit) => match u with | _ => [(h0, .inr (8, [.int 1, .int 0, .int 0, .int 0, .ref r0, .ref h1, .ref r1, .ref r2, .ref r3, .int x0])), (h1, .inr (3, [.int 0, .int 0, .ref r4, .ref r5, .ref r6, .ref r7, .ref r0, .ref r8, .ref r9]))]) (fun (u : Unit) => match u with | _ => [])) A) (va_A [(h0, .inr (8, [.int 0, .int 0, .int 0, .int (-1), .ref r0, .ref h1, .ref r1, .ref r2, .ref r3, .int x0])), (h1, .inr (3, [.int 0, .int 0, .ref r4, .ref r5, .ref r6, .ref r7, .ref r0, .ref r8, .ref r9]))] sz)) 0 0 (va_A [(h0, .inr (8, [.int 0, .int 0, .int 0, .int (-1), .ref r0, .ref h1, .ref r1, .ref r2, .ref r3, .int x0])), (h1, .inr (3, [.int 0, .int 0, .ref r4, .ref r5, .ref r6, .ref r7, .ref r0, .ref r8, .ref r9]))] sz) := by
  refine zOfW (QF := fun A => va_Qv (fun (u : Unit) => match u with | _ => True) (zB D A (fun (u : Unit) => match u with | _ => [(h0, .inr (8, [.int 1, .int 0, .int 0, .int 0, .ref r0, .ref h1, .ref r1, .ref r2, .ref r3, .int x0])), (h1, .inr (3, [.int 0, .int 0, .ref r4, .ref r5, .ref r6, .ref r7, .ref r0, .ref r8, .ref r9]))]) (fun (u : Unit) => match u with | _ => [])) A) (cc := cX8_goOn) (maxL := 6) (ret := none) (by decide) rfl (Nat.le_of_ble_eq_true rfl) ?_
  intro p e s m below meth c A ls hx hb hr hml hts hown hlocks hin hA hS hP hD hK hN hl
  have hl : lv_has ls 6 [(0, .ref h0), (1, .int 0), (2, .int 0), (3, .int 0)] := hl
  refine lv_iload_n hx hb dX8_goOn_0 rfl (lv_at hl 1 rfl) ?_
  refine lv_istore (lv' := [(4, .int 0), (0, .ref h0), (1, .int 0), (2, .int 0), (3, .int 0)]) hx hb dX8_goOn_1 hl (by decide) rfl (fun ls hl => ?_)
  refine lv_iload hx hb dX8_goOn_3 (lv_at hl 0 rfl) ?_
  refine lv_aload_n hx hb dX8_goOn_5 rfl (lv_at hl 1 rfl) ?_
  refine va_get (D := D) (ci := 8) (v := .ref h1) (C := RX8) (T := TX8) (N := 10) hx hb hts iuX8_goOn_X8 hown hK hP 0 rfl rfl 5 (by decide) (hts (.fieldLink RX8 40 "StraitGame$Storms" "nights" "LStraitGame$Nights;") (List.mem_of_getElem? (i := 1) rfl)) (fun _ h9 => h9) rfl dX8_goOn_6 ?_
  refine va_get (D := D) (ci := 3) (v := .int 0) (C := RX3) (T := TX3) (N := 9) hx hb hts iuX8_goOn_X3 hown hK hP 1 rfl rfl 0 (by decide) (hts (.fieldLink RX8 59 "StraitGame$Nights" "count" "I") (List.mem_of_getElem? (i := 2) rfl)) (fun _ h9 => h9) rfl dX8_goOn_9 ?_
  refine lv_icmp_ge (tgt := 151) hx hb dX8_goOn_12 (by decide) (fun _ => ?_) (fun h9 => absurd (by decide) h9)
  refine lv_aload_n hx hb dX8_goOn_151 rfl (lv_at hl 1 rfl) ?_
  refine lv_iload_n hx hb dX8_goOn_152 rfl (lv_at hl 3 rfl) ?_
  refine lv_iload_n hx hb dX8_goOn_153 rfl (lv_at hl 4 rfl) ?_
  refine zA_v (zR_V (As := [.int 0, .int 0]) (rest := []) ⟨hx, hb, hml, hown, hts⟩ (zX8_add_1 l D h0 r0 h1 r1 r2 r3 x0 _ hx0) (cwV 2 hts gX8_goOn_X8_add rfl rfl rfl (by decide +kernel) ⟨(Nat.le_of_ble_eq_true rfl), (Nat.le_of_ble_eq_true rfl)⟩) hP hD hK hN [0] [] rfl (by decide) rfl 0 8 rfl rfl rfl hl.1 rfl (Nat.le_of_ble_eq_true rfl) dX8_goOn_154 ⟨(Nat.le_of_ble_eq_true rfl), (Nat.le_of_ble_eq_true rfl)⟩) hP hD hK hS hA [0] [1] rfl rfl (by decide) (by decide) (fun u H locs hw hP hD hK hS => ?_)
  have hK : va_K D vwCl [] s := hK
  have hP : va_P D vwCl [(h1, .inr (3, [.int 0, .int 0, .ref r4, .ref r5, .ref r6, .ref r7, .ref r0, .ref r8, .ref r9])), (h0, .inr (8, [.int 1, .int 0, .int 0, .int 0, .ref r0, .ref h1, .ref r1, .ref r2, .ref r3, .int x0]))] H := hP
  have hD : va_D A [(h1, .inr (3, [.int 0, .int 0, .ref r4, .ref r5, .ref r6, .ref r7, .ref r0, .ref r8, .ref r9])), (h0, .inr (8, [.int 1, .int 0, .int 0, .int 0, .ref r0, .ref h1, .ref r1, .ref r2, .ref r3, .int x0]))] := hD
  refine W.widen (k := 0) (n := 0) (Nat.le_of_ble_eq_true rfl) (Nat.le_of_ble_eq_true rfl) ?_
  exact zret_v hx hb hr hlocks hP hD hK hS () trivial [1, 0] [] (by decide) rfl rfl (Nat.le_of_ble_eq_true rfl) (Nat.le_of_ble_eq_true rfl) dX8_goOn_157
set_option maxHeartbeats 4000000 in
set_option maxRecDepth 100000 in
theorem aX11_storms_c1 (l : Launch) (D : va_G) (h0 h1 h2 h3 h4 h5 h6 h7 h8 r0 r1 r2 r3 r4 r5 r6 r7 r8 r9 r10 r11 r12 r13 r14 r15 r16 : Nat) (k0 k1 k2 : ClassId) (f0 : Nat → Option Nat) (f1 : Nat → Option Nat) (f2 : Nat → Option Nat) (x0 : Int32) (x1 : Int32) (sz : Nat) (hf_f0_0 : f0 0 = some h5) (hf_f1_0 : f1 0 = some h6) (hf_f1_1 : f1 1 = some r14) (hf_f1_2 : f1 2 = some r15) (hf_f1_3 : f1 3 = some r16) (hf_f2_0 : f2 0 = some h8) (hx0 : -2147483648 ≤ x0.toInt ∧ x0.toInt ≤ -1) (hx1 : -2147483648 ≤ x1.toInt ∧ x1.toInt ≤ 2147483647) : Met l yX11_storms wsX11_storms ({ frames := 3, cells := 0, slots := 0, locals := 69 }) (zPre D [.ref h0, .int x0, .int x1] [(h0, .inr (11, [.ref r0, .int 0, .ref r1, .ref r2, .ref r3, .ref r4, .ref r5, .ref h3, .ref r6, .ref r7, .ref r8, .ref h1])), (h1, .inr (8, [.int 0, .int 0, .int 0, .int (-1), .ref r4, .ref h3, .ref r8, .ref h2, .ref h7, .int 0])), (h2, .inl (k0, 11, .inr (.inr (.inr (.inr f0))))), (h3, .inr (3, [.int 0, .int 0, .ref r9, .ref r10, .ref r11, .ref r12, .ref r4, .ref h4, .ref r13])), (h4, .inl (k1, 122, .inr (.inr (.inr (.inr f1))))), (h5, .inr (4, [.int 0, .int 0, .int 0, .int 0, .int 0, .int 0, .int 0])), (h6, .inr (4, [.int 0, .int 0, .int 0, .int 0, .int 0, .int 0, .int 0])), (h7, .inl (k2, 11, .inr (.inr (.inr (.inr f2))))), (h8, .inr (4, [.int 0, .int 0, .int 0, .int 0, .int 0, .int 0, .int 0]))] [(k0, .object RX4), (k1, .object RX4), (k2, .object RX4)] sz) ((fun A => va_Qi (fun (r : Int32) (u : Unit) => r = (an_storms x0 x1)) (zB D A (fun (u : Unit) => match u with | _ => []) (fun (u : Unit) => match u with | _ => [])) A) (va_A [(h0, .inr (11, [.ref r0, .int 0, .ref r1, .ref r2, .ref r3, .ref r4, .ref r5, .ref h3, .ref r6, .ref r7, .ref r8, .ref h1])), (h1, .inr (8, [.int 0, .int 0, .int 0, .int (-1), .ref r4, .ref h3, .ref r8, .ref h2, .ref h7, .int 0])), (h2, .inl (k0, 11, .inr (.inr (.inr (.inr f0))))), (h3, .inr (3, [.int 0, .int 0, .ref r9, .ref r10, .ref r11, .ref r12, .ref r4, .ref h4, .ref r13])), (h4, .inl (k1, 122, .inr (.inr (.inr (.inr f1))))), (h5, .inr (4, [.int 0, .int 0, .int 0, .int 0, .int 0, .int 0, .int 0])), (h6, .inr (4, [.int 0, .int 0, .int 0, .int 0, .int 0, .int 0, .int 0])), (h7, .inl (k2, 11, .inr (.inr (.inr (.inr f2))))), (h8, .inr (4, [.int 0, .int 0, .int 0, .int 0, .int 0, .int 0, .int 0]))] sz)) 0 0 (va_A [(h0, .inr (11, [.ref r0, .int 0, .ref r1, .ref r2, .ref r3, .ref r4, .ref r5, .ref h3, .ref r6, .ref r7, .ref r8, .ref h1])), (h1, .inr (8, [.int 0, .int 0, .int 0, .int (-1), .ref r4, .ref h3, .ref r8, .ref h2, .ref h7, .int 0])), (h2, .inl (k0, 11, .inr (.inr (.inr (.inr f0))))), (h3, .inr (3, [.int 0, .int 0, .ref r9, .ref r10, .ref r11, .ref r12, .ref r4, .ref h4, .ref r13])), (h4, .inl (k1, 122, .inr (.inr (.inr (.inr f1))))), (h5, .inr (4, [.int 0, .int 0, .int 0, .int 0, .int 0, .int 0, .int 0])), (h6, .inr (4, [.int 0, .int 0, .int 0, .int 0, .int 0, .int 0, .int 0])), (h7, .inl (k2, 11, .inr (.inr (.inr (.inr f2))))), (h8, .inr (4, [.int 0, .int 0, .int 0, .int 0, .int 0, .int 0, .int 0]))] sz) := by
  refine zOfW (QF := fun A => va_Qi (fun (r : Int32) (u : Unit) => r = (an_storms x0 x1)) (zB D A (fun (u : Unit) => match u with | _ => []) (fun (u : Unit) => match u with | _ => [])) A) (cc := cX11_storms) (maxL := 3) (ret := (some .int)) (by decide) rfl (Nat.le_of_ble_eq_true rfl) ?_
  intro p e s m below meth c A ls hx hb hr hml hts hown hlocks hin hA hS hP hD hK hN hl
  have hl : lv_has ls 3 [(0, .ref h0), (1, .int x0), (2, .int x1)] := hl
  refine lv_iload_n hx hb dX11_storms_0 rfl (lv_at hl 1 rfl) ?_
  refine lv_if_lt (tgt := 9) hx hb dX11_storms_1 (by decide) (fun _ => ?_) (fun h9 => absurd (z_cmp (show (x0 : Int32) < 0 from by simp only [fa_lt, fa_le, fa_eq, zk_0]; have := hx0; omega)) h9)
  refine lv_bipush (v := (-2)) hx hb dX11_storms_9 (by decide) ?_
  exact zret_i hx hb hr hlocks hP hD hK hS () ((if_neg (by have := hx0; have := hx1; omega)).symm) [] [] (by decide) rfl rfl (Nat.le_of_ble_eq_true rfl) (Nat.le_of_ble_eq_true rfl) dX11_storms_11
set_option maxHeartbeats 4000000 in
set_option maxRecDepth 100000 in
theorem aX11_storms_c2 (l : Launch) (D : va_G) (h0 h1 h2 h3 h4 h5 h6 h7 h8 r0 r1 r2 r3 r4 r5 r6 r7 r8 r9 r10 r11 r12 r13 r14 r15 r16 : Nat) (k0 k1 k2 : ClassId) (f0 : Nat → Option Nat) (f1 : Nat → Option Nat) (f2 : Nat → Option Nat) (x1 : Int32) (sz : Nat) (hf_f0_0 : f0 0 = some h5) (hf_f1_0 : f1 0 = some h6) (hf_f1_1 : f1 1 = some r14) (hf_f1_2 : f1 2 = some r15) (hf_f1_3 : f1 3 = some r16) (hf_f2_0 : f2 0 = some h8) (hx1 : -2147483648 ≤ x1.toInt ∧ x1.toInt ≤ 2147483647) : Met l yX11_storms wsX11_storms ({ frames := 3, cells := 0, slots := 0, locals := 69 }) (zPre D [.ref h0, .int 0, .int x1] [(h0, .inr (11, [.ref r0, .int 0, .ref r1, .ref r2, .ref r3, .ref r4, .ref r5, .ref h3, .ref r6, .ref r7, .ref r8, .ref h1])), (h1, .inr (8, [.int 0, .int 0, .int 0, .int (-1), .ref r4, .ref h3, .ref r8, .ref h2, .ref h7, .int 0])), (h2, .inl (k0, 11, .inr (.inr (.inr (.inr f0))))), (h3, .inr (3, [.int 0, .int 0, .ref r9, .ref r10, .ref r11, .ref r12, .ref r4, .ref h4, .ref r13])), (h4, .inl (k1, 122, .inr (.inr (.inr (.inr f1))))), (h5, .inr (4, [.int 0, .int 0, .int 0, .int 0, .int 0, .int 0, .int 0])), (h6, .inr (4, [.int 0, .int 0, .int 0, .int 0, .int 0, .int 0, .int 0])), (h7, .inl (k2, 11, .inr (.inr (.inr (.inr f2))))), (h8, .inr (4, [.int 0, .int 0, .int 0, .int 0, .int 0, .int 0, .int 0]))] [(k0, .object RX4), (k1, .object RX4), (k2, .object RX4)] sz) ((fun A => va_Qi (fun (r : Int32) (u : Unit) => r = (an_storms 0 x1)) (zB D A (fun (u : Unit) => match u with | _ => []) (fun (u : Unit) => match u with | _ => [])) A) (va_A [(h0, .inr (11, [.ref r0, .int 0, .ref r1, .ref r2, .ref r3, .ref r4, .ref r5, .ref h3, .ref r6, .ref r7, .ref r8, .ref h1])), (h1, .inr (8, [.int 0, .int 0, .int 0, .int (-1), .ref r4, .ref h3, .ref r8, .ref h2, .ref h7, .int 0])), (h2, .inl (k0, 11, .inr (.inr (.inr (.inr f0))))), (h3, .inr (3, [.int 0, .int 0, .ref r9, .ref r10, .ref r11, .ref r12, .ref r4, .ref h4, .ref r13])), (h4, .inl (k1, 122, .inr (.inr (.inr (.inr f1))))), (h5, .inr (4, [.int 0, .int 0, .int 0, .int 0, .int 0, .int 0, .int 0])), (h6, .inr (4, [.int 0, .int 0, .int 0, .int 0, .int 0, .int 0, .int 0])), (h7, .inl (k2, 11, .inr (.inr (.inr (.inr f2))))), (h8, .inr (4, [.int 0, .int 0, .int 0, .int 0, .int 0, .int 0, .int 0]))] sz)) 0 0 (va_A [(h0, .inr (11, [.ref r0, .int 0, .ref r1, .ref r2, .ref r3, .ref r4, .ref r5, .ref h3, .ref r6, .ref r7, .ref r8, .ref h1])), (h1, .inr (8, [.int 0, .int 0, .int 0, .int (-1), .ref r4, .ref h3, .ref r8, .ref h2, .ref h7, .int 0])), (h2, .inl (k0, 11, .inr (.inr (.inr (.inr f0))))), (h3, .inr (3, [.int 0, .int 0, .ref r9, .ref r10, .ref r11, .ref r12, .ref r4, .ref h4, .ref r13])), (h4, .inl (k1, 122, .inr (.inr (.inr (.inr f1))))), (h5, .inr (4, [.int 0, .int 0, .int 0, .int 0, .int 0, .int 0, .int 0])), (h6, .inr (4, [.int 0, .int 0, .int 0, .int 0, .int 0, .int 0, .int 0])), (h7, .inl (k2, 11, .inr (.inr (.inr (.inr f2))))), (h8, .inr (4, [.int 0, .int 0, .int 0, .int 0, .int 0, .int 0, .int 0]))] sz) := by
  refine zOfW (QF := fun A => va_Qi (fun (r : Int32) (u : Unit) => r = (an_storms 0 x1)) (zB D A (fun (u : Unit) => match u with | _ => []) (fun (u : Unit) => match u with | _ => [])) A) (cc := cX11_storms) (maxL := 3) (ret := (some .int)) (by decide) rfl (Nat.le_of_ble_eq_true rfl) ?_
  intro p e s m below meth c A ls hx hb hr hml hts hown hlocks hin hA hS hP hD hK hN hl
  have hl : lv_has ls 3 [(0, .ref h0), (1, .int 0), (2, .int x1)] := hl
  refine lv_iload_n hx hb dX11_storms_0 rfl (lv_at hl 1 rfl) ?_
  refine lv_if_lt (tgt := 9) hx hb dX11_storms_1 (by decide) (fun h9 => absurd h9 (by decide)) (fun _ => ?_)
  refine lv_iload_n hx hb dX11_storms_4 rfl (lv_at hl 1 rfl) ?_
  refine lv_iconst (v := 3) hx hb dX11_storms_5 (by decide) ?_
  refine lv_icmp_le (tgt := 12) hx hb dX11_storms_6 (by decide) (fun _ => ?_) (fun h9 => absurd (by decide) h9)
  refine lv_aload_n hx hb dX11_storms_12 rfl (lv_at hl 0 rfl) ?_
  refine va_get (D := D) (ci := 11) (v := .ref h1) (C := RX11) (T := TX11) (N := 12) hx hb hts iuX11_storms_X11 hown hK hP 0 rfl rfl 11 (by decide) (hts (.fieldLink RX11 87 "StraitGame" "storm" "LStraitGame$Storms;") (List.mem_of_getElem? (i := 1) rfl)) (fun _ h9 => h9) rfl dX11_storms_13 ?_
  refine lv_iload_n hx hb dX11_storms_16 rfl (lv_at hl 2 rfl) ?_
  refine zA_v (zR_V (As := [.int x1]) (rest := []) ⟨hx, hb, hml, hown, hts⟩ (zX8_begin_1 l D h1 h2 h3 h4 h5 h6 h7 h8 r4 r8 r9 r10 r11 r12 r13 r14 r15 r16 k0 k1 k2 f0 f1 f2 x1 _ (hf_f0_0) (hf_f1_0) (hf_f1_1) (hf_f1_2) (hf_f1_3) (hf_f2_0) hx1) (cwV 1 hts gX11_storms_X8_begin rfl rfl rfl (by decide +kernel) ⟨(Nat.le_of_ble_eq_true rfl), (Nat.le_of_ble_eq_true rfl)⟩) hP hD hK hN [1, 2, 3, 4, 5, 6, 7, 8] [0, 1, 2] rfl (by decide) rfl 0 8 rfl rfl rfl hl.1 rfl (Nat.le_of_ble_eq_true rfl) dX11_storms_17 ⟨(Nat.le_of_ble_eq_true rfl), (Nat.le_of_ble_eq_true rfl)⟩) hP hD hK hS hA [1, 2, 3, 4, 5, 6, 7, 8] [0] rfl rfl (by decide) (by decide) (fun u H locs hw hP hD hK hS => ?_)
  have hK : va_K D vwCl [(k0, .object RX4), (k1, .object RX4), (k2, .object RX4)] s := hK
  have hP : va_P D vwCl [(h0, .inr (11, [.ref r0, .int 0, .ref r1, .ref r2, .ref r3, .ref r4, .ref r5, .ref h3, .ref r6, .ref r7, .ref r8, .ref h1])), (h1, .inr (8, [.int 0, .int 0, .int 0, .int (-1), .ref r4, .ref h3, .ref r8, .ref h2, .ref h7, .int x1])), (h2, .inl (k0, 11, .inr (.inr (.inr (.inr f0))))), (h3, .inr (3, [.int 0, .int 0, .ref r9, .ref r10, .ref r11, .ref r12, .ref r4, .ref h4, .ref r13])), (h4, .inl (k1, 122, .inr (.inr (.inr (.inr f1))))), (h5, .inr (4, [.int 0, .int 0, .int 0, .int 0, .int 0, .int 0, .int 0])), (h6, .inr (4, [.int 0, .int 0, .int 0, .int 0, .int 0, .int 0, .int 0])), (h7, .inl (k2, 11, .inr (.inr (.inr (.inr f2))))), (h8, .inr (4, [.int 0, .int 0, .int 0, .int 0, .int 0, .int 0, .int 0]))] H := hP
  have hD : va_D A [(h0, .inr (11, [.ref r0, .int 0, .ref r1, .ref r2, .ref r3, .ref r4, .ref r5, .ref h3, .ref r6, .ref r7, .ref r8, .ref h1])), (h1, .inr (8, [.int 0, .int 0, .int 0, .int (-1), .ref r4, .ref h3, .ref r8, .ref h2, .ref h7, .int x1])), (h2, .inl (k0, 11, .inr (.inr (.inr (.inr f0))))), (h3, .inr (3, [.int 0, .int 0, .ref r9, .ref r10, .ref r11, .ref r12, .ref r4, .ref h4, .ref r13])), (h4, .inl (k1, 122, .inr (.inr (.inr (.inr f1))))), (h5, .inr (4, [.int 0, .int 0, .int 0, .int 0, .int 0, .int 0, .int 0])), (h6, .inr (4, [.int 0, .int 0, .int 0, .int 0, .int 0, .int 0, .int 0])), (h7, .inl (k2, 11, .inr (.inr (.inr (.inr f2))))), (h8, .inr (4, [.int 0, .int 0, .int 0, .int 0, .int 0, .int 0, .int 0]))] := hD
  refine W.widen (k := 0) (n := 0) (Nat.le_of_ble_eq_true rfl) (Nat.le_of_ble_eq_true rfl) ?_
  refine lv_aload_n hx hb dX11_storms_20 rfl (lv_at hl 0 rfl) ?_
  refine va_get (D := D) (ci := 11) (v := .ref h1) (C := RX11) (T := TX11) (N := 12) hx hb hts iuX11_storms_X11 hown hK hP 0 rfl rfl 11 (by decide) (hts (.fieldLink RX11 87 "StraitGame" "storm" "LStraitGame$Storms;") (List.mem_of_getElem? (i := 1) rfl)) (fun _ h9 => h9) rfl dX11_storms_21 ?_
  refine lv_iconst (v := 0) hx hb dX11_storms_24 (by decide) ?_
  refine lv_iconst (v := 0) hx hb dX11_storms_25 (by decide) ?_
  refine lv_iconst (v := 0) hx hb dX11_storms_26 (by decide) ?_
  refine zA_v (zR_VN (As := [.int 0, .int 0, .int 0]) (rest := []) (Cn := RX8) (host := RX11) ⟨hx, hb, hml, hown, hts⟩ (zX8_goOn_1 l D h1 h3 r4 r8 h2 h7 r9 r10 r11 r12 h4 r13 x1 _ hx1) ⟨va_cnB 3 hts gX11_storms_X8_goOn_n232 rfl rfl rfl (hN.2 _ (List.mem_of_getElem? (i := 4) rfl)) (hts (.initialized RX8) (List.mem_of_getElem? (i := 9) rfl)) (by decide +kernel) ⟨(Nat.le_of_ble_eq_true rfl), (Nat.le_of_ble_eq_true rfl)⟩, (hts (.instanceMethod yX8_goOn) (List.mem_of_getElem? (i := 37) rfl)), (hts (.selects RX8 yX8_goOn yX8_goOn) (List.mem_of_getElem? (i := 38) rfl))⟩ hP hD hK hN [1, 3] [] rfl (by decide) rfl 0 8 rfl rfl rfl hl.1 rfl (Nat.le_of_ble_eq_true rfl) dX11_storms_27 ⟨(Nat.le_of_ble_eq_true rfl), (Nat.le_of_ble_eq_true rfl)⟩) hP hD hK hS hA [1, 3] [0, 2, 4, 5, 6, 7, 8] rfl rfl (by decide) (by decide) (fun u H locs hw hP hD hK hS => ?_)
  have hK : va_K D vwCl [(k0, .object RX4), (k1, .object RX4), (k2, .object RX4)] s := hK
  have hP : va_P D vwCl [(h0, .inr (11, [.ref r0, .int 0, .ref r1, .ref r2, .ref r3, .ref r4, .ref r5, .ref h3, .ref r6, .ref r7, .ref r8, .ref h1])), (h2, .inl (k0, 11, .inr (.inr (.inr (.inr f0))))), (h4, .inl (k1, 122, .inr (.inr (.inr (.inr f1))))), (h5, .inr (4, [.int 0, .int 0, .int 0, .int 0, .int 0, .int 0, .int 0])), (h6, .inr (4, [.int 0, .int 0, .int 0, .int 0, .int 0, .int 0, .int 0])), (h7, .inl (k2, 11, .inr (.inr (.inr (.inr f2))))), (h8, .inr (4, [.int 0, .int 0, .int 0, .int 0, .int 0, .int 0, .int 0])), (h1, .inr (8, [.int 1, .int 0, .int 0, .int 0, .ref r4, .ref h3, .ref r8, .ref h2, .ref h7, .int x1])), (h3, .inr (3, [.int 0, .int 0, .ref r9, .ref r10, .ref r11, .ref r12, .ref r4, .ref h4, .ref r13]))] H := hP
  have hD : va_D A [(h0, .inr (11, [.ref r0, .int 0, .ref r1, .ref r2, .ref r3, .ref r4, .ref r5, .ref h3, .ref r6, .ref r7, .ref r8, .ref h1])), (h2, .inl (k0, 11, .inr (.inr (.inr (.inr f0))))), (h4, .inl (k1, 122, .inr (.inr (.inr (.inr f1))))), (h5, .inr (4, [.int 0, .int 0, .int 0, .int 0, .int 0, .int 0, .int 0])), (h6, .inr (4, [.int 0, .int 0, .int 0, .int 0, .int 0, .int 0, .int 0])), (h7, .inl (k2, 11, .inr (.inr (.inr (.inr f2))))), (h8, .inr (4, [.int 0, .int 0, .int 0, .int 0, .int 0, .int 0, .int 0])), (h1, .inr (8, [.int 1, .int 0, .int 0, .int 0, .ref r4, .ref h3, .ref r8, .ref h2, .ref h7, .int x1])), (h3, .inr (3, [.int 0, .int 0, .ref r9, .ref r10, .ref r11, .ref r12, .ref r4, .ref h4, .ref r13]))] := hD
  refine W.widen (k := 0) (n := 0) (Nat.le_of_ble_eq_true rfl) (Nat.le_of_ble_eq_true rfl) ?_
  refine lv_iload_n hx hb dX11_storms_30 rfl (lv_at hl 1 rfl) ?_
  refine lv_tableIn (off := 25) (tgt := 56) hx hb dX11_storms_31 (by decide) (by decide) rfl (by decide) ?_
  refine lv_aload_n hx hb dX11_storms_56 rfl (lv_at hl 0 rfl) ?_
  refine va_get (D := D) (ci := 11) (v := .ref h1) (C := RX11) (T := TX11) (N := 12) hx hb hts iuX11_storms_X11 hown hK hP 0 rfl rfl 11 (by decide) (hts (.fieldLink RX11 87 "StraitGame" "storm" "LStraitGame$Storms;") (List.mem_of_getElem? (i := 1) rfl)) (fun _ h9 => h9) rfl dX11_storms_57 ?_
  refine va_get (D := D) (ci := 8) (v := .int 1) (C := RX8) (T := TX8) (N := 10) hx hb hts iuX11_storms_X8 hown hK hP 7 rfl rfl 0 (by decide) (hts (.fieldLink RX11 236 "StraitGame$Storms" "sets" "I") (List.mem_of_getElem? (i := 2) rfl)) (fun _ h9 => h9) rfl dX11_storms_60 ?_
  exact zret_i hx hb hr hlocks hP hD hK hS () ((if_pos (by simp only [zk_0]; have := hx1; omega)).symm) [] [] (by decide) rfl rfl (Nat.le_of_ble_eq_true rfl) (Nat.le_of_ble_eq_true rfl) dX11_storms_63
set_option maxHeartbeats 4000000 in
set_option maxRecDepth 100000 in
theorem aX11_storms_c3 (l : Launch) (D : va_G) (h0 h1 h2 h3 h4 h5 h6 h7 h8 r0 r1 r2 r3 r4 r5 r6 r7 r8 r9 r10 r11 r12 r13 r14 r15 r16 : Nat) (k0 k1 k2 : ClassId) (f0 : Nat → Option Nat) (f1 : Nat → Option Nat) (f2 : Nat → Option Nat) (x1 : Int32) (sz : Nat) (hf_f0_0 : f0 0 = some h5) (hf_f1_0 : f1 0 = some h6) (hf_f1_1 : f1 1 = some r14) (hf_f1_2 : f1 2 = some r15) (hf_f1_3 : f1 3 = some r16) (hf_f2_0 : f2 0 = some h8) (hx1 : -2147483648 ≤ x1.toInt ∧ x1.toInt ≤ 2147483647) : Met l yX11_storms wsX11_storms ({ frames := 3, cells := 0, slots := 0, locals := 69 }) (zPre D [.ref h0, .int 1, .int x1] [(h0, .inr (11, [.ref r0, .int 0, .ref r1, .ref r2, .ref r3, .ref r4, .ref r5, .ref h3, .ref r6, .ref r7, .ref r8, .ref h1])), (h1, .inr (8, [.int 0, .int 0, .int 0, .int (-1), .ref r4, .ref h3, .ref r8, .ref h2, .ref h7, .int 0])), (h2, .inl (k0, 11, .inr (.inr (.inr (.inr f0))))), (h3, .inr (3, [.int 0, .int 0, .ref r9, .ref r10, .ref r11, .ref r12, .ref r4, .ref h4, .ref r13])), (h4, .inl (k1, 122, .inr (.inr (.inr (.inr f1))))), (h5, .inr (4, [.int 0, .int 0, .int 0, .int 0, .int 0, .int 0, .int 0])), (h6, .inr (4, [.int 0, .int 0, .int 0, .int 0, .int 0, .int 0, .int 0])), (h7, .inl (k2, 11, .inr (.inr (.inr (.inr f2))))), (h8, .inr (4, [.int 0, .int 0, .int 0, .int 0, .int 0, .int 0, .int 0]))] [(k0, .object RX4), (k1, .object RX4), (k2, .object RX4)] sz) ((fun A => va_Qi (fun (r : Int32) (u : Unit) => r = (an_storms 1 x1)) (zB D A (fun (u : Unit) => match u with | _ => []) (fun (u : Unit) => match u with | _ => [])) A) (va_A [(h0, .inr (11, [.ref r0, .int 0, .ref r1, .ref r2, .ref r3, .ref r4, .ref r5, .ref h3, .ref r6, .ref r7, .ref r8, .ref h1])), (h1, .inr (8, [.int 0, .int 0, .int 0, .int (-1), .ref r4, .ref h3, .ref r8, .ref h2, .ref h7, .int 0])), (h2, .inl (k0, 11, .inr (.inr (.inr (.inr f0))))), (h3, .inr (3, [.int 0, .int 0, .ref r9, .ref r10, .ref r11, .ref r12, .ref r4, .ref h4, .ref r13])), (h4, .inl (k1, 122, .inr (.inr (.inr (.inr f1))))), (h5, .inr (4, [.int 0, .int 0, .int 0, .int 0, .int 0, .int 0, .int 0])), (h6, .inr (4, [.int 0, .int 0, .int 0, .int 0, .int 0, .int 0, .int 0])), (h7, .inl (k2, 11, .inr (.inr (.inr (.inr f2))))), (h8, .inr (4, [.int 0, .int 0, .int 0, .int 0, .int 0, .int 0, .int 0]))] sz)) 0 0 (va_A [(h0, .inr (11, [.ref r0, .int 0, .ref r1, .ref r2, .ref r3, .ref r4, .ref r5, .ref h3, .ref r6, .ref r7, .ref r8, .ref h1])), (h1, .inr (8, [.int 0, .int 0, .int 0, .int (-1), .ref r4, .ref h3, .ref r8, .ref h2, .ref h7, .int 0])), (h2, .inl (k0, 11, .inr (.inr (.inr (.inr f0))))), (h3, .inr (3, [.int 0, .int 0, .ref r9, .ref r10, .ref r11, .ref r12, .ref r4, .ref h4, .ref r13])), (h4, .inl (k1, 122, .inr (.inr (.inr (.inr f1))))), (h5, .inr (4, [.int 0, .int 0, .int 0, .int 0, .int 0, .int 0, .int 0])), (h6, .inr (4, [.int 0, .int 0, .int 0, .int 0, .int 0, .int 0, .int 0])), (h7, .inl (k2, 11, .inr (.inr (.inr (.inr f2))))), (h8, .inr (4, [.int 0, .int 0, .int 0, .int 0, .int 0, .int 0, .int 0]))] sz) := by
  refine zOfW (QF := fun A => va_Qi (fun (r : Int32) (u : Unit) => r = (an_storms 1 x1)) (zB D A (fun (u : Unit) => match u with | _ => []) (fun (u : Unit) => match u with | _ => [])) A) (cc := cX11_storms) (maxL := 3) (ret := (some .int)) (by decide) rfl (Nat.le_of_ble_eq_true rfl) ?_
  intro p e s m below meth c A ls hx hb hr hml hts hown hlocks hin hA hS hP hD hK hN hl
  have hl : lv_has ls 3 [(0, .ref h0), (1, .int 1), (2, .int x1)] := hl
  refine lv_iload_n hx hb dX11_storms_0 rfl (lv_at hl 1 rfl) ?_
  refine lv_if_lt (tgt := 9) hx hb dX11_storms_1 (by decide) (fun h9 => absurd h9 (by decide)) (fun _ => ?_)
  refine lv_iload_n hx hb dX11_storms_4 rfl (lv_at hl 1 rfl) ?_
  refine lv_iconst (v := 3) hx hb dX11_storms_5 (by decide) ?_
  refine lv_icmp_le (tgt := 12) hx hb dX11_storms_6 (by decide) (fun _ => ?_) (fun h9 => absurd (by decide) h9)
  refine lv_aload_n hx hb dX11_storms_12 rfl (lv_at hl 0 rfl) ?_
  refine va_get (D := D) (ci := 11) (v := .ref h1) (C := RX11) (T := TX11) (N := 12) hx hb hts iuX11_storms_X11 hown hK hP 0 rfl rfl 11 (by decide) (hts (.fieldLink RX11 87 "StraitGame" "storm" "LStraitGame$Storms;") (List.mem_of_getElem? (i := 1) rfl)) (fun _ h9 => h9) rfl dX11_storms_13 ?_
  refine lv_iload_n hx hb dX11_storms_16 rfl (lv_at hl 2 rfl) ?_
  refine zA_v (zR_V (As := [.int x1]) (rest := []) ⟨hx, hb, hml, hown, hts⟩ (zX8_begin_1 l D h1 h2 h3 h4 h5 h6 h7 h8 r4 r8 r9 r10 r11 r12 r13 r14 r15 r16 k0 k1 k2 f0 f1 f2 x1 _ (hf_f0_0) (hf_f1_0) (hf_f1_1) (hf_f1_2) (hf_f1_3) (hf_f2_0) hx1) (cwV 1 hts gX11_storms_X8_begin rfl rfl rfl (by decide +kernel) ⟨(Nat.le_of_ble_eq_true rfl), (Nat.le_of_ble_eq_true rfl)⟩) hP hD hK hN [1, 2, 3, 4, 5, 6, 7, 8] [0, 1, 2] rfl (by decide) rfl 0 8 rfl rfl rfl hl.1 rfl (Nat.le_of_ble_eq_true rfl) dX11_storms_17 ⟨(Nat.le_of_ble_eq_true rfl), (Nat.le_of_ble_eq_true rfl)⟩) hP hD hK hS hA [1, 2, 3, 4, 5, 6, 7, 8] [0] rfl rfl (by decide) (by decide) (fun u H locs hw hP hD hK hS => ?_)
  have hK : va_K D vwCl [(k0, .object RX4), (k1, .object RX4), (k2, .object RX4)] s := hK
  have hP : va_P D vwCl [(h0, .inr (11, [.ref r0, .int 0, .ref r1, .ref r2, .ref r3, .ref r4, .ref r5, .ref h3, .ref r6, .ref r7, .ref r8, .ref h1])), (h1, .inr (8, [.int 0, .int 0, .int 0, .int (-1), .ref r4, .ref h3, .ref r8, .ref h2, .ref h7, .int x1])), (h2, .inl (k0, 11, .inr (.inr (.inr (.inr f0))))), (h3, .inr (3, [.int 0, .int 0, .ref r9, .ref r10, .ref r11, .ref r12, .ref r4, .ref h4, .ref r13])), (h4, .inl (k1, 122, .inr (.inr (.inr (.inr f1))))), (h5, .inr (4, [.int 0, .int 0, .int 0, .int 0, .int 0, .int 0, .int 0])), (h6, .inr (4, [.int 0, .int 0, .int 0, .int 0, .int 0, .int 0, .int 0])), (h7, .inl (k2, 11, .inr (.inr (.inr (.inr f2))))), (h8, .inr (4, [.int 0, .int 0, .int 0, .int 0, .int 0, .int 0, .int 0]))] H := hP
  have hD : va_D A [(h0, .inr (11, [.ref r0, .int 0, .ref r1, .ref r2, .ref r3, .ref r4, .ref r5, .ref h3, .ref r6, .ref r7, .ref r8, .ref h1])), (h1, .inr (8, [.int 0, .int 0, .int 0, .int (-1), .ref r4, .ref h3, .ref r8, .ref h2, .ref h7, .int x1])), (h2, .inl (k0, 11, .inr (.inr (.inr (.inr f0))))), (h3, .inr (3, [.int 0, .int 0, .ref r9, .ref r10, .ref r11, .ref r12, .ref r4, .ref h4, .ref r13])), (h4, .inl (k1, 122, .inr (.inr (.inr (.inr f1))))), (h5, .inr (4, [.int 0, .int 0, .int 0, .int 0, .int 0, .int 0, .int 0])), (h6, .inr (4, [.int 0, .int 0, .int 0, .int 0, .int 0, .int 0, .int 0])), (h7, .inl (k2, 11, .inr (.inr (.inr (.inr f2))))), (h8, .inr (4, [.int 0, .int 0, .int 0, .int 0, .int 0, .int 0, .int 0]))] := hD
  refine W.widen (k := 0) (n := 0) (Nat.le_of_ble_eq_true rfl) (Nat.le_of_ble_eq_true rfl) ?_
  refine lv_aload_n hx hb dX11_storms_20 rfl (lv_at hl 0 rfl) ?_
  refine va_get (D := D) (ci := 11) (v := .ref h1) (C := RX11) (T := TX11) (N := 12) hx hb hts iuX11_storms_X11 hown hK hP 0 rfl rfl 11 (by decide) (hts (.fieldLink RX11 87 "StraitGame" "storm" "LStraitGame$Storms;") (List.mem_of_getElem? (i := 1) rfl)) (fun _ h9 => h9) rfl dX11_storms_21 ?_
  refine lv_iconst (v := 0) hx hb dX11_storms_24 (by decide) ?_
  refine lv_iconst (v := 0) hx hb dX11_storms_25 (by decide) ?_
  refine lv_iconst (v := 0) hx hb dX11_storms_26 (by decide) ?_
  refine zA_v (zR_VN (As := [.int 0, .int 0, .int 0]) (rest := []) (Cn := RX8) (host := RX11) ⟨hx, hb, hml, hown, hts⟩ (zX8_goOn_1 l D h1 h3 r4 r8 h2 h7 r9 r10 r11 r12 h4 r13 x1 _ hx1) ⟨va_cnB 3 hts gX11_storms_X8_goOn_n232 rfl rfl rfl (hN.2 _ (List.mem_of_getElem? (i := 4) rfl)) (hts (.initialized RX8) (List.mem_of_getElem? (i := 9) rfl)) (by decide +kernel) ⟨(Nat.le_of_ble_eq_true rfl), (Nat.le_of_ble_eq_true rfl)⟩, (hts (.instanceMethod yX8_goOn) (List.mem_of_getElem? (i := 37) rfl)), (hts (.selects RX8 yX8_goOn yX8_goOn) (List.mem_of_getElem? (i := 38) rfl))⟩ hP hD hK hN [1, 3] [] rfl (by decide) rfl 0 8 rfl rfl rfl hl.1 rfl (Nat.le_of_ble_eq_true rfl) dX11_storms_27 ⟨(Nat.le_of_ble_eq_true rfl), (Nat.le_of_ble_eq_true rfl)⟩) hP hD hK hS hA [1, 3] [0, 2, 4, 5, 6, 7, 8] rfl rfl (by decide) (by decide) (fun u H locs hw hP hD hK hS => ?_)
  have hK : va_K D vwCl [(k0, .object RX4), (k1, .object RX4), (k2, .object RX4)] s := hK
  have hP : va_P D vwCl [(h0, .inr (11, [.ref r0, .int 0, .ref r1, .ref r2, .ref r3, .ref r4, .ref r5, .ref h3, .ref r6, .ref r7, .ref r8, .ref h1])), (h2, .inl (k0, 11, .inr (.inr (.inr (.inr f0))))), (h4, .inl (k1, 122, .inr (.inr (.inr (.inr f1))))), (h5, .inr (4, [.int 0, .int 0, .int 0, .int 0, .int 0, .int 0, .int 0])), (h6, .inr (4, [.int 0, .int 0, .int 0, .int 0, .int 0, .int 0, .int 0])), (h7, .inl (k2, 11, .inr (.inr (.inr (.inr f2))))), (h8, .inr (4, [.int 0, .int 0, .int 0, .int 0, .int 0, .int 0, .int 0])), (h1, .inr (8, [.int 1, .int 0, .int 0, .int 0, .ref r4, .ref h3, .ref r8, .ref h2, .ref h7, .int x1])), (h3, .inr (3, [.int 0, .int 0, .ref r9, .ref r10, .ref r11, .ref r12, .ref r4, .ref h4, .ref r13]))] H := hP
  have hD : va_D A [(h0, .inr (11, [.ref r0, .int 0, .ref r1, .ref r2, .ref r3, .ref r4, .ref r5, .ref h3, .ref r6, .ref r7, .ref r8, .ref h1])), (h2, .inl (k0, 11, .inr (.inr (.inr (.inr f0))))), (h4, .inl (k1, 122, .inr (.inr (.inr (.inr f1))))), (h5, .inr (4, [.int 0, .int 0, .int 0, .int 0, .int 0, .int 0, .int 0])), (h6, .inr (4, [.int 0, .int 0, .int 0, .int 0, .int 0, .int 0, .int 0])), (h7, .inl (k2, 11, .inr (.inr (.inr (.inr f2))))), (h8, .inr (4, [.int 0, .int 0, .int 0, .int 0, .int 0, .int 0, .int 0])), (h1, .inr (8, [.int 1, .int 0, .int 0, .int 0, .ref r4, .ref h3, .ref r8, .ref h2, .ref h7, .int x1])), (h3, .inr (3, [.int 0, .int 0, .ref r9, .ref r10, .ref r11, .ref r12, .ref r4, .ref h4, .ref r13]))] := hD
  refine W.widen (k := 0) (n := 0) (Nat.le_of_ble_eq_true rfl) (Nat.le_of_ble_eq_true rfl) ?_
  refine lv_iload_n hx hb dX11_storms_30 rfl (lv_at hl 1 rfl) ?_
  refine lv_tableIn (off := 33) (tgt := 64) hx hb dX11_storms_31 (by decide) (by decide) rfl (by decide) ?_
  refine lv_aload_n hx hb dX11_storms_64 rfl (lv_at hl 0 rfl) ?_
  refine va_get (D := D) (ci := 11) (v := .ref h1) (C := RX11) (T := TX11) (N := 12) hx hb hts iuX11_storms_X11 hown hK hP 0 rfl rfl 11 (by decide) (hts (.fieldLink RX11 87 "StraitGame" "storm" "LStraitGame$Storms;") (List.mem_of_getElem? (i := 1) rfl)) (fun _ h9 => h9) rfl dX11_storms_65 ?_
  refine va_get (D := D) (ci := 8) (v := .int 0) (C := RX8) (T := TX8) (N := 10) hx hb hts iuX11_storms_X8 hown hK hP 7 rfl rfl 1 (by decide) (hts (.fieldLink RX11 239 "StraitGame$Storms" "lostForSure" "I") (List.mem_of_getElem? (i := 3) rfl)) (fun _ h9 => h9) rfl dX11_storms_68 ?_
  exact zret_i hx hb hr hlocks hP hD hK hS () ((if_pos (by simp only [zk_1]; have := hx1; omega)).symm) [] [] (by decide) rfl rfl (Nat.le_of_ble_eq_true rfl) (Nat.le_of_ble_eq_true rfl) dX11_storms_71
set_option maxHeartbeats 4000000 in
set_option maxRecDepth 100000 in
theorem aX11_storms_c4 (l : Launch) (D : va_G) (h0 h1 h2 h3 h4 h5 h6 h7 h8 r0 r1 r2 r3 r4 r5 r6 r7 r8 r9 r10 r11 r12 r13 r14 r15 r16 : Nat) (k0 k1 k2 : ClassId) (f0 : Nat → Option Nat) (f1 : Nat → Option Nat) (f2 : Nat → Option Nat) (x1 : Int32) (sz : Nat) (hf_f0_0 : f0 0 = some h5) (hf_f1_0 : f1 0 = some h6) (hf_f1_1 : f1 1 = some r14) (hf_f1_2 : f1 2 = some r15) (hf_f1_3 : f1 3 = some r16) (hf_f2_0 : f2 0 = some h8) (hx1 : -2147483648 ≤ x1.toInt ∧ x1.toInt ≤ 2147483647) : Met l yX11_storms wsX11_storms ({ frames := 3, cells := 0, slots := 0, locals := 69 }) (zPre D [.ref h0, .int 2, .int x1] [(h0, .inr (11, [.ref r0, .int 0, .ref r1, .ref r2, .ref r3, .ref r4, .ref r5, .ref h3, .ref r6, .ref r7, .ref r8, .ref h1])), (h1, .inr (8, [.int 0, .int 0, .int 0, .int (-1), .ref r4, .ref h3, .ref r8, .ref h2, .ref h7, .int 0])), (h2, .inl (k0, 11, .inr (.inr (.inr (.inr f0))))), (h3, .inr (3, [.int 0, .int 0, .ref r9, .ref r10, .ref r11, .ref r12, .ref r4, .ref h4, .ref r13])), (h4, .inl (k1, 122, .inr (.inr (.inr (.inr f1))))), (h5, .inr (4, [.int 0, .int 0, .int 0, .int 0, .int 0, .int 0, .int 0])), (h6, .inr (4, [.int 0, .int 0, .int 0, .int 0, .int 0, .int 0, .int 0])), (h7, .inl (k2, 11, .inr (.inr (.inr (.inr f2))))), (h8, .inr (4, [.int 0, .int 0, .int 0, .int 0, .int 0, .int 0, .int 0]))] [(k0, .object RX4), (k1, .object RX4), (k2, .object RX4)] sz) ((fun A => va_Qi (fun (r : Int32) (u : Unit) => r = (an_storms 2 x1)) (zB D A (fun (u : Unit) => match u with | _ => []) (fun (u : Unit) => match u with | _ => [])) A) (va_A [(h0, .inr (11, [.ref r0, .int 0, .ref r1, .ref r2, .ref r3, .ref r4, .ref r5, .ref h3, .ref r6, .ref r7, .ref r8, .ref h1])), (h1, .inr (8, [.int 0, .int 0, .int 0, .int (-1), .ref r4, .ref h3, .ref r8, .ref h2, .ref h7, .int 0])), (h2, .inl (k0, 11, .inr (.inr (.inr (.inr f0))))), (h3, .inr (3, [.int 0, .int 0, .ref r9, .ref r10, .ref r11, .ref r12, .ref r4, .ref h4, .ref r13])), (h4, .inl (k1, 122, .inr (.inr (.inr (.inr f1))))), (h5, .inr (4, [.int 0, .int 0, .int 0, .int 0, .int 0, .int 0, .int 0])), (h6, .inr (4, [.int 0, .int 0, .int 0, .int 0, .int 0, .int 0, .int 0])), (h7, .inl (k2, 11, .inr (.inr (.inr (.inr f2))))), (h8, .inr (4, [.int 0, .int 0, .int 0, .int 0, .int 0, .int 0, .int 0]))] sz)) 0 0 (va_A [(h0, .inr (11, [.ref r0, .int 0, .ref r1, .ref r2, .ref r3, .ref r4, .ref r5, .ref h3, .ref r6, .ref r7, .ref r8, .ref h1])), (h1, .inr (8, [.int 0, .int 0, .int 0, .int (-1), .ref r4, .ref h3, .ref r8, .ref h2, .ref h7, .int 0])), (h2, .inl (k0, 11, .inr (.inr (.inr (.inr f0))))), (h3, .inr (3, [.int 0, .int 0, .ref r9, .ref r10, .ref r11, .ref r12, .ref r4, .ref h4, .ref r13])), (h4, .inl (k1, 122, .inr (.inr (.inr (.inr f1))))), (h5, .inr (4, [.int 0, .int 0, .int 0, .int 0, .int 0, .int 0, .int 0])), (h6, .inr (4, [.int 0, .int 0, .int 0, .int 0, .int 0, .int 0, .int 0])), (h7, .inl (k2, 11, .inr (.inr (.inr (.inr f2))))), (h8, .inr (4, [.int 0, .int 0, .int 0, .int 0, .int 0, .int 0, .int 0]))] sz) := by
  refine zOfW (QF := fun A => va_Qi (fun (r : Int32) (u : Unit) => r = (an_storms 2 x1)) (zB D A (fun (u : Unit) => match u with | _ => []) (fun (u : Unit) => match u with | _ => [])) A) (cc := cX11_storms) (maxL := 3) (ret := (some .int)) (by decide) rfl (Nat.le_of_ble_eq_true rfl) ?_
  intro p e s m below meth c A ls hx hb hr hml hts hown hlocks hin hA hS hP hD hK hN hl
  have hl : lv_has ls 3 [(0, .ref h0), (1, .int 2), (2, .int x1)] := hl
  refine lv_iload_n hx hb dX11_storms_0 rfl (lv_at hl 1 rfl) ?_
  refine lv_if_lt (tgt := 9) hx hb dX11_storms_1 (by decide) (fun h9 => absurd h9 (by decide)) (fun _ => ?_)
  refine lv_iload_n hx hb dX11_storms_4 rfl (lv_at hl 1 rfl) ?_
  refine lv_iconst (v := 3) hx hb dX11_storms_5 (by decide) ?_
  refine lv_icmp_le (tgt := 12) hx hb dX11_storms_6 (by decide) (fun _ => ?_) (fun h9 => absurd (by decide) h9)
  refine lv_aload_n hx hb dX11_storms_12 rfl (lv_at hl 0 rfl) ?_
  refine va_get (D := D) (ci := 11) (v := .ref h1) (C := RX11) (T := TX11) (N := 12) hx hb hts iuX11_storms_X11 hown hK hP 0 rfl rfl 11 (by decide) (hts (.fieldLink RX11 87 "StraitGame" "storm" "LStraitGame$Storms;") (List.mem_of_getElem? (i := 1) rfl)) (fun _ h9 => h9) rfl dX11_storms_13 ?_
  refine lv_iload_n hx hb dX11_storms_16 rfl (lv_at hl 2 rfl) ?_
  refine zA_v (zR_V (As := [.int x1]) (rest := []) ⟨hx, hb, hml, hown, hts⟩ (zX8_begin_1 l D h1 h2 h3 h4 h5 h6 h7 h8 r4 r8 r9 r10 r11 r12 r13 r14 r15 r16 k0 k1 k2 f0 f1 f2 x1 _ (hf_f0_0) (hf_f1_0) (hf_f1_1) (hf_f1_2) (hf_f1_3) (hf_f2_0) hx1) (cwV 1 hts gX11_storms_X8_begin rfl rfl rfl (by decide +kernel) ⟨(Nat.le_of_ble_eq_true rfl), (Nat.le_of_ble_eq_true rfl)⟩) hP hD hK hN [1, 2, 3, 4, 5, 6, 7, 8] [0, 1, 2] rfl (by decide) rfl 0 8 rfl rfl rfl hl.1 rfl (Nat.le_of_ble_eq_true rfl) dX11_storms_17 ⟨(Nat.le_of_ble_eq_true rfl), (Nat.le_of_ble_eq_true rfl)⟩) hP hD hK hS hA [1, 2, 3, 4, 5, 6, 7, 8] [0] rfl rfl (by decide) (by decide) (fun u H locs hw hP hD hK hS => ?_)
  have hK : va_K D vwCl [(k0, .object RX4), (k1, .object RX4), (k2, .object RX4)] s := hK
  have hP : va_P D vwCl [(h0, .inr (11, [.ref r0, .int 0, .ref r1, .ref r2, .ref r3, .ref r4, .ref r5, .ref h3, .ref r6, .ref r7, .ref r8, .ref h1])), (h1, .inr (8, [.int 0, .int 0, .int 0, .int (-1), .ref r4, .ref h3, .ref r8, .ref h2, .ref h7, .int x1])), (h2, .inl (k0, 11, .inr (.inr (.inr (.inr f0))))), (h3, .inr (3, [.int 0, .int 0, .ref r9, .ref r10, .ref r11, .ref r12, .ref r4, .ref h4, .ref r13])), (h4, .inl (k1, 122, .inr (.inr (.inr (.inr f1))))), (h5, .inr (4, [.int 0, .int 0, .int 0, .int 0, .int 0, .int 0, .int 0])), (h6, .inr (4, [.int 0, .int 0, .int 0, .int 0, .int 0, .int 0, .int 0])), (h7, .inl (k2, 11, .inr (.inr (.inr (.inr f2))))), (h8, .inr (4, [.int 0, .int 0, .int 0, .int 0, .int 0, .int 0, .int 0]))] H := hP
  have hD : va_D A [(h0, .inr (11, [.ref r0, .int 0, .ref r1, .ref r2, .ref r3, .ref r4, .ref r5, .ref h3, .ref r6, .ref r7, .ref r8, .ref h1])), (h1, .inr (8, [.int 0, .int 0, .int 0, .int (-1), .ref r4, .ref h3, .ref r8, .ref h2, .ref h7, .int x1])), (h2, .inl (k0, 11, .inr (.inr (.inr (.inr f0))))), (h3, .inr (3, [.int 0, .int 0, .ref r9, .ref r10, .ref r11, .ref r12, .ref r4, .ref h4, .ref r13])), (h4, .inl (k1, 122, .inr (.inr (.inr (.inr f1))))), (h5, .inr (4, [.int 0, .int 0, .int 0, .int 0, .int 0, .int 0, .int 0])), (h6, .inr (4, [.int 0, .int 0, .int 0, .int 0, .int 0, .int 0, .int 0])), (h7, .inl (k2, 11, .inr (.inr (.inr (.inr f2))))), (h8, .inr (4, [.int 0, .int 0, .int 0, .int 0, .int 0, .int 0, .int 0]))] := hD
  refine W.widen (k := 0) (n := 0) (Nat.le_of_ble_eq_true rfl) (Nat.le_of_ble_eq_true rfl) ?_
  refine lv_aload_n hx hb dX11_storms_20 rfl (lv_at hl 0 rfl) ?_
  refine va_get (D := D) (ci := 11) (v := .ref h1) (C := RX11) (T := TX11) (N := 12) hx hb hts iuX11_storms_X11 hown hK hP 0 rfl rfl 11 (by decide) (hts (.fieldLink RX11 87 "StraitGame" "storm" "LStraitGame$Storms;") (List.mem_of_getElem? (i := 1) rfl)) (fun _ h9 => h9) rfl dX11_storms_21 ?_
  refine lv_iconst (v := 0) hx hb dX11_storms_24 (by decide) ?_
  refine lv_iconst (v := 0) hx hb dX11_storms_25 (by decide) ?_
  refine lv_iconst (v := 0) hx hb dX11_storms_26 (by decide) ?_
  refine zA_v (zR_VN (As := [.int 0, .int 0, .int 0]) (rest := []) (Cn := RX8) (host := RX11) ⟨hx, hb, hml, hown, hts⟩ (zX8_goOn_1 l D h1 h3 r4 r8 h2 h7 r9 r10 r11 r12 h4 r13 x1 _ hx1) ⟨va_cnB 3 hts gX11_storms_X8_goOn_n232 rfl rfl rfl (hN.2 _ (List.mem_of_getElem? (i := 4) rfl)) (hts (.initialized RX8) (List.mem_of_getElem? (i := 9) rfl)) (by decide +kernel) ⟨(Nat.le_of_ble_eq_true rfl), (Nat.le_of_ble_eq_true rfl)⟩, (hts (.instanceMethod yX8_goOn) (List.mem_of_getElem? (i := 37) rfl)), (hts (.selects RX8 yX8_goOn yX8_goOn) (List.mem_of_getElem? (i := 38) rfl))⟩ hP hD hK hN [1, 3] [] rfl (by decide) rfl 0 8 rfl rfl rfl hl.1 rfl (Nat.le_of_ble_eq_true rfl) dX11_storms_27 ⟨(Nat.le_of_ble_eq_true rfl), (Nat.le_of_ble_eq_true rfl)⟩) hP hD hK hS hA [1, 3] [0, 2, 4, 5, 6, 7, 8] rfl rfl (by decide) (by decide) (fun u H locs hw hP hD hK hS => ?_)
  have hK : va_K D vwCl [(k0, .object RX4), (k1, .object RX4), (k2, .object RX4)] s := hK
  have hP : va_P D vwCl [(h0, .inr (11, [.ref r0, .int 0, .ref r1, .ref r2, .ref r3, .ref r4, .ref r5, .ref h3, .ref r6, .ref r7, .ref r8, .ref h1])), (h2, .inl (k0, 11, .inr (.inr (.inr (.inr f0))))), (h4, .inl (k1, 122, .inr (.inr (.inr (.inr f1))))), (h5, .inr (4, [.int 0, .int 0, .int 0, .int 0, .int 0, .int 0, .int 0])), (h6, .inr (4, [.int 0, .int 0, .int 0, .int 0, .int 0, .int 0, .int 0])), (h7, .inl (k2, 11, .inr (.inr (.inr (.inr f2))))), (h8, .inr (4, [.int 0, .int 0, .int 0, .int 0, .int 0, .int 0, .int 0])), (h1, .inr (8, [.int 1, .int 0, .int 0, .int 0, .ref r4, .ref h3, .ref r8, .ref h2, .ref h7, .int x1])), (h3, .inr (3, [.int 0, .int 0, .ref r9, .ref r10, .ref r11, .ref r12, .ref r4, .ref h4, .ref r13]))] H := hP
  have hD : va_D A [(h0, .inr (11, [.ref r0, .int 0, .ref r1, .ref r2, .ref r3, .ref r4, .ref r5, .ref h3, .ref r6, .ref r7, .ref r8, .ref h1])), (h2, .inl (k0, 11, .inr (.inr (.inr (.inr f0))))), (h4, .inl (k1, 122, .inr (.inr (.inr (.inr f1))))), (h5, .inr (4, [.int 0, .int 0, .int 0, .int 0, .int 0, .int 0, .int 0])), (h6, .inr (4, [.int 0, .int 0, .int 0, .int 0, .int 0, .int 0, .int 0])), (h7, .inl (k2, 11, .inr (.inr (.inr (.inr f2))))), (h8, .inr (4, [.int 0, .int 0, .int 0, .int 0, .int 0, .int 0, .int 0])), (h1, .inr (8, [.int 1, .int 0, .int 0, .int 0, .ref r4, .ref h3, .ref r8, .ref h2, .ref h7, .int x1])), (h3, .inr (3, [.int 0, .int 0, .ref r9, .ref r10, .ref r11, .ref r12, .ref r4, .ref h4, .ref r13]))] := hD
  refine W.widen (k := 0) (n := 0) (Nat.le_of_ble_eq_true rfl) (Nat.le_of_ble_eq_true rfl) ?_
  refine lv_iload_n hx hb dX11_storms_30 rfl (lv_at hl 1 rfl) ?_
  refine lv_tableIn (off := 41) (tgt := 72) hx hb dX11_storms_31 (by decide) (by decide) rfl (by decide) ?_
  refine lv_aload_n hx hb dX11_storms_72 rfl (lv_at hl 0 rfl) ?_
  refine va_get (D := D) (ci := 11) (v := .ref h1) (C := RX11) (T := TX11) (N := 12) hx hb hts iuX11_storms_X11 hown hK hP 0 rfl rfl 11 (by decide) (hts (.fieldLink RX11 87 "StraitGame" "storm" "LStraitGame$Storms;") (List.mem_of_getElem? (i := 1) rfl)) (fun _ h9 => h9) rfl dX11_storms_73 ?_
  refine va_get (D := D) (ci := 8) (v := .int 0) (C := RX8) (T := TX8) (N := 10) hx hb hts iuX11_storms_X8 hown hK hP 7 rfl rfl 2 (by decide) (hts (.fieldLink RX11 242 "StraitGame$Storms" "heardForSure" "I") (List.mem_of_getElem? (i := 4) rfl)) (fun _ h9 => h9) rfl dX11_storms_76 ?_
  exact zret_i hx hb hr hlocks hP hD hK hS () ((if_pos (by simp only [zk_2]; have := hx1; omega)).symm) [] [] (by decide) rfl rfl (Nat.le_of_ble_eq_true rfl) (Nat.le_of_ble_eq_true rfl) dX11_storms_79
set_option maxHeartbeats 4000000 in
set_option maxRecDepth 100000 in
theorem aX11_storms_c5 (l : Launch) (D : va_G) (h0 h1 h2 h3 h4 h5 h6 h7 h8 r0 r1 r2 r3 r4 r5 r6 r7 r8 r9 r10 r11 r12 r13 r14 r15 r16 : Nat) (k0 k1 k2 : ClassId) (f0 : Nat → Option Nat) (f1 : Nat → Option Nat) (f2 : Nat → Option Nat) (x1 : Int32) (sz : Nat) (hf_f0_0 : f0 0 = some h5) (hf_f1_0 : f1 0 = some h6) (hf_f1_1 : f1 1 = some r14) (hf_f1_2 : f1 2 = some r15) (hf_f1_3 : f1 3 = some r16) (hf_f2_0 : f2 0 = some h8) (hx1 : -2147483648 ≤ x1.toInt ∧ x1.toInt ≤ 2147483647) : Met l yX11_storms wsX11_storms ({ frames := 3, cells := 0, slots := 0, locals := 69 }) (zPre D [.ref h0, .int 3, .int x1] [(h0, .inr (11, [.ref r0, .int 0, .ref r1, .ref r2, .ref r3, .ref r4, .ref r5, .ref h3, .ref r6, .ref r7, .ref r8, .ref h1])), (h1, .inr (8, [.int 0, .int 0, .int 0, .int (-1), .ref r4, .ref h3, .ref r8, .ref h2, .ref h7, .int 0])), (h2, .inl (k0, 11, .inr (.inr (.inr (.inr f0))))), (h3, .inr (3, [.int 0, .int 0, .ref r9, .ref r10, .ref r11, .ref r12, .ref r4, .ref h4, .ref r13])), (h4, .inl (k1, 122, .inr (.inr (.inr (.inr f1))))), (h5, .inr (4, [.int 0, .int 0, .int 0, .int 0, .int 0, .int 0, .int 0])), (h6, .inr (4, [.int 0, .int 0, .int 0, .int 0, .int 0, .int 0, .int 0])), (h7, .inl (k2, 11, .inr (.inr (.inr (.inr f2))))), (h8, .inr (4, [.int 0, .int 0, .int 0, .int 0, .int 0, .int 0, .int 0]))] [(k0, .object RX4), (k1, .object RX4), (k2, .object RX4)] sz) ((fun A => va_Qi (fun (r : Int32) (u : Unit) => r = (an_storms 3 x1)) (zB D A (fun (u : Unit) => match u with | _ => []) (fun (u : Unit) => match u with | _ => [])) A) (va_A [(h0, .inr (11, [.ref r0, .int 0, .ref r1, .ref r2, .ref r3, .ref r4, .ref r5, .ref h3, .ref r6, .ref r7, .ref r8, .ref h1])), (h1, .inr (8, [.int 0, .int 0, .int 0, .int (-1), .ref r4, .ref h3, .ref r8, .ref h2, .ref h7, .int 0])), (h2, .inl (k0, 11, .inr (.inr (.inr (.inr f0))))), (h3, .inr (3, [.int 0, .int 0, .ref r9, .ref r10, .ref r11, .ref r12, .ref r4, .ref h4, .ref r13])), (h4, .inl (k1, 122, .inr (.inr (.inr (.inr f1))))), (h5, .inr (4, [.int 0, .int 0, .int 0, .int 0, .int 0, .int 0, .int 0])), (h6, .inr (4, [.int 0, .int 0, .int 0, .int 0, .int 0, .int 0, .int 0])), (h7, .inl (k2, 11, .inr (.inr (.inr (.inr f2))))), (h8, .inr (4, [.int 0, .int 0, .int 0, .int 0, .int 0, .int 0, .int 0]))] sz)) 0 0 (va_A [(h0, .inr (11, [.ref r0, .int 0, .ref r1, .ref r2, .ref r3, .ref r4, .ref r5, .ref h3, .ref r6, .ref r7, .ref r8, .ref h1])), (h1, .inr (8, [.int 0, .int 0, .int 0, .int (-1), .ref r4, .ref h3, .ref r8, .ref h2, .ref h7, .int 0])), (h2, .inl (k0, 11, .inr (.inr (.inr (.inr f0))))), (h3, .inr (3, [.int 0, .int 0, .ref r9, .ref r10, .ref r11, .ref r12, .ref r4, .ref h4, .ref r13])), (h4, .inl (k1, 122, .inr (.inr (.inr (.inr f1))))), (h5, .inr (4, [.int 0, .int 0, .int 0, .int 0, .int 0, .int 0, .int 0])), (h6, .inr (4, [.int 0, .int 0, .int 0, .int 0, .int 0, .int 0, .int 0])), (h7, .inl (k2, 11, .inr (.inr (.inr (.inr f2))))), (h8, .inr (4, [.int 0, .int 0, .int 0, .int 0, .int 0, .int 0, .int 0]))] sz) := by
  refine zOfW (QF := fun A => va_Qi (fun (r : Int32) (u : Unit) => r = (an_storms 3 x1)) (zB D A (fun (u : Unit) => match u with | _ => []) (fun (u : Unit) => match u with | _ => [])) A) (cc := cX11_storms) (maxL := 3) (ret := (some .int)) (by decide) rfl (Nat.le_of_ble_eq_true rfl) ?_
  intro p e s m below meth c A ls hx hb hr hml hts hown hlocks hin hA hS hP hD hK hN hl
  have hl : lv_has ls 3 [(0, .ref h0), (1, .int 3), (2, .int x1)] := hl
  refine lv_iload_n hx hb dX11_storms_0 rfl (lv_at hl 1 rfl) ?_
  refine lv_if_lt (tgt := 9) hx hb dX11_storms_1 (by decide) (fun h9 => absurd h9 (by decide)) (fun _ => ?_)
  refine lv_iload_n hx hb dX11_storms_4 rfl (lv_at hl 1 rfl) ?_
  refine lv_iconst (v := 3) hx hb dX11_storms_5 (by decide) ?_
  refine lv_icmp_le (tgt := 12) hx hb dX11_storms_6 (by decide) (fun _ => ?_) (fun h9 => absurd (by decide) h9)
  refine lv_aload_n hx hb dX11_storms_12 rfl (lv_at hl 0 rfl) ?_
  refine va_get (D := D) (ci := 11) (v := .ref h1) (C := RX11) (T := TX11) (N := 12) hx hb hts iuX11_storms_X11 hown hK hP 0 rfl rfl 11 (by decide) (hts (.fieldLink RX11 87 "StraitGame" "storm" "LStraitGame$Storms;") (List.mem_of_getElem? (i := 1) rfl)) (fun _ h9 => h9) rfl dX11_storms_13 ?_
  refine lv_iload_n hx hb dX11_storms_16 rfl (lv_at hl 2 rfl) ?_
  refine zA_v (zR_V (As := [.int x1]) (rest := []) ⟨hx, hb, hml, hown, hts⟩ (zX8_begin_1 l D h1 h2 h3 h4 h5 h6 h7 h8 r4 r8 r9 r10 r11 r12 r13 r14 r15 r16 k0 k1 k2 f0 f1 f2 x1 _ (hf_f0_0) (hf_f1_0) (hf_f1_1) (hf_f1_2) (hf_f1_3) (hf_f2_0) hx1) (cwV 1 hts gX11_storms_X8_begin rfl rfl rfl (by decide +kernel) ⟨(Nat.le_of_ble_eq_true rfl), (Nat.le_of_ble_eq_true rfl)⟩) hP hD hK hN [1, 2, 3, 4, 5, 6, 7, 8] [0, 1, 2] rfl (by decide) rfl 0 8 rfl rfl rfl hl.1 rfl (Nat.le_of_ble_eq_true rfl) dX11_storms_17 ⟨(Nat.le_of_ble_eq_true rfl), (Nat.le_of_ble_eq_true rfl)⟩) hP hD hK hS hA [1, 2, 3, 4, 5, 6, 7, 8] [0] rfl rfl (by decide) (by decide) (fun u H locs hw hP hD hK hS => ?_)
  have hK : va_K D vwCl [(k0, .object RX4), (k1, .object RX4), (k2, .object RX4)] s := hK
  have hP : va_P D vwCl [(h0, .inr (11, [.ref r0, .int 0, .ref r1, .ref r2, .ref r3, .ref r4, .ref r5, .ref h3, .ref r6, .ref r7, .ref r8, .ref h1])), (h1, .inr (8, [.int 0, .int 0, .int 0, .int (-1), .ref r4, .ref h3, .ref r8, .ref h2, .ref h7, .int x1])), (h2, .inl (k0, 11, .inr (.inr (.inr (.inr f0))))), (h3, .inr (3, [.int 0, .int 0, .ref r9, .ref r10, .ref r11, .ref r12, .ref r4, .ref h4, .ref r13])), (h4, .inl (k1, 122, .inr (.inr (.inr (.inr f1))))), (h5, .inr (4, [.int 0, .int 0, .int 0, .int 0, .int 0, .int 0, .int 0])), (h6, .inr (4, [.int 0, .int 0, .int 0, .int 0, .int 0, .int 0, .int 0])), (h7, .inl (k2, 11, .inr (.inr (.inr (.inr f2))))), (h8, .inr (4, [.int 0, .int 0, .int 0, .int 0, .int 0, .int 0, .int 0]))] H := hP
  have hD : va_D A [(h0, .inr (11, [.ref r0, .int 0, .ref r1, .ref r2, .ref r3, .ref r4, .ref r5, .ref h3, .ref r6, .ref r7, .ref r8, .ref h1])), (h1, .inr (8, [.int 0, .int 0, .int 0, .int (-1), .ref r4, .ref h3, .ref r8, .ref h2, .ref h7, .int x1])), (h2, .inl (k0, 11, .inr (.inr (.inr (.inr f0))))), (h3, .inr (3, [.int 0, .int 0, .ref r9, .ref r10, .ref r11, .ref r12, .ref r4, .ref h4, .ref r13])), (h4, .inl (k1, 122, .inr (.inr (.inr (.inr f1))))), (h5, .inr (4, [.int 0, .int 0, .int 0, .int 0, .int 0, .int 0, .int 0])), (h6, .inr (4, [.int 0, .int 0, .int 0, .int 0, .int 0, .int 0, .int 0])), (h7, .inl (k2, 11, .inr (.inr (.inr (.inr f2))))), (h8, .inr (4, [.int 0, .int 0, .int 0, .int 0, .int 0, .int 0, .int 0]))] := hD
  refine W.widen (k := 0) (n := 0) (Nat.le_of_ble_eq_true rfl) (Nat.le_of_ble_eq_true rfl) ?_
  refine lv_aload_n hx hb dX11_storms_20 rfl (lv_at hl 0 rfl) ?_
  refine va_get (D := D) (ci := 11) (v := .ref h1) (C := RX11) (T := TX11) (N := 12) hx hb hts iuX11_storms_X11 hown hK hP 0 rfl rfl 11 (by decide) (hts (.fieldLink RX11 87 "StraitGame" "storm" "LStraitGame$Storms;") (List.mem_of_getElem? (i := 1) rfl)) (fun _ h9 => h9) rfl dX11_storms_21 ?_
  refine lv_iconst (v := 0) hx hb dX11_storms_24 (by decide) ?_
  refine lv_iconst (v := 0) hx hb dX11_storms_25 (by decide) ?_
  refine lv_iconst (v := 0) hx hb dX11_storms_26 (by decide) ?_
  refine zA_v (zR_VN (As := [.int 0, .int 0, .int 0]) (rest := []) (Cn := RX8) (host := RX11) ⟨hx, hb, hml, hown, hts⟩ (zX8_goOn_1 l D h1 h3 r4 r8 h2 h7 r9 r10 r11 r12 h4 r13 x1 _ hx1) ⟨va_cnB 3 hts gX11_storms_X8_goOn_n232 rfl rfl rfl (hN.2 _ (List.mem_of_getElem? (i := 4) rfl)) (hts (.initialized RX8) (List.mem_of_getElem? (i := 9) rfl)) (by decide +kernel) ⟨(Nat.le_of_ble_eq_true rfl), (Nat.le_of_ble_eq_true rfl)⟩, (hts (.instanceMethod yX8_goOn) (List.mem_of_getElem? (i := 37) rfl)), (hts (.selects RX8 yX8_goOn yX8_goOn) (List.mem_of_getElem? (i := 38) rfl))⟩ hP hD hK hN [1, 3] [] rfl (by decide) rfl 0 8 rfl rfl rfl hl.1 rfl (Nat.le_of_ble_eq_true rfl) dX11_storms_27 ⟨(Nat.le_of_ble_eq_true rfl), (Nat.le_of_ble_eq_true rfl)⟩) hP hD hK hS hA [1, 3] [0, 2, 4, 5, 6, 7, 8] rfl rfl (by decide) (by decide) (fun u H locs hw hP hD hK hS => ?_)
  have hK : va_K D vwCl [(k0, .object RX4), (k1, .object RX4), (k2, .object RX4)] s := hK
  have hP : va_P D vwCl [(h0, .inr (11, [.ref r0, .int 0, .ref r1, .ref r2, .ref r3, .ref r4, .ref r5, .ref h3, .ref r6, .ref r7, .ref r8, .ref h1])), (h2, .inl (k0, 11, .inr (.inr (.inr (.inr f0))))), (h4, .inl (k1, 122, .inr (.inr (.inr (.inr f1))))), (h5, .inr (4, [.int 0, .int 0, .int 0, .int 0, .int 0, .int 0, .int 0])), (h6, .inr (4, [.int 0, .int 0, .int 0, .int 0, .int 0, .int 0, .int 0])), (h7, .inl (k2, 11, .inr (.inr (.inr (.inr f2))))), (h8, .inr (4, [.int 0, .int 0, .int 0, .int 0, .int 0, .int 0, .int 0])), (h1, .inr (8, [.int 1, .int 0, .int 0, .int 0, .ref r4, .ref h3, .ref r8, .ref h2, .ref h7, .int x1])), (h3, .inr (3, [.int 0, .int 0, .ref r9, .ref r10, .ref r11, .ref r12, .ref r4, .ref h4, .ref r13]))] H := hP
  have hD : va_D A [(h0, .inr (11, [.ref r0, .int 0, .ref r1, .ref r2, .ref r3, .ref r4, .ref r5, .ref h3, .ref r6, .ref r7, .ref r8, .ref h1])), (h2, .inl (k0, 11, .inr (.inr (.inr (.inr f0))))), (h4, .inl (k1, 122, .inr (.inr (.inr (.inr f1))))), (h5, .inr (4, [.int 0, .int 0, .int 0, .int 0, .int 0, .int 0, .int 0])), (h6, .inr (4, [.int 0, .int 0, .int 0, .int 0, .int 0, .int 0, .int 0])), (h7, .inl (k2, 11, .inr (.inr (.inr (.inr f2))))), (h8, .inr (4, [.int 0, .int 0, .int 0, .int 0, .int 0, .int 0, .int 0])), (h1, .inr (8, [.int 1, .int 0, .int 0, .int 0, .ref r4, .ref h3, .ref r8, .ref h2, .ref h7, .int x1])), (h3, .inr (3, [.int 0, .int 0, .ref r9, .ref r10, .ref r11, .ref r12, .ref r4, .ref h4, .ref r13]))] := hD
  refine W.widen (k := 0) (n := 0) (Nat.le_of_ble_eq_true rfl) (Nat.le_of_ble_eq_true rfl) ?_
  refine lv_iload_n hx hb dX11_storms_30 rfl (lv_at hl 1 rfl) ?_
  refine lv_tableOut (tgt := 80) hx hb dX11_storms_31 (by decide) (by decide) ?_
  refine lv_aload_n hx hb dX11_storms_80 rfl (lv_at hl 0 rfl) ?_
  refine va_get (D := D) (ci := 11) (v := .ref h1) (C := RX11) (T := TX11) (N := 12) hx hb hts iuX11_storms_X11 hown hK hP 0 rfl rfl 11 (by decide) (hts (.fieldLink RX11 87 "StraitGame" "storm" "LStraitGame$Storms;") (List.mem_of_getElem? (i := 1) rfl)) (fun _ h9 => h9) rfl dX11_storms_81 ?_
  refine va_get (D := D) (ci := 8) (v := .int 0) (C := RX8) (T := TX8) (N := 10) hx hb hts iuX11_storms_X8 hown hK hP 7 rfl rfl 3 (by decide) (hts (.fieldLink RX11 245 "StraitGame$Storms" "fewest" "I") (List.mem_of_getElem? (i := 5) rfl)) (fun _ h9 => h9) rfl dX11_storms_84 ?_
  exact zret_i hx hb hr hlocks hP hD hK hS () ((if_pos (by simp only [zk_3]; have := hx1; omega)).symm) [] [] (by decide) rfl rfl (Nat.le_of_ble_eq_true rfl) (Nat.le_of_ble_eq_true rfl) dX11_storms_87
set_option maxHeartbeats 4000000 in
set_option maxRecDepth 100000 in
theorem aX11_storms_c6 (l : Launch) (D : va_G) (h0 h1 h2 h3 h4 h5 h6 h7 h8 r0 r1 r2 r3 r4 r5 r6 r7 r8 r9 r10 r11 r12 r13 r14 r15 r16 : Nat) (k0 k1 k2 : ClassId) (f0 : Nat → Option Nat) (f1 : Nat → Option Nat) (f2 : Nat → Option Nat) (x0 : Int32) (x1 : Int32) (sz : Nat) (hf_f0_0 : f0 0 = some h5) (hf_f1_0 : f1 0 = some h6) (hf_f1_1 : f1 1 = some r14) (hf_f1_2 : f1 2 = some r15) (hf_f1_3 : f1 3 = some r16) (hf_f2_0 : f2 0 = some h8) (hx0 : 4 ≤ x0.toInt ∧ x0.toInt ≤ 2147483647) (hx1 : -2147483648 ≤ x1.toInt ∧ x1.toInt ≤ 2147483647) : Met l yX11_storms wsX11_storms ({ frames := 3, cells := 0, slots := 0, locals := 69 }) (zPre D [.ref h0, .int x0, .int x1] [(h0, .inr (11, [.ref r0, .int 0, .ref r1, .ref r2, .ref r3, .ref r4, .ref r5, .ref h3, .ref r6, .ref r7, .ref r8, .ref h1])), (h1, .inr (8, [.int 0, .int 0, .int 0, .int (-1), .ref r4, .ref h3, .ref r8, .ref h2, .ref h7, .int 0])), (h2, .inl (k0, 11, .inr (.inr (.inr (.inr f0))))), (h3, .inr (3, [.int 0, .int 0, .ref r9, .ref r10, .ref r11, .ref r12, .ref r4, .ref h4, .ref r13])), (h4, .inl (k1, 122, .inr (.inr (.inr (.inr f1))))), (h5, .inr (4, [.int 0, .int 0, .int 0, .int 0, .int 0, .int 0, .int 0])), (h6, .inr (4, [.int 0, .int 0, .int 0, .int 0, .int 0, .int 0, .int 0])), (h7, .inl (k2, 11, .inr (.inr (.inr (.inr f2))))), (h8, .inr (4, [.int 0, .int 0, .int 0, .int 0, .int 0, .int 0, .int 0]))] [(k0, .object RX4), (k1, .object RX4), (k2, .object RX4)] sz) ((fun A => va_Qi (fun (r : Int32) (u : Unit) => r = (an_storms x0 x1)) (zB D A (fun (u : Unit) => match u with | _ => []) (fun (u : Unit) => match u with | _ => [])) A) (va_A [(h0, .inr (11, [.ref r0, .int 0, .ref r1, .ref r2, .ref r3, .ref r4, .ref r5, .ref h3, .ref r6, .ref r7, .ref r8, .ref h1])), (h1, .inr (8, [.int 0, .int 0, .int 0, .int (-1), .ref r4, .ref h3, .ref r8, .ref h2, .ref h7, .int 0])), (h2, .inl (k0, 11, .inr (.inr (.inr (.inr f0))))), (h3, .inr (3, [.int 0, .int 0, .ref r9, .ref r10, .ref r11, .ref r12, .ref r4, .ref h4, .ref r13])), (h4, .inl (k1, 122, .inr (.inr (.inr (.inr f1))))), (h5, .inr (4, [.int 0, .int 0, .int 0, .int 0, .int 0, .int 0, .int 0])), (h6, .inr (4, [.int 0, .int 0, .int 0, .int 0, .int 0, .int 0, .int 0])), (h7, .inl (k2, 11, .inr (.inr (.inr (.inr f2))))), (h8, .inr (4, [.int 0, .int 0, .int 0, .int 0, .int 0, .int 0, .int 0]))] sz)) 0 0 (va_A [(h0, .inr (11, [.ref r0, .int 0, .ref r1, .ref r2, .ref r3, .ref r4, .ref r5, .ref h3, .ref r6, .ref r7, .ref r8, .ref h1])), (h1, .inr (8, [.int 0, .int 0, .int 0, .int (-1), .ref r4, .ref h3, .ref r8, .ref h2, .ref h7, .int 0])), (h2, .inl (k0, 11, .inr (.inr (.inr (.inr f0))))), (h3, .inr (3, [.int 0, .int 0, .ref r9, .ref r10, .ref r11, .ref r12, .ref r4, .ref h4, .ref r13])), (h4, .inl (k1, 122, .inr (.inr (.inr (.inr f1))))), (h5, .inr (4, [.int 0, .int 0, .int 0, .int 0, .int 0, .int 0, .int 0])), (h6, .inr (4, [.int 0, .int 0, .int 0, .int 0, .int 0, .int 0, .int 0])), (h7, .inl (k2, 11, .inr (.inr (.inr (.inr f2))))), (h8, .inr (4, [.int 0, .int 0, .int 0, .int 0, .int 0, .int 0, .int 0]))] sz) := by
  refine zOfW (QF := fun A => va_Qi (fun (r : Int32) (u : Unit) => r = (an_storms x0 x1)) (zB D A (fun (u : Unit) => match u with | _ => []) (fun (u : Unit) => match u with | _ => [])) A) (cc := cX11_storms) (maxL := 3) (ret := (some .int)) (by decide) rfl (Nat.le_of_ble_eq_true rfl) ?_
  intro p e s m below meth c A ls hx hb hr hml hts hown hlocks hin hA hS hP hD hK hN hl
  have hl : lv_has ls 3 [(0, .ref h0), (1, .int x0), (2, .int x1)] := hl
  refine lv_iload_n hx hb dX11_storms_0 rfl (lv_at hl 1 rfl) ?_
  refine lv_if_lt (tgt := 9) hx hb dX11_storms_1 (by decide) (fun h9 => absurd h9 (z_cmp (show ¬ ((x0 : Int32) < 0) from by simp only [fa_lt, fa_le, fa_eq, zk_0]; have := hx0; omega))) (fun _ => ?_)
  refine lv_iload_n hx hb dX11_storms_4 rfl (lv_at hl 1 rfl) ?_
  refine lv_iconst (v := 3) hx hb dX11_storms_5 (by decide) ?_
  refine lv_icmp_le (tgt := 12) hx hb dX11_storms_6 (by decide) (fun h9 => absurd h9 (z_cmp (show ¬ ((x0 : Int32) ≤ 3) from by simp only [fa_lt, fa_le, fa_eq, zk_3]; have := hx0; omega))) (fun _ => ?_)
  refine lv_bipush (v := (-2)) hx hb dX11_storms_9 (by decide) ?_
  exact zret_i hx hb hr hlocks hP hD hK hS () ((if_neg (by have := hx0; have := hx1; omega)).symm) [] [] (by decide) rfl rfl (Nat.le_of_ble_eq_true rfl) (Nat.le_of_ble_eq_true rfl) dX11_storms_11
theorem aX11_storms (l : Launch) (D : va_G) (h0 h1 h2 h3 h4 h5 h6 h7 h8 r0 r1 r2 r3 r4 r5 r6 r7 r8 r9 r10 r11 r12 r13 r14 r15 r16 : Nat) (k0 k1 k2 : ClassId) (f0 : Nat → Option Nat) (f1 : Nat → Option Nat) (f2 : Nat → Option Nat) (x0 : Int32) (x1 : Int32) (sz : Nat) (hf_f0_0 : f0 0 = some h5) (hf_f1_0 : f1 0 = some h6) (hf_f1_1 : f1 1 = some r14) (hf_f1_2 : f1 2 = some r15) (hf_f1_3 : f1 3 = some r16) (hf_f2_0 : f2 0 = some h8) : Met l yX11_storms wsX11_storms ({ frames := 3, cells := 0, slots := 0, locals := 69 }) (zPre D [.ref h0, .int x0, .int x1] [(h0, .inr (11, [.ref r0, .int 0, .ref r1, .ref r2, .ref r3, .ref r4, .ref r5, .ref h3, .ref r6, .ref r7, .ref r8, .ref h1])), (h1, .inr (8, [.int 0, .int 0, .int 0, .int (-1), .ref r4, .ref h3, .ref r8, .ref h2, .ref h7, .int 0])), (h2, .inl (k0, 11, .inr (.inr (.inr (.inr f0))))), (h3, .inr (3, [.int 0, .int 0, .ref r9, .ref r10, .ref r11, .ref r12, .ref r4, .ref h4, .ref r13])), (h4, .inl (k1, 122, .inr (.inr (.inr (.inr f1))))), (h5, .inr (4, [.int 0, .int 0, .int 0, .int 0, .int 0, .int 0, .int 0])), (h6, .inr (4, [.int 0, .int 0, .int 0, .int 0, .int 0, .int 0, .int 0])), (h7, .inl (k2, 11, .inr (.inr (.inr (.inr f2))))), (h8, .inr (4, [.int 0, .int 0, .int 0, .int 0, .int 0, .int 0, .int 0]))] [(k0, .object RX4), (k1, .object RX4), (k2, .object RX4)] sz) ((fun A => va_Qi (fun (r : Int32) (u : Unit) => r = (an_storms x0 x1)) (zB D A (fun (u : Unit) => match u with | _ => []) (fun (u : Unit) => match u with | _ => [])) A) (va_A [(h0, .inr (11, [.ref r0, .int 0, .ref r1, .ref r2, .ref r3, .ref r4, .ref r5, .ref h3, .ref r6, .ref r7, .ref r8, .ref h1])), (h1, .inr (8, [.int 0, .int 0, .int 0, .int (-1), .ref r4, .ref h3, .ref r8, .ref h2, .ref h7, .int 0])), (h2, .inl (k0, 11, .inr (.inr (.inr (.inr f0))))), (h3, .inr (3, [.int 0, .int 0, .ref r9, .ref r10, .ref r11, .ref r12, .ref r4, .ref h4, .ref r13])), (h4, .inl (k1, 122, .inr (.inr (.inr (.inr f1))))), (h5, .inr (4, [.int 0, .int 0, .int 0, .int 0, .int 0, .int 0, .int 0])), (h6, .inr (4, [.int 0, .int 0, .int 0, .int 0, .int 0, .int 0, .int 0])), (h7, .inl (k2, 11, .inr (.inr (.inr (.inr f2))))), (h8, .inr (4, [.int 0, .int 0, .int 0, .int 0, .int 0, .int 0, .int 0]))] sz)) 0 0 (va_A [(h0, .inr (11, [.ref r0, .int 0, .ref r1, .ref r2, .ref r3, .ref r4, .ref r5, .ref h3, .ref r6, .ref r7, .ref r8, .ref h1])), (h1, .inr (8, [.int 0, .int 0, .int 0, .int (-1), .ref r4, .ref h3, .ref r8, .ref h2, .ref h7, .int 0])), (h2, .inl (k0, 11, .inr (.inr (.inr (.inr f0))))), (h3, .inr (3, [.int 0, .int 0, .ref r9, .ref r10, .ref r11, .ref r12, .ref r4, .ref h4, .ref r13])), (h4, .inl (k1, 122, .inr (.inr (.inr (.inr f1))))), (h5, .inr (4, [.int 0, .int 0, .int 0, .int 0, .int 0, .int 0, .int 0])), (h6, .inr (4, [.int 0, .int 0, .int 0, .int 0, .int 0, .int 0, .int 0])), (h7, .inl (k2, 11, .inr (.inr (.inr (.inr f2))))), (h8, .inr (4, [.int 0, .int 0, .int 0, .int 0, .int 0, .int 0, .int 0]))] sz) := by
  rcases (show (-2147483648 ≤ x0.toInt ∧ x0.toInt ≤ -1) ∨ x0 = 0 ∨ x0 = 1 ∨ x0 = 2 ∨ x0 = 3 ∨ (4 ≤ x0.toInt ∧ x0.toInt ≤ 2147483647) from by simp only [fa_eq, zk_0, zk_1, zk_2, zk_3]; have := z_rng x0; omega) with b0 | rfl | rfl | rfl | rfl | b0
  ·
    have b1 := z_rng x1
    exact aX11_storms_c1 l D h0 h1 h2 h3 h4 h5 h6 h7 h8 r0 r1 r2 r3 r4 r5 r6 r7 r8 r9 r10 r11 r12 r13 r14 r15 r16 k0 k1 k2 f0 f1 f2 x0 x1 _ hf_f0_0 hf_f1_0 hf_f1_1 hf_f1_2 hf_f1_3 hf_f2_0 b0 b1
  ·
    have b1 := z_rng x1
    exact aX11_storms_c2 l D h0 h1 h2 h3 h4 h5 h6 h7 h8 r0 r1 r2 r3 r4 r5 r6 r7 r8 r9 r10 r11 r12 r13 r14 r15 r16 k0 k1 k2 f0 f1 f2 x1 _ hf_f0_0 hf_f1_0 hf_f1_1 hf_f1_2 hf_f1_3 hf_f2_0 b1
  ·
    have b1 := z_rng x1
    exact aX11_storms_c3 l D h0 h1 h2 h3 h4 h5 h6 h7 h8 r0 r1 r2 r3 r4 r5 r6 r7 r8 r9 r10 r11 r12 r13 r14 r15 r16 k0 k1 k2 f0 f1 f2 x1 _ hf_f0_0 hf_f1_0 hf_f1_1 hf_f1_2 hf_f1_3 hf_f2_0 b1
  ·
    have b1 := z_rng x1
    exact aX11_storms_c4 l D h0 h1 h2 h3 h4 h5 h6 h7 h8 r0 r1 r2 r3 r4 r5 r6 r7 r8 r9 r10 r11 r12 r13 r14 r15 r16 k0 k1 k2 f0 f1 f2 x1 _ hf_f0_0 hf_f1_0 hf_f1_1 hf_f1_2 hf_f1_3 hf_f2_0 b1
  ·
    have b1 := z_rng x1
    exact aX11_storms_c5 l D h0 h1 h2 h3 h4 h5 h6 h7 h8 r0 r1 r2 r3 r4 r5 r6 r7 r8 r9 r10 r11 r12 r13 r14 r15 r16 k0 k1 k2 f0 f1 f2 x1 _ hf_f0_0 hf_f1_0 hf_f1_1 hf_f1_2 hf_f1_3 hf_f2_0 b1
  ·
    have b1 := z_rng x1
    exact aX11_storms_c6 l D h0 h1 h2 h3 h4 h5 h6 h7 h8 r0 r1 r2 r3 r4 r5 r6 r7 r8 r9 r10 r11 r12 r13 r14 r15 r16 k0 k1 k2 f0 f1 f2 x0 x1 _ hf_f0_0 hf_f1_0 hf_f1_1 hf_f1_2 hf_f1_3 hf_f2_0 b0 b1
set_option maxHeartbeats 4000000 in
set_option maxRecDepth 100000 in
theorem zX3_copyNights_1 (l : Launch) (D : va_G) (h0 r0 r1 r2 r3 r4 r5 r6 : Nat) (sz : Nat) : Met l yX3_copyNights wsX3_copyNights ({ frames := 0, cells := 0, slots := 0, locals := 0 }) (zPre D [.ref h0, .int 0, .int 60, .int 0] [(h0, .inr (3, [.int 0, .int 0, .ref r0, .ref r1, .ref r2, .ref r3, .ref r4, .ref r5, .ref r6]))] [] sz) ((fun A => va_Qv (fun (u : Unit) => match u with | _ => True) (zB D A (fun (u : Unit) => match u with | _ => [(h0, .inr (3, [.int 0, .int 0, .ref r0, .ref r1, .ref r2, .ref r3, .ref r4, .ref r5, .ref r6]))]) (fun (u : Unit) => match u with | _ => [])) A) (va_A [(h0, .inr (3, [.int 0, .int 0, .ref r0, .ref r1, .ref r2, .ref r3, .ref r4, .ref r5, .ref r6]))] sz)) 0 0 (va_A [(h0, .inr (3, [.int 0, .int 0, .ref r0, .ref r1, .ref r2, .ref r3, .ref r4, .ref r5, .ref r6]))] sz) := by
  refine zOfW (QF := fun A => va_Qv (fun (u : Unit) => match u with | _ => True) (zB D A (fun (u : Unit) => match u with | _ => [(h0, .inr (3, [.int 0, .int 0, .ref r0, .ref r1, .ref r2, .ref r3, .ref r4, .ref r5, .ref r6]))]) (fun (u : Unit) => match u with | _ => [])) A) (cc := cX3_copyNights) (maxL := 5) (ret := none) (by decide) rfl (Nat.le_of_ble_eq_true rfl) ?_
  intro p e s m below meth c A ls hx hb hr hml hts hown hlocks hin hA hS hP hD hK hN hl
  have hl : lv_has ls 5 [(0, .ref h0), (1, .int 0), (2, .int 60), (3, .int 0)] := hl
  refine lv_iconst (v := 0) hx hb dX3_copyNights_0 (by decide) ?_
  refine lv_istore (lv' := [(4, .int 0), (0, .ref h0), (1, .int 0), (2, .int 60), (3, .int 0)]) hx hb dX3_copyNights_1 hl (by decide) rfl (fun ls hl => ?_)
  refine lv_iload hx hb dX3_copyNights_3 (lv_at hl 0 rfl) ?_
  refine lv_iload_n hx hb dX3_copyNights_5 rfl (lv_at hl 4 rfl) ?_
  refine lv_icmp_ge (tgt := 76) hx hb dX3_copyNights_6 (by decide) (fun _ => ?_) (fun h9 => absurd (by decide) h9)
  exact zret_v hx hb hr hlocks hP hD hK hS () trivial [0] [] (by decide) rfl rfl (Nat.le_of_ble_eq_true rfl) (Nat.le_of_ble_eq_true rfl) dX3_copyNights_76
set_option maxHeartbeats 4000000 in
set_option maxRecDepth 100000 in
theorem zX3_keep_1 (l : Launch) (D : va_G) (h0 h1 r0 r1 r2 r3 r4 r5 : Nat) (k0 : ClassId) (f0 : Nat → Int32) (sz : Nat) (hf_f0_0 : f0 0 = (-1)) (hf_f0_1 : f0 1 = (-1)) (hf_f0_2 : f0 2 = (-1)) : Met l yX3_keep wsX3_keep ({ frames := 1, cells := 0, slots := 0, locals := 24 }) (zPre D [.ref h0, .int 0] [(h0, .inr (3, [.int 0, .int 0, .ref r0, .ref r1, .ref r2, .ref r3, .ref r4, .ref r5, .ref h1])), (h1, .inl (k0, 3, .inl f0))] [(k0, .int)] sz) ((fun A => va_Qi (fun (r : Int32) (u : Unit) => r = 0) (zB D A (fun (u : Unit) => match u with | _ => [(h0, .inr (3, [.int 0, .int 0, .ref r0, .ref r1, .ref r2, .ref r3, .ref r4, .ref r5, .ref h1])), (h1, .inl (k0, 3, .inl (upd f0 0 0)))]) (fun (u : Unit) => match u with | _ => [])) A) (va_A [(h0, .inr (3, [.int 0, .int 0, .ref r0, .ref r1, .ref r2, .ref r3, .ref r4, .ref r5, .ref h1])), (h1, .inl (k0, 3, .inl f0))] sz)) 0 0 (va_A [(h0, .inr (3, [.int 0, .int 0, .ref r0, .ref r1, .ref r2, .ref r3, .ref r4, .ref r5, .ref h1])), (h1, .inl (k0, 3, .inl f0))] sz) := by
  refine zOfW (QF := fun A => va_Qi (fun (r : Int32) (u : Unit) => r = 0) (zB D A (fun (u : Unit) => match u with | _ => [(h0, .inr (3, [.int 0, .int 0, .ref r0, .ref r1, .ref r2, .ref r3, .ref r4, .ref r5, .ref h1])), (h1, .inl (k0, 3, .inl (upd f0 0 0)))]) (fun (u : Unit) => match u with | _ => [])) A) (cc := cX3_keep) (maxL := 2) (ret := (some .int)) (by decide) rfl (Nat.le_of_ble_eq_true rfl) ?_
  intro p e s m below meth c A ls hx hb hr hml hts hown hlocks hin hA hS hP hD hK hN hl
  have hl : lv_has ls 2 [(0, .ref h0), (1, .int 0)] := hl
  refine lv_aload_n hx hb dX3_keep_0 rfl (lv_at hl 0 rfl) ?_
  refine va_get (D := D) (ci := 3) (v := .ref h1) (C := RX3) (T := TX3) (N := 9) hx hb hts iuX3_keep_X3 hown hK hP 0 rfl rfl 8 (by decide) (hts (.fieldLink RX3 38 "StraitGame$Nights" "boxCount" "[I") (List.mem_of_getElem? (i := 1) rfl)) (fun _ h9 => h9) rfl dX3_keep_1 ?_
  refine lv_iload_n hx hb dX3_keep_4 rfl (lv_at hl 1 rfl) ?_
  refine lv_aload_n hx hb dX3_keep_5 rfl (lv_at hl 0 rfl) ?_
  refine va_get (D := D) (ci := 3) (v := .int 0) (C := RX3) (T := TX3) (N := 9) hx hb hts iuX3_keep_X3 hown hK hP 0 rfl rfl 0 (by decide) (hts (.fieldLink RX3 9 "StraitGame$Nights" "count" "I") (List.mem_of_getElem? (i := 2) rfl)) (fun _ h9 => h9) rfl dX3_keep_6 ?_
  refine va_iast hx hb hK hP hD hS 1 0 rfl rfl (z_in (by decide)) dX3_keep_9 (fun H locs hP hD hS => ?_)
  have hP : va_P D vwCl [(h0, .inr (3, [.int 0, .int 0, .ref r0, .ref r1, .ref r2, .ref r3, .ref r4, .ref r5, .ref h1])), (h1, .inl (k0, 3, .inl (upd f0 0 0)))] H := hP
  have hD : va_D A [(h0, .inr (3, [.int 0, .int 0, .ref r0, .ref r1, .ref r2, .ref r3, .ref r4, .ref r5, .ref h1])), (h1, .inl (k0, 3, .inl (upd f0 0 0)))] := hD
  refine lv_aload_n hx hb dX3_keep_10 rfl (lv_at hl 0 rfl) ?_
  refine lv_iconst (v := 0) hx hb dX3_keep_11 (by decide) ?_
  refine lv_iconst (v := 1) hx hb dX3_keep_12 (by decide) ?_
  refine lv_iload_n hx hb dX3_keep_13 rfl (lv_at hl 1 rfl) ?_
  refine lv_iadd hx hb dX3_keep_14 ?_
  refine z_top (y := 1) (by decide) ?_
  refine lv_bipush (v := 60) hx hb dX3_keep_15 (by decide) ?_
  refine lv_imul hx hb dX3_keep_17 ?_
  refine z_top (y := 60) (by decide) ?_
  refine lv_aload_n hx hb dX3_keep_18 rfl (lv_at hl 0 rfl) ?_
  refine va_get (D := D) (ci := 3) (v := .int 0) (C := RX3) (T := TX3) (N := 9) hx hb hts iuX3_keep_X3 hown hK hP 0 rfl rfl 0 (by decide) (hts (.fieldLink RX3 9 "StraitGame$Nights" "count" "I") (List.mem_of_getElem? (i := 2) rfl)) (fun _ h9 => h9) rfl dX3_keep_19 ?_
  refine zA_v (zR_V (As := [.int 0, .int 60, .int 0]) (rest := []) ⟨hx, hb, hml, hown, hts⟩ (zX3_copyNights_1 l D h0 r0 r1 r2 r3 r4 r5 h1 _) (cwV 3 hts gX3_keep_X3_copyNights rfl rfl rfl (by decide +kernel) ⟨(Nat.le_of_ble_eq_true rfl), (Nat.le_of_ble_eq_true rfl)⟩) hP hD hK hN [0] [] rfl (by decide) rfl 0 3 rfl rfl rfl hl.1 rfl (Nat.le_of_ble_eq_true rfl) dX3_keep_22 ⟨(Nat.le_of_ble_eq_true rfl), (Nat.le_of_ble_eq_true rfl)⟩) hP hD hK hS hA [0] [1] rfl rfl (by decide) (by decide) (fun u H locs hw hP hD hK hS => ?_)
  have hK : va_K D vwCl [(k0, .int)] s := hK
  have hP : va_P D vwCl [(h1, .inl (k0, 3, .inl (upd f0 0 0))), (h0, .inr (3, [.int 0, .int 0, .ref r0, .ref r1, .ref r2, .ref r3, .ref r4, .ref r5, .ref h1]))] H := hP
  have hD : va_D A [(h1, .inl (k0, 3, .inl (upd f0 0 0))), (h0, .inr (3, [.int 0, .int 0, .ref r0, .ref r1, .ref r2, .ref r3, .ref r4, .ref r5, .ref h1]))] := hD
  refine W.widen (k := 0) (n := 0) (Nat.le_of_ble_eq_true rfl) (Nat.le_of_ble_eq_true rfl) ?_
  refine lv_aload_n hx hb dX3_keep_25 rfl (lv_at hl 0 rfl) ?_
  refine va_get (D := D) (ci := 3) (v := .int 0) (C := RX3) (T := TX3) (N := 9) hx hb hts iuX3_keep_X3 hown hK hP 1 rfl rfl 0 (by decide) (hts (.fieldLink RX3 9 "StraitGame$Nights" "count" "I") (List.mem_of_getElem? (i := 2) rfl)) (fun _ h9 => h9) rfl dX3_keep_26 ?_
  exact zret_i hx hb hr hlocks hP hD hK hS () rfl [1, 0] [] (by decide) rfl rfl (Nat.le_of_ble_eq_true rfl) (Nat.le_of_ble_eq_true rfl) dX3_keep_29
set_option maxHeartbeats 4000000 in
set_option maxRecDepth 100000 in
theorem zX3_copyNights_2 (l : Launch) (D : va_G) (h0 r0 r1 r2 r3 r4 r5 r6 : Nat) (sz : Nat) : Met l yX3_copyNights wsX3_copyNights ({ frames := 0, cells := 0, slots := 0, locals := 0 }) (zPre D [.ref h0, .int 0, .int 120, .int 0] [(h0, .inr (3, [.int 0, .int 0, .ref r0, .ref r1, .ref r2, .ref r3, .ref r4, .ref r5, .ref r6]))] [] sz) ((fun A => va_Qv (fun (u : Unit) => match u with | _ => True) (zB D A (fun (u : Unit) => match u with | _ => [(h0, .inr (3, [.int 0, .int 0, .ref r0, .ref r1, .ref r2, .ref r3, .ref r4, .ref r5, .ref r6]))]) (fun (u : Unit) => match u with | _ => [])) A) (va_A [(h0, .inr (3, [.int 0, .int 0, .ref r0, .ref r1, .ref r2, .ref r3, .ref r4, .ref r5, .ref r6]))] sz)) 0 0 (va_A [(h0, .inr (3, [.int 0, .int 0, .ref r0, .ref r1, .ref r2, .ref r3, .ref r4, .ref r5, .ref r6]))] sz) := by
  refine zOfW (QF := fun A => va_Qv (fun (u : Unit) => match u with | _ => True) (zB D A (fun (u : Unit) => match u with | _ => [(h0, .inr (3, [.int 0, .int 0, .ref r0, .ref r1, .ref r2, .ref r3, .ref r4, .ref r5, .ref r6]))]) (fun (u : Unit) => match u with | _ => [])) A) (cc := cX3_copyNights) (maxL := 5) (ret := none) (by decide) rfl (Nat.le_of_ble_eq_true rfl) ?_
  intro p e s m below meth c A ls hx hb hr hml hts hown hlocks hin hA hS hP hD hK hN hl
  have hl : lv_has ls 5 [(0, .ref h0), (1, .int 0), (2, .int 120), (3, .int 0)] := hl
  refine lv_iconst (v := 0) hx hb dX3_copyNights_0 (by decide) ?_
  refine lv_istore (lv' := [(4, .int 0), (0, .ref h0), (1, .int 0), (2, .int 120), (3, .int 0)]) hx hb dX3_copyNights_1 hl (by decide) rfl (fun ls hl => ?_)
  refine lv_iload hx hb dX3_copyNights_3 (lv_at hl 0 rfl) ?_
  refine lv_iload_n hx hb dX3_copyNights_5 rfl (lv_at hl 4 rfl) ?_
  refine lv_icmp_ge (tgt := 76) hx hb dX3_copyNights_6 (by decide) (fun _ => ?_) (fun h9 => absurd (by decide) h9)
  exact zret_v hx hb hr hlocks hP hD hK hS () trivial [0] [] (by decide) rfl rfl (Nat.le_of_ble_eq_true rfl) (Nat.le_of_ble_eq_true rfl) dX3_copyNights_76
set_option maxHeartbeats 4000000 in
set_option maxRecDepth 100000 in
theorem zX3_keep_2 (l : Launch) (D : va_G) (h0 h1 r0 r1 r2 r3 r4 r5 : Nat) (k0 : ClassId) (f0 : Nat → Int32) (sz : Nat) (hf_f0_0 : f0 0 = (-1)) (hf_f0_1 : f0 1 = (-1)) (hf_f0_2 : f0 2 = (-1)) : Met l yX3_keep wsX3_keep ({ frames := 1, cells := 0, slots := 0, locals := 24 }) (zPre D [.ref h0, .int 1] [(h0, .inr (3, [.int 0, .int 0, .ref r0, .ref r1, .ref r2, .ref r3, .ref r4, .ref r5, .ref h1])), (h1, .inl (k0, 3, .inl f0))] [(k0, .int)] sz) ((fun A => va_Qi (fun (r : Int32) (u : Unit) => r = 0) (zB D A (fun (u : Unit) => match u with | _ => [(h0, .inr (3, [.int 0, .int 0, .ref r0, .ref r1, .ref r2, .ref r3, .ref r4, .ref r5, .ref h1])), (h1, .inl (k0, 3, .inl (upd f0 1 0)))]) (fun (u : Unit) => match u with | _ => [])) A) (va_A [(h0, .inr (3, [.int 0, .int 0, .ref r0, .ref r1, .ref r2, .ref r3, .ref r4, .ref r5, .ref h1])), (h1, .inl (k0, 3, .inl f0))] sz)) 0 0 (va_A [(h0, .inr (3, [.int 0, .int 0, .ref r0, .ref r1, .ref r2, .ref r3, .ref r4, .ref r5, .ref h1])), (h1, .inl (k0, 3, .inl f0))] sz) := by
  refine zOfW (QF := fun A => va_Qi (fun (r : Int32) (u : Unit) => r = 0) (zB D A (fun (u : Unit) => match u with | _ => [(h0, .inr (3, [.int 0, .int 0, .ref r0, .ref r1, .ref r2, .ref r3, .ref r4, .ref r5, .ref h1])), (h1, .inl (k0, 3, .inl (upd f0 1 0)))]) (fun (u : Unit) => match u with | _ => [])) A) (cc := cX3_keep) (maxL := 2) (ret := (some .int)) (by decide) rfl (Nat.le_of_ble_eq_true rfl) ?_
  intro p e s m below meth c A ls hx hb hr hml hts hown hlocks hin hA hS hP hD hK hN hl
  have hl : lv_has ls 2 [(0, .ref h0), (1, .int 1)] := hl
  refine lv_aload_n hx hb dX3_keep_0 rfl (lv_at hl 0 rfl) ?_
  refine va_get (D := D) (ci := 3) (v := .ref h1) (C := RX3) (T := TX3) (N := 9) hx hb hts iuX3_keep_X3 hown hK hP 0 rfl rfl 8 (by decide) (hts (.fieldLink RX3 38 "StraitGame$Nights" "boxCount" "[I") (List.mem_of_getElem? (i := 1) rfl)) (fun _ h9 => h9) rfl dX3_keep_1 ?_
  refine lv_iload_n hx hb dX3_keep_4 rfl (lv_at hl 1 rfl) ?_
  refine lv_aload_n hx hb dX3_keep_5 rfl (lv_at hl 0 rfl) ?_
  refine va_get (D := D) (ci := 3) (v := .int 0) (C := RX3) (T := TX3) (N := 9) hx hb hts iuX3_keep_X3 hown hK hP 0 rfl rfl 0 (by decide) (hts (.fieldLink RX3 9 "StraitGame$Nights" "count" "I") (List.mem_of_getElem? (i := 2) rfl)) (fun _ h9 => h9) rfl dX3_keep_6 ?_
  refine va_iast hx hb hK hP hD hS 1 0 rfl rfl (z_in (by decide)) dX3_keep_9 (fun H locs hP hD hS => ?_)
  have hP : va_P D vwCl [(h0, .inr (3, [.int 0, .int 0, .ref r0, .ref r1, .ref r2, .ref r3, .ref r4, .ref r5, .ref h1])), (h1, .inl (k0, 3, .inl (upd f0 1 0)))] H := hP
  have hD : va_D A [(h0, .inr (3, [.int 0, .int 0, .ref r0, .ref r1, .ref r2, .ref r3, .ref r4, .ref r5, .ref h1])), (h1, .inl (k0, 3, .inl (upd f0 1 0)))] := hD
  refine lv_aload_n hx hb dX3_keep_10 rfl (lv_at hl 0 rfl) ?_
  refine lv_iconst (v := 0) hx hb dX3_keep_11 (by decide) ?_
  refine lv_iconst (v := 1) hx hb dX3_keep_12 (by decide) ?_
  refine lv_iload_n hx hb dX3_keep_13 rfl (lv_at hl 1 rfl) ?_
  refine lv_iadd hx hb dX3_keep_14 ?_
  refine z_top (y := 2) (by decide) ?_
  refine lv_bipush (v := 60) hx hb dX3_keep_15 (by decide) ?_
  refine lv_imul hx hb dX3_keep_17 ?_
  refine z_top (y := 120) (by decide) ?_
  refine lv_aload_n hx hb dX3_keep_18 rfl (lv_at hl 0 rfl) ?_
  refine va_get (D := D) (ci := 3) (v := .int 0) (C := RX3) (T := TX3) (N := 9) hx hb hts iuX3_keep_X3 hown hK hP 0 rfl rfl 0 (by decide) (hts (.fieldLink RX3 9 "StraitGame$Nights" "count" "I") (List.mem_of_getElem? (i := 2) rfl)) (fun _ h9 => h9) rfl dX3_keep_19 ?_
  refine zA_v (zR_V (As := [.int 0, .int 120, .int 0]) (rest := []) ⟨hx, hb, hml, hown, hts⟩ (zX3_copyNights_2 l D h0 r0 r1 r2 r3 r4 r5 h1 _) (cwV 3 hts gX3_keep_X3_copyNights rfl rfl rfl (by decide +kernel) ⟨(Nat.le_of_ble_eq_true rfl), (Nat.le_of_ble_eq_true rfl)⟩) hP hD hK hN [0] [] rfl (by decide) rfl 0 3 rfl rfl rfl hl.1 rfl (Nat.le_of_ble_eq_true rfl) dX3_keep_22 ⟨(Nat.le_of_ble_eq_true rfl), (Nat.le_of_ble_eq_true rfl)⟩) hP hD hK hS hA [0] [1] rfl rfl (by decide) (by decide) (fun u H locs hw hP hD hK hS => ?_)
  have hK : va_K D vwCl [(k0, .int)] s := hK
  have hP : va_P D vwCl [(h1, .inl (k0, 3, .inl (upd f0 1 0))), (h0, .inr (3, [.int 0, .int 0, .ref r0, .ref r1, .ref r2, .ref r3, .ref r4, .ref r5, .ref h1]))] H := hP
  have hD : va_D A [(h1, .inl (k0, 3, .inl (upd f0 1 0))), (h0, .inr (3, [.int 0, .int 0, .ref r0, .ref r1, .ref r2, .ref r3, .ref r4, .ref r5, .ref h1]))] := hD
  refine W.widen (k := 0) (n := 0) (Nat.le_of_ble_eq_true rfl) (Nat.le_of_ble_eq_true rfl) ?_
  refine lv_aload_n hx hb dX3_keep_25 rfl (lv_at hl 0 rfl) ?_
  refine va_get (D := D) (ci := 3) (v := .int 0) (C := RX3) (T := TX3) (N := 9) hx hb hts iuX3_keep_X3 hown hK hP 1 rfl rfl 0 (by decide) (hts (.fieldLink RX3 9 "StraitGame$Nights" "count" "I") (List.mem_of_getElem? (i := 2) rfl)) (fun _ h9 => h9) rfl dX3_keep_26 ?_
  exact zret_i hx hb hr hlocks hP hD hK hS () rfl [1, 0] [] (by decide) rfl rfl (Nat.le_of_ble_eq_true rfl) (Nat.le_of_ble_eq_true rfl) dX3_keep_29
set_option maxHeartbeats 4000000 in
set_option maxRecDepth 100000 in
theorem zX3_copyNights_3 (l : Launch) (D : va_G) (h0 r0 r1 r2 r3 r4 r5 r6 : Nat) (sz : Nat) : Met l yX3_copyNights wsX3_copyNights ({ frames := 0, cells := 0, slots := 0, locals := 0 }) (zPre D [.ref h0, .int 0, .int 180, .int 0] [(h0, .inr (3, [.int 0, .int 0, .ref r0, .ref r1, .ref r2, .ref r3, .ref r4, .ref r5, .ref r6]))] [] sz) ((fun A => va_Qv (fun (u : Unit) => match u with | _ => True) (zB D A (fun (u : Unit) => match u with | _ => [(h0, .inr (3, [.int 0, .int 0, .ref r0, .ref r1, .ref r2, .ref r3, .ref r4, .ref r5, .ref r6]))]) (fun (u : Unit) => match u with | _ => [])) A) (va_A [(h0, .inr (3, [.int 0, .int 0, .ref r0, .ref r1, .ref r2, .ref r3, .ref r4, .ref r5, .ref r6]))] sz)) 0 0 (va_A [(h0, .inr (3, [.int 0, .int 0, .ref r0, .ref r1, .ref r2, .ref r3, .ref r4, .ref r5, .ref r6]))] sz) := by
  refine zOfW (QF := fun A => va_Qv (fun (u : Unit) => match u with | _ => True) (zB D A (fun (u : Unit) => match u with | _ => [(h0, .inr (3, [.int 0, .int 0, .ref r0, .ref r1, .ref r2, .ref r3, .ref r4, .ref r5, .ref r6]))]) (fun (u : Unit) => match u with | _ => [])) A) (cc := cX3_copyNights) (maxL := 5) (ret := none) (by decide) rfl (Nat.le_of_ble_eq_true rfl) ?_
  intro p e s m below meth c A ls hx hb hr hml hts hown hlocks hin hA hS hP hD hK hN hl
  have hl : lv_has ls 5 [(0, .ref h0), (1, .int 0), (2, .int 180), (3, .int 0)] := hl
  refine lv_iconst (v := 0) hx hb dX3_copyNights_0 (by decide) ?_
  refine lv_istore (lv' := [(4, .int 0), (0, .ref h0), (1, .int 0), (2, .int 180), (3, .int 0)]) hx hb dX3_copyNights_1 hl (by decide) rfl (fun ls hl => ?_)
  refine lv_iload hx hb dX3_copyNights_3 (lv_at hl 0 rfl) ?_
  refine lv_iload_n hx hb dX3_copyNights_5 rfl (lv_at hl 4 rfl) ?_
  refine lv_icmp_ge (tgt := 76) hx hb dX3_copyNights_6 (by decide) (fun _ => ?_) (fun h9 => absurd (by decide) h9)
  exact zret_v hx hb hr hlocks hP hD hK hS () trivial [0] [] (by decide) rfl rfl (Nat.le_of_ble_eq_true rfl) (Nat.le_of_ble_eq_true rfl) dX3_copyNights_76
set_option maxHeartbeats 4000000 in
set_option maxRecDepth 100000 in
theorem zX3_keep_3 (l : Launch) (D : va_G) (h0 h1 r0 r1 r2 r3 r4 r5 : Nat) (k0 : ClassId) (f0 : Nat → Int32) (sz : Nat) (hf_f0_0 : f0 0 = (-1)) (hf_f0_1 : f0 1 = (-1)) (hf_f0_2 : f0 2 = (-1)) : Met l yX3_keep wsX3_keep ({ frames := 1, cells := 0, slots := 0, locals := 24 }) (zPre D [.ref h0, .int 2] [(h0, .inr (3, [.int 0, .int 0, .ref r0, .ref r1, .ref r2, .ref r3, .ref r4, .ref r5, .ref h1])), (h1, .inl (k0, 3, .inl f0))] [(k0, .int)] sz) ((fun A => va_Qi (fun (r : Int32) (u : Unit) => r = 0) (zB D A (fun (u : Unit) => match u with | _ => [(h0, .inr (3, [.int 0, .int 0, .ref r0, .ref r1, .ref r2, .ref r3, .ref r4, .ref r5, .ref h1])), (h1, .inl (k0, 3, .inl (upd f0 2 0)))]) (fun (u : Unit) => match u with | _ => [])) A) (va_A [(h0, .inr (3, [.int 0, .int 0, .ref r0, .ref r1, .ref r2, .ref r3, .ref r4, .ref r5, .ref h1])), (h1, .inl (k0, 3, .inl f0))] sz)) 0 0 (va_A [(h0, .inr (3, [.int 0, .int 0, .ref r0, .ref r1, .ref r2, .ref r3, .ref r4, .ref r5, .ref h1])), (h1, .inl (k0, 3, .inl f0))] sz) := by
  refine zOfW (QF := fun A => va_Qi (fun (r : Int32) (u : Unit) => r = 0) (zB D A (fun (u : Unit) => match u with | _ => [(h0, .inr (3, [.int 0, .int 0, .ref r0, .ref r1, .ref r2, .ref r3, .ref r4, .ref r5, .ref h1])), (h1, .inl (k0, 3, .inl (upd f0 2 0)))]) (fun (u : Unit) => match u with | _ => [])) A) (cc := cX3_keep) (maxL := 2) (ret := (some .int)) (by decide) rfl (Nat.le_of_ble_eq_true rfl) ?_
  intro p e s m below meth c A ls hx hb hr hml hts hown hlocks hin hA hS hP hD hK hN hl
  have hl : lv_has ls 2 [(0, .ref h0), (1, .int 2)] := hl
  refine lv_aload_n hx hb dX3_keep_0 rfl (lv_at hl 0 rfl) ?_
  refine va_get (D := D) (ci := 3) (v := .ref h1) (C := RX3) (T := TX3) (N := 9) hx hb hts iuX3_keep_X3 hown hK hP 0 rfl rfl 8 (by decide) (hts (.fieldLink RX3 38 "StraitGame$Nights" "boxCount" "[I") (List.mem_of_getElem? (i := 1) rfl)) (fun _ h9 => h9) rfl dX3_keep_1 ?_
  refine lv_iload_n hx hb dX3_keep_4 rfl (lv_at hl 1 rfl) ?_
  refine lv_aload_n hx hb dX3_keep_5 rfl (lv_at hl 0 rfl) ?_
  refine va_get (D := D) (ci := 3) (v := .int 0) (C := RX3) (T := TX3) (N := 9) hx hb hts iuX3_keep_X3 hown hK hP 0 rfl rfl 0 (by decide) (hts (.fieldLink RX3 9 "StraitGame$Nights" "count" "I") (List.mem_of_getElem? (i := 2) rfl)) (fun _ h9 => h9) rfl dX3_keep_6 ?_
  refine va_iast hx hb hK hP hD hS 1 0 rfl rfl (z_in (by decide)) dX3_keep_9 (fun H locs hP hD hS => ?_)
  have hP : va_P D vwCl [(h0, .inr (3, [.int 0, .int 0, .ref r0, .ref r1, .ref r2, .ref r3, .ref r4, .ref r5, .ref h1])), (h1, .inl (k0, 3, .inl (upd f0 2 0)))] H := hP
  have hD : va_D A [(h0, .inr (3, [.int 0, .int 0, .ref r0, .ref r1, .ref r2, .ref r3, .ref r4, .ref r5, .ref h1])), (h1, .inl (k0, 3, .inl (upd f0 2 0)))] := hD
  refine lv_aload_n hx hb dX3_keep_10 rfl (lv_at hl 0 rfl) ?_
  refine lv_iconst (v := 0) hx hb dX3_keep_11 (by decide) ?_
  refine lv_iconst (v := 1) hx hb dX3_keep_12 (by decide) ?_
  refine lv_iload_n hx hb dX3_keep_13 rfl (lv_at hl 1 rfl) ?_
  refine lv_iadd hx hb dX3_keep_14 ?_
  refine z_top (y := 3) (by decide) ?_
  refine lv_bipush (v := 60) hx hb dX3_keep_15 (by decide) ?_
  refine lv_imul hx hb dX3_keep_17 ?_
  refine z_top (y := 180) (by decide) ?_
  refine lv_aload_n hx hb dX3_keep_18 rfl (lv_at hl 0 rfl) ?_
  refine va_get (D := D) (ci := 3) (v := .int 0) (C := RX3) (T := TX3) (N := 9) hx hb hts iuX3_keep_X3 hown hK hP 0 rfl rfl 0 (by decide) (hts (.fieldLink RX3 9 "StraitGame$Nights" "count" "I") (List.mem_of_getElem? (i := 2) rfl)) (fun _ h9 => h9) rfl dX3_keep_19 ?_
  refine zA_v (zR_V (As := [.int 0, .int 180, .int 0]) (rest := []) ⟨hx, hb, hml, hown, hts⟩ (zX3_copyNights_3 l D h0 r0 r1 r2 r3 r4 r5 h1 _) (cwV 3 hts gX3_keep_X3_copyNights rfl rfl rfl (by decide +kernel) ⟨(Nat.le_of_ble_eq_true rfl), (Nat.le_of_ble_eq_true rfl)⟩) hP hD hK hN [0] [] rfl (by decide) rfl 0 3 rfl rfl rfl hl.1 rfl (Nat.le_of_ble_eq_true rfl) dX3_keep_22 ⟨(Nat.le_of_ble_eq_true rfl), (Nat.le_of_ble_eq_true rfl)⟩) hP hD hK hS hA [0] [1] rfl rfl (by decide) (by decide) (fun u H locs hw hP hD hK hS => ?_)
  have hK : va_K D vwCl [(k0, .int)] s := hK
  have hP : va_P D vwCl [(h1, .inl (k0, 3, .inl (upd f0 2 0))), (h0, .inr (3, [.int 0, .int 0, .ref r0, .ref r1, .ref r2, .ref r3, .ref r4, .ref r5, .ref h1]))] H := hP
  have hD : va_D A [(h1, .inl (k0, 3, .inl (upd f0 2 0))), (h0, .inr (3, [.int 0, .int 0, .ref r0, .ref r1, .ref r2, .ref r3, .ref r4, .ref r5, .ref h1]))] := hD
  refine W.widen (k := 0) (n := 0) (Nat.le_of_ble_eq_true rfl) (Nat.le_of_ble_eq_true rfl) ?_
  refine lv_aload_n hx hb dX3_keep_25 rfl (lv_at hl 0 rfl) ?_
  refine va_get (D := D) (ci := 3) (v := .int 0) (C := RX3) (T := TX3) (N := 9) hx hb hts iuX3_keep_X3 hown hK hP 1 rfl rfl 0 (by decide) (hts (.fieldLink RX3 9 "StraitGame$Nights" "count" "I") (List.mem_of_getElem? (i := 2) rfl)) (fun _ h9 => h9) rfl dX3_keep_26 ?_
  exact zret_i hx hb hr hlocks hP hD hK hS () rfl [1, 0] [] (by decide) rfl rfl (Nat.le_of_ble_eq_true rfl) (Nat.le_of_ble_eq_true rfl) dX3_keep_29
set_option maxHeartbeats 4000000 in
set_option maxRecDepth 100000 in
theorem aX11_image_c1 (l : Launch) (D : va_G) (h0 h1 h2 r0 r1 r2 r3 r4 r5 r6 r7 r8 r9 r10 r11 r12 r13 r14 : Nat) (k0 : ClassId) (f0 : Nat → Int32) (x0 : Int32) (sz : Nat) (hf_f0_0 : f0 0 = (-1)) (hf_f0_1 : f0 1 = (-1)) (hf_f0_2 : f0 2 = (-1)) (hx0 : -2147483648 ≤ x0.toInt ∧ x0.toInt ≤ -1) : Met l yX11_image wsX11_image ({ frames := 2, cells := 0, slots := 0, locals := 45 }) (zPre D [.ref h0, .int x0] [(h0, .inr (11, [.ref r0, .int 0, .ref r1, .ref r2, .ref r3, .ref r4, .ref r5, .ref h1, .ref r6, .ref r7, .ref r8, .ref r9])), (h1, .inr (3, [.int 0, .int 0, .ref r10, .ref r11, .ref r12, .ref r13, .ref r4, .ref r14, .ref h2])), (h2, .inl (k0, 3, .inl f0))] [(k0, .int)] sz) ((fun A => va_Qi (fun (r : Int32) (u : Unit) => r = (an_image x0)) (zB D A (fun (u : Unit) => match u with | _ => []) (fun (u : Unit) => match u with | _ => [])) A) (va_A [(h0, .inr (11, [.ref r0, .int 0, .ref r1, .ref r2, .ref r3, .ref r4, .ref r5, .ref h1, .ref r6, .ref r7, .ref r8, .ref r9])), (h1, .inr (3, [.int 0, .int 0, .ref r10, .ref r11, .ref r12, .ref r13, .ref r4, .ref r14, .ref h2])), (h2, .inl (k0, 3, .inl f0))] sz)) 0 0 (va_A [(h0, .inr (11, [.ref r0, .int 0, .ref r1, .ref r2, .ref r3, .ref r4, .ref r5, .ref h1, .ref r6, .ref r7, .ref r8, .ref r9])), (h1, .inr (3, [.int 0, .int 0, .ref r10, .ref r11, .ref r12, .ref r13, .ref r4, .ref r14, .ref h2])), (h2, .inl (k0, 3, .inl f0))] sz) := by
  refine zOfW (QF := fun A => va_Qi (fun (r : Int32) (u : Unit) => r = (an_image x0)) (zB D A (fun (u : Unit) => match u with | _ => []) (fun (u : Unit) => match u with | _ => [])) A) (cc := cX11_image) (maxL := 2) (ret := (some .int)) (by decide) rfl (Nat.le_of_ble_eq_true rfl) ?_
  intro p e s m below meth c A ls hx hb hr hml hts hown hlocks hin hA hS hP hD hK hN hl
  have hl : lv_has ls 2 [(0, .ref h0), (1, .int x0)] := hl
  refine lv_iload_n hx hb dX11_image_0 rfl (lv_at hl 1 rfl) ?_
  refine lv_if_lt (tgt := 20) hx hb dX11_image_1 (by decide) (fun _ => ?_) (fun h9 => absurd (z_cmp (show (x0 : Int32) < 0 from by simp only [fa_lt, fa_le, fa_eq, zk_0]; have := hx0; omega)) h9)
  refine lv_iconst (v := (-1)) hx hb dX11_image_20 (by decide) ?_
  exact zret_i hx hb hr hlocks hP hD hK hS () ((if_neg (by have := hx0; omega)).symm) [] [] (by decide) rfl rfl (Nat.le_of_ble_eq_true rfl) (Nat.le_of_ble_eq_true rfl) dX11_image_21
set_option maxHeartbeats 4000000 in
set_option maxRecDepth 100000 in
theorem aX11_image_c2 (l : Launch) (D : va_G) (h0 h1 h2 r0 r1 r2 r3 r4 r5 r6 r7 r8 r9 r10 r11 r12 r13 r14 : Nat) (k0 : ClassId) (f0 : Nat → Int32) (sz : Nat) (hf_f0_0 : f0 0 = (-1)) (hf_f0_1 : f0 1 = (-1)) (hf_f0_2 : f0 2 = (-1)) : Met l yX11_image wsX11_image ({ frames := 2, cells := 0, slots := 0, locals := 45 }) (zPre D [.ref h0, .int 0] [(h0, .inr (11, [.ref r0, .int 0, .ref r1, .ref r2, .ref r3, .ref r4, .ref r5, .ref h1, .ref r6, .ref r7, .ref r8, .ref r9])), (h1, .inr (3, [.int 0, .int 0, .ref r10, .ref r11, .ref r12, .ref r13, .ref r4, .ref r14, .ref h2])), (h2, .inl (k0, 3, .inl f0))] [(k0, .int)] sz) ((fun A => va_Qi (fun (r : Int32) (u : Unit) => r = (an_image 0)) (zB D A (fun (u : Unit) => match u with | _ => []) (fun (u : Unit) => match u with | _ => [])) A) (va_A [(h0, .inr (11, [.ref r0, .int 0, .ref r1, .ref r2, .ref r3, .ref r4, .ref r5, .ref h1, .ref r6, .ref r7, .ref r8, .ref r9])), (h1, .inr (3, [.int 0, .int 0, .ref r10, .ref r11, .ref r12, .ref r13, .ref r4, .ref r14, .ref h2])), (h2, .inl (k0, 3, .inl f0))] sz)) 0 0 (va_A [(h0, .inr (11, [.ref r0, .int 0, .ref r1, .ref r2, .ref r3, .ref r4, .ref r5, .ref h1, .ref r6, .ref r7, .ref r8, .ref r9])), (h1, .inr (3, [.int 0, .int 0, .ref r10, .ref r11, .ref r12, .ref r13, .ref r4, .ref r14, .ref h2])), (h2, .inl (k0, 3, .inl f0))] sz) := by
  refine zOfW (QF := fun A => va_Qi (fun (r : Int32) (u : Unit) => r = (an_image 0)) (zB D A (fun (u : Unit) => match u with | _ => []) (fun (u : Unit) => match u with | _ => [])) A) (cc := cX11_image) (maxL := 2) (ret := (some .int)) (by decide) rfl (Nat.le_of_ble_eq_true rfl) ?_
  intro p e s m below meth c A ls hx hb hr hml hts hown hlocks hin hA hS hP hD hK hN hl
  have hl : lv_has ls 2 [(0, .ref h0), (1, .int 0)] := hl
  refine lv_iload_n hx hb dX11_image_0 rfl (lv_at hl 1 rfl) ?_
  refine lv_if_lt (tgt := 20) hx hb dX11_image_1 (by decide) (fun h9 => absurd h9 (by decide)) (fun _ => ?_)
  refine lv_iload_n hx hb dX11_image_4 rfl (lv_at hl 1 rfl) ?_
  refine lv_iconst (v := 3) hx hb dX11_image_5 (by decide) ?_
  refine lv_icmp_ge (tgt := 20) hx hb dX11_image_6 (by decide) (fun h9 => absurd h9 (by decide)) (fun _ => ?_)
  refine lv_aload_n hx hb dX11_image_9 rfl (lv_at hl 0 rfl) ?_
  refine va_get (D := D) (ci := 11) (v := .ref h1) (C := RX11) (T := TX11) (N := 12) hx hb hts iuX11_image_X11 hown hK hP 0 rfl rfl 7 (by decide) (hts (.fieldLink RX11 55 "StraitGame" "nights" "LStraitGame$Nights;") (List.mem_of_getElem? (i := 1) rfl)) (fun _ h9 => h9) rfl dX11_image_10 ?_
  refine lv_iload_n hx hb dX11_image_13 rfl (lv_at hl 1 rfl) ?_
  refine zA_i (zR_V (As := [.int 0]) (rest := []) ⟨hx, hb, hml, hown, hts⟩ (zX3_keep_1 l D h1 h2 r10 r11 r12 r13 r4 r14 k0 f0 _ (hf_f0_0) (hf_f0_1) (hf_f0_2)) (cwV 1 hts gX11_image_X3_keep rfl rfl rfl (by decide +kernel) ⟨(Nat.le_of_ble_eq_true rfl), (Nat.le_of_ble_eq_true rfl)⟩) hP hD hK hN [1, 2] [0] rfl (by decide) rfl 0 3 rfl rfl rfl hl.1 rfl (Nat.le_of_ble_eq_true rfl) dX11_image_14 ⟨(Nat.le_of_ble_eq_true rfl), (Nat.le_of_ble_eq_true rfl)⟩) hP hD hK hS hA [1, 2] [0] rfl rfl (by decide) (by decide) (fun r_512 u H locs hw hP hD hK hS => ?_)
  have hK : va_K D vwCl [(k0, .int)] s := hK
  have hP : va_P D vwCl [(h0, .inr (11, [.ref r0, .int 0, .ref r1, .ref r2, .ref r3, .ref r4, .ref r5, .ref h1, .ref r6, .ref r7, .ref r8, .ref r9])), (h1, .inr (3, [.int 0, .int 0, .ref r10, .ref r11, .ref r12, .ref r13, .ref r4, .ref r14, .ref h2])), (h2, .inl (k0, 3, .inl (upd f0 0 0)))] H := hP
  have hD : va_D A [(h0, .inr (11, [.ref r0, .int 0, .ref r1, .ref r2, .ref r3, .ref r4, .ref r5, .ref h1, .ref r6, .ref r7, .ref r8, .ref r9])), (h1, .inr (3, [.int 0, .int 0, .ref r10, .ref r11, .ref r12, .ref r13, .ref r4, .ref r14, .ref h2])), (h2, .inl (k0, 3, .inl (upd f0 0 0)))] := hD
  refine W.widen (k := 0) (n := 0) (Nat.le_of_ble_eq_true rfl) (Nat.le_of_ble_eq_true rfl) ?_
  have er : r_512 = 0 := hw
  refine z_top (y := 0) er ?_
  refine lv_goto (tgt := 21) hx hb dX11_image_17 (by decide) ?_
  exact zret_i hx hb hr hlocks hP hD hK hS () (by decide) [] [] (by decide) rfl rfl (Nat.le_of_ble_eq_true rfl) (Nat.le_of_ble_eq_true rfl) dX11_image_21
set_option maxHeartbeats 4000000 in
set_option maxRecDepth 100000 in
theorem aX11_image_c3 (l : Launch) (D : va_G) (h0 h1 h2 r0 r1 r2 r3 r4 r5 r6 r7 r8 r9 r10 r11 r12 r13 r14 : Nat) (k0 : ClassId) (f0 : Nat → Int32) (sz : Nat) (hf_f0_0 : f0 0 = (-1)) (hf_f0_1 : f0 1 = (-1)) (hf_f0_2 : f0 2 = (-1)) : Met l yX11_image wsX11_image ({ frames := 2, cells := 0, slots := 0, locals := 45 }) (zPre D [.ref h0, .int 1] [(h0, .inr (11, [.ref r0, .int 0, .ref r1, .ref r2, .ref r3, .ref r4, .ref r5, .ref h1, .ref r6, .ref r7, .ref r8, .ref r9])), (h1, .inr (3, [.int 0, .int 0, .ref r10, .ref r11, .ref r12, .ref r13, .ref r4, .ref r14, .ref h2])), (h2, .inl (k0, 3, .inl f0))] [(k0, .int)] sz) ((fun A => va_Qi (fun (r : Int32) (u : Unit) => r = (an_image 1)) (zB D A (fun (u : Unit) => match u with | _ => []) (fun (u : Unit) => match u with | _ => [])) A) (va_A [(h0, .inr (11, [.ref r0, .int 0, .ref r1, .ref r2, .ref r3, .ref r4, .ref r5, .ref h1, .ref r6, .ref r7, .ref r8, .ref r9])), (h1, .inr (3, [.int 0, .int 0, .ref r10, .ref r11, .ref r12, .ref r13, .ref r4, .ref r14, .ref h2])), (h2, .inl (k0, 3, .inl f0))] sz)) 0 0 (va_A [(h0, .inr (11, [.ref r0, .int 0, .ref r1, .ref r2, .ref r3, .ref r4, .ref r5, .ref h1, .ref r6, .ref r7, .ref r8, .ref r9])), (h1, .inr (3, [.int 0, .int 0, .ref r10, .ref r11, .ref r12, .ref r13, .ref r4, .ref r14, .ref h2])), (h2, .inl (k0, 3, .inl f0))] sz) := by
  refine zOfW (QF := fun A => va_Qi (fun (r : Int32) (u : Unit) => r = (an_image 1)) (zB D A (fun (u : Unit) => match u with | _ => []) (fun (u : Unit) => match u with | _ => [])) A) (cc := cX11_image) (maxL := 2) (ret := (some .int)) (by decide) rfl (Nat.le_of_ble_eq_true rfl) ?_
  intro p e s m below meth c A ls hx hb hr hml hts hown hlocks hin hA hS hP hD hK hN hl
  have hl : lv_has ls 2 [(0, .ref h0), (1, .int 1)] := hl
  refine lv_iload_n hx hb dX11_image_0 rfl (lv_at hl 1 rfl) ?_
  refine lv_if_lt (tgt := 20) hx hb dX11_image_1 (by decide) (fun h9 => absurd h9 (by decide)) (fun _ => ?_)
  refine lv_iload_n hx hb dX11_image_4 rfl (lv_at hl 1 rfl) ?_
  refine lv_iconst (v := 3) hx hb dX11_image_5 (by decide) ?_
  refine lv_icmp_ge (tgt := 20) hx hb dX11_image_6 (by decide) (fun h9 => absurd h9 (by decide)) (fun _ => ?_)
  refine lv_aload_n hx hb dX11_image_9 rfl (lv_at hl 0 rfl) ?_
  refine va_get (D := D) (ci := 11) (v := .ref h1) (C := RX11) (T := TX11) (N := 12) hx hb hts iuX11_image_X11 hown hK hP 0 rfl rfl 7 (by decide) (hts (.fieldLink RX11 55 "StraitGame" "nights" "LStraitGame$Nights;") (List.mem_of_getElem? (i := 1) rfl)) (fun _ h9 => h9) rfl dX11_image_10 ?_
  refine lv_iload_n hx hb dX11_image_13 rfl (lv_at hl 1 rfl) ?_
  refine zA_i (zR_V (As := [.int 1]) (rest := []) ⟨hx, hb, hml, hown, hts⟩ (zX3_keep_2 l D h1 h2 r10 r11 r12 r13 r4 r14 k0 f0 _ (hf_f0_0) (hf_f0_1) (hf_f0_2)) (cwV 1 hts gX11_image_X3_keep rfl rfl rfl (by decide +kernel) ⟨(Nat.le_of_ble_eq_true rfl), (Nat.le_of_ble_eq_true rfl)⟩) hP hD hK hN [1, 2] [0] rfl (by decide) rfl 0 3 rfl rfl rfl hl.1 rfl (Nat.le_of_ble_eq_true rfl) dX11_image_14 ⟨(Nat.le_of_ble_eq_true rfl), (Nat.le_of_ble_eq_true rfl)⟩) hP hD hK hS hA [1, 2] [0] rfl rfl (by decide) (by decide) (fun r_514 u H locs hw hP hD hK hS => ?_)
  have hK : va_K D vwCl [(k0, .int)] s := hK
  have hP : va_P D vwCl [(h0, .inr (11, [.ref r0, .int 0, .ref r1, .ref r2, .ref r3, .ref r4, .ref r5, .ref h1, .ref r6, .ref r7, .ref r8, .ref r9])), (h1, .inr (3, [.int 0, .int 0, .ref r10, .ref r11, .ref r12, .ref r13, .ref r4, .ref r14, .ref h2])), (h2, .inl (k0, 3, .inl (upd f0 1 0)))] H := hP
  have hD : va_D A [(h0, .inr (11, [.ref r0, .int 0, .ref r1, .ref r2, .ref r3, .ref r4, .ref r5, .ref h1, .ref r6, .ref r7, .ref r8, .ref r9])), (h1, .inr (3, [.int 0, .int 0, .ref r10, .ref r11, .ref r12, .ref r13, .ref r4, .ref r14, .ref h2])), (h2, .inl (k0, 3, .inl (upd f0 1 0)))] := hD
  refine W.widen (k := 0) (n := 0) (Nat.le_of_ble_eq_true rfl) (Nat.le_of_ble_eq_true rfl) ?_
  have er : r_514 = 0 := hw
  refine z_top (y := 0) er ?_
  refine lv_goto (tgt := 21) hx hb dX11_image_17 (by decide) ?_
  exact zret_i hx hb hr hlocks hP hD hK hS () (by decide) [] [] (by decide) rfl rfl (Nat.le_of_ble_eq_true rfl) (Nat.le_of_ble_eq_true rfl) dX11_image_21
set_option maxHeartbeats 4000000 in
set_option maxRecDepth 100000 in
theorem aX11_image_c4 (l : Launch) (D : va_G) (h0 h1 h2 r0 r1 r2 r3 r4 r5 r6 r7 r8 r9 r10 r11 r12 r13 r14 : Nat) (k0 : ClassId) (f0 : Nat → Int32) (sz : Nat) (hf_f0_0 : f0 0 = (-1)) (hf_f0_1 : f0 1 = (-1)) (hf_f0_2 : f0 2 = (-1)) : Met l yX11_image wsX11_image ({ frames := 2, cells := 0, slots := 0, locals := 45 }) (zPre D [.ref h0, .int 2] [(h0, .inr (11, [.ref r0, .int 0, .ref r1, .ref r2, .ref r3, .ref r4, .ref r5, .ref h1, .ref r6, .ref r7, .ref r8, .ref r9])), (h1, .inr (3, [.int 0, .int 0, .ref r10, .ref r11, .ref r12, .ref r13, .ref r4, .ref r14, .ref h2])), (h2, .inl (k0, 3, .inl f0))] [(k0, .int)] sz) ((fun A => va_Qi (fun (r : Int32) (u : Unit) => r = (an_image 2)) (zB D A (fun (u : Unit) => match u with | _ => []) (fun (u : Unit) => match u with | _ => [])) A) (va_A [(h0, .inr (11, [.ref r0, .int 0, .ref r1, .ref r2, .ref r3, .ref r4, .ref r5, .ref h1, .ref r6, .ref r7, .ref r8, .ref r9])), (h1, .inr (3, [.int 0, .int 0, .ref r10, .ref r11, .ref r12, .ref r13, .ref r4, .ref r14, .ref h2])), (h2, .inl (k0, 3, .inl f0))] sz)) 0 0 (va_A [(h0, .inr (11, [.ref r0, .int 0, .ref r1, .ref r2, .ref r3, .ref r4, .ref r5, .ref h1, .ref r6, .ref r7, .ref r8, .ref r9])), (h1, .inr (3, [.int 0, .int 0, .ref r10, .ref r11, .ref r12, .ref r13, .ref r4, .ref r14, .ref h2])), (h2, .inl (k0, 3, .inl f0))] sz) := by
  refine zOfW (QF := fun A => va_Qi (fun (r : Int32) (u : Unit) => r = (an_image 2)) (zB D A (fun (u : Unit) => match u with | _ => []) (fun (u : Unit) => match u with | _ => [])) A) (cc := cX11_image) (maxL := 2) (ret := (some .int)) (by decide) rfl (Nat.le_of_ble_eq_true rfl) ?_
  intro p e s m below meth c A ls hx hb hr hml hts hown hlocks hin hA hS hP hD hK hN hl
  have hl : lv_has ls 2 [(0, .ref h0), (1, .int 2)] := hl
  refine lv_iload_n hx hb dX11_image_0 rfl (lv_at hl 1 rfl) ?_
  refine lv_if_lt (tgt := 20) hx hb dX11_image_1 (by decide) (fun h9 => absurd h9 (by decide)) (fun _ => ?_)
  refine lv_iload_n hx hb dX11_image_4 rfl (lv_at hl 1 rfl) ?_
  refine lv_iconst (v := 3) hx hb dX11_image_5 (by decide) ?_
  refine lv_icmp_ge (tgt := 20) hx hb dX11_image_6 (by decide) (fun h9 => absurd h9 (by decide)) (fun _ => ?_)
  refine lv_aload_n hx hb dX11_image_9 rfl (lv_at hl 0 rfl) ?_
  refine va_get (D := D) (ci := 11) (v := .ref h1) (C := RX11) (T := TX11) (N := 12) hx hb hts iuX11_image_X11 hown hK hP 0 rfl rfl 7 (by decide) (hts (.fieldLink RX11 55 "StraitGame" "nights" "LStraitGame$Nights;") (List.mem_of_getElem? (i := 1) rfl)) (fun _ h9 => h9) rfl dX11_image_10 ?_
  refine lv_iload_n hx hb dX11_image_13 rfl (lv_at hl 1 rfl) ?_
  refine zA_i (zR_V (As := [.int 2]) (rest := []) ⟨hx, hb, hml, hown, hts⟩ (zX3_keep_3 l D h1 h2 r10 r11 r12 r13 r4 r14 k0 f0 _ (hf_f0_0) (hf_f0_1) (hf_f0_2)) (cwV 1 hts gX11_image_X3_keep rfl rfl rfl (by decide +kernel) ⟨(Nat.le_of_ble_eq_true rfl), (Nat.le_of_ble_eq_true rfl)⟩) hP hD hK hN [1, 2] [0] rfl (by decide) rfl 0 3 rfl rfl rfl hl.1 rfl (Nat.le_of_ble_eq_true rfl) dX11_image_14 ⟨(Nat.le_of_ble_eq_true rfl), (Nat.le_of_ble_eq_true rfl)⟩) hP hD hK hS hA [1, 2] [0] rfl rfl (by decide) (by decide) (fun r_516 u H locs hw hP hD hK hS => ?_)
  have hK : va_K D vwCl [(k0, .int)] s := hK
  have hP : va_P D vwCl [(h0, .inr (11, [.ref r0, .int 0, .ref r1, .ref r2, .ref r3, .ref r4, .ref r5, .ref h1, .ref r6, .ref r7, .ref r8, .ref r9])), (h1, .inr (3, [.int 0, .int 0, .ref r10, .ref r11, .ref r12, .ref r13, .ref r4, .ref r14, .ref h2])), (h2, .inl (k0, 3, .inl (upd f0 2 0)))] H := hP
  have hD : va_D A [(h0, .inr (11, [.ref r0, .int 0, .ref r1, .ref r2, .ref r3, .ref r4, .ref r5, .ref h1, .ref r6, .ref r7, .ref r8, .ref r9])), (h1, .inr (3, [.int 0, .int 0, .ref r10, .ref r11, .ref r12, .ref r13, .ref r4, .ref r14, .ref h2])), (h2, .inl (k0, 3, .inl (upd f0 2 0)))] := hD
  refine W.widen (k := 0) (n := 0) (Nat.le_of_ble_eq_true rfl) (Nat.le_of_ble_eq_true rfl) ?_
  have er : r_516 = 0 := hw
  refine z_top (y := 0) er ?_
  refine lv_goto (tgt := 21) hx hb dX11_image_17 (by decide) ?_
  exact zret_i hx hb hr hlocks hP hD hK hS () (by decide) [] [] (by decide) rfl rfl (Nat.le_of_ble_eq_true rfl) (Nat.le_of_ble_eq_true rfl) dX11_image_21
set_option maxHeartbeats 4000000 in
set_option maxRecDepth 100000 in
theorem aX11_image_c5 (l : Launch) (D : va_G) (h0 h1 h2 r0 r1 r2 r3 r4 r5 r6 r7 r8 r9 r10 r11 r12 r13 r14 : Nat) (k0 : ClassId) (f0 : Nat → Int32) (x0 : Int32) (sz : Nat) (hf_f0_0 : f0 0 = (-1)) (hf_f0_1 : f0 1 = (-1)) (hf_f0_2 : f0 2 = (-1)) (hx0 : 3 ≤ x0.toInt ∧ x0.toInt ≤ 2147483647) : Met l yX11_image wsX11_image ({ frames := 2, cells := 0, slots := 0, locals := 45 }) (zPre D [.ref h0, .int x0] [(h0, .inr (11, [.ref r0, .int 0, .ref r1, .ref r2, .ref r3, .ref r4, .ref r5, .ref h1, .ref r6, .ref r7, .ref r8, .ref r9])), (h1, .inr (3, [.int 0, .int 0, .ref r10, .ref r11, .ref r12, .ref r13, .ref r4, .ref r14, .ref h2])), (h2, .inl (k0, 3, .inl f0))] [(k0, .int)] sz) ((fun A => va_Qi (fun (r : Int32) (u : Unit) => r = (an_image x0)) (zB D A (fun (u : Unit) => match u with | _ => []) (fun (u : Unit) => match u with | _ => [])) A) (va_A [(h0, .inr (11, [.ref r0, .int 0, .ref r1, .ref r2, .ref r3, .ref r4, .ref r5, .ref h1, .ref r6, .ref r7, .ref r8, .ref r9])), (h1, .inr (3, [.int 0, .int 0, .ref r10, .ref r11, .ref r12, .ref r13, .ref r4, .ref r14, .ref h2])), (h2, .inl (k0, 3, .inl f0))] sz)) 0 0 (va_A [(h0, .inr (11, [.ref r0, .int 0, .ref r1, .ref r2, .ref r3, .ref r4, .ref r5, .ref h1, .ref r6, .ref r7, .ref r8, .ref r9])), (h1, .inr (3, [.int 0, .int 0, .ref r10, .ref r11, .ref r12, .ref r13, .ref r4, .ref r14, .ref h2])), (h2, .inl (k0, 3, .inl f0))] sz) := by
  refine zOfW (QF := fun A => va_Qi (fun (r : Int32) (u : Unit) => r = (an_image x0)) (zB D A (fun (u : Unit) => match u with | _ => []) (fun (u : Unit) => match u with | _ => [])) A) (cc := cX11_image) (maxL := 2) (ret := (some .int)) (by decide) rfl (Nat.le_of_ble_eq_true rfl) ?_
  intro p e s m below meth c A ls hx hb hr hml hts hown hlocks hin hA hS hP hD hK hN hl
  have hl : lv_has ls 2 [(0, .ref h0), (1, .int x0)] := hl
  refine lv_iload_n hx hb dX11_image_0 rfl (lv_at hl 1 rfl) ?_
  refine lv_if_lt (tgt := 20) hx hb dX11_image_1 (by decide) (fun h9 => absurd h9 (z_cmp (show ¬ ((x0 : Int32) < 0) from by simp only [fa_lt, fa_le, fa_eq, zk_0]; have := hx0; omega))) (fun _ => ?_)
  refine lv_iload_n hx hb dX11_image_4 rfl (lv_at hl 1 rfl) ?_
  refine lv_iconst (v := 3) hx hb dX11_image_5 (by decide) ?_
  refine lv_icmp_ge (tgt := 20) hx hb dX11_image_6 (by decide) (fun _ => ?_) (fun h9 => absurd (z_cmp (show (3 : Int32) ≤ x0 from by simp only [fa_lt, fa_le, fa_eq, zk_3]; have := hx0; omega)) h9)
  refine lv_iconst (v := (-1)) hx hb dX11_image_20 (by decide) ?_
  exact zret_i hx hb hr hlocks hP hD hK hS () ((if_neg (by have := hx0; omega)).symm) [] [] (by decide) rfl rfl (Nat.le_of_ble_eq_true rfl) (Nat.le_of_ble_eq_true rfl) dX11_image_21
theorem aX11_image (l : Launch) (D : va_G) (h0 h1 h2 r0 r1 r2 r3 r4 r5 r6 r7 r8 r9 r10 r11 r12 r13 r14 : Nat) (k0 : ClassId) (f0 : Nat → Int32) (x0 : Int32) (sz : Nat) (hf_f0_0 : f0 0 = (-1)) (hf_f0_1 : f0 1 = (-1)) (hf_f0_2 : f0 2 = (-1)) : Met l yX11_image wsX11_image ({ frames := 2, cells := 0, slots := 0, locals := 45 }) (zPre D [.ref h0, .int x0] [(h0, .inr (11, [.ref r0, .int 0, .ref r1, .ref r2, .ref r3, .ref r4, .ref r5, .ref h1, .ref r6, .ref r7, .ref r8, .ref r9])), (h1, .inr (3, [.int 0, .int 0, .ref r10, .ref r11, .ref r12, .ref r13, .ref r4, .ref r14, .ref h2])), (h2, .inl (k0, 3, .inl f0))] [(k0, .int)] sz) ((fun A => va_Qi (fun (r : Int32) (u : Unit) => r = (an_image x0)) (zB D A (fun (u : Unit) => match u with | _ => []) (fun (u : Unit) => match u with | _ => [])) A) (va_A [(h0, .inr (11, [.ref r0, .int 0, .ref r1, .ref r2, .ref r3, .ref r4, .ref r5, .ref h1, .ref r6, .ref r7, .ref r8, .ref r9])), (h1, .inr (3, [.int 0, .int 0, .ref r10, .ref r11, .ref r12, .ref r13, .ref r4, .ref r14, .ref h2])), (h2, .inl (k0, 3, .inl f0))] sz)) 0 0 (va_A [(h0, .inr (11, [.ref r0, .int 0, .ref r1, .ref r2, .ref r3, .ref r4, .ref r5, .ref h1, .ref r6, .ref r7, .ref r8, .ref r9])), (h1, .inr (3, [.int 0, .int 0, .ref r10, .ref r11, .ref r12, .ref r13, .ref r4, .ref r14, .ref h2])), (h2, .inl (k0, 3, .inl f0))] sz) := by
  rcases (show (-2147483648 ≤ x0.toInt ∧ x0.toInt ≤ -1) ∨ x0 = 0 ∨ x0 = 1 ∨ x0 = 2 ∨ (3 ≤ x0.toInt ∧ x0.toInt ≤ 2147483647) from by simp only [fa_eq, zk_0, zk_1, zk_2]; have := z_rng x0; omega) with b0 | rfl | rfl | rfl | b0
  ·
    exact aX11_image_c1 l D h0 h1 h2 r0 r1 r2 r3 r4 r5 r6 r7 r8 r9 r10 r11 r12 r13 r14 k0 f0 x0 _ hf_f0_0 hf_f0_1 hf_f0_2 b0
  ·
    exact aX11_image_c2 l D h0 h1 h2 r0 r1 r2 r3 r4 r5 r6 r7 r8 r9 r10 r11 r12 r13 r14 k0 f0  _ hf_f0_0 hf_f0_1 hf_f0_2 
  ·
    exact aX11_image_c3 l D h0 h1 h2 r0 r1 r2 r3 r4 r5 r6 r7 r8 r9 r10 r11 r12 r13 r14 k0 f0  _ hf_f0_0 hf_f0_1 hf_f0_2 
  ·
    exact aX11_image_c4 l D h0 h1 h2 r0 r1 r2 r3 r4 r5 r6 r7 r8 r9 r10 r11 r12 r13 r14 k0 f0  _ hf_f0_0 hf_f0_1 hf_f0_2 
  ·
    exact aX11_image_c5 l D h0 h1 h2 r0 r1 r2 r3 r4 r5 r6 r7 r8 r9 r10 r11 r12 r13 r14 k0 f0 x0 _ hf_f0_0 hf_f0_1 hf_f0_2 b0
set_option maxHeartbeats 4000000 in
set_option maxRecDepth 100000 in
theorem zX3_goBack_1 (l : Launch) (D : va_G) (h0 h1 r0 r1 r2 r3 r4 r5 : Nat) (k0 : ClassId) (f0 : Nat → Int32) (sz : Nat) (hf_f0_0 : f0 0 = (-1)) (hf_f0_1 : f0 1 = (-1)) (hf_f0_2 : f0 2 = (-1)) : Met l yX3_goBack wsX3_goBack ({ frames := 0, cells := 0, slots := 0, locals := 0 }) (zPre D [.ref h0, .int 0] [(h0, .inr (3, [.int 0, .int 0, .ref r0, .ref r1, .ref r2, .ref r3, .ref r4, .ref r5, .ref h1])), (h1, .inl (k0, 3, .inl f0))] [(k0, .int)] sz) ((fun A => va_Qi (fun (r : Int32) (u : Unit) => r = (-1)) (zB D A (fun (u : Unit) => match u with | _ => [(h0, .inr (3, [.int 0, .int 0, .ref r0, .ref r1, .ref r2, .ref r3, .ref r4, .ref r5, .ref h1])), (h1, .inl (k0, 3, .inl f0))]) (fun (u : Unit) => match u with | _ => [])) A) (va_A [(h0, .inr (3, [.int 0, .int 0, .ref r0, .ref r1, .ref r2, .ref r3, .ref r4, .ref r5, .ref h1])), (h1, .inl (k0, 3, .inl f0))] sz)) 0 0 (va_A [(h0, .inr (3, [.int 0, .int 0, .ref r0, .ref r1, .ref r2, .ref r3, .ref r4, .ref r5, .ref h1])), (h1, .inl (k0, 3, .inl f0))] sz) := by
  refine zOfW (QF := fun A => va_Qi (fun (r : Int32) (u : Unit) => r = (-1)) (zB D A (fun (u : Unit) => match u with | _ => [(h0, .inr (3, [.int 0, .int 0, .ref r0, .ref r1, .ref r2, .ref r3, .ref r4, .ref r5, .ref h1])), (h1, .inl (k0, 3, .inl f0))]) (fun (u : Unit) => match u with | _ => [])) A) (cc := cX3_goBack) (maxL := 3) (ret := (some .int)) (by decide) rfl (Nat.le_of_ble_eq_true rfl) ?_
  intro p e s m below meth c A ls hx hb hr hml hts hown hlocks hin hA hS hP hD hK hN hl
  have hl : lv_has ls 3 [(0, .ref h0), (1, .int 0)] := hl
  refine lv_aload_n hx hb dX3_goBack_0 rfl (lv_at hl 0 rfl) ?_
  refine va_get (D := D) (ci := 3) (v := .ref h1) (C := RX3) (T := TX3) (N := 9) hx hb hts iuX3_goBack_X3 hown hK hP 0 rfl rfl 8 (by decide) (hts (.fieldLink RX3 38 "StraitGame$Nights" "boxCount" "[I") (List.mem_of_getElem? (i := 1) rfl)) (fun _ h9 => h9) rfl dX3_goBack_1 ?_
  refine lv_iload_n hx hb dX3_goBack_4 rfl (lv_at hl 1 rfl) ?_
  refine va_iald hx hb hK hP 1 0 rfl rfl (z_in (by decide)) dX3_goBack_5 ?_
  refine z_top (y := (-1)) ((congrArg f0 (show Int32.toNatClampNeg 0 = 0 from by decide)).trans hf_f0_0) ?_
  refine lv_iconst (v := (-1)) hx hb dX3_goBack_6 (by decide) ?_
  refine lv_icmp_ne (tgt := 12) hx hb dX3_goBack_7 (by decide) (fun h9 => absurd (by decide) h9) (fun _ => ?_)
  refine lv_iconst (v := (-1)) hx hb dX3_goBack_10 (by decide) ?_
  exact zret_i hx hb hr hlocks hP hD hK hS () rfl [0, 1] [] (by decide) rfl rfl (Nat.le_of_ble_eq_true rfl) (Nat.le_of_ble_eq_true rfl) dX3_goBack_11
set_option maxHeartbeats 4000000 in
set_option maxRecDepth 100000 in
theorem zX3_goBack_2 (l : Launch) (D : va_G) (h0 h1 r0 r1 r2 r3 r4 r5 : Nat) (k0 : ClassId) (f0 : Nat → Int32) (sz : Nat) (hf_f0_0 : f0 0 = (-1)) (hf_f0_1 : f0 1 = (-1)) (hf_f0_2 : f0 2 = (-1)) : Met l yX3_goBack wsX3_goBack ({ frames := 0, cells := 0, slots := 0, locals := 0 }) (zPre D [.ref h0, .int 1] [(h0, .inr (3, [.int 0, .int 0, .ref r0, .ref r1, .ref r2, .ref r3, .ref r4, .ref r5, .ref h1])), (h1, .inl (k0, 3, .inl f0))] [(k0, .int)] sz) ((fun A => va_Qi (fun (r : Int32) (u : Unit) => r = (-1)) (zB D A (fun (u : Unit) => match u with | _ => [(h0, .inr (3, [.int 0, .int 0, .ref r0, .ref r1, .ref r2, .ref r3, .ref r4, .ref r5, .ref h1])), (h1, .inl (k0, 3, .inl f0))]) (fun (u : Unit) => match u with | _ => [])) A) (va_A [(h0, .inr (3, [.int 0, .int 0, .ref r0, .ref r1, .ref r2, .ref r3, .ref r4, .ref r5, .ref h1])), (h1, .inl (k0, 3, .inl f0))] sz)) 0 0 (va_A [(h0, .inr (3, [.int 0, .int 0, .ref r0, .ref r1, .ref r2, .ref r3, .ref r4, .ref r5, .ref h1])), (h1, .inl (k0, 3, .inl f0))] sz) := by
  refine zOfW (QF := fun A => va_Qi (fun (r : Int32) (u : Unit) => r = (-1)) (zB D A (fun (u : Unit) => match u with | _ => [(h0, .inr (3, [.int 0, .int 0, .ref r0, .ref r1, .ref r2, .ref r3, .ref r4, .ref r5, .ref h1])), (h1, .inl (k0, 3, .inl f0))]) (fun (u : Unit) => match u with | _ => [])) A) (cc := cX3_goBack) (maxL := 3) (ret := (some .int)) (by decide) rfl (Nat.le_of_ble_eq_true rfl) ?_
  intro p e s m below meth c A ls hx hb hr hml hts hown hlocks hin hA hS hP hD hK hN hl
  have hl : lv_has ls 3 [(0, .ref h0), (1, .int 1)] := hl
  refine lv_aload_n hx hb dX3_goBack_0 rfl (lv_at hl 0 rfl) ?_
  refine va_get (D := D) (ci := 3) (v := .ref h1) (C := RX3) (T := TX3) (N := 9) hx hb hts iuX3_goBack_X3 hown hK hP 0 rfl rfl 8 (by decide) (hts (.fieldLink RX3 38 "StraitGame$Nights" "boxCount" "[I") (List.mem_of_getElem? (i := 1) rfl)) (fun _ h9 => h9) rfl dX3_goBack_1 ?_
  refine lv_iload_n hx hb dX3_goBack_4 rfl (lv_at hl 1 rfl) ?_
  refine va_iald hx hb hK hP 1 0 rfl rfl (z_in (by decide)) dX3_goBack_5 ?_
  refine z_top (y := (-1)) ((congrArg f0 (show Int32.toNatClampNeg 1 = 1 from by decide)).trans hf_f0_1) ?_
  refine lv_iconst (v := (-1)) hx hb dX3_goBack_6 (by decide) ?_
  refine lv_icmp_ne (tgt := 12) hx hb dX3_goBack_7 (by decide) (fun h9 => absurd (by decide) h9) (fun _ => ?_)
  refine lv_iconst (v := (-1)) hx hb dX3_goBack_10 (by decide) ?_
  exact zret_i hx hb hr hlocks hP hD hK hS () rfl [0, 1] [] (by decide) rfl rfl (Nat.le_of_ble_eq_true rfl) (Nat.le_of_ble_eq_true rfl) dX3_goBack_11
set_option maxHeartbeats 4000000 in
set_option maxRecDepth 100000 in
theorem zX3_goBack_3 (l : Launch) (D : va_G) (h0 h1 r0 r1 r2 r3 r4 r5 : Nat) (k0 : ClassId) (f0 : Nat → Int32) (sz : Nat) (hf_f0_0 : f0 0 = (-1)) (hf_f0_1 : f0 1 = (-1)) (hf_f0_2 : f0 2 = (-1)) : Met l yX3_goBack wsX3_goBack ({ frames := 0, cells := 0, slots := 0, locals := 0 }) (zPre D [.ref h0, .int 2] [(h0, .inr (3, [.int 0, .int 0, .ref r0, .ref r1, .ref r2, .ref r3, .ref r4, .ref r5, .ref h1])), (h1, .inl (k0, 3, .inl f0))] [(k0, .int)] sz) ((fun A => va_Qi (fun (r : Int32) (u : Unit) => r = (-1)) (zB D A (fun (u : Unit) => match u with | _ => [(h0, .inr (3, [.int 0, .int 0, .ref r0, .ref r1, .ref r2, .ref r3, .ref r4, .ref r5, .ref h1])), (h1, .inl (k0, 3, .inl f0))]) (fun (u : Unit) => match u with | _ => [])) A) (va_A [(h0, .inr (3, [.int 0, .int 0, .ref r0, .ref r1, .ref r2, .ref r3, .ref r4, .ref r5, .ref h1])), (h1, .inl (k0, 3, .inl f0))] sz)) 0 0 (va_A [(h0, .inr (3, [.int 0, .int 0, .ref r0, .ref r1, .ref r2, .ref r3, .ref r4, .ref r5, .ref h1])), (h1, .inl (k0, 3, .inl f0))] sz) := by
  refine zOfW (QF := fun A => va_Qi (fun (r : Int32) (u : Unit) => r = (-1)) (zB D A (fun (u : Unit) => match u with | _ => [(h0, .inr (3, [.int 0, .int 0, .ref r0, .ref r1, .ref r2, .ref r3, .ref r4, .ref r5, .ref h1])), (h1, .inl (k0, 3, .inl f0))]) (fun (u : Unit) => match u with | _ => [])) A) (cc := cX3_goBack) (maxL := 3) (ret := (some .int)) (by decide) rfl (Nat.le_of_ble_eq_true rfl) ?_
  intro p e s m below meth c A ls hx hb hr hml hts hown hlocks hin hA hS hP hD hK hN hl
  have hl : lv_has ls 3 [(0, .ref h0), (1, .int 2)] := hl
  refine lv_aload_n hx hb dX3_goBack_0 rfl (lv_at hl 0 rfl) ?_
  refine va_get (D := D) (ci := 3) (v := .ref h1) (C := RX3) (T := TX3) (N := 9) hx hb hts iuX3_goBack_X3 hown hK hP 0 rfl rfl 8 (by decide) (hts (.fieldLink RX3 38 "StraitGame$Nights" "boxCount" "[I") (List.mem_of_getElem? (i := 1) rfl)) (fun _ h9 => h9) rfl dX3_goBack_1 ?_
  refine lv_iload_n hx hb dX3_goBack_4 rfl (lv_at hl 1 rfl) ?_
  refine va_iald hx hb hK hP 1 0 rfl rfl (z_in (by decide)) dX3_goBack_5 ?_
  refine z_top (y := (-1)) ((congrArg f0 (show Int32.toNatClampNeg 2 = 2 from by decide)).trans hf_f0_2) ?_
  refine lv_iconst (v := (-1)) hx hb dX3_goBack_6 (by decide) ?_
  refine lv_icmp_ne (tgt := 12) hx hb dX3_goBack_7 (by decide) (fun h9 => absurd (by decide) h9) (fun _ => ?_)
  refine lv_iconst (v := (-1)) hx hb dX3_goBack_10 (by decide) ?_
  exact zret_i hx hb hr hlocks hP hD hK hS () rfl [0, 1] [] (by decide) rfl rfl (Nat.le_of_ble_eq_true rfl) (Nat.le_of_ble_eq_true rfl) dX3_goBack_11
set_option maxHeartbeats 4000000 in
set_option maxRecDepth 100000 in
theorem aX11_back_c1 (l : Launch) (D : va_G) (h0 h1 h2 r0 r1 r2 r3 r4 r5 r6 r7 r8 r9 r10 r11 r12 r13 r14 : Nat) (k0 : ClassId) (f0 : Nat → Int32) (x0 : Int32) (sz : Nat) (hf_f0_0 : f0 0 = (-1)) (hf_f0_1 : f0 1 = (-1)) (hf_f0_2 : f0 2 = (-1)) (hx0 : -2147483648 ≤ x0.toInt ∧ x0.toInt ≤ -1) : Met l yX11_back wsX11_back ({ frames := 1, cells := 0, slots := 0, locals := 22 }) (zPre D [.ref h0, .int x0] [(h0, .inr (11, [.ref r0, .int 0, .ref r1, .ref r2, .ref r3, .ref r4, .ref r5, .ref h1, .ref r6, .ref r7, .ref r8, .ref r9])), (h1, .inr (3, [.int 0, .int 0, .ref r10, .ref r11, .ref r12, .ref r13, .ref r4, .ref r14, .ref h2])), (h2, .inl (k0, 3, .inl f0))] [(k0, .int)] sz) ((fun A => va_Qi (fun (r : Int32) (u : Unit) => r = (-1)) (zB D A (fun (u : Unit) => match u with | _ => []) (fun (u : Unit) => match u with | _ => [])) A) (va_A [(h0, .inr (11, [.ref r0, .int 0, .ref r1, .ref r2, .ref r3, .ref r4, .ref r5, .ref h1, .ref r6, .ref r7, .ref r8, .ref r9])), (h1, .inr (3, [.int 0, .int 0, .ref r10, .ref r11, .ref r12, .ref r13, .ref r4, .ref r14, .ref h2])), (h2, .inl (k0, 3, .inl f0))] sz)) 0 0 (va_A [(h0, .inr (11, [.ref r0, .int 0, .ref r1, .ref r2, .ref r3, .ref r4, .ref r5, .ref h1, .ref r6, .ref r7, .ref r8, .ref r9])), (h1, .inr (3, [.int 0, .int 0, .ref r10, .ref r11, .ref r12, .ref r13, .ref r4, .ref r14, .ref h2])), (h2, .inl (k0, 3, .inl f0))] sz) := by
  refine zOfW (QF := fun A => va_Qi (fun (r : Int32) (u : Unit) => r = (-1)) (zB D A (fun (u : Unit) => match u with | _ => []) (fun (u : Unit) => match u with | _ => [])) A) (cc := cX11_back) (maxL := 2) (ret := (some .int)) (by decide) rfl (Nat.le_of_ble_eq_true rfl) ?_
  intro p e s m below meth c A ls hx hb hr hml hts hown hlocks hin hA hS hP hD hK hN hl
  have hl : lv_has ls 2 [(0, .ref h0), (1, .int x0)] := hl
  refine lv_iload_n hx hb dX11_back_0 rfl (lv_at hl 1 rfl) ?_
  refine lv_if_lt (tgt := 20) hx hb dX11_back_1 (by decide) (fun _ => ?_) (fun h9 => absurd (z_cmp (show (x0 : Int32) < 0 from by simp only [fa_lt, fa_le, fa_eq, zk_0]; have := hx0; omega)) h9)
  refine lv_iconst (v := (-1)) hx hb dX11_back_20 (by decide) ?_
  exact zret_i hx hb hr hlocks hP hD hK hS () (rfl) [] [] (by decide) rfl rfl (Nat.le_of_ble_eq_true rfl) (Nat.le_of_ble_eq_true rfl) dX11_back_21
set_option maxHeartbeats 4000000 in
set_option maxRecDepth 100000 in
theorem aX11_back_c2 (l : Launch) (D : va_G) (h0 h1 h2 r0 r1 r2 r3 r4 r5 r6 r7 r8 r9 r10 r11 r12 r13 r14 : Nat) (k0 : ClassId) (f0 : Nat → Int32) (sz : Nat) (hf_f0_0 : f0 0 = (-1)) (hf_f0_1 : f0 1 = (-1)) (hf_f0_2 : f0 2 = (-1)) : Met l yX11_back wsX11_back ({ frames := 1, cells := 0, slots := 0, locals := 22 }) (zPre D [.ref h0, .int 0] [(h0, .inr (11, [.ref r0, .int 0, .ref r1, .ref r2, .ref r3, .ref r4, .ref r5, .ref h1, .ref r6, .ref r7, .ref r8, .ref r9])), (h1, .inr (3, [.int 0, .int 0, .ref r10, .ref r11, .ref r12, .ref r13, .ref r4, .ref r14, .ref h2])), (h2, .inl (k0, 3, .inl f0))] [(k0, .int)] sz) ((fun A => va_Qi (fun (r : Int32) (u : Unit) => r = (-1)) (zB D A (fun (u : Unit) => match u with | _ => []) (fun (u : Unit) => match u with | _ => [])) A) (va_A [(h0, .inr (11, [.ref r0, .int 0, .ref r1, .ref r2, .ref r3, .ref r4, .ref r5, .ref h1, .ref r6, .ref r7, .ref r8, .ref r9])), (h1, .inr (3, [.int 0, .int 0, .ref r10, .ref r11, .ref r12, .ref r13, .ref r4, .ref r14, .ref h2])), (h2, .inl (k0, 3, .inl f0))] sz)) 0 0 (va_A [(h0, .inr (11, [.ref r0, .int 0, .ref r1, .ref r2, .ref r3, .ref r4, .ref r5, .ref h1, .ref r6, .ref r7, .ref r8, .ref r9])), (h1, .inr (3, [.int 0, .int 0, .ref r10, .ref r11, .ref r12, .ref r13, .ref r4, .ref r14, .ref h2])), (h2, .inl (k0, 3, .inl f0))] sz) := by
  refine zOfW (QF := fun A => va_Qi (fun (r : Int32) (u : Unit) => r = (-1)) (zB D A (fun (u : Unit) => match u with | _ => []) (fun (u : Unit) => match u with | _ => [])) A) (cc := cX11_back) (maxL := 2) (ret := (some .int)) (by decide) rfl (Nat.le_of_ble_eq_true rfl) ?_
  intro p e s m below meth c A ls hx hb hr hml hts hown hlocks hin hA hS hP hD hK hN hl
  have hl : lv_has ls 2 [(0, .ref h0), (1, .int 0)] := hl
  refine lv_iload_n hx hb dX11_back_0 rfl (lv_at hl 1 rfl) ?_
  refine lv_if_lt (tgt := 20) hx hb dX11_back_1 (by decide) (fun h9 => absurd h9 (by decide)) (fun _ => ?_)
  refine lv_iload_n hx hb dX11_back_4 rfl (lv_at hl 1 rfl) ?_
  refine lv_iconst (v := 3) hx hb dX11_back_5 (by decide) ?_
  refine lv_icmp_ge (tgt := 20) hx hb dX11_back_6 (by decide) (fun h9 => absurd h9 (by decide)) (fun _ => ?_)
  refine lv_aload_n hx hb dX11_back_9 rfl (lv_at hl 0 rfl) ?_
  refine va_get (D := D) (ci := 11) (v := .ref h1) (C := RX11) (T := TX11) (N := 12) hx hb hts iuX11_back_X11 hown hK hP 0 rfl rfl 7 (by decide) (hts (.fieldLink RX11 55 "StraitGame" "nights" "LStraitGame$Nights;") (List.mem_of_getElem? (i := 1) rfl)) (fun _ h9 => h9) rfl dX11_back_10 ?_
  refine lv_iload_n hx hb dX11_back_13 rfl (lv_at hl 1 rfl) ?_
  refine zA_i (zR_V (As := [.int 0]) (rest := []) ⟨hx, hb, hml, hown, hts⟩ (zX3_goBack_1 l D h1 h2 r10 r11 r12 r13 r4 r14 k0 f0 _ (hf_f0_0) (hf_f0_1) (hf_f0_2)) (cwV 1 hts gX11_back_X3_goBack rfl rfl rfl (by decide +kernel) ⟨(Nat.le_of_ble_eq_true rfl), (Nat.le_of_ble_eq_true rfl)⟩) hP hD hK hN [1, 2] [0] rfl (by decide) rfl 0 3 rfl rfl rfl hl.1 rfl (Nat.le_of_ble_eq_true rfl) dX11_back_14 ⟨(Nat.le_of_ble_eq_true rfl), (Nat.le_of_ble_eq_true rfl)⟩) hP hD hK hS hA [1, 2] [0] rfl rfl (by decide) (by decide) (fun r_524 u H locs hw hP hD hK hS => ?_)
  have hK : va_K D vwCl [(k0, .int)] s := hK
  have hP : va_P D vwCl [(h0, .inr (11, [.ref r0, .int 0, .ref r1, .ref r2, .ref r3, .ref r4, .ref r5, .ref h1, .ref r6, .ref r7, .ref r8, .ref r9])), (h1, .inr (3, [.int 0, .int 0, .ref r10, .ref r11, .ref r12, .ref r13, .ref r4, .ref r14, .ref h2])), (h2, .inl (k0, 3, .inl f0))] H := hP
  have hD : va_D A [(h0, .inr (11, [.ref r0, .int 0, .ref r1, .ref r2, .ref r3, .ref r4, .ref r5, .ref h1, .ref r6, .ref r7, .ref r8, .ref r9])), (h1, .inr (3, [.int 0, .int 0, .ref r10, .ref r11, .ref r12, .ref r13, .ref r4, .ref r14, .ref h2])), (h2, .inl (k0, 3, .inl f0))] := hD
  refine W.widen (k := 0) (n := 0) (Nat.le_of_ble_eq_true rfl) (Nat.le_of_ble_eq_true rfl) ?_
  have er : r_524 = (-1) := hw
  refine z_top (y := (-1)) er ?_
  refine lv_goto (tgt := 21) hx hb dX11_back_17 (by decide) ?_
  exact zret_i hx hb hr hlocks hP hD hK hS () (rfl) [] [] (by decide) rfl rfl (Nat.le_of_ble_eq_true rfl) (Nat.le_of_ble_eq_true rfl) dX11_back_21
set_option maxHeartbeats 4000000 in
set_option maxRecDepth 100000 in
theorem aX11_back_c3 (l : Launch) (D : va_G) (h0 h1 h2 r0 r1 r2 r3 r4 r5 r6 r7 r8 r9 r10 r11 r12 r13 r14 : Nat) (k0 : ClassId) (f0 : Nat → Int32) (sz : Nat) (hf_f0_0 : f0 0 = (-1)) (hf_f0_1 : f0 1 = (-1)) (hf_f0_2 : f0 2 = (-1)) : Met l yX11_back wsX11_back ({ frames := 1, cells := 0, slots := 0, locals := 22 }) (zPre D [.ref h0, .int 1] [(h0, .inr (11, [.ref r0, .int 0, .ref r1, .ref r2, .ref r3, .ref r4, .ref r5, .ref h1, .ref r6, .ref r7, .ref r8, .ref r9])), (h1, .inr (3, [.int 0, .int 0, .ref r10, .ref r11, .ref r12, .ref r13, .ref r4, .ref r14, .ref h2])), (h2, .inl (k0, 3, .inl f0))] [(k0, .int)] sz) ((fun A => va_Qi (fun (r : Int32) (u : Unit) => r = (-1)) (zB D A (fun (u : Unit) => match u with | _ => []) (fun (u : Unit) => match u with | _ => [])) A) (va_A [(h0, .inr (11, [.ref r0, .int 0, .ref r1, .ref r2, .ref r3, .ref r4, .ref r5, .ref h1, .ref r6, .ref r7, .ref r8, .ref r9])), (h1, .inr (3, [.int 0, .int 0, .ref r10, .ref r11, .ref r12, .ref r13, .ref r4, .ref r14, .ref h2])), (h2, .inl (k0, 3, .inl f0))] sz)) 0 0 (va_A [(h0, .inr (11, [.ref r0, .int 0, .ref r1, .ref r2, .ref r3, .ref r4, .ref r5, .ref h1, .ref r6, .ref r7, .ref r8, .ref r9])), (h1, .inr (3, [.int 0, .int 0, .ref r10, .ref r11, .ref r12, .ref r13, .ref r4, .ref r14, .ref h2])), (h2, .inl (k0, 3, .inl f0))] sz) := by
  refine zOfW (QF := fun A => va_Qi (fun (r : Int32) (u : Unit) => r = (-1)) (zB D A (fun (u : Unit) => match u with | _ => []) (fun (u : Unit) => match u with | _ => [])) A) (cc := cX11_back) (maxL := 2) (ret := (some .int)) (by decide) rfl (Nat.le_of_ble_eq_true rfl) ?_
  intro p e s m below meth c A ls hx hb hr hml hts hown hlocks hin hA hS hP hD hK hN hl
  have hl : lv_has ls 2 [(0, .ref h0), (1, .int 1)] := hl
  refine lv_iload_n hx hb dX11_back_0 rfl (lv_at hl 1 rfl) ?_
  refine lv_if_lt (tgt := 20) hx hb dX11_back_1 (by decide) (fun h9 => absurd h9 (by decide)) (fun _ => ?_)
  refine lv_iload_n hx hb dX11_back_4 rfl (lv_at hl 1 rfl) ?_
  refine lv_iconst (v := 3) hx hb dX11_back_5 (by decide) ?_
  refine lv_icmp_ge (tgt := 20) hx hb dX11_back_6 (by decide) (fun h9 => absurd h9 (by decide)) (fun _ => ?_)
  refine lv_aload_n hx hb dX11_back_9 rfl (lv_at hl 0 rfl) ?_
  refine va_get (D := D) (ci := 11) (v := .ref h1) (C := RX11) (T := TX11) (N := 12) hx hb hts iuX11_back_X11 hown hK hP 0 rfl rfl 7 (by decide) (hts (.fieldLink RX11 55 "StraitGame" "nights" "LStraitGame$Nights;") (List.mem_of_getElem? (i := 1) rfl)) (fun _ h9 => h9) rfl dX11_back_10 ?_
  refine lv_iload_n hx hb dX11_back_13 rfl (lv_at hl 1 rfl) ?_
  refine zA_i (zR_V (As := [.int 1]) (rest := []) ⟨hx, hb, hml, hown, hts⟩ (zX3_goBack_2 l D h1 h2 r10 r11 r12 r13 r4 r14 k0 f0 _ (hf_f0_0) (hf_f0_1) (hf_f0_2)) (cwV 1 hts gX11_back_X3_goBack rfl rfl rfl (by decide +kernel) ⟨(Nat.le_of_ble_eq_true rfl), (Nat.le_of_ble_eq_true rfl)⟩) hP hD hK hN [1, 2] [0] rfl (by decide) rfl 0 3 rfl rfl rfl hl.1 rfl (Nat.le_of_ble_eq_true rfl) dX11_back_14 ⟨(Nat.le_of_ble_eq_true rfl), (Nat.le_of_ble_eq_true rfl)⟩) hP hD hK hS hA [1, 2] [0] rfl rfl (by decide) (by decide) (fun r_526 u H locs hw hP hD hK hS => ?_)
  have hK : va_K D vwCl [(k0, .int)] s := hK
  have hP : va_P D vwCl [(h0, .inr (11, [.ref r0, .int 0, .ref r1, .ref r2, .ref r3, .ref r4, .ref r5, .ref h1, .ref r6, .ref r7, .ref r8, .ref r9])), (h1, .inr (3, [.int 0, .int 0, .ref r10, .ref r11, .ref r12, .ref r13, .ref r4, .ref r14, .ref h2])), (h2, .inl (k0, 3, .inl f0))] H := hP
  have hD : va_D A [(h0, .inr (11, [.ref r0, .int 0, .ref r1, .ref r2, .ref r3, .ref r4, .ref r5, .ref h1, .ref r6, .ref r7, .ref r8, .ref r9])), (h1, .inr (3, [.int 0, .int 0, .ref r10, .ref r11, .ref r12, .ref r13, .ref r4, .ref r14, .ref h2])), (h2, .inl (k0, 3, .inl f0))] := hD
  refine W.widen (k := 0) (n := 0) (Nat.le_of_ble_eq_true rfl) (Nat.le_of_ble_eq_true rfl) ?_
  have er : r_526 = (-1) := hw
  refine z_top (y := (-1)) er ?_
  refine lv_goto (tgt := 21) hx hb dX11_back_17 (by decide) ?_
  exact zret_i hx hb hr hlocks hP hD hK hS () (rfl) [] [] (by decide) rfl rfl (Nat.le_of_ble_eq_true rfl) (Nat.le_of_ble_eq_true rfl) dX11_back_21
set_option maxHeartbeats 4000000 in
set_option maxRecDepth 100000 in
theorem aX11_back_c4 (l : Launch) (D : va_G) (h0 h1 h2 r0 r1 r2 r3 r4 r5 r6 r7 r8 r9 r10 r11 r12 r13 r14 : Nat) (k0 : ClassId) (f0 : Nat → Int32) (sz : Nat) (hf_f0_0 : f0 0 = (-1)) (hf_f0_1 : f0 1 = (-1)) (hf_f0_2 : f0 2 = (-1)) : Met l yX11_back wsX11_back ({ frames := 1, cells := 0, slots := 0, locals := 22 }) (zPre D [.ref h0, .int 2] [(h0, .inr (11, [.ref r0, .int 0, .ref r1, .ref r2, .ref r3, .ref r4, .ref r5, .ref h1, .ref r6, .ref r7, .ref r8, .ref r9])), (h1, .inr (3, [.int 0, .int 0, .ref r10, .ref r11, .ref r12, .ref r13, .ref r4, .ref r14, .ref h2])), (h2, .inl (k0, 3, .inl f0))] [(k0, .int)] sz) ((fun A => va_Qi (fun (r : Int32) (u : Unit) => r = (-1)) (zB D A (fun (u : Unit) => match u with | _ => []) (fun (u : Unit) => match u with | _ => [])) A) (va_A [(h0, .inr (11, [.ref r0, .int 0, .ref r1, .ref r2, .ref r3, .ref r4, .ref r5, .ref h1, .ref r6, .ref r7, .ref r8, .ref r9])), (h1, .inr (3, [.int 0, .int 0, .ref r10, .ref r11, .ref r12, .ref r13, .ref r4, .ref r14, .ref h2])), (h2, .inl (k0, 3, .inl f0))] sz)) 0 0 (va_A [(h0, .inr (11, [.ref r0, .int 0, .ref r1, .ref r2, .ref r3, .ref r4, .ref r5, .ref h1, .ref r6, .ref r7, .ref r8, .ref r9])), (h1, .inr (3, [.int 0, .int 0, .ref r10, .ref r11, .ref r12, .ref r13, .ref r4, .ref r14, .ref h2])), (h2, .inl (k0, 3, .inl f0))] sz) := by
  refine zOfW (QF := fun A => va_Qi (fun (r : Int32) (u : Unit) => r = (-1)) (zB D A (fun (u : Unit) => match u with | _ => []) (fun (u : Unit) => match u with | _ => [])) A) (cc := cX11_back) (maxL := 2) (ret := (some .int)) (by decide) rfl (Nat.le_of_ble_eq_true rfl) ?_
  intro p e s m below meth c A ls hx hb hr hml hts hown hlocks hin hA hS hP hD hK hN hl
  have hl : lv_has ls 2 [(0, .ref h0), (1, .int 2)] := hl
  refine lv_iload_n hx hb dX11_back_0 rfl (lv_at hl 1 rfl) ?_
  refine lv_if_lt (tgt := 20) hx hb dX11_back_1 (by decide) (fun h9 => absurd h9 (by decide)) (fun _ => ?_)
  refine lv_iload_n hx hb dX11_back_4 rfl (lv_at hl 1 rfl) ?_
  refine lv_iconst (v := 3) hx hb dX11_back_5 (by decide) ?_
  refine lv_icmp_ge (tgt := 20) hx hb dX11_back_6 (by decide) (fun h9 => absurd h9 (by decide)) (fun _ => ?_)
  refine lv_aload_n hx hb dX11_back_9 rfl (lv_at hl 0 rfl) ?_
  refine va_get (D := D) (ci := 11) (v := .ref h1) (C := RX11) (T := TX11) (N := 12) hx hb hts iuX11_back_X11 hown hK hP 0 rfl rfl 7 (by decide) (hts (.fieldLink RX11 55 "StraitGame" "nights" "LStraitGame$Nights;") (List.mem_of_getElem? (i := 1) rfl)) (fun _ h9 => h9) rfl dX11_back_10 ?_
  refine lv_iload_n hx hb dX11_back_13 rfl (lv_at hl 1 rfl) ?_
  refine zA_i (zR_V (As := [.int 2]) (rest := []) ⟨hx, hb, hml, hown, hts⟩ (zX3_goBack_3 l D h1 h2 r10 r11 r12 r13 r4 r14 k0 f0 _ (hf_f0_0) (hf_f0_1) (hf_f0_2)) (cwV 1 hts gX11_back_X3_goBack rfl rfl rfl (by decide +kernel) ⟨(Nat.le_of_ble_eq_true rfl), (Nat.le_of_ble_eq_true rfl)⟩) hP hD hK hN [1, 2] [0] rfl (by decide) rfl 0 3 rfl rfl rfl hl.1 rfl (Nat.le_of_ble_eq_true rfl) dX11_back_14 ⟨(Nat.le_of_ble_eq_true rfl), (Nat.le_of_ble_eq_true rfl)⟩) hP hD hK hS hA [1, 2] [0] rfl rfl (by decide) (by decide) (fun r_528 u H locs hw hP hD hK hS => ?_)
  have hK : va_K D vwCl [(k0, .int)] s := hK
  have hP : va_P D vwCl [(h0, .inr (11, [.ref r0, .int 0, .ref r1, .ref r2, .ref r3, .ref r4, .ref r5, .ref h1, .ref r6, .ref r7, .ref r8, .ref r9])), (h1, .inr (3, [.int 0, .int 0, .ref r10, .ref r11, .ref r12, .ref r13, .ref r4, .ref r14, .ref h2])), (h2, .inl (k0, 3, .inl f0))] H := hP
  have hD : va_D A [(h0, .inr (11, [.ref r0, .int 0, .ref r1, .ref r2, .ref r3, .ref r4, .ref r5, .ref h1, .ref r6, .ref r7, .ref r8, .ref r9])), (h1, .inr (3, [.int 0, .int 0, .ref r10, .ref r11, .ref r12, .ref r13, .ref r4, .ref r14, .ref h2])), (h2, .inl (k0, 3, .inl f0))] := hD
  refine W.widen (k := 0) (n := 0) (Nat.le_of_ble_eq_true rfl) (Nat.le_of_ble_eq_true rfl) ?_
  have er : r_528 = (-1) := hw
  refine z_top (y := (-1)) er ?_
  refine lv_goto (tgt := 21) hx hb dX11_back_17 (by decide) ?_
  exact zret_i hx hb hr hlocks hP hD hK hS () (rfl) [] [] (by decide) rfl rfl (Nat.le_of_ble_eq_true rfl) (Nat.le_of_ble_eq_true rfl) dX11_back_21
set_option maxHeartbeats 4000000 in
set_option maxRecDepth 100000 in
theorem aX11_back_c5 (l : Launch) (D : va_G) (h0 h1 h2 r0 r1 r2 r3 r4 r5 r6 r7 r8 r9 r10 r11 r12 r13 r14 : Nat) (k0 : ClassId) (f0 : Nat → Int32) (x0 : Int32) (sz : Nat) (hf_f0_0 : f0 0 = (-1)) (hf_f0_1 : f0 1 = (-1)) (hf_f0_2 : f0 2 = (-1)) (hx0 : 3 ≤ x0.toInt ∧ x0.toInt ≤ 2147483647) : Met l yX11_back wsX11_back ({ frames := 1, cells := 0, slots := 0, locals := 22 }) (zPre D [.ref h0, .int x0] [(h0, .inr (11, [.ref r0, .int 0, .ref r1, .ref r2, .ref r3, .ref r4, .ref r5, .ref h1, .ref r6, .ref r7, .ref r8, .ref r9])), (h1, .inr (3, [.int 0, .int 0, .ref r10, .ref r11, .ref r12, .ref r13, .ref r4, .ref r14, .ref h2])), (h2, .inl (k0, 3, .inl f0))] [(k0, .int)] sz) ((fun A => va_Qi (fun (r : Int32) (u : Unit) => r = (-1)) (zB D A (fun (u : Unit) => match u with | _ => []) (fun (u : Unit) => match u with | _ => [])) A) (va_A [(h0, .inr (11, [.ref r0, .int 0, .ref r1, .ref r2, .ref r3, .ref r4, .ref r5, .ref h1, .ref r6, .ref r7, .ref r8, .ref r9])), (h1, .inr (3, [.int 0, .int 0, .ref r10, .ref r11, .ref r12, .ref r13, .ref r4, .ref r14, .ref h2])), (h2, .inl (k0, 3, .inl f0))] sz)) 0 0 (va_A [(h0, .inr (11, [.ref r0, .int 0, .ref r1, .ref r2, .ref r3, .ref r4, .ref r5, .ref h1, .ref r6, .ref r7, .ref r8, .ref r9])), (h1, .inr (3, [.int 0, .int 0, .ref r10, .ref r11, .ref r12, .ref r13, .ref r4, .ref r14, .ref h2])), (h2, .inl (k0, 3, .inl f0))] sz) := by
  refine zOfW (QF := fun A => va_Qi (fun (r : Int32) (u : Unit) => r = (-1)) (zB D A (fun (u : Unit) => match u with | _ => []) (fun (u : Unit) => match u with | _ => [])) A) (cc := cX11_back) (maxL := 2) (ret := (some .int)) (by decide) rfl (Nat.le_of_ble_eq_true rfl) ?_
  intro p e s m below meth c A ls hx hb hr hml hts hown hlocks hin hA hS hP hD hK hN hl
  have hl : lv_has ls 2 [(0, .ref h0), (1, .int x0)] := hl
  refine lv_iload_n hx hb dX11_back_0 rfl (lv_at hl 1 rfl) ?_
  refine lv_if_lt (tgt := 20) hx hb dX11_back_1 (by decide) (fun h9 => absurd h9 (z_cmp (show ¬ ((x0 : Int32) < 0) from by simp only [fa_lt, fa_le, fa_eq, zk_0]; have := hx0; omega))) (fun _ => ?_)
  refine lv_iload_n hx hb dX11_back_4 rfl (lv_at hl 1 rfl) ?_
  refine lv_iconst (v := 3) hx hb dX11_back_5 (by decide) ?_
  refine lv_icmp_ge (tgt := 20) hx hb dX11_back_6 (by decide) (fun _ => ?_) (fun h9 => absurd (z_cmp (show (3 : Int32) ≤ x0 from by simp only [fa_lt, fa_le, fa_eq, zk_3]; have := hx0; omega)) h9)
  refine lv_iconst (v := (-1)) hx hb dX11_back_20 (by decide) ?_
  exact zret_i hx hb hr hlocks hP hD hK hS () (rfl) [] [] (by decide) rfl rfl (Nat.le_of_ble_eq_true rfl) (Nat.le_of_ble_eq_true rfl) dX11_back_21
theorem aX11_back (l : Launch) (D : va_G) (h0 h1 h2 r0 r1 r2 r3 r4 r5 r6 r7 r8 r9 r10 r11 r12 r13 r14 : Nat) (k0 : ClassId) (f0 : Nat → Int32) (x0 : Int32) (sz : Nat) (hf_f0_0 : f0 0 = (-1)) (hf_f0_1 : f0 1 = (-1)) (hf_f0_2 : f0 2 = (-1)) : Met l yX11_back wsX11_back ({ frames := 1, cells := 0, slots := 0, locals := 22 }) (zPre D [.ref h0, .int x0] [(h0, .inr (11, [.ref r0, .int 0, .ref r1, .ref r2, .ref r3, .ref r4, .ref r5, .ref h1, .ref r6, .ref r7, .ref r8, .ref r9])), (h1, .inr (3, [.int 0, .int 0, .ref r10, .ref r11, .ref r12, .ref r13, .ref r4, .ref r14, .ref h2])), (h2, .inl (k0, 3, .inl f0))] [(k0, .int)] sz) ((fun A => va_Qi (fun (r : Int32) (u : Unit) => r = (-1)) (zB D A (fun (u : Unit) => match u with | _ => []) (fun (u : Unit) => match u with | _ => [])) A) (va_A [(h0, .inr (11, [.ref r0, .int 0, .ref r1, .ref r2, .ref r3, .ref r4, .ref r5, .ref h1, .ref r6, .ref r7, .ref r8, .ref r9])), (h1, .inr (3, [.int 0, .int 0, .ref r10, .ref r11, .ref r12, .ref r13, .ref r4, .ref r14, .ref h2])), (h2, .inl (k0, 3, .inl f0))] sz)) 0 0 (va_A [(h0, .inr (11, [.ref r0, .int 0, .ref r1, .ref r2, .ref r3, .ref r4, .ref r5, .ref h1, .ref r6, .ref r7, .ref r8, .ref r9])), (h1, .inr (3, [.int 0, .int 0, .ref r10, .ref r11, .ref r12, .ref r13, .ref r4, .ref r14, .ref h2])), (h2, .inl (k0, 3, .inl f0))] sz) := by
  rcases (show (-2147483648 ≤ x0.toInt ∧ x0.toInt ≤ -1) ∨ x0 = 0 ∨ x0 = 1 ∨ x0 = 2 ∨ (3 ≤ x0.toInt ∧ x0.toInt ≤ 2147483647) from by simp only [fa_eq, zk_0, zk_1, zk_2]; have := z_rng x0; omega) with b0 | rfl | rfl | rfl | b0
  ·
    exact aX11_back_c1 l D h0 h1 h2 r0 r1 r2 r3 r4 r5 r6 r7 r8 r9 r10 r11 r12 r13 r14 k0 f0 x0 _ hf_f0_0 hf_f0_1 hf_f0_2 b0
  ·
    exact aX11_back_c2 l D h0 h1 h2 r0 r1 r2 r3 r4 r5 r6 r7 r8 r9 r10 r11 r12 r13 r14 k0 f0  _ hf_f0_0 hf_f0_1 hf_f0_2 
  ·
    exact aX11_back_c3 l D h0 h1 h2 r0 r1 r2 r3 r4 r5 r6 r7 r8 r9 r10 r11 r12 r13 r14 k0 f0  _ hf_f0_0 hf_f0_1 hf_f0_2 
  ·
    exact aX11_back_c4 l D h0 h1 h2 r0 r1 r2 r3 r4 r5 r6 r7 r8 r9 r10 r11 r12 r13 r14 k0 f0  _ hf_f0_0 hf_f0_1 hf_f0_2 
  ·
    exact aX11_back_c5 l D h0 h1 h2 r0 r1 r2 r3 r4 r5 r6 r7 r8 r9 r10 r11 r12 r13 r14 k0 f0 x0 _ hf_f0_0 hf_f0_1 hf_f0_2 b0
set_option maxHeartbeats 4000000 in
set_option maxRecDepth 100000 in
theorem zX3_countNoticed_1 (l : Launch) (D : va_G) (h0 r0 r1 r2 r3 r4 r5 r6 : Nat) (sz : Nat) : Met l yX3_countNoticed wsX3_countNoticed ({ frames := 0, cells := 0, slots := 0, locals := 0 }) (zPre D [.ref h0] [(h0, .inr (3, [.int 0, .int 0, .ref r0, .ref r1, .ref r2, .ref r3, .ref r4, .ref r5, .ref r6]))] [] sz) ((fun A => va_Qi (fun (r : Int32) (u : Unit) => r = 0) (zB D A (fun (u : Unit) => match u with | _ => [(h0, .inr (3, [.int 0, .int 0, .ref r0, .ref r1, .ref r2, .ref r3, .ref r4, .ref r5, .ref r6]))]) (fun (u : Unit) => match u with | _ => [])) A) (va_A [(h0, .inr (3, [.int 0, .int 0, .ref r0, .ref r1, .ref r2, .ref r3, .ref r4, .ref r5, .ref r6]))] sz)) 0 0 (va_A [(h0, .inr (3, [.int 0, .int 0, .ref r0, .ref r1, .ref r2, .ref r3, .ref r4, .ref r5, .ref r6]))] sz) := by
  refine zOfW (QF := fun A => va_Qi (fun (r : Int32) (u : Unit) => r = 0) (zB D A (fun (u : Unit) => match u with | _ => [(h0, .inr (3, [.int 0, .int 0, .ref r0, .ref r1, .ref r2, .ref r3, .ref r4, .ref r5, .ref r6]))]) (fun (u : Unit) => match u with | _ => [])) A) (cc := cX3_countNoticed) (maxL := 3) (ret := (some .int)) (by decide) rfl (Nat.le_of_ble_eq_true rfl) ?_
  intro p e s m below meth c A ls hx hb hr hml hts hown hlocks hin hA hS hP hD hK hN hl
  have hl : lv_has ls 3 [(0, .ref h0)] := hl
  refine lv_iconst (v := 0) hx hb dX3_countNoticed_0 (by decide) ?_
  refine lv_istore_n (lv' := [(1, .int 0), (0, .ref h0)]) hx hb dX3_countNoticed_1 rfl hl (by decide) rfl (fun ls hl => ?_)
  refine lv_iconst (v := 0) hx hb dX3_countNoticed_2 (by decide) ?_
  refine lv_istore_n (lv' := [(2, .int 0), (1, .int 0), (0, .ref h0)]) hx hb dX3_countNoticed_3 rfl hl (by decide) rfl (fun ls hl => ?_)
  refine lv_iload_n hx hb dX3_countNoticed_4 rfl (lv_at hl 0 rfl) ?_
  refine lv_aload_n hx hb dX3_countNoticed_5 rfl (lv_at hl 2 rfl) ?_
  refine va_get (D := D) (ci := 3) (v := .int 0) (C := RX3) (T := TX3) (N := 9) hx hb hts iuX3_countNoticed_X3 hown hK hP 0 rfl rfl 0 (by decide) (hts (.fieldLink RX3 9 "StraitGame$Nights" "count" "I") (List.mem_of_getElem? (i := 1) rfl)) (fun _ h9 => h9) rfl dX3_countNoticed_6 ?_
  refine lv_icmp_ge (tgt := 35) hx hb dX3_countNoticed_9 (by decide) (fun _ => ?_) (fun h9 => absurd (by decide) h9)
  refine lv_iload_n hx hb dX3_countNoticed_35 rfl (lv_at hl 1 rfl) ?_
  exact zret_i hx hb hr hlocks hP hD hK hS () rfl [0] [] (by decide) rfl rfl (Nat.le_of_ble_eq_true rfl) (Nat.le_of_ble_eq_true rfl) dX3_countNoticed_36
set_option maxHeartbeats 4000000 in
set_option maxRecDepth 100000 in
theorem aX11_about_c1 (l : Launch) (D : va_G) (h0 h1 h2 h3 h4 r0 r1 r2 r3 r4 r5 r6 r7 r8 r9 r10 r11 r12 r13 r14 r15 r16 r17 r18 r19 r20 r21 r22 r23 r24 r25 r26 r27 r28 r29 r30 r31 r32 r33 : Nat) (x0 : Int32) (sz : Nat) (hx0 : -2147483648 ≤ x0.toInt ∧ x0.toInt ≤ -1) : Met l yX11_about wsX11_about ({ frames := 1, cells := 0, slots := 0, locals := 22 }) (zPre D [.ref h0, .int x0] [(h0, .inr (11, [.ref r0, .int 0, .ref h2, .ref r1, .ref r2, .ref h1, .ref r3, .ref h3, .ref r4, .ref r5, .ref h4, .ref r6])), (h1, .inr (2, [.int 0, .int 0, .int 0, .int 0, .int 0, .ref r7, .ref r8, .ref r9, .ref r10, .ref r11, .ref r12, .ref r13])), (h2, .inr (10, [.int 0, .int 0, .int 0, .int 0, .int 0, .ref r14, .ref r15, .ref r16, .ref r17, .ref r18, .ref r19, .ref r20, .ref r21])), (h3, .inr (3, [.int 0, .int 0, .ref r22, .ref r23, .ref r24, .ref r25, .ref h1, .ref r26, .ref r27])), (h4, .inr (7, [.int 0, .int 0, .ref r28, .ref r29, .ref r30, .ref r31, .ref r32, .ref r33]))] [] sz) ((fun A => va_Qi (fun (r : Int32) (u : Unit) => r = (an_about x0)) (zB D A (fun (u : Unit) => match u with | _ => []) (fun (u : Unit) => match u with | _ => [])) A) (va_A [(h0, .inr (11, [.ref r0, .int 0, .ref h2, .ref r1, .ref r2, .ref h1, .ref r3, .ref h3, .ref r4, .ref r5, .ref h4, .ref r6])), (h1, .inr (2, [.int 0, .int 0, .int 0, .int 0, .int 0, .ref r7, .ref r8, .ref r9, .ref r10, .ref r11, .ref r12, .ref r13])), (h2, .inr (10, [.int 0, .int 0, .int 0, .int 0, .int 0, .ref r14, .ref r15, .ref r16, .ref r17, .ref r18, .ref r19, .ref r20, .ref r21])), (h3, .inr (3, [.int 0, .int 0, .ref r22, .ref r23, .ref r24, .ref r25, .ref h1, .ref r26, .ref r27])), (h4, .inr (7, [.int 0, .int 0, .ref r28, .ref r29, .ref r30, .ref r31, .ref r32, .ref r33]))] sz)) 0 0 (va_A [(h0, .inr (11, [.ref r0, .int 0, .ref h2, .ref r1, .ref r2, .ref h1, .ref r3, .ref h3, .ref r4, .ref r5, .ref h4, .ref r6])), (h1, .inr (2, [.int 0, .int 0, .int 0, .int 0, .int 0, .ref r7, .ref r8, .ref r9, .ref r10, .ref r11, .ref r12, .ref r13])), (h2, .inr (10, [.int 0, .int 0, .int 0, .int 0, .int 0, .ref r14, .ref r15, .ref r16, .ref r17, .ref r18, .ref r19, .ref r20, .ref r21])), (h3, .inr (3, [.int 0, .int 0, .ref r22, .ref r23, .ref r24, .ref r25, .ref h1, .ref r26, .ref r27])), (h4, .inr (7, [.int 0, .int 0, .ref r28, .ref r29, .ref r30, .ref r31, .ref r32, .ref r33]))] sz) := by
  refine zOfW (QF := fun A => va_Qi (fun (r : Int32) (u : Unit) => r = (an_about x0)) (zB D A (fun (u : Unit) => match u with | _ => []) (fun (u : Unit) => match u with | _ => [])) A) (cc := cX11_about) (maxL := 2) (ret := (some .int)) (by decide) rfl (Nat.le_of_ble_eq_true rfl) ?_
  intro p e s m below meth c A ls hx hb hr hml hts hown hlocks hin hA hS hP hD hK hN hl
  have hl : lv_has ls 2 [(0, .ref h0), (1, .int x0)] := hl
  refine lv_iload_n hx hb dX11_about_0 rfl (lv_at hl 1 rfl) ?_
  refine lv_tableOut (tgt := 141) hx hb dX11_about_1 (by have := hx0; omega) (by decide) ?_
  refine lv_iconst (v := (-1)) hx hb dX11_about_141 (by decide) ?_
  exact zret_i hx hb hr hlocks hP hD hK hS () ((if_neg (by have := hx0; omega)).symm) [] [] (by decide) rfl rfl (Nat.le_of_ble_eq_true rfl) (Nat.le_of_ble_eq_true rfl) dX11_about_142
set_option maxHeartbeats 4000000 in
set_option maxRecDepth 100000 in
theorem aX11_about_c2 (l : Launch) (D : va_G) (h0 h1 h2 h3 h4 r0 r1 r2 r3 r4 r5 r6 r7 r8 r9 r10 r11 r12 r13 r14 r15 r16 r17 r18 r19 r20 r21 r22 r23 r24 r25 r26 r27 r28 r29 r30 r31 r32 r33 : Nat) (sz : Nat) : Met l yX11_about wsX11_about ({ frames := 1, cells := 0, slots := 0, locals := 22 }) (zPre D [.ref h0, .int 0] [(h0, .inr (11, [.ref r0, .int 0, .ref h2, .ref r1, .ref r2, .ref h1, .ref r3, .ref h3, .ref r4, .ref r5, .ref h4, .ref r6])), (h1, .inr (2, [.int 0, .int 0, .int 0, .int 0, .int 0, .ref r7, .ref r8, .ref r9, .ref r10, .ref r11, .ref r12, .ref r13])), (h2, .inr (10, [.int 0, .int 0, .int 0, .int 0, .int 0, .ref r14, .ref r15, .ref r16, .ref r17, .ref r18, .ref r19, .ref r20, .ref r21])), (h3, .inr (3, [.int 0, .int 0, .ref r22, .ref r23, .ref r24, .ref r25, .ref h1, .ref r26, .ref r27])), (h4, .inr (7, [.int 0, .int 0, .ref r28, .ref r29, .ref r30, .ref r31, .ref r32, .ref r33]))] [] sz) ((fun A => va_Qi (fun (r : Int32) (u : Unit) => r = (an_about 0)) (zB D A (fun (u : Unit) => match u with | _ => []) (fun (u : Unit) => match u with | _ => [])) A) (va_A [(h0, .inr (11, [.ref r0, .int 0, .ref h2, .ref r1, .ref r2, .ref h1, .ref r3, .ref h3, .ref r4, .ref r5, .ref h4, .ref r6])), (h1, .inr (2, [.int 0, .int 0, .int 0, .int 0, .int 0, .ref r7, .ref r8, .ref r9, .ref r10, .ref r11, .ref r12, .ref r13])), (h2, .inr (10, [.int 0, .int 0, .int 0, .int 0, .int 0, .ref r14, .ref r15, .ref r16, .ref r17, .ref r18, .ref r19, .ref r20, .ref r21])), (h3, .inr (3, [.int 0, .int 0, .ref r22, .ref r23, .ref r24, .ref r25, .ref h1, .ref r26, .ref r27])), (h4, .inr (7, [.int 0, .int 0, .ref r28, .ref r29, .ref r30, .ref r31, .ref r32, .ref r33]))] sz)) 0 0 (va_A [(h0, .inr (11, [.ref r0, .int 0, .ref h2, .ref r1, .ref r2, .ref h1, .ref r3, .ref h3, .ref r4, .ref r5, .ref h4, .ref r6])), (h1, .inr (2, [.int 0, .int 0, .int 0, .int 0, .int 0, .ref r7, .ref r8, .ref r9, .ref r10, .ref r11, .ref r12, .ref r13])), (h2, .inr (10, [.int 0, .int 0, .int 0, .int 0, .int 0, .ref r14, .ref r15, .ref r16, .ref r17, .ref r18, .ref r19, .ref r20, .ref r21])), (h3, .inr (3, [.int 0, .int 0, .ref r22, .ref r23, .ref r24, .ref r25, .ref h1, .ref r26, .ref r27])), (h4, .inr (7, [.int 0, .int 0, .ref r28, .ref r29, .ref r30, .ref r31, .ref r32, .ref r33]))] sz) := by
  refine zOfW (QF := fun A => va_Qi (fun (r : Int32) (u : Unit) => r = (an_about 0)) (zB D A (fun (u : Unit) => match u with | _ => []) (fun (u : Unit) => match u with | _ => [])) A) (cc := cX11_about) (maxL := 2) (ret := (some .int)) (by decide) rfl (Nat.le_of_ble_eq_true rfl) ?_
  intro p e s m below meth c A ls hx hb hr hml hts hown hlocks hin hA hS hP hD hK hN hl
  have hl : lv_has ls 2 [(0, .ref h0), (1, .int 0)] := hl
  refine lv_iload_n hx hb dX11_about_0 rfl (lv_at hl 1 rfl) ?_
  refine lv_tableIn (off := 55) (tgt := 56) hx hb dX11_about_1 (by decide) (by decide) rfl (by decide) ?_
  refine lv_aload_n hx hb dX11_about_56 rfl (lv_at hl 0 rfl) ?_
  refine va_get (D := D) (ci := 11) (v := .ref h1) (C := RX11) (T := TX11) (N := 12) hx hb hts iuX11_about_X11 hown hK hP 0 rfl rfl 5 (by decide) (hts (.fieldLink RX11 39 "StraitGame" "laws" "LStraitGame$Laws;") (List.mem_of_getElem? (i := 1) rfl)) (fun _ h9 => h9) rfl dX11_about_57 ?_
  refine va_get (D := D) (ci := 2) (v := .int 0) (C := RX2) (T := TX2) (N := 12) hx hb hts iuX11_about_X2 hown hK hP 1 rfl rfl 0 (by decide) (hts (.fieldLink RX11 135 "StraitGame$Laws" "squares" "I") (List.mem_of_getElem? (i := 2) rfl)) (fun _ h9 => h9) rfl dX11_about_60 ?_
  exact zret_i hx hb hr hlocks hP hD hK hS () (by decide) [] [] (by decide) rfl rfl (Nat.le_of_ble_eq_true rfl) (Nat.le_of_ble_eq_true rfl) dX11_about_63
set_option maxHeartbeats 4000000 in
set_option maxRecDepth 100000 in
theorem aX11_about_c3 (l : Launch) (D : va_G) (h0 h1 h2 h3 h4 r0 r1 r2 r3 r4 r5 r6 r7 r8 r9 r10 r11 r12 r13 r14 r15 r16 r17 r18 r19 r20 r21 r22 r23 r24 r25 r26 r27 r28 r29 r30 r31 r32 r33 : Nat) (sz : Nat) : Met l yX11_about wsX11_about ({ frames := 1, cells := 0, slots := 0, locals := 22 }) (zPre D [.ref h0, .int 1] [(h0, .inr (11, [.ref r0, .int 0, .ref h2, .ref r1, .ref r2, .ref h1, .ref r3, .ref h3, .ref r4, .ref r5, .ref h4, .ref r6])), (h1, .inr (2, [.int 0, .int 0, .int 0, .int 0, .int 0, .ref r7, .ref r8, .ref r9, .ref r10, .ref r11, .ref r12, .ref r13])), (h2, .inr (10, [.int 0, .int 0, .int 0, .int 0, .int 0, .ref r14, .ref r15, .ref r16, .ref r17, .ref r18, .ref r19, .ref r20, .ref r21])), (h3, .inr (3, [.int 0, .int 0, .ref r22, .ref r23, .ref r24, .ref r25, .ref h1, .ref r26, .ref r27])), (h4, .inr (7, [.int 0, .int 0, .ref r28, .ref r29, .ref r30, .ref r31, .ref r32, .ref r33]))] [] sz) ((fun A => va_Qi (fun (r : Int32) (u : Unit) => r = (an_about 1)) (zB D A (fun (u : Unit) => match u with | _ => []) (fun (u : Unit) => match u with | _ => [])) A) (va_A [(h0, .inr (11, [.ref r0, .int 0, .ref h2, .ref r1, .ref r2, .ref h1, .ref r3, .ref h3, .ref r4, .ref r5, .ref h4, .ref r6])), (h1, .inr (2, [.int 0, .int 0, .int 0, .int 0, .int 0, .ref r7, .ref r8, .ref r9, .ref r10, .ref r11, .ref r12, .ref r13])), (h2, .inr (10, [.int 0, .int 0, .int 0, .int 0, .int 0, .ref r14, .ref r15, .ref r16, .ref r17, .ref r18, .ref r19, .ref r20, .ref r21])), (h3, .inr (3, [.int 0, .int 0, .ref r22, .ref r23, .ref r24, .ref r25, .ref h1, .ref r26, .ref r27])), (h4, .inr (7, [.int 0, .int 0, .ref r28, .ref r29, .ref r30, .ref r31, .ref r32, .ref r33]))] sz)) 0 0 (va_A [(h0, .inr (11, [.ref r0, .int 0, .ref h2, .ref r1, .ref r2, .ref h1, .ref r3, .ref h3, .ref r4, .ref r5, .ref h4, .ref r6])), (h1, .inr (2, [.int 0, .int 0, .int 0, .int 0, .int 0, .ref r7, .ref r8, .ref r9, .ref r10, .ref r11, .ref r12, .ref r13])), (h2, .inr (10, [.int 0, .int 0, .int 0, .int 0, .int 0, .ref r14, .ref r15, .ref r16, .ref r17, .ref r18, .ref r19, .ref r20, .ref r21])), (h3, .inr (3, [.int 0, .int 0, .ref r22, .ref r23, .ref r24, .ref r25, .ref h1, .ref r26, .ref r27])), (h4, .inr (7, [.int 0, .int 0, .ref r28, .ref r29, .ref r30, .ref r31, .ref r32, .ref r33]))] sz) := by
  refine zOfW (QF := fun A => va_Qi (fun (r : Int32) (u : Unit) => r = (an_about 1)) (zB D A (fun (u : Unit) => match u with | _ => []) (fun (u : Unit) => match u with | _ => [])) A) (cc := cX11_about) (maxL := 2) (ret := (some .int)) (by decide) rfl (Nat.le_of_ble_eq_true rfl) ?_
  intro p e s m below meth c A ls hx hb hr hml hts hown hlocks hin hA hS hP hD hK hN hl
  have hl : lv_has ls 2 [(0, .ref h0), (1, .int 1)] := hl
  refine lv_iload_n hx hb dX11_about_0 rfl (lv_at hl 1 rfl) ?_
  refine lv_tableIn (off := 63) (tgt := 64) hx hb dX11_about_1 (by decide) (by decide) rfl (by decide) ?_
  refine lv_aload_n hx hb dX11_about_64 rfl (lv_at hl 0 rfl) ?_
  refine va_get (D := D) (ci := 11) (v := .ref h2) (C := RX11) (T := TX11) (N := 12) hx hb hts iuX11_about_X11 hown hK hP 0 rfl rfl 2 (by decide) (hts (.fieldLink RX11 20 "StraitGame" "told" "LStraitGame$Told;") (List.mem_of_getElem? (i := 3) rfl)) (fun _ h9 => h9) rfl dX11_about_65 ?_
  refine va_get (D := D) (ci := 10) (v := .int 0) (C := RX10) (T := TX10) (N := 13) hx hb hts iuX11_about_X10 hown hK hP 2 rfl rfl 2 (by decide) (hts (.fieldLink RX11 216 "StraitGame$Told" "pieces" "I") (List.mem_of_getElem? (i := 4) rfl)) (fun _ h9 => h9) rfl dX11_about_68 ?_
  exact zret_i hx hb hr hlocks hP hD hK hS () (by decide) [] [] (by decide) rfl rfl (Nat.le_of_ble_eq_true rfl) (Nat.le_of_ble_eq_true rfl) dX11_about_71
set_option maxHeartbeats 4000000 in
set_option maxRecDepth 100000 in
theorem aX11_about_c4 (l : Launch) (D : va_G) (h0 h1 h2 h3 h4 r0 r1 r2 r3 r4 r5 r6 r7 r8 r9 r10 r11 r12 r13 r14 r15 r16 r17 r18 r19 r20 r21 r22 r23 r24 r25 r26 r27 r28 r29 r30 r31 r32 r33 : Nat) (sz : Nat) : Met l yX11_about wsX11_about ({ frames := 1, cells := 0, slots := 0, locals := 22 }) (zPre D [.ref h0, .int 2] [(h0, .inr (11, [.ref r0, .int 0, .ref h2, .ref r1, .ref r2, .ref h1, .ref r3, .ref h3, .ref r4, .ref r5, .ref h4, .ref r6])), (h1, .inr (2, [.int 0, .int 0, .int 0, .int 0, .int 0, .ref r7, .ref r8, .ref r9, .ref r10, .ref r11, .ref r12, .ref r13])), (h2, .inr (10, [.int 0, .int 0, .int 0, .int 0, .int 0, .ref r14, .ref r15, .ref r16, .ref r17, .ref r18, .ref r19, .ref r20, .ref r21])), (h3, .inr (3, [.int 0, .int 0, .ref r22, .ref r23, .ref r24, .ref r25, .ref h1, .ref r26, .ref r27])), (h4, .inr (7, [.int 0, .int 0, .ref r28, .ref r29, .ref r30, .ref r31, .ref r32, .ref r33]))] [] sz) ((fun A => va_Qi (fun (r : Int32) (u : Unit) => r = (an_about 2)) (zB D A (fun (u : Unit) => match u with | _ => []) (fun (u : Unit) => match u with | _ => [])) A) (va_A [(h0, .inr (11, [.ref r0, .int 0, .ref h2, .ref r1, .ref r2, .ref h1, .ref r3, .ref h3, .ref r4, .ref r5, .ref h4, .ref r6])), (h1, .inr (2, [.int 0, .int 0, .int 0, .int 0, .int 0, .ref r7, .ref r8, .ref r9, .ref r10, .ref r11, .ref r12, .ref r13])), (h2, .inr (10, [.int 0, .int 0, .int 0, .int 0, .int 0, .ref r14, .ref r15, .ref r16, .ref r17, .ref r18, .ref r19, .ref r20, .ref r21])), (h3, .inr (3, [.int 0, .int 0, .ref r22, .ref r23, .ref r24, .ref r25, .ref h1, .ref r26, .ref r27])), (h4, .inr (7, [.int 0, .int 0, .ref r28, .ref r29, .ref r30, .ref r31, .ref r32, .ref r33]))] sz)) 0 0 (va_A [(h0, .inr (11, [.ref r0, .int 0, .ref h2, .ref r1, .ref r2, .ref h1, .ref r3, .ref h3, .ref r4, .ref r5, .ref h4, .ref r6])), (h1, .inr (2, [.int 0, .int 0, .int 0, .int 0, .int 0, .ref r7, .ref r8, .ref r9, .ref r10, .ref r11, .ref r12, .ref r13])), (h2, .inr (10, [.int 0, .int 0, .int 0, .int 0, .int 0, .ref r14, .ref r15, .ref r16, .ref r17, .ref r18, .ref r19, .ref r20, .ref r21])), (h3, .inr (3, [.int 0, .int 0, .ref r22, .ref r23, .ref r24, .ref r25, .ref h1, .ref r26, .ref r27])), (h4, .inr (7, [.int 0, .int 0, .ref r28, .ref r29, .ref r30, .ref r31, .ref r32, .ref r33]))] sz) := by
  refine zOfW (QF := fun A => va_Qi (fun (r : Int32) (u : Unit) => r = (an_about 2)) (zB D A (fun (u : Unit) => match u with | _ => []) (fun (u : Unit) => match u with | _ => [])) A) (cc := cX11_about) (maxL := 2) (ret := (some .int)) (by decide) rfl (Nat.le_of_ble_eq_true rfl) ?_
  intro p e s m below meth c A ls hx hb hr hml hts hown hlocks hin hA hS hP hD hK hN hl
  have hl : lv_has ls 2 [(0, .ref h0), (1, .int 2)] := hl
  refine lv_iload_n hx hb dX11_about_0 rfl (lv_at hl 1 rfl) ?_
  refine lv_tableIn (off := 71) (tgt := 72) hx hb dX11_about_1 (by decide) (by decide) rfl (by decide) ?_
  refine lv_aload_n hx hb dX11_about_72 rfl (lv_at hl 0 rfl) ?_
  refine va_get (D := D) (ci := 11) (v := .ref h2) (C := RX11) (T := TX11) (N := 12) hx hb hts iuX11_about_X11 hown hK hP 0 rfl rfl 2 (by decide) (hts (.fieldLink RX11 20 "StraitGame" "told" "LStraitGame$Told;") (List.mem_of_getElem? (i := 3) rfl)) (fun _ h9 => h9) rfl dX11_about_73 ?_
  refine va_get (D := D) (ci := 10) (v := .int 0) (C := RX10) (T := TX10) (N := 13) hx hb hts iuX11_about_X10 hown hK hP 2 rfl rfl 3 (by decide) (hts (.fieldLink RX11 105 "StraitGame$Told" "men" "I") (List.mem_of_getElem? (i := 5) rfl)) (fun _ h9 => h9) rfl dX11_about_76 ?_
  exact zret_i hx hb hr hlocks hP hD hK hS () (by decide) [] [] (by decide) rfl rfl (Nat.le_of_ble_eq_true rfl) (Nat.le_of_ble_eq_true rfl) dX11_about_79
set_option maxHeartbeats 4000000 in
set_option maxRecDepth 100000 in
theorem aX11_about_c5 (l : Launch) (D : va_G) (h0 h1 h2 h3 h4 r0 r1 r2 r3 r4 r5 r6 r7 r8 r9 r10 r11 r12 r13 r14 r15 r16 r17 r18 r19 r20 r21 r22 r23 r24 r25 r26 r27 r28 r29 r30 r31 r32 r33 : Nat) (sz : Nat) : Met l yX11_about wsX11_about ({ frames := 1, cells := 0, slots := 0, locals := 22 }) (zPre D [.ref h0, .int 3] [(h0, .inr (11, [.ref r0, .int 0, .ref h2, .ref r1, .ref r2, .ref h1, .ref r3, .ref h3, .ref r4, .ref r5, .ref h4, .ref r6])), (h1, .inr (2, [.int 0, .int 0, .int 0, .int 0, .int 0, .ref r7, .ref r8, .ref r9, .ref r10, .ref r11, .ref r12, .ref r13])), (h2, .inr (10, [.int 0, .int 0, .int 0, .int 0, .int 0, .ref r14, .ref r15, .ref r16, .ref r17, .ref r18, .ref r19, .ref r20, .ref r21])), (h3, .inr (3, [.int 0, .int 0, .ref r22, .ref r23, .ref r24, .ref r25, .ref h1, .ref r26, .ref r27])), (h4, .inr (7, [.int 0, .int 0, .ref r28, .ref r29, .ref r30, .ref r31, .ref r32, .ref r33]))] [] sz) ((fun A => va_Qi (fun (r : Int32) (u : Unit) => r = (an_about 3)) (zB D A (fun (u : Unit) => match u with | _ => []) (fun (u : Unit) => match u with | _ => [])) A) (va_A [(h0, .inr (11, [.ref r0, .int 0, .ref h2, .ref r1, .ref r2, .ref h1, .ref r3, .ref h3, .ref r4, .ref r5, .ref h4, .ref r6])), (h1, .inr (2, [.int 0, .int 0, .int 0, .int 0, .int 0, .ref r7, .ref r8, .ref r9, .ref r10, .ref r11, .ref r12, .ref r13])), (h2, .inr (10, [.int 0, .int 0, .int 0, .int 0, .int 0, .ref r14, .ref r15, .ref r16, .ref r17, .ref r18, .ref r19, .ref r20, .ref r21])), (h3, .inr (3, [.int 0, .int 0, .ref r22, .ref r23, .ref r24, .ref r25, .ref h1, .ref r26, .ref r27])), (h4, .inr (7, [.int 0, .int 0, .ref r28, .ref r29, .ref r30, .ref r31, .ref r32, .ref r33]))] sz)) 0 0 (va_A [(h0, .inr (11, [.ref r0, .int 0, .ref h2, .ref r1, .ref r2, .ref h1, .ref r3, .ref h3, .ref r4, .ref r5, .ref h4, .ref r6])), (h1, .inr (2, [.int 0, .int 0, .int 0, .int 0, .int 0, .ref r7, .ref r8, .ref r9, .ref r10, .ref r11, .ref r12, .ref r13])), (h2, .inr (10, [.int 0, .int 0, .int 0, .int 0, .int 0, .ref r14, .ref r15, .ref r16, .ref r17, .ref r18, .ref r19, .ref r20, .ref r21])), (h3, .inr (3, [.int 0, .int 0, .ref r22, .ref r23, .ref r24, .ref r25, .ref h1, .ref r26, .ref r27])), (h4, .inr (7, [.int 0, .int 0, .ref r28, .ref r29, .ref r30, .ref r31, .ref r32, .ref r33]))] sz) := by
  refine zOfW (QF := fun A => va_Qi (fun (r : Int32) (u : Unit) => r = (an_about 3)) (zB D A (fun (u : Unit) => match u with | _ => []) (fun (u : Unit) => match u with | _ => [])) A) (cc := cX11_about) (maxL := 2) (ret := (some .int)) (by decide) rfl (Nat.le_of_ble_eq_true rfl) ?_
  intro p e s m below meth c A ls hx hb hr hml hts hown hlocks hin hA hS hP hD hK hN hl
  have hl : lv_has ls 2 [(0, .ref h0), (1, .int 3)] := hl
  refine lv_iload_n hx hb dX11_about_0 rfl (lv_at hl 1 rfl) ?_
  refine lv_tableIn (off := 79) (tgt := 80) hx hb dX11_about_1 (by decide) (by decide) rfl (by decide) ?_
  refine lv_aload_n hx hb dX11_about_80 rfl (lv_at hl 0 rfl) ?_
  refine va_get (D := D) (ci := 11) (v := .ref h3) (C := RX11) (T := TX11) (N := 12) hx hb hts iuX11_about_X11 hown hK hP 0 rfl rfl 7 (by decide) (hts (.fieldLink RX11 55 "StraitGame" "nights" "LStraitGame$Nights;") (List.mem_of_getElem? (i := 6) rfl)) (fun _ h9 => h9) rfl dX11_about_81 ?_
  refine va_get (D := D) (ci := 3) (v := .int 0) (C := RX3) (T := TX3) (N := 9) hx hb hts iuX11_about_X3 hown hK hP 3 rfl rfl 0 (by decide) (hts (.fieldLink RX11 171 "StraitGame$Nights" "count" "I") (List.mem_of_getElem? (i := 7) rfl)) (fun _ h9 => h9) rfl dX11_about_84 ?_
  exact zret_i hx hb hr hlocks hP hD hK hS () (by decide) [] [] (by decide) rfl rfl (Nat.le_of_ble_eq_true rfl) (Nat.le_of_ble_eq_true rfl) dX11_about_87
set_option maxHeartbeats 4000000 in
set_option maxRecDepth 100000 in
theorem aX11_about_c6 (l : Launch) (D : va_G) (h0 h1 h2 h3 h4 r0 r1 r2 r3 r4 r5 r6 r7 r8 r9 r10 r11 r12 r13 r14 r15 r16 r17 r18 r19 r20 r21 r22 r23 r24 r25 r26 r27 r28 r29 r30 r31 r32 r33 : Nat) (sz : Nat) : Met l yX11_about wsX11_about ({ frames := 1, cells := 0, slots := 0, locals := 22 }) (zPre D [.ref h0, .int 4] [(h0, .inr (11, [.ref r0, .int 0, .ref h2, .ref r1, .ref r2, .ref h1, .ref r3, .ref h3, .ref r4, .ref r5, .ref h4, .ref r6])), (h1, .inr (2, [.int 0, .int 0, .int 0, .int 0, .int 0, .ref r7, .ref r8, .ref r9, .ref r10, .ref r11, .ref r12, .ref r13])), (h2, .inr (10, [.int 0, .int 0, .int 0, .int 0, .int 0, .ref r14, .ref r15, .ref r16, .ref r17, .ref r18, .ref r19, .ref r20, .ref r21])), (h3, .inr (3, [.int 0, .int 0, .ref r22, .ref r23, .ref r24, .ref r25, .ref h1, .ref r26, .ref r27])), (h4, .inr (7, [.int 0, .int 0, .ref r28, .ref r29, .ref r30, .ref r31, .ref r32, .ref r33]))] [] sz) ((fun A => va_Qi (fun (r : Int32) (u : Unit) => r = (an_about 4)) (zB D A (fun (u : Unit) => match u with | _ => []) (fun (u : Unit) => match u with | _ => [])) A) (va_A [(h0, .inr (11, [.ref r0, .int 0, .ref h2, .ref r1, .ref r2, .ref h1, .ref r3, .ref h3, .ref r4, .ref r5, .ref h4, .ref r6])), (h1, .inr (2, [.int 0, .int 0, .int 0, .int 0, .int 0, .ref r7, .ref r8, .ref r9, .ref r10, .ref r11, .ref r12, .ref r13])), (h2, .inr (10, [.int 0, .int 0, .int 0, .int 0, .int 0, .ref r14, .ref r15, .ref r16, .ref r17, .ref r18, .ref r19, .ref r20, .ref r21])), (h3, .inr (3, [.int 0, .int 0, .ref r22, .ref r23, .ref r24, .ref r25, .ref h1, .ref r26, .ref r27])), (h4, .inr (7, [.int 0, .int 0, .ref r28, .ref r29, .ref r30, .ref r31, .ref r32, .ref r33]))] sz)) 0 0 (va_A [(h0, .inr (11, [.ref r0, .int 0, .ref h2, .ref r1, .ref r2, .ref h1, .ref r3, .ref h3, .ref r4, .ref r5, .ref h4, .ref r6])), (h1, .inr (2, [.int 0, .int 0, .int 0, .int 0, .int 0, .ref r7, .ref r8, .ref r9, .ref r10, .ref r11, .ref r12, .ref r13])), (h2, .inr (10, [.int 0, .int 0, .int 0, .int 0, .int 0, .ref r14, .ref r15, .ref r16, .ref r17, .ref r18, .ref r19, .ref r20, .ref r21])), (h3, .inr (3, [.int 0, .int 0, .ref r22, .ref r23, .ref r24, .ref r25, .ref h1, .ref r26, .ref r27])), (h4, .inr (7, [.int 0, .int 0, .ref r28, .ref r29, .ref r30, .ref r31, .ref r32, .ref r33]))] sz) := by
  refine zOfW (QF := fun A => va_Qi (fun (r : Int32) (u : Unit) => r = (an_about 4)) (zB D A (fun (u : Unit) => match u with | _ => []) (fun (u : Unit) => match u with | _ => [])) A) (cc := cX11_about) (maxL := 2) (ret := (some .int)) (by decide) rfl (Nat.le_of_ble_eq_true rfl) ?_
  intro p e s m below meth c A ls hx hb hr hml hts hown hlocks hin hA hS hP hD hK hN hl
  have hl : lv_has ls 2 [(0, .ref h0), (1, .int 4)] := hl
  refine lv_iload_n hx hb dX11_about_0 rfl (lv_at hl 1 rfl) ?_
  refine lv_tableIn (off := 87) (tgt := 88) hx hb dX11_about_1 (by decide) (by decide) rfl (by decide) ?_
  refine lv_aload_n hx hb dX11_about_88 rfl (lv_at hl 0 rfl) ?_
  refine va_get (D := D) (ci := 11) (v := .ref h3) (C := RX11) (T := TX11) (N := 12) hx hb hts iuX11_about_X11 hown hK hP 0 rfl rfl 7 (by decide) (hts (.fieldLink RX11 55 "StraitGame" "nights" "LStraitGame$Nights;") (List.mem_of_getElem? (i := 6) rfl)) (fun _ h9 => h9) rfl dX11_about_89 ?_
  refine va_get (D := D) (ci := 3) (v := .int 0) (C := RX3) (T := TX3) (N := 9) hx hb hts iuX11_about_X3 hown hK hP 3 rfl rfl 1 (by decide) (hts (.fieldLink RX11 176 "StraitGame$Nights" "kept" "I") (List.mem_of_getElem? (i := 8) rfl)) (fun _ h9 => h9) rfl dX11_about_92 ?_
  refine lv_aload_n hx hb dX11_about_95 rfl (lv_at hl 0 rfl) ?_
  refine va_get (D := D) (ci := 11) (v := .ref h3) (C := RX11) (T := TX11) (N := 12) hx hb hts iuX11_about_X11 hown hK hP 0 rfl rfl 7 (by decide) (hts (.fieldLink RX11 55 "StraitGame" "nights" "LStraitGame$Nights;") (List.mem_of_getElem? (i := 6) rfl)) (fun _ h9 => h9) rfl dX11_about_96 ?_
  refine va_get (D := D) (ci := 3) (v := .int 0) (C := RX3) (T := TX3) (N := 9) hx hb hts iuX11_about_X3 hown hK hP 3 rfl rfl 0 (by decide) (hts (.fieldLink RX11 171 "StraitGame$Nights" "count" "I") (List.mem_of_getElem? (i := 7) rfl)) (fun _ h9 => h9) rfl dX11_about_99 ?_
  refine lv_isub hx hb dX11_about_102 ?_
  refine z_top (y := 0) (by decide) ?_
  exact zret_i hx hb hr hlocks hP hD hK hS () (by decide) [] [] (by decide) rfl rfl (Nat.le_of_ble_eq_true rfl) (Nat.le_of_ble_eq_true rfl) dX11_about_103
set_option maxHeartbeats 4000000 in
set_option maxRecDepth 100000 in
theorem aX11_about_c7 (l : Launch) (D : va_G) (h0 h1 h2 h3 h4 r0 r1 r2 r3 r4 r5 r6 r7 r8 r9 r10 r11 r12 r13 r14 r15 r16 r17 r18 r19 r20 r21 r22 r23 r24 r25 r26 r27 r28 r29 r30 r31 r32 r33 : Nat) (sz : Nat) : Met l yX11_about wsX11_about ({ frames := 1, cells := 0, slots := 0, locals := 22 }) (zPre D [.ref h0, .int 5] [(h0, .inr (11, [.ref r0, .int 0, .ref h2, .ref r1, .ref r2, .ref h1, .ref r3, .ref h3, .ref r4, .ref r5, .ref h4, .ref r6])), (h1, .inr (2, [.int 0, .int 0, .int 0, .int 0, .int 0, .ref r7, .ref r8, .ref r9, .ref r10, .ref r11, .ref r12, .ref r13])), (h2, .inr (10, [.int 0, .int 0, .int 0, .int 0, .int 0, .ref r14, .ref r15, .ref r16, .ref r17, .ref r18, .ref r19, .ref r20, .ref r21])), (h3, .inr (3, [.int 0, .int 0, .ref r22, .ref r23, .ref r24, .ref r25, .ref h1, .ref r26, .ref r27])), (h4, .inr (7, [.int 0, .int 0, .ref r28, .ref r29, .ref r30, .ref r31, .ref r32, .ref r33]))] [] sz) ((fun A => va_Qi (fun (r : Int32) (u : Unit) => r = (an_about 5)) (zB D A (fun (u : Unit) => match u with | _ => []) (fun (u : Unit) => match u with | _ => [])) A) (va_A [(h0, .inr (11, [.ref r0, .int 0, .ref h2, .ref r1, .ref r2, .ref h1, .ref r3, .ref h3, .ref r4, .ref r5, .ref h4, .ref r6])), (h1, .inr (2, [.int 0, .int 0, .int 0, .int 0, .int 0, .ref r7, .ref r8, .ref r9, .ref r10, .ref r11, .ref r12, .ref r13])), (h2, .inr (10, [.int 0, .int 0, .int 0, .int 0, .int 0, .ref r14, .ref r15, .ref r16, .ref r17, .ref r18, .ref r19, .ref r20, .ref r21])), (h3, .inr (3, [.int 0, .int 0, .ref r22, .ref r23, .ref r24, .ref r25, .ref h1, .ref r26, .ref r27])), (h4, .inr (7, [.int 0, .int 0, .ref r28, .ref r29, .ref r30, .ref r31, .ref r32, .ref r33]))] sz)) 0 0 (va_A [(h0, .inr (11, [.ref r0, .int 0, .ref h2, .ref r1, .ref r2, .ref h1, .ref r3, .ref h3, .ref r4, .ref r5, .ref h4, .ref r6])), (h1, .inr (2, [.int 0, .int 0, .int 0, .int 0, .int 0, .ref r7, .ref r8, .ref r9, .ref r10, .ref r11, .ref r12, .ref r13])), (h2, .inr (10, [.int 0, .int 0, .int 0, .int 0, .int 0, .ref r14, .ref r15, .ref r16, .ref r17, .ref r18, .ref r19, .ref r20, .ref r21])), (h3, .inr (3, [.int 0, .int 0, .ref r22, .ref r23, .ref r24, .ref r25, .ref h1, .ref r26, .ref r27])), (h4, .inr (7, [.int 0, .int 0, .ref r28, .ref r29, .ref r30, .ref r31, .ref r32, .ref r33]))] sz) := by
  refine zOfW (QF := fun A => va_Qi (fun (r : Int32) (u : Unit) => r = (an_about 5)) (zB D A (fun (u : Unit) => match u with | _ => []) (fun (u : Unit) => match u with | _ => [])) A) (cc := cX11_about) (maxL := 2) (ret := (some .int)) (by decide) rfl (Nat.le_of_ble_eq_true rfl) ?_
  intro p e s m below meth c A ls hx hb hr hml hts hown hlocks hin hA hS hP hD hK hN hl
  have hl : lv_has ls 2 [(0, .ref h0), (1, .int 5)] := hl
  refine lv_iload_n hx hb dX11_about_0 rfl (lv_at hl 1 rfl) ?_
  refine lv_tableIn (off := 103) (tgt := 104) hx hb dX11_about_1 (by decide) (by decide) rfl (by decide) ?_
  refine lv_aload_n hx hb dX11_about_104 rfl (lv_at hl 0 rfl) ?_
  refine va_get (D := D) (ci := 11) (v := .ref h4) (C := RX11) (T := TX11) (N := 12) hx hb hts iuX11_about_X11 hown hK hP 0 rfl rfl 10 (by decide) (hts (.fieldLink RX11 78 "StraitGame" "sights" "LStraitGame$Sights;") (List.mem_of_getElem? (i := 9) rfl)) (fun _ h9 => h9) rfl dX11_about_105 ?_
  refine va_get (D := D) (ci := 7) (v := .int 0) (C := RX7) (T := TX7) (N := 8) hx hb hts iuX11_about_X7 hown hK hP 4 rfl rfl 0 (by decide) (hts (.fieldLink RX11 122 "StraitGame$Sights" "count" "I") (List.mem_of_getElem? (i := 10) rfl)) (fun _ h9 => h9) rfl dX11_about_108 ?_
  exact zret_i hx hb hr hlocks hP hD hK hS () (by decide) [] [] (by decide) rfl rfl (Nat.le_of_ble_eq_true rfl) (Nat.le_of_ble_eq_true rfl) dX11_about_111
set_option maxHeartbeats 4000000 in
set_option maxRecDepth 100000 in
theorem aX11_about_c8 (l : Launch) (D : va_G) (h0 h1 h2 h3 h4 r0 r1 r2 r3 r4 r5 r6 r7 r8 r9 r10 r11 r12 r13 r14 r15 r16 r17 r18 r19 r20 r21 r22 r23 r24 r25 r26 r27 r28 r29 r30 r31 r32 r33 : Nat) (sz : Nat) : Met l yX11_about wsX11_about ({ frames := 1, cells := 0, slots := 0, locals := 22 }) (zPre D [.ref h0, .int 6] [(h0, .inr (11, [.ref r0, .int 0, .ref h2, .ref r1, .ref r2, .ref h1, .ref r3, .ref h3, .ref r4, .ref r5, .ref h4, .ref r6])), (h1, .inr (2, [.int 0, .int 0, .int 0, .int 0, .int 0, .ref r7, .ref r8, .ref r9, .ref r10, .ref r11, .ref r12, .ref r13])), (h2, .inr (10, [.int 0, .int 0, .int 0, .int 0, .int 0, .ref r14, .ref r15, .ref r16, .ref r17, .ref r18, .ref r19, .ref r20, .ref r21])), (h3, .inr (3, [.int 0, .int 0, .ref r22, .ref r23, .ref r24, .ref r25, .ref h1, .ref r26, .ref r27])), (h4, .inr (7, [.int 0, .int 0, .ref r28, .ref r29, .ref r30, .ref r31, .ref r32, .ref r33]))] [] sz) ((fun A => va_Qi (fun (r : Int32) (u : Unit) => r = (an_about 6)) (zB D A (fun (u : Unit) => match u with | _ => []) (fun (u : Unit) => match u with | _ => [])) A) (va_A [(h0, .inr (11, [.ref r0, .int 0, .ref h2, .ref r1, .ref r2, .ref h1, .ref r3, .ref h3, .ref r4, .ref r5, .ref h4, .ref r6])), (h1, .inr (2, [.int 0, .int 0, .int 0, .int 0, .int 0, .ref r7, .ref r8, .ref r9, .ref r10, .ref r11, .ref r12, .ref r13])), (h2, .inr (10, [.int 0, .int 0, .int 0, .int 0, .int 0, .ref r14, .ref r15, .ref r16, .ref r17, .ref r18, .ref r19, .ref r20, .ref r21])), (h3, .inr (3, [.int 0, .int 0, .ref r22, .ref r23, .ref r24, .ref r25, .ref h1, .ref r26, .ref r27])), (h4, .inr (7, [.int 0, .int 0, .ref r28, .ref r29, .ref r30, .ref r31, .ref r32, .ref r33]))] sz)) 0 0 (va_A [(h0, .inr (11, [.ref r0, .int 0, .ref h2, .ref r1, .ref r2, .ref h1, .ref r3, .ref h3, .ref r4, .ref r5, .ref h4, .ref r6])), (h1, .inr (2, [.int 0, .int 0, .int 0, .int 0, .int 0, .ref r7, .ref r8, .ref r9, .ref r10, .ref r11, .ref r12, .ref r13])), (h2, .inr (10, [.int 0, .int 0, .int 0, .int 0, .int 0, .ref r14, .ref r15, .ref r16, .ref r17, .ref r18, .ref r19, .ref r20, .ref r21])), (h3, .inr (3, [.int 0, .int 0, .ref r22, .ref r23, .ref r24, .ref r25, .ref h1, .ref r26, .ref r27])), (h4, .inr (7, [.int 0, .int 0, .ref r28, .ref r29, .ref r30, .ref r31, .ref r32, .ref r33]))] sz) := by
  refine zOfW (QF := fun A => va_Qi (fun (r : Int32) (u : Unit) => r = (an_about 6)) (zB D A (fun (u : Unit) => match u with | _ => []) (fun (u : Unit) => match u with | _ => [])) A) (cc := cX11_about) (maxL := 2) (ret := (some .int)) (by decide) rfl (Nat.le_of_ble_eq_true rfl) ?_
  intro p e s m below meth c A ls hx hb hr hml hts hown hlocks hin hA hS hP hD hK hN hl
  have hl : lv_has ls 2 [(0, .ref h0), (1, .int 6)] := hl
  refine lv_iload_n hx hb dX11_about_0 rfl (lv_at hl 1 rfl) ?_
  refine lv_tableIn (off := 111) (tgt := 112) hx hb dX11_about_1 (by decide) (by decide) rfl (by decide) ?_
  refine lv_aload_n hx hb dX11_about_112 rfl (lv_at hl 0 rfl) ?_
  refine va_get (D := D) (ci := 11) (v := .ref h4) (C := RX11) (T := TX11) (N := 12) hx hb hts iuX11_about_X11 hown hK hP 0 rfl rfl 10 (by decide) (hts (.fieldLink RX11 78 "StraitGame" "sights" "LStraitGame$Sights;") (List.mem_of_getElem? (i := 9) rfl)) (fun _ h9 => h9) rfl dX11_about_113 ?_
  refine va_get (D := D) (ci := 7) (v := .int 0) (C := RX7) (T := TX7) (N := 8) hx hb hts iuX11_about_X7 hown hK hP 4 rfl rfl 1 (by decide) (hts (.fieldLink RX11 226 "StraitGame$Sights" "time" "I") (List.mem_of_getElem? (i := 11) rfl)) (fun _ h9 => h9) rfl dX11_about_116 ?_
  exact zret_i hx hb hr hlocks hP hD hK hS () (by decide) [] [] (by decide) rfl rfl (Nat.le_of_ble_eq_true rfl) (Nat.le_of_ble_eq_true rfl) dX11_about_119
set_option maxHeartbeats 4000000 in
set_option maxRecDepth 100000 in
theorem aX11_about_c9 (l : Launch) (D : va_G) (h0 h1 h2 h3 h4 r0 r1 r2 r3 r4 r5 r6 r7 r8 r9 r10 r11 r12 r13 r14 r15 r16 r17 r18 r19 r20 r21 r22 r23 r24 r25 r26 r27 r28 r29 r30 r31 r32 r33 : Nat) (sz : Nat) : Met l yX11_about wsX11_about ({ frames := 1, cells := 0, slots := 0, locals := 22 }) (zPre D [.ref h0, .int 7] [(h0, .inr (11, [.ref r0, .int 0, .ref h2, .ref r1, .ref r2, .ref h1, .ref r3, .ref h3, .ref r4, .ref r5, .ref h4, .ref r6])), (h1, .inr (2, [.int 0, .int 0, .int 0, .int 0, .int 0, .ref r7, .ref r8, .ref r9, .ref r10, .ref r11, .ref r12, .ref r13])), (h2, .inr (10, [.int 0, .int 0, .int 0, .int 0, .int 0, .ref r14, .ref r15, .ref r16, .ref r17, .ref r18, .ref r19, .ref r20, .ref r21])), (h3, .inr (3, [.int 0, .int 0, .ref r22, .ref r23, .ref r24, .ref r25, .ref h1, .ref r26, .ref r27])), (h4, .inr (7, [.int 0, .int 0, .ref r28, .ref r29, .ref r30, .ref r31, .ref r32, .ref r33]))] [] sz) ((fun A => va_Qi (fun (r : Int32) (u : Unit) => r = (an_about 7)) (zB D A (fun (u : Unit) => match u with | _ => []) (fun (u : Unit) => match u with | _ => [])) A) (va_A [(h0, .inr (11, [.ref r0, .int 0, .ref h2, .ref r1, .ref r2, .ref h1, .ref r3, .ref h3, .ref r4, .ref r5, .ref h4, .ref r6])), (h1, .inr (2, [.int 0, .int 0, .int 0, .int 0, .int 0, .ref r7, .ref r8, .ref r9, .ref r10, .ref r11, .ref r12, .ref r13])), (h2, .inr (10, [.int 0, .int 0, .int 0, .int 0, .int 0, .ref r14, .ref r15, .ref r16, .ref r17, .ref r18, .ref r19, .ref r20, .ref r21])), (h3, .inr (3, [.int 0, .int 0, .ref r22, .ref r23, .ref r24, .ref r25, .ref h1, .ref r26, .ref r27])), (h4, .inr (7, [.int 0, .int 0, .ref r28, .ref r29, .ref r30, .ref r31, .ref r32, .ref r33]))] sz)) 0 0 (va_A [(h0, .inr (11, [.ref r0, .int 0, .ref h2, .ref r1, .ref r2, .ref h1, .ref r3, .ref h3, .ref r4, .ref r5, .ref h4, .ref r6])), (h1, .inr (2, [.int 0, .int 0, .int 0, .int 0, .int 0, .ref r7, .ref r8, .ref r9, .ref r10, .ref r11, .ref r12, .ref r13])), (h2, .inr (10, [.int 0, .int 0, .int 0, .int 0, .int 0, .ref r14, .ref r15, .ref r16, .ref r17, .ref r18, .ref r19, .ref r20, .ref r21])), (h3, .inr (3, [.int 0, .int 0, .ref r22, .ref r23, .ref r24, .ref r25, .ref h1, .ref r26, .ref r27])), (h4, .inr (7, [.int 0, .int 0, .ref r28, .ref r29, .ref r30, .ref r31, .ref r32, .ref r33]))] sz) := by
  refine zOfW (QF := fun A => va_Qi (fun (r : Int32) (u : Unit) => r = (an_about 7)) (zB D A (fun (u : Unit) => match u with | _ => []) (fun (u : Unit) => match u with | _ => [])) A) (cc := cX11_about) (maxL := 2) (ret := (some .int)) (by decide) rfl (Nat.le_of_ble_eq_true rfl) ?_
  intro p e s m below meth c A ls hx hb hr hml hts hown hlocks hin hA hS hP hD hK hN hl
  have hl : lv_has ls 2 [(0, .ref h0), (1, .int 7)] := hl
  refine lv_iload_n hx hb dX11_about_0 rfl (lv_at hl 1 rfl) ?_
  refine lv_tableIn (off := 119) (tgt := 120) hx hb dX11_about_1 (by decide) (by decide) rfl (by decide) ?_
  refine lv_aload_n hx hb dX11_about_120 rfl (lv_at hl 0 rfl) ?_
  refine va_get (D := D) (ci := 11) (v := .int 0) (C := RX11) (T := TX11) (N := 12) hx hb hts iuX11_about_X11 hown hK hP 0 rfl rfl 1 (by decide) (hts (.fieldLink RX11 13 "StraitGame" "tapeBytes" "I") (List.mem_of_getElem? (i := 12) rfl)) (fun _ h9 => h9) rfl dX11_about_121 ?_
  exact zret_i hx hb hr hlocks hP hD hK hS () (by decide) [] [] (by decide) rfl rfl (Nat.le_of_ble_eq_true rfl) (Nat.le_of_ble_eq_true rfl) dX11_about_124
set_option maxHeartbeats 4000000 in
set_option maxRecDepth 100000 in
theorem aX11_about_c10 (l : Launch) (D : va_G) (h0 h1 h2 h3 h4 r0 r1 r2 r3 r4 r5 r6 r7 r8 r9 r10 r11 r12 r13 r14 r15 r16 r17 r18 r19 r20 r21 r22 r23 r24 r25 r26 r27 r28 r29 r30 r31 r32 r33 : Nat) (sz : Nat) : Met l yX11_about wsX11_about ({ frames := 1, cells := 0, slots := 0, locals := 22 }) (zPre D [.ref h0, .int 8] [(h0, .inr (11, [.ref r0, .int 0, .ref h2, .ref r1, .ref r2, .ref h1, .ref r3, .ref h3, .ref r4, .ref r5, .ref h4, .ref r6])), (h1, .inr (2, [.int 0, .int 0, .int 0, .int 0, .int 0, .ref r7, .ref r8, .ref r9, .ref r10, .ref r11, .ref r12, .ref r13])), (h2, .inr (10, [.int 0, .int 0, .int 0, .int 0, .int 0, .ref r14, .ref r15, .ref r16, .ref r17, .ref r18, .ref r19, .ref r20, .ref r21])), (h3, .inr (3, [.int 0, .int 0, .ref r22, .ref r23, .ref r24, .ref r25, .ref h1, .ref r26, .ref r27])), (h4, .inr (7, [.int 0, .int 0, .ref r28, .ref r29, .ref r30, .ref r31, .ref r32, .ref r33]))] [] sz) ((fun A => va_Qi (fun (r : Int32) (u : Unit) => r = (an_about 8)) (zB D A (fun (u : Unit) => match u with | _ => []) (fun (u : Unit) => match u with | _ => [])) A) (va_A [(h0, .inr (11, [.ref r0, .int 0, .ref h2, .ref r1, .ref r2, .ref h1, .ref r3, .ref h3, .ref r4, .ref r5, .ref h4, .ref r6])), (h1, .inr (2, [.int 0, .int 0, .int 0, .int 0, .int 0, .ref r7, .ref r8, .ref r9, .ref r10, .ref r11, .ref r12, .ref r13])), (h2, .inr (10, [.int 0, .int 0, .int 0, .int 0, .int 0, .ref r14, .ref r15, .ref r16, .ref r17, .ref r18, .ref r19, .ref r20, .ref r21])), (h3, .inr (3, [.int 0, .int 0, .ref r22, .ref r23, .ref r24, .ref r25, .ref h1, .ref r26, .ref r27])), (h4, .inr (7, [.int 0, .int 0, .ref r28, .ref r29, .ref r30, .ref r31, .ref r32, .ref r33]))] sz)) 0 0 (va_A [(h0, .inr (11, [.ref r0, .int 0, .ref h2, .ref r1, .ref r2, .ref h1, .ref r3, .ref h3, .ref r4, .ref r5, .ref h4, .ref r6])), (h1, .inr (2, [.int 0, .int 0, .int 0, .int 0, .int 0, .ref r7, .ref r8, .ref r9, .ref r10, .ref r11, .ref r12, .ref r13])), (h2, .inr (10, [.int 0, .int 0, .int 0, .int 0, .int 0, .ref r14, .ref r15, .ref r16, .ref r17, .ref r18, .ref r19, .ref r20, .ref r21])), (h3, .inr (3, [.int 0, .int 0, .ref r22, .ref r23, .ref r24, .ref r25, .ref h1, .ref r26, .ref r27])), (h4, .inr (7, [.int 0, .int 0, .ref r28, .ref r29, .ref r30, .ref r31, .ref r32, .ref r33]))] sz) := by
  refine zOfW (QF := fun A => va_Qi (fun (r : Int32) (u : Unit) => r = (an_about 8)) (zB D A (fun (u : Unit) => match u with | _ => []) (fun (u : Unit) => match u with | _ => [])) A) (cc := cX11_about) (maxL := 2) (ret := (some .int)) (by decide) rfl (Nat.le_of_ble_eq_true rfl) ?_
  intro p e s m below meth c A ls hx hb hr hml hts hown hlocks hin hA hS hP hD hK hN hl
  have hl : lv_has ls 2 [(0, .ref h0), (1, .int 8)] := hl
  refine lv_iload_n hx hb dX11_about_0 rfl (lv_at hl 1 rfl) ?_
  refine lv_tableIn (off := 124) (tgt := 125) hx hb dX11_about_1 (by decide) (by decide) rfl (by decide) ?_
  refine lv_aload_n hx hb dX11_about_125 rfl (lv_at hl 0 rfl) ?_
  refine va_get (D := D) (ci := 11) (v := .ref h2) (C := RX11) (T := TX11) (N := 12) hx hb hts iuX11_about_X11 hown hK hP 0 rfl rfl 2 (by decide) (hts (.fieldLink RX11 20 "StraitGame" "told" "LStraitGame$Told;") (List.mem_of_getElem? (i := 3) rfl)) (fun _ h9 => h9) rfl dX11_about_126 ?_
  refine va_get (D := D) (ci := 10) (v := .int 0) (C := RX10) (T := TX10) (N := 13) hx hb hts iuX11_about_X10 hown hK hP 2 rfl rfl 4 (by decide) (hts (.fieldLink RX11 254 "StraitGame$Told" "numbers" "I") (List.mem_of_getElem? (i := 13) rfl)) (fun _ h9 => h9) rfl dX11_about_129 ?_
  exact zret_i hx hb hr hlocks hP hD hK hS () (by decide) [] [] (by decide) rfl rfl (Nat.le_of_ble_eq_true rfl) (Nat.le_of_ble_eq_true rfl) dX11_about_132
set_option maxHeartbeats 4000000 in
set_option maxRecDepth 100000 in
theorem aX11_about_c11 (l : Launch) (D : va_G) (h0 h1 h2 h3 h4 r0 r1 r2 r3 r4 r5 r6 r7 r8 r9 r10 r11 r12 r13 r14 r15 r16 r17 r18 r19 r20 r21 r22 r23 r24 r25 r26 r27 r28 r29 r30 r31 r32 r33 : Nat) (sz : Nat) : Met l yX11_about wsX11_about ({ frames := 1, cells := 0, slots := 0, locals := 22 }) (zPre D [.ref h0, .int 9] [(h0, .inr (11, [.ref r0, .int 0, .ref h2, .ref r1, .ref r2, .ref h1, .ref r3, .ref h3, .ref r4, .ref r5, .ref h4, .ref r6])), (h1, .inr (2, [.int 0, .int 0, .int 0, .int 0, .int 0, .ref r7, .ref r8, .ref r9, .ref r10, .ref r11, .ref r12, .ref r13])), (h2, .inr (10, [.int 0, .int 0, .int 0, .int 0, .int 0, .ref r14, .ref r15, .ref r16, .ref r17, .ref r18, .ref r19, .ref r20, .ref r21])), (h3, .inr (3, [.int 0, .int 0, .ref r22, .ref r23, .ref r24, .ref r25, .ref h1, .ref r26, .ref r27])), (h4, .inr (7, [.int 0, .int 0, .ref r28, .ref r29, .ref r30, .ref r31, .ref r32, .ref r33]))] [] sz) ((fun A => va_Qi (fun (r : Int32) (u : Unit) => r = (an_about 9)) (zB D A (fun (u : Unit) => match u with | _ => []) (fun (u : Unit) => match u with | _ => [])) A) (va_A [(h0, .inr (11, [.ref r0, .int 0, .ref h2, .ref r1, .ref r2, .ref h1, .ref r3, .ref h3, .ref r4, .ref r5, .ref h4, .ref r6])), (h1, .inr (2, [.int 0, .int 0, .int 0, .int 0, .int 0, .ref r7, .ref r8, .ref r9, .ref r10, .ref r11, .ref r12, .ref r13])), (h2, .inr (10, [.int 0, .int 0, .int 0, .int 0, .int 0, .ref r14, .ref r15, .ref r16, .ref r17, .ref r18, .ref r19, .ref r20, .ref r21])), (h3, .inr (3, [.int 0, .int 0, .ref r22, .ref r23, .ref r24, .ref r25, .ref h1, .ref r26, .ref r27])), (h4, .inr (7, [.int 0, .int 0, .ref r28, .ref r29, .ref r30, .ref r31, .ref r32, .ref r33]))] sz)) 0 0 (va_A [(h0, .inr (11, [.ref r0, .int 0, .ref h2, .ref r1, .ref r2, .ref h1, .ref r3, .ref h3, .ref r4, .ref r5, .ref h4, .ref r6])), (h1, .inr (2, [.int 0, .int 0, .int 0, .int 0, .int 0, .ref r7, .ref r8, .ref r9, .ref r10, .ref r11, .ref r12, .ref r13])), (h2, .inr (10, [.int 0, .int 0, .int 0, .int 0, .int 0, .ref r14, .ref r15, .ref r16, .ref r17, .ref r18, .ref r19, .ref r20, .ref r21])), (h3, .inr (3, [.int 0, .int 0, .ref r22, .ref r23, .ref r24, .ref r25, .ref h1, .ref r26, .ref r27])), (h4, .inr (7, [.int 0, .int 0, .ref r28, .ref r29, .ref r30, .ref r31, .ref r32, .ref r33]))] sz) := by
  refine zOfW (QF := fun A => va_Qi (fun (r : Int32) (u : Unit) => r = (an_about 9)) (zB D A (fun (u : Unit) => match u with | _ => []) (fun (u : Unit) => match u with | _ => [])) A) (cc := cX11_about) (maxL := 2) (ret := (some .int)) (by decide) rfl (Nat.le_of_ble_eq_true rfl) ?_
  intro p e s m below meth c A ls hx hb hr hml hts hown hlocks hin hA hS hP hD hK hN hl
  have hl : lv_has ls 2 [(0, .ref h0), (1, .int 9)] := hl
  refine lv_iload_n hx hb dX11_about_0 rfl (lv_at hl 1 rfl) ?_
  refine lv_tableIn (off := 132) (tgt := 133) hx hb dX11_about_1 (by decide) (by decide) rfl (by decide) ?_
  refine lv_aload_n hx hb dX11_about_133 rfl (lv_at hl 0 rfl) ?_
  refine va_get (D := D) (ci := 11) (v := .ref h3) (C := RX11) (T := TX11) (N := 12) hx hb hts iuX11_about_X11 hown hK hP 0 rfl rfl 7 (by decide) (hts (.fieldLink RX11 55 "StraitGame" "nights" "LStraitGame$Nights;") (List.mem_of_getElem? (i := 6) rfl)) (fun _ h9 => h9) rfl dX11_about_134 ?_
  refine zA_i (zR_V (As := []) (rest := []) ⟨hx, hb, hml, hown, hts⟩ (zX3_countNoticed_1 l D h3 r22 r23 r24 r25 h1 r26 r27 _) (cwV 0 hts gX11_about_X3_countNoticed rfl rfl rfl (by decide +kernel) ⟨(Nat.le_of_ble_eq_true rfl), (Nat.le_of_ble_eq_true rfl)⟩) hP hD hK hN [3] [] rfl (by decide) rfl 0 3 rfl rfl rfl hl.1 rfl (Nat.le_of_ble_eq_true rfl) dX11_about_137 ⟨(Nat.le_of_ble_eq_true rfl), (Nat.le_of_ble_eq_true rfl)⟩) hP hD hK hS hA [3] [0, 1, 2, 4] rfl rfl (by decide) (by decide) (fun r_532 u H locs hw hP hD hK hS => ?_)
  have hK : va_K D vwCl [] s := hK
  have hP : va_P D vwCl [(h0, .inr (11, [.ref r0, .int 0, .ref h2, .ref r1, .ref r2, .ref h1, .ref r3, .ref h3, .ref r4, .ref r5, .ref h4, .ref r6])), (h1, .inr (2, [.int 0, .int 0, .int 0, .int 0, .int 0, .ref r7, .ref r8, .ref r9, .ref r10, .ref r11, .ref r12, .ref r13])), (h2, .inr (10, [.int 0, .int 0, .int 0, .int 0, .int 0, .ref r14, .ref r15, .ref r16, .ref r17, .ref r18, .ref r19, .ref r20, .ref r21])), (h4, .inr (7, [.int 0, .int 0, .ref r28, .ref r29, .ref r30, .ref r31, .ref r32, .ref r33])), (h3, .inr (3, [.int 0, .int 0, .ref r22, .ref r23, .ref r24, .ref r25, .ref h1, .ref r26, .ref r27]))] H := hP
  have hD : va_D A [(h0, .inr (11, [.ref r0, .int 0, .ref h2, .ref r1, .ref r2, .ref h1, .ref r3, .ref h3, .ref r4, .ref r5, .ref h4, .ref r6])), (h1, .inr (2, [.int 0, .int 0, .int 0, .int 0, .int 0, .ref r7, .ref r8, .ref r9, .ref r10, .ref r11, .ref r12, .ref r13])), (h2, .inr (10, [.int 0, .int 0, .int 0, .int 0, .int 0, .ref r14, .ref r15, .ref r16, .ref r17, .ref r18, .ref r19, .ref r20, .ref r21])), (h4, .inr (7, [.int 0, .int 0, .ref r28, .ref r29, .ref r30, .ref r31, .ref r32, .ref r33])), (h3, .inr (3, [.int 0, .int 0, .ref r22, .ref r23, .ref r24, .ref r25, .ref h1, .ref r26, .ref r27]))] := hD
  refine W.widen (k := 0) (n := 0) (Nat.le_of_ble_eq_true rfl) (Nat.le_of_ble_eq_true rfl) ?_
  have er : r_532 = 0 := hw
  refine z_top (y := 0) er ?_
  exact zret_i hx hb hr hlocks hP hD hK hS () (by decide) [] [] (by decide) rfl rfl (Nat.le_of_ble_eq_true rfl) (Nat.le_of_ble_eq_true rfl) dX11_about_140
set_option maxHeartbeats 4000000 in
set_option maxRecDepth 100000 in
theorem aX11_about_c12 (l : Launch) (D : va_G) (h0 h1 h2 h3 h4 r0 r1 r2 r3 r4 r5 r6 r7 r8 r9 r10 r11 r12 r13 r14 r15 r16 r17 r18 r19 r20 r21 r22 r23 r24 r25 r26 r27 r28 r29 r30 r31 r32 r33 : Nat) (x0 : Int32) (sz : Nat) (hx0 : 10 ≤ x0.toInt ∧ x0.toInt ≤ 2147483647) : Met l yX11_about wsX11_about ({ frames := 1, cells := 0, slots := 0, locals := 22 }) (zPre D [.ref h0, .int x0] [(h0, .inr (11, [.ref r0, .int 0, .ref h2, .ref r1, .ref r2, .ref h1, .ref r3, .ref h3, .ref r4, .ref r5, .ref h4, .ref r6])), (h1, .inr (2, [.int 0, .int 0, .int 0, .int 0, .int 0, .ref r7, .ref r8, .ref r9, .ref r10, .ref r11, .ref r12, .ref r13])), (h2, .inr (10, [.int 0, .int 0, .int 0, .int 0, .int 0, .ref r14, .ref r15, .ref r16, .ref r17, .ref r18, .ref r19, .ref r20, .ref r21])), (h3, .inr (3, [.int 0, .int 0, .ref r22, .ref r23, .ref r24, .ref r25, .ref h1, .ref r26, .ref r27])), (h4, .inr (7, [.int 0, .int 0, .ref r28, .ref r29, .ref r30, .ref r31, .ref r32, .ref r33]))] [] sz) ((fun A => va_Qi (fun (r : Int32) (u : Unit) => r = (an_about x0)) (zB D A (fun (u : Unit) => match u with | _ => []) (fun (u : Unit) => match u with | _ => [])) A) (va_A [(h0, .inr (11, [.ref r0, .int 0, .ref h2, .ref r1, .ref r2, .ref h1, .ref r3, .ref h3, .ref r4, .ref r5, .ref h4, .ref r6])), (h1, .inr (2, [.int 0, .int 0, .int 0, .int 0, .int 0, .ref r7, .ref r8, .ref r9, .ref r10, .ref r11, .ref r12, .ref r13])), (h2, .inr (10, [.int 0, .int 0, .int 0, .int 0, .int 0, .ref r14, .ref r15, .ref r16, .ref r17, .ref r18, .ref r19, .ref r20, .ref r21])), (h3, .inr (3, [.int 0, .int 0, .ref r22, .ref r23, .ref r24, .ref r25, .ref h1, .ref r26, .ref r27])), (h4, .inr (7, [.int 0, .int 0, .ref r28, .ref r29, .ref r30, .ref r31, .ref r32, .ref r33]))] sz)) 0 0 (va_A [(h0, .inr (11, [.ref r0, .int 0, .ref h2, .ref r1, .ref r2, .ref h1, .ref r3, .ref h3, .ref r4, .ref r5, .ref h4, .ref r6])), (h1, .inr (2, [.int 0, .int 0, .int 0, .int 0, .int 0, .ref r7, .ref r8, .ref r9, .ref r10, .ref r11, .ref r12, .ref r13])), (h2, .inr (10, [.int 0, .int 0, .int 0, .int 0, .int 0, .ref r14, .ref r15, .ref r16, .ref r17, .ref r18, .ref r19, .ref r20, .ref r21])), (h3, .inr (3, [.int 0, .int 0, .ref r22, .ref r23, .ref r24, .ref r25, .ref h1, .ref r26, .ref r27])), (h4, .inr (7, [.int 0, .int 0, .ref r28, .ref r29, .ref r30, .ref r31, .ref r32, .ref r33]))] sz) := by
  refine zOfW (QF := fun A => va_Qi (fun (r : Int32) (u : Unit) => r = (an_about x0)) (zB D A (fun (u : Unit) => match u with | _ => []) (fun (u : Unit) => match u with | _ => [])) A) (cc := cX11_about) (maxL := 2) (ret := (some .int)) (by decide) rfl (Nat.le_of_ble_eq_true rfl) ?_
  intro p e s m below meth c A ls hx hb hr hml hts hown hlocks hin hA hS hP hD hK hN hl
  have hl : lv_has ls 2 [(0, .ref h0), (1, .int x0)] := hl
  refine lv_iload_n hx hb dX11_about_0 rfl (lv_at hl 1 rfl) ?_
  refine lv_tableOut (tgt := 141) hx hb dX11_about_1 (by have := hx0; omega) (by decide) ?_
  refine lv_iconst (v := (-1)) hx hb dX11_about_141 (by decide) ?_
  exact zret_i hx hb hr hlocks hP hD hK hS () ((if_neg (by have := hx0; omega)).symm) [] [] (by decide) rfl rfl (Nat.le_of_ble_eq_true rfl) (Nat.le_of_ble_eq_true rfl) dX11_about_142
theorem aX11_about (l : Launch) (D : va_G) (h0 h1 h2 h3 h4 r0 r1 r2 r3 r4 r5 r6 r7 r8 r9 r10 r11 r12 r13 r14 r15 r16 r17 r18 r19 r20 r21 r22 r23 r24 r25 r26 r27 r28 r29 r30 r31 r32 r33 : Nat) (x0 : Int32) (sz : Nat) : Met l yX11_about wsX11_about ({ frames := 1, cells := 0, slots := 0, locals := 22 }) (zPre D [.ref h0, .int x0] [(h0, .inr (11, [.ref r0, .int 0, .ref h2, .ref r1, .ref r2, .ref h1, .ref r3, .ref h3, .ref r4, .ref r5, .ref h4, .ref r6])), (h1, .inr (2, [.int 0, .int 0, .int 0, .int 0, .int 0, .ref r7, .ref r8, .ref r9, .ref r10, .ref r11, .ref r12, .ref r13])), (h2, .inr (10, [.int 0, .int 0, .int 0, .int 0, .int 0, .ref r14, .ref r15, .ref r16, .ref r17, .ref r18, .ref r19, .ref r20, .ref r21])), (h3, .inr (3, [.int 0, .int 0, .ref r22, .ref r23, .ref r24, .ref r25, .ref h1, .ref r26, .ref r27])), (h4, .inr (7, [.int 0, .int 0, .ref r28, .ref r29, .ref r30, .ref r31, .ref r32, .ref r33]))] [] sz) ((fun A => va_Qi (fun (r : Int32) (u : Unit) => r = (an_about x0)) (zB D A (fun (u : Unit) => match u with | _ => []) (fun (u : Unit) => match u with | _ => [])) A) (va_A [(h0, .inr (11, [.ref r0, .int 0, .ref h2, .ref r1, .ref r2, .ref h1, .ref r3, .ref h3, .ref r4, .ref r5, .ref h4, .ref r6])), (h1, .inr (2, [.int 0, .int 0, .int 0, .int 0, .int 0, .ref r7, .ref r8, .ref r9, .ref r10, .ref r11, .ref r12, .ref r13])), (h2, .inr (10, [.int 0, .int 0, .int 0, .int 0, .int 0, .ref r14, .ref r15, .ref r16, .ref r17, .ref r18, .ref r19, .ref r20, .ref r21])), (h3, .inr (3, [.int 0, .int 0, .ref r22, .ref r23, .ref r24, .ref r25, .ref h1, .ref r26, .ref r27])), (h4, .inr (7, [.int 0, .int 0, .ref r28, .ref r29, .ref r30, .ref r31, .ref r32, .ref r33]))] sz)) 0 0 (va_A [(h0, .inr (11, [.ref r0, .int 0, .ref h2, .ref r1, .ref r2, .ref h1, .ref r3, .ref h3, .ref r4, .ref r5, .ref h4, .ref r6])), (h1, .inr (2, [.int 0, .int 0, .int 0, .int 0, .int 0, .ref r7, .ref r8, .ref r9, .ref r10, .ref r11, .ref r12, .ref r13])), (h2, .inr (10, [.int 0, .int 0, .int 0, .int 0, .int 0, .ref r14, .ref r15, .ref r16, .ref r17, .ref r18, .ref r19, .ref r20, .ref r21])), (h3, .inr (3, [.int 0, .int 0, .ref r22, .ref r23, .ref r24, .ref r25, .ref h1, .ref r26, .ref r27])), (h4, .inr (7, [.int 0, .int 0, .ref r28, .ref r29, .ref r30, .ref r31, .ref r32, .ref r33]))] sz) := by
  rcases (show (-2147483648 ≤ x0.toInt ∧ x0.toInt ≤ -1) ∨ x0 = 0 ∨ x0 = 1 ∨ x0 = 2 ∨ x0 = 3 ∨ x0 = 4 ∨ x0 = 5 ∨ x0 = 6 ∨ x0 = 7 ∨ x0 = 8 ∨ x0 = 9 ∨ (10 ≤ x0.toInt ∧ x0.toInt ≤ 2147483647) from by simp only [fa_eq, zk_0, zk_1, zk_2, zk_3, zk_4, zk_5, zk_6, zk_7, zk_8, zk_9]; have := z_rng x0; omega) with b0 | rfl | rfl | rfl | rfl | rfl | rfl | rfl | rfl | rfl | rfl | b0
  ·
    exact aX11_about_c1 l D h0 h1 h2 h3 h4 r0 r1 r2 r3 r4 r5 r6 r7 r8 r9 r10 r11 r12 r13 r14 r15 r16 r17 r18 r19 r20 r21 r22 r23 r24 r25 r26 r27 r28 r29 r30 r31 r32 r33 x0 _  b0
  ·
    exact aX11_about_c2 l D h0 h1 h2 h3 h4 r0 r1 r2 r3 r4 r5 r6 r7 r8 r9 r10 r11 r12 r13 r14 r15 r16 r17 r18 r19 r20 r21 r22 r23 r24 r25 r26 r27 r28 r29 r30 r31 r32 r33  _  
  ·
    exact aX11_about_c3 l D h0 h1 h2 h3 h4 r0 r1 r2 r3 r4 r5 r6 r7 r8 r9 r10 r11 r12 r13 r14 r15 r16 r17 r18 r19 r20 r21 r22 r23 r24 r25 r26 r27 r28 r29 r30 r31 r32 r33  _  
  ·
    exact aX11_about_c4 l D h0 h1 h2 h3 h4 r0 r1 r2 r3 r4 r5 r6 r7 r8 r9 r10 r11 r12 r13 r14 r15 r16 r17 r18 r19 r20 r21 r22 r23 r24 r25 r26 r27 r28 r29 r30 r31 r32 r33  _  
  ·
    exact aX11_about_c5 l D h0 h1 h2 h3 h4 r0 r1 r2 r3 r4 r5 r6 r7 r8 r9 r10 r11 r12 r13 r14 r15 r16 r17 r18 r19 r20 r21 r22 r23 r24 r25 r26 r27 r28 r29 r30 r31 r32 r33  _  
  ·
    exact aX11_about_c6 l D h0 h1 h2 h3 h4 r0 r1 r2 r3 r4 r5 r6 r7 r8 r9 r10 r11 r12 r13 r14 r15 r16 r17 r18 r19 r20 r21 r22 r23 r24 r25 r26 r27 r28 r29 r30 r31 r32 r33  _  
  ·
    exact aX11_about_c7 l D h0 h1 h2 h3 h4 r0 r1 r2 r3 r4 r5 r6 r7 r8 r9 r10 r11 r12 r13 r14 r15 r16 r17 r18 r19 r20 r21 r22 r23 r24 r25 r26 r27 r28 r29 r30 r31 r32 r33  _  
  ·
    exact aX11_about_c8 l D h0 h1 h2 h3 h4 r0 r1 r2 r3 r4 r5 r6 r7 r8 r9 r10 r11 r12 r13 r14 r15 r16 r17 r18 r19 r20 r21 r22 r23 r24 r25 r26 r27 r28 r29 r30 r31 r32 r33  _  
  ·
    exact aX11_about_c9 l D h0 h1 h2 h3 h4 r0 r1 r2 r3 r4 r5 r6 r7 r8 r9 r10 r11 r12 r13 r14 r15 r16 r17 r18 r19 r20 r21 r22 r23 r24 r25 r26 r27 r28 r29 r30 r31 r32 r33  _  
  ·
    exact aX11_about_c10 l D h0 h1 h2 h3 h4 r0 r1 r2 r3 r4 r5 r6 r7 r8 r9 r10 r11 r12 r13 r14 r15 r16 r17 r18 r19 r20 r21 r22 r23 r24 r25 r26 r27 r28 r29 r30 r31 r32 r33  _  
  ·
    exact aX11_about_c11 l D h0 h1 h2 h3 h4 r0 r1 r2 r3 r4 r5 r6 r7 r8 r9 r10 r11 r12 r13 r14 r15 r16 r17 r18 r19 r20 r21 r22 r23 r24 r25 r26 r27 r28 r29 r30 r31 r32 r33  _  
  ·
    exact aX11_about_c12 l D h0 h1 h2 h3 h4 r0 r1 r2 r3 r4 r5 r6 r7 r8 r9 r10 r11 r12 r13 r14 r15 r16 r17 r18 r19 r20 r21 r22 r23 r24 r25 r26 r27 r28 r29 r30 r31 r32 r33 x0 _  b0
