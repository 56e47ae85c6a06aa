theorem clamp_ne {x y : Int32} (hx : ¬ x < 0) (hy : ¬ y < 0) (h : ¬ x = y) : x.toNatClampNeg ≠ y.toNatClampNeg := by
  obtain ⟨i, hi, rfl⟩ := nI_of hx
  obtain ⟨j, hj, rfl⟩ := nI_of hy
  rw [nI_clamp hi, nI_clamp hj]
  exact fun e => h (by rw [e])
theorem dfX0 : ∀ j, j < 6 → defaultValue (tyX0 j) = vp_V [.int 0, .int 0, .int 0, .int 0, .int 0, .int 0] j := by decide +kernel
theorem dfX1 : ∀ j, j < 11 → defaultValue (tyX1 j) = vp_V [.null, .int 0, .int 0, .int 0, .int 0, .int 0, .int 0, .int 0, .int 0, .int 0, .int 0] j := by decide +kernel
theorem dfX2 : ∀ j, j < 4 → defaultValue (tyX2 j) = vp_V [.null, .null, .int 0, .long 0] j := by decide +kernel
theorem dfX3 : ∀ j, j < 7 → defaultValue (tyX3 j) = vp_V [.null, .null, .null, .null, .null, .null, .null] j := by decide +kernel
theorem dfX4 : ∀ j, j < 4 → defaultValue (tyX4 j) = vp_V [.null, .null, .null, .int 0] j := by decide +kernel
theorem dfX5 : ∀ j, j < 8 → defaultValue (tyX5 j) = vp_V [.null, .null, .null, .null, .null, .int 0, .int 0, .int 0] j := by decide +kernel
theorem dfX6 : ∀ j, j < 10 → defaultValue (tyX6 j) = vp_V [.int 0, .null, .null, .null, .null, .null, .null, .null, .null, .int 0] j := by decide +kernel
theorem dfX7 : ∀ j, j < 7 → defaultValue (tyX7 j) = vp_V [.null, .null, .int 0, .int 0, .int 0, .int 0, .int 0] j := by decide +kernel
theorem dfX8 : ∀ j, j < 6 → defaultValue (tyX8 j) = vp_V [.null, .null, .null, .null, .int 0, .int 0] j := by decide +kernel
theorem dfX9 : ∀ j, j < 2 → defaultValue (tyX9 j) = vp_V [.null, .int 0] j := by decide +kernel
theorem dfX10 : ∀ j, j < 8 → defaultValue (tyX10 j) = vp_V [.int 0, .int 0, .int 0, .null, .null, .null, .null, .null] j := by decide +kernel
theorem dfX11 : ∀ j, j < 18 → defaultValue (tyX11 j) = vp_V [.null, .null, .null, .null, .null, .null, .null, .null, .null, .null, .null, .null, .int 0, .int 0, .int 0, .int 0, .int 0, .int 0] j := by decide +kernel
theorem dfX12 : ∀ j, j < 91 → defaultValue (tyX12 j) = vp_V [.int 0, .null, .int 0, .int 0, .null, .null, .null, .null, .null, .null, .null, .null, .null, .null, .null, .null, .int 0, .int 0, .int 0, .int 0, .int 0, .int 0, .int 0, .int 0, .int 0, .int 0, .int 0, .int 0, .long 0, .null, .null, .null, .null, .null, .null, .null, .null, .null, .null, .int 0, .int 0, .int 0, .int 0, .int 0, .int 0, .null, .null, .int 0, .null, .null, .null, .null, .null, .null, .null, .null, .null, .null, .int 0, .int 0, .null, .null, .null, .null, .null, .null, .null, .null, .null, .int 0, .long 0, .int 0, .null, .null, .null, .null, .null, .null, .int 0, .int 0, .null, .null, .null, .null, .null, .null, .null, .int 0, .int 0, .int 0, .int 0] j := by decide +kernel
theorem dfJx4a65c : ∀ j, j < 3 → defaultValue (tyJx4a65c j) = vp_V [.int 0, .null, .int 0] j := by decide +kernel
theorem dX11_init_0 : decode cX11_init 0 = .ok (.aload_n 0, 1) := by decide +kernel
theorem dX11_init_1 : decode cX11_init 1 = .ok (.invokespecial 1, 3) := by decide +kernel
theorem dX11_init_4 : decode cX11_init 4 = .ok (.aload_n 0, 1) := by decide +kernel
theorem dX11_init_5 : decode cX11_init 5 = .ok (.new 7, 3) := by decide +kernel
theorem dX11_init_8 : decode cX11_init 8 = .ok (.dup, 1) := by decide +kernel
theorem dX11_init_9 : decode cX11_init 9 = .ok (.invokespecial 9, 3) := by decide +kernel
theorem dX11_init_12 : decode cX11_init 12 = .ok (.putfield 10, 3) := by decide +kernel
theorem dX11_init_15 : decode cX11_init 15 = .ok (.aload_n 0, 1) := by decide +kernel
theorem dX11_init_16 : decode cX11_init 16 = .ok (.new 16, 3) := by decide +kernel
theorem dX11_init_19 : decode cX11_init 19 = .ok (.dup, 1) := by decide +kernel
theorem dX11_init_20 : decode cX11_init 20 = .ok (.invokespecial 18, 3) := by decide +kernel
theorem dX11_init_23 : decode cX11_init 23 = .ok (.putfield 19, 3) := by decide +kernel
theorem dX11_init_26 : decode cX11_init 26 = .ok (.aload_n 0, 1) := by decide +kernel
theorem dX11_init_27 : decode cX11_init 27 = .ok (.aload_n 0, 1) := by decide +kernel
theorem dX11_init_28 : decode cX11_init 28 = .ok (.getfield 19, 3) := by decide +kernel
theorem dX11_init_31 : decode cX11_init 31 = .ok (.getfield 23, 3) := by decide +kernel
theorem dX11_init_34 : decode cX11_init 34 = .ok (.putfield 27, 3) := by decide +kernel
theorem dX11_init_37 : decode cX11_init 37 = .ok (.aload_n 0, 1) := by decide +kernel
theorem dX11_init_38 : decode cX11_init 38 = .ok (.new 28, 3) := by decide +kernel
theorem dX11_init_41 : decode cX11_init 41 = .ok (.dup, 1) := by decide +kernel
theorem dX11_init_42 : decode cX11_init 42 = .ok (.invokespecial 30, 3) := by decide +kernel
theorem dX11_init_45 : decode cX11_init 45 = .ok (.putfield 31, 3) := by decide +kernel
theorem dX11_init_48 : decode cX11_init 48 = .ok (.aload_n 0, 1) := by decide +kernel
theorem dX11_init_49 : decode cX11_init 49 = .ok (.new 35, 3) := by decide +kernel
theorem dX11_init_52 : decode cX11_init 52 = .ok (.dup, 1) := by decide +kernel
theorem dX11_init_53 : decode cX11_init 53 = .ok (.invokespecial 37, 3) := by decide +kernel
theorem dX11_init_56 : decode cX11_init 56 = .ok (.putfield 38, 3) := by decide +kernel
theorem dX11_init_59 : decode cX11_init 59 = .ok (.aload_n 0, 1) := by decide +kernel
theorem dX11_init_60 : decode cX11_init 60 = .ok (.new 42, 3) := by decide +kernel
theorem dX11_init_63 : decode cX11_init 63 = .ok (.dup, 1) := by decide +kernel
theorem dX11_init_64 : decode cX11_init 64 = .ok (.invokespecial 44, 3) := by decide +kernel
theorem dX11_init_67 : decode cX11_init 67 = .ok (.putfield 45, 3) := by decide +kernel
theorem dX11_init_70 : decode cX11_init 70 = .ok (.aload_n 0, 1) := by decide +kernel
theorem dX11_init_71 : decode cX11_init 71 = .ok (.new 49, 3) := by decide +kernel
theorem dX11_init_74 : decode cX11_init 74 = .ok (.dup, 1) := by decide +kernel
theorem dX11_init_75 : decode cX11_init 75 = .ok (.invokespecial 51, 3) := by decide +kernel
theorem dX11_init_78 : decode cX11_init 78 = .ok (.putfield 52, 3) := by decide +kernel
theorem dX11_init_81 : decode cX11_init 81 = .ok (.aload_n 0, 1) := by decide +kernel
theorem dX11_init_82 : decode cX11_init 82 = .ok (.new 42, 3) := by decide +kernel
theorem dX11_init_85 : decode cX11_init 85 = .ok (.dup, 1) := by decide +kernel
theorem dX11_init_86 : decode cX11_init 86 = .ok (.invokespecial 44, 3) := by decide +kernel
theorem dX11_init_89 : decode cX11_init 89 = .ok (.putfield 56, 3) := by decide +kernel
theorem dX11_init_92 : decode cX11_init 92 = .ok (.aload_n 0, 1) := by decide +kernel
theorem dX11_init_93 : decode cX11_init 93 = .ok (.new 59, 3) := by decide +kernel
theorem dX11_init_96 : decode cX11_init 96 = .ok (.dup, 1) := by decide +kernel
theorem dX11_init_97 : decode cX11_init 97 = .ok (.invokespecial 61, 3) := by decide +kernel
theorem dX11_init_100 : decode cX11_init 100 = .ok (.putfield 62, 3) := by decide +kernel
theorem dX11_init_103 : decode cX11_init 103 = .ok (.aload_n 0, 1) := by decide +kernel
theorem dX11_init_104 : decode cX11_init 104 = .ok (.new 66, 3) := by decide +kernel
theorem dX11_init_107 : decode cX11_init 107 = .ok (.dup, 1) := by decide +kernel
theorem dX11_init_108 : decode cX11_init 108 = .ok (.invokespecial 68, 3) := by decide +kernel
theorem dX11_init_111 : decode cX11_init 111 = .ok (.putfield 69, 3) := by decide +kernel
theorem dX11_init_114 : decode cX11_init 114 = .ok (.aload_n 0, 1) := by decide +kernel
theorem dX11_init_115 : decode cX11_init 115 = .ok (.new 73, 3) := by decide +kernel
theorem dX11_init_118 : decode cX11_init 118 = .ok (.dup, 1) := by decide +kernel
theorem dX11_init_119 : decode cX11_init 119 = .ok (.invokespecial 75, 3) := by decide +kernel
theorem dX11_init_122 : decode cX11_init 122 = .ok (.putfield 76, 3) := by decide +kernel
theorem dX11_init_125 : decode cX11_init 125 = .ok (.aload_n 0, 1) := by decide +kernel
theorem dX11_init_126 : decode cX11_init 126 = .ok (.new 73, 3) := by decide +kernel
theorem dX11_init_129 : decode cX11_init 129 = .ok (.dup, 1) := by decide +kernel
theorem dX11_init_130 : decode cX11_init 130 = .ok (.invokespecial 75, 3) := by decide +kernel
theorem dX11_init_133 : decode cX11_init 133 = .ok (.putfield 80, 3) := by decide +kernel
theorem dX11_init_136 : decode cX11_init 136 = .ok (.aload_n 0, 1) := by decide +kernel
theorem dX11_init_137 : decode cX11_init 137 = .ok (.iconst 0, 1) := by decide +kernel
theorem dX11_init_138 : decode cX11_init 138 = .ok (.putfield 83, 3) := by decide +kernel
theorem dX11_init_141 : decode cX11_init 141 = .ok (.aload_n 0, 1) := by decide +kernel
theorem dX11_init_142 : decode cX11_init 142 = .ok (.iconst 0, 1) := by decide +kernel
theorem dX11_init_143 : decode cX11_init 143 = .ok (.putfield 87, 3) := by decide +kernel
theorem dX11_init_146 : decode cX11_init 146 = .ok (.aload_n 0, 1) := by decide +kernel
theorem dX11_init_147 : decode cX11_init 147 = .ok (.iconst (-1), 1) := by decide +kernel
theorem dX11_init_148 : decode cX11_init 148 = .ok (.putfield 90, 3) := by decide +kernel
theorem dX11_init_151 : decode cX11_init 151 = .ok (.aload_n 0, 1) := by decide +kernel
theorem dX11_init_152 : decode cX11_init 152 = .ok (.iconst (-1), 1) := by decide +kernel
theorem dX11_init_153 : decode cX11_init 153 = .ok (.putfield 93, 3) := by decide +kernel
theorem dX11_init_156 : decode cX11_init 156 = .ok (.aload_n 0, 1) := by decide +kernel
theorem dX11_init_157 : decode cX11_init 157 = .ok (.iconst (-1), 1) := by decide +kernel
theorem dX11_init_158 : decode cX11_init 158 = .ok (.putfield 96, 3) := by decide +kernel
theorem dX11_init_161 : decode cX11_init 161 = .ok (.aload_n 0, 1) := by decide +kernel
theorem dX11_init_162 : decode cX11_init 162 = .ok (.iconst (-1), 1) := by decide +kernel
theorem dX11_init_163 : decode cX11_init 163 = .ok (.putfield 99, 3) := by decide +kernel
theorem dX11_init_166 : decode cX11_init 166 = .ok (.return_, 1) := by decide +kernel
theorem dX9_init_0 : decode cX9_init 0 = .ok (.aload_n 0, 1) := by decide +kernel
theorem dX9_init_1 : decode cX9_init 1 = .ok (.invokespecial 3, 3) := by decide +kernel
theorem dX9_init_4 : decode cX9_init 4 = .ok (.aload_n 0, 1) := by decide +kernel
theorem dX9_init_5 : decode cX9_init 5 = .ok (.sipush 420, 3) := by decide +kernel
theorem dX9_init_8 : decode cX9_init 8 = .ok (.newarray .int, 2) := by decide +kernel
theorem dX9_init_10 : decode cX9_init 10 = .ok (.putfield 9, 3) := by decide +kernel
theorem dX9_init_13 : decode cX9_init 13 = .ok (.aload_n 0, 1) := by decide +kernel
theorem dX9_init_14 : decode cX9_init 14 = .ok (.iconst 0, 1) := by decide +kernel
theorem dX9_init_15 : decode cX9_init 15 = .ok (.putfield 15, 3) := by decide +kernel
theorem dX9_init_18 : decode cX9_init 18 = .ok (.return_, 1) := by decide +kernel
theorem dX5_init_0 : decode cX5_init 0 = .ok (.aload_n 0, 1) := by decide +kernel
theorem dX5_init_1 : decode cX5_init 1 = .ok (.invokespecial 3, 3) := by decide +kernel
theorem dX5_init_4 : decode cX5_init 4 = .ok (.aload_n 0, 1) := by decide +kernel
theorem dX5_init_5 : decode cX5_init 5 = .ok (.new 9, 3) := by decide +kernel
theorem dX5_init_8 : decode cX5_init 8 = .ok (.dup, 1) := by decide +kernel
theorem dX5_init_9 : decode cX5_init 9 = .ok (.invokespecial 11, 3) := by decide +kernel
theorem dX5_init_12 : decode cX5_init 12 = .ok (.putfield 12, 3) := by decide +kernel
theorem dX5_init_15 : decode cX5_init 15 = .ok (.aload_n 0, 1) := by decide +kernel
theorem dX5_init_16 : decode cX5_init 16 = .ok (.new 18, 3) := by decide +kernel
theorem dX5_init_19 : decode cX5_init 19 = .ok (.dup, 1) := by decide +kernel
theorem dX5_init_20 : decode cX5_init 20 = .ok (.invokespecial 20, 3) := by decide +kernel
theorem dX5_init_23 : decode cX5_init 23 = .ok (.putfield 21, 3) := by decide +kernel
theorem dX5_init_26 : decode cX5_init 26 = .ok (.aload_n 0, 1) := by decide +kernel
theorem dX5_init_27 : decode cX5_init 27 = .ok (.new 18, 3) := by decide +kernel
theorem dX5_init_30 : decode cX5_init 30 = .ok (.dup, 1) := by decide +kernel
theorem dX5_init_31 : decode cX5_init 31 = .ok (.invokespecial 20, 3) := by decide +kernel
theorem dX5_init_34 : decode cX5_init 34 = .ok (.putfield 25, 3) := by decide +kernel
theorem dX5_init_37 : decode cX5_init 37 = .ok (.aload_n 0, 1) := by decide +kernel
theorem dX5_init_38 : decode cX5_init 38 = .ok (.new 18, 3) := by decide +kernel
theorem dX5_init_41 : decode cX5_init 41 = .ok (.dup, 1) := by decide +kernel
theorem dX5_init_42 : decode cX5_init 42 = .ok (.invokespecial 20, 3) := by decide +kernel
theorem dX5_init_45 : decode cX5_init 45 = .ok (.putfield 28, 3) := by decide +kernel
theorem dX5_init_48 : decode cX5_init 48 = .ok (.aload_n 0, 1) := by decide +kernel
theorem dX5_init_49 : decode cX5_init 49 = .ok (.bipush 12, 2) := by decide +kernel
theorem dX5_init_51 : decode cX5_init 51 = .ok (.newarray .int, 2) := by decide +kernel
theorem dX5_init_53 : decode cX5_init 53 = .ok (.putfield 31, 3) := by decide +kernel
theorem dX5_init_56 : decode cX5_init 56 = .ok (.aload_n 0, 1) := by decide +kernel
theorem dX5_init_57 : decode cX5_init 57 = .ok (.iconst 0, 1) := by decide +kernel
theorem dX5_init_58 : decode cX5_init 58 = .ok (.putfield 35, 3) := by decide +kernel
theorem dX5_init_61 : decode cX5_init 61 = .ok (.aload_n 0, 1) := by decide +kernel
theorem dX5_init_62 : decode cX5_init 62 = .ok (.iconst 0, 1) := by decide +kernel
theorem dX5_init_63 : decode cX5_init 63 = .ok (.putfield 39, 3) := by decide +kernel
theorem dX5_init_66 : decode cX5_init 66 = .ok (.aload_n 0, 1) := by decide +kernel
theorem dX5_init_67 : decode cX5_init 67 = .ok (.iconst 0, 1) := by decide +kernel
theorem dX5_init_68 : decode cX5_init 68 = .ok (.putfield 42, 3) := by decide +kernel
theorem dX5_init_71 : decode cX5_init 71 = .ok (.return_, 1) := by decide +kernel
theorem dX3_init_0 : decode cX3_init 0 = .ok (.aload_n 0, 1) := by decide +kernel
theorem dX3_init_1 : decode cX3_init 1 = .ok (.invokespecial 3, 3) := by decide +kernel
theorem dX3_init_4 : decode cX3_init 4 = .ok (.aload_n 0, 1) := by decide +kernel
theorem dX3_init_5 : decode cX3_init 5 = .ok (.sipush 400, 3) := by decide +kernel
theorem dX3_init_8 : decode cX3_init 8 = .ok (.newarray .int, 2) := by decide +kernel
theorem dX3_init_10 : decode cX3_init 10 = .ok (.putfield 9, 3) := by decide +kernel
theorem dX3_init_13 : decode cX3_init 13 = .ok (.aload_n 0, 1) := by decide +kernel
theorem dX3_init_14 : decode cX3_init 14 = .ok (.iconst 4, 1) := by decide +kernel
theorem dX3_init_15 : decode cX3_init 15 = .ok (.sipush 400, 3) := by decide +kernel
theorem dX3_init_18 : decode cX3_init 18 = .ok (.multianewarray 15 2, 4) := by decide +kernel
theorem dX3_init_22 : decode cX3_init 22 = .ok (.putfield 17, 3) := by decide +kernel
theorem dX3_init_25 : decode cX3_init 25 = .ok (.aload_n 0, 1) := by decide +kernel
theorem dX3_init_26 : decode cX3_init 26 = .ok (.iconst 4, 1) := by decide +kernel
theorem dX3_init_27 : decode cX3_init 27 = .ok (.newarray .int, 2) := by decide +kernel
theorem dX3_init_29 : decode cX3_init 29 = .ok (.dup, 1) := by decide +kernel
theorem dX3_init_30 : decode cX3_init 30 = .ok (.iconst 0, 1) := by decide +kernel
theorem dX3_init_31 : decode cX3_init 31 = .ok (.bipush 100, 2) := by decide +kernel
theorem dX3_init_33 : decode cX3_init 33 = .ok (.iastore, 1) := by decide +kernel
theorem dX3_init_34 : decode cX3_init 34 = .ok (.dup, 1) := by decide +kernel
theorem dX3_init_35 : decode cX3_init 35 = .ok (.iconst 1, 1) := by decide +kernel
theorem dX3_init_36 : decode cX3_init 36 = .ok (.bipush 100, 2) := by decide +kernel
theorem dX3_init_38 : decode cX3_init 38 = .ok (.iastore, 1) := by decide +kernel
theorem dX3_init_39 : decode cX3_init 39 = .ok (.dup, 1) := by decide +kernel
theorem dX3_init_40 : decode cX3_init 40 = .ok (.iconst 2, 1) := by decide +kernel
theorem dX3_init_41 : decode cX3_init 41 = .ok (.bipush 100, 2) := by decide +kernel
theorem dX3_init_43 : decode cX3_init 43 = .ok (.iastore, 1) := by decide +kernel
theorem dX3_init_44 : decode cX3_init 44 = .ok (.dup, 1) := by decide +kernel
theorem dX3_init_45 : decode cX3_init 45 = .ok (.iconst 3, 1) := by decide +kernel
theorem dX3_init_46 : decode cX3_init 46 = .ok (.bipush 100, 2) := by decide +kernel
theorem dX3_init_48 : decode cX3_init 48 = .ok (.iastore, 1) := by decide +kernel
theorem dX3_init_49 : decode cX3_init 49 = .ok (.putfield 20, 3) := by decide +kernel
theorem dX3_init_52 : decode cX3_init 52 = .ok (.aload_n 0, 1) := by decide +kernel
theorem dX3_init_53 : decode cX3_init 53 = .ok (.bipush 6, 2) := by decide +kernel
theorem dX3_init_55 : decode cX3_init 55 = .ok (.newarray .int, 2) := by decide +kernel
theorem dX3_init_57 : decode cX3_init 57 = .ok (.dup, 1) := by decide +kernel
theorem dX3_init_58 : decode cX3_init 58 = .ok (.iconst 0, 1) := by decide +kernel
theorem dX3_init_59 : decode cX3_init 59 = .ok (.bipush 100, 2) := by decide +kernel
theorem dX3_init_61 : decode cX3_init 61 = .ok (.iastore, 1) := by decide +kernel
theorem dX3_init_62 : decode cX3_init 62 = .ok (.dup, 1) := by decide +kernel
theorem dX3_init_63 : decode cX3_init 63 = .ok (.iconst 1, 1) := by decide +kernel
theorem dX3_init_64 : decode cX3_init 64 = .ok (.bipush 100, 2) := by decide +kernel
theorem dX3_init_66 : decode cX3_init 66 = .ok (.iastore, 1) := by decide +kernel
theorem dX3_init_67 : decode cX3_init 67 = .ok (.dup, 1) := by decide +kernel
theorem dX3_init_68 : decode cX3_init 68 = .ok (.iconst 2, 1) := by decide +kernel
theorem dX3_init_69 : decode cX3_init 69 = .ok (.bipush 100, 2) := by decide +kernel
theorem dX3_init_71 : decode cX3_init 71 = .ok (.iastore, 1) := by decide +kernel
theorem dX3_init_72 : decode cX3_init 72 = .ok (.dup, 1) := by decide +kernel
theorem dX3_init_73 : decode cX3_init 73 = .ok (.iconst 3, 1) := by decide +kernel
theorem dX3_init_74 : decode cX3_init 74 = .ok (.bipush 100, 2) := by decide +kernel
theorem dX3_init_76 : decode cX3_init 76 = .ok (.iastore, 1) := by decide +kernel
theorem dX3_init_77 : decode cX3_init 77 = .ok (.dup, 1) := by decide +kernel
theorem dX3_init_78 : decode cX3_init 78 = .ok (.iconst 4, 1) := by decide +kernel
theorem dX3_init_79 : decode cX3_init 79 = .ok (.bipush 100, 2) := by decide +kernel
theorem dX3_init_81 : decode cX3_init 81 = .ok (.iastore, 1) := by decide +kernel
theorem dX3_init_82 : decode cX3_init 82 = .ok (.dup, 1) := by decide +kernel
theorem dX3_init_83 : decode cX3_init 83 = .ok (.iconst 5, 1) := by decide +kernel
theorem dX3_init_84 : decode cX3_init 84 = .ok (.bipush 100, 2) := by decide +kernel
theorem dX3_init_86 : decode cX3_init 86 = .ok (.iastore, 1) := by decide +kernel
theorem dX3_init_87 : decode cX3_init 87 = .ok (.putfield 23, 3) := by decide +kernel
theorem dX3_init_90 : decode cX3_init 90 = .ok (.aload_n 0, 1) := by decide +kernel
theorem dX3_init_91 : decode cX3_init 91 = .ok (.bipush 10, 2) := by decide +kernel
theorem dX3_init_93 : decode cX3_init 93 = .ok (.iconst 4, 1) := by decide +kernel
theorem dX3_init_94 : decode cX3_init 94 = .ok (.multianewarray 15 2, 4) := by decide +kernel
theorem dX3_init_98 : decode cX3_init 98 = .ok (.putfield 26, 3) := by decide +kernel
theorem dX3_init_101 : decode cX3_init 101 = .ok (.aload_n 0, 1) := by decide +kernel
theorem dX3_init_102 : decode cX3_init 102 = .ok (.bipush 10, 2) := by decide +kernel
theorem dX3_init_104 : decode cX3_init 104 = .ok (.newarray .int, 2) := by decide +kernel
theorem dX3_init_106 : decode cX3_init 106 = .ok (.dup, 1) := by decide +kernel
theorem dX3_init_107 : decode cX3_init 107 = .ok (.iconst 0, 1) := by decide +kernel
theorem dX3_init_108 : decode cX3_init 108 = .ok (.iconst (-1), 1) := by decide +kernel
theorem dX3_init_109 : decode cX3_init 109 = .ok (.iastore, 1) := by decide +kernel
theorem dX3_init_110 : decode cX3_init 110 = .ok (.dup, 1) := by decide +kernel
theorem dX3_init_111 : decode cX3_init 111 = .ok (.iconst 1, 1) := by decide +kernel
theorem dX3_init_112 : decode cX3_init 112 = .ok (.iconst (-1), 1) := by decide +kernel
theorem dX3_init_113 : decode cX3_init 113 = .ok (.iastore, 1) := by decide +kernel
theorem dX3_init_114 : decode cX3_init 114 = .ok (.dup, 1) := by decide +kernel
theorem dX3_init_115 : decode cX3_init 115 = .ok (.iconst 2, 1) := by decide +kernel
theorem dX3_init_116 : decode cX3_init 116 = .ok (.iconst (-1), 1) := by decide +kernel
theorem dX3_init_117 : decode cX3_init 117 = .ok (.iastore, 1) := by decide +kernel
theorem dX3_init_118 : decode cX3_init 118 = .ok (.dup, 1) := by decide +kernel
theorem dX3_init_119 : decode cX3_init 119 = .ok (.iconst 3, 1) := by decide +kernel
theorem dX3_init_120 : decode cX3_init 120 = .ok (.iconst (-1), 1) := by decide +kernel
theorem dX3_init_121 : decode cX3_init 121 = .ok (.iastore, 1) := by decide +kernel
theorem dX3_init_122 : decode cX3_init 122 = .ok (.dup, 1) := by decide +kernel
theorem dX3_init_123 : decode cX3_init 123 = .ok (.iconst 4, 1) := by decide +kernel
theorem dX3_init_124 : decode cX3_init 124 = .ok (.iconst (-1), 1) := by decide +kernel
theorem dX3_init_125 : decode cX3_init 125 = .ok (.iastore, 1) := by decide +kernel
theorem dX3_init_126 : decode cX3_init 126 = .ok (.dup, 1) := by decide +kernel
theorem dX3_init_127 : decode cX3_init 127 = .ok (.iconst 5, 1) := by decide +kernel
theorem dX3_init_128 : decode cX3_init 128 = .ok (.iconst (-1), 1) := by decide +kernel
theorem dX3_init_129 : decode cX3_init 129 = .ok (.iastore, 1) := by decide +kernel
theorem dX3_init_130 : decode cX3_init 130 = .ok (.dup, 1) := by decide +kernel
theorem dX3_init_131 : decode cX3_init 131 = .ok (.bipush 6, 2) := by decide +kernel
theorem dX3_init_133 : decode cX3_init 133 = .ok (.iconst (-1), 1) := by decide +kernel
theorem dX3_init_134 : decode cX3_init 134 = .ok (.iastore, 1) := by decide +kernel
theorem dX3_init_135 : decode cX3_init 135 = .ok (.dup, 1) := by decide +kernel
theorem dX3_init_136 : decode cX3_init 136 = .ok (.bipush 7, 2) := by decide +kernel
theorem dX3_init_138 : decode cX3_init 138 = .ok (.iconst (-1), 1) := by decide +kernel
theorem dX3_init_139 : decode cX3_init 139 = .ok (.iastore, 1) := by decide +kernel
theorem dX3_init_140 : decode cX3_init 140 = .ok (.dup, 1) := by decide +kernel
theorem dX3_init_141 : decode cX3_init 141 = .ok (.bipush 8, 2) := by decide +kernel
theorem dX3_init_143 : decode cX3_init 143 = .ok (.iconst (-1), 1) := by decide +kernel
theorem dX3_init_144 : decode cX3_init 144 = .ok (.iastore, 1) := by decide +kernel
theorem dX3_init_145 : decode cX3_init 145 = .ok (.dup, 1) := by decide +kernel
theorem dX3_init_146 : decode cX3_init 146 = .ok (.bipush 9, 2) := by decide +kernel
theorem dX3_init_148 : decode cX3_init 148 = .ok (.iconst (-1), 1) := by decide +kernel
theorem dX3_init_149 : decode cX3_init 149 = .ok (.iastore, 1) := by decide +kernel
theorem dX3_init_150 : decode cX3_init 150 = .ok (.putfield 29, 3) := by decide +kernel
theorem dX3_init_153 : decode cX3_init 153 = .ok (.aload_n 0, 1) := by decide +kernel
theorem dX3_init_154 : decode cX3_init 154 = .ok (.bipush 10, 2) := by decide +kernel
theorem dX3_init_156 : decode cX3_init 156 = .ok (.bipush 10, 2) := by decide +kernel
theorem dX3_init_158 : decode cX3_init 158 = .ok (.multianewarray 15 2, 4) := by decide +kernel
theorem dX3_init_162 : decode cX3_init 162 = .ok (.putfield 32, 3) := by decide +kernel
theorem dX3_init_165 : decode cX3_init 165 = .ok (.iconst 0, 1) := by decide +kernel
theorem dX3_init_166 : decode cX3_init 166 = .ok (.istore_n 1, 1) := by decide +kernel
theorem dX3_init_167 : decode cX3_init 167 = .ok (.iload_n 1, 1) := by decide +kernel
theorem dX3_init_168 : decode cX3_init 168 = .ok (.bipush 10, 2) := by decide +kernel
theorem dX3_init_170 : decode cX3_init 170 = .ok (.if_icmp .ge 42, 3) := by decide +kernel
theorem dX3_init_173 : decode cX3_init 173 = .ok (.iconst 0, 1) := by decide +kernel
theorem dX3_init_174 : decode cX3_init 174 = .ok (.istore_n 2, 1) := by decide +kernel
theorem dX3_init_175 : decode cX3_init 175 = .ok (.iload_n 2, 1) := by decide +kernel
theorem dX3_init_176 : decode cX3_init 176 = .ok (.bipush 10, 2) := by decide +kernel
theorem dX3_init_178 : decode cX3_init 178 = .ok (.if_icmp .ge 28, 3) := by decide +kernel
theorem dX3_init_181 : decode cX3_init 181 = .ok (.aload_n 0, 1) := by decide +kernel
theorem dX3_init_182 : decode cX3_init 182 = .ok (.getfield 32, 3) := by decide +kernel
theorem dX3_init_185 : decode cX3_init 185 = .ok (.iload_n 1, 1) := by decide +kernel
theorem dX3_init_186 : decode cX3_init 186 = .ok (.aaload, 1) := by decide +kernel
theorem dX3_init_187 : decode cX3_init 187 = .ok (.iload_n 2, 1) := by decide +kernel
theorem dX3_init_188 : decode cX3_init 188 = .ok (.iload_n 1, 1) := by decide +kernel
theorem dX3_init_189 : decode cX3_init 189 = .ok (.iload_n 2, 1) := by decide +kernel
theorem dX3_init_190 : decode cX3_init 190 = .ok (.if_icmp .ne 7, 3) := by decide +kernel
theorem dX3_init_193 : decode cX3_init 193 = .ok (.iconst 0, 1) := by decide +kernel
theorem dX3_init_194 : decode cX3_init 194 = .ok (.goto 5, 3) := by decide +kernel
theorem dX3_init_197 : decode cX3_init 197 = .ok (.bipush 10, 2) := by decide +kernel
theorem dX3_init_199 : decode cX3_init 199 = .ok (.iastore, 1) := by decide +kernel
theorem dX3_init_200 : decode cX3_init 200 = .ok (.iinc 2 1, 3) := by decide +kernel
theorem dX3_init_203 : decode cX3_init 203 = .ok (.goto (-28), 3) := by decide +kernel
theorem dX3_init_206 : decode cX3_init 206 = .ok (.iinc 1 1, 3) := by decide +kernel
theorem dX3_init_209 : decode cX3_init 209 = .ok (.goto (-42), 3) := by decide +kernel
theorem dX3_init_212 : decode cX3_init 212 = .ok (.return_, 1) := by decide +kernel
theorem dJx4a65c_init_da8c8_0 : decode cJx4a65c_init_da8c8 0 = .ok (.aload_n 0, 1) := by decide +kernel
theorem dJx4a65c_init_da8c8_1 : decode cJx4a65c_init_da8c8 1 = .ok (.invokespecial 1, 3) := by decide +kernel
theorem dJx4a65c_init_da8c8_4 : decode cJx4a65c_init_da8c8 4 = .ok (.aload_n 0, 1) := by decide +kernel
theorem dJx4a65c_init_da8c8_5 : decode cJx4a65c_init_da8c8 5 = .ok (.getstatic 39, 3) := by decide +kernel
theorem dJx4a65c_init_da8c8_8 : decode cJx4a65c_init_da8c8 8 = .ok (.putfield 9, 3) := by decide +kernel
theorem dJx4a65c_init_da8c8_11 : decode cJx4a65c_init_da8c8 11 = .ok (.return_, 1) := by decide +kernel
theorem dJxc12de_init_da8c8_0 : decode cJxc12de_init_da8c8 0 = .ok (.aload_n 0, 1) := by decide +kernel
theorem dJxc12de_init_da8c8_1 : decode cJxc12de_init_da8c8 1 = .ok (.invokespecial 1, 3) := by decide +kernel
theorem dJxc12de_init_da8c8_4 : decode cJxc12de_init_da8c8 4 = .ok (.aload_n 0, 1) := by decide +kernel
theorem dJxc12de_init_da8c8_5 : decode cJxc12de_init_da8c8 5 = .ok (.iconst 0, 1) := by decide +kernel
theorem dJxc12de_init_da8c8_6 : decode cJxc12de_init_da8c8 6 = .ok (.putfield 7, 3) := by decide +kernel
theorem dJxc12de_init_da8c8_9 : decode cJxc12de_init_da8c8 9 = .ok (.return_, 1) := by decide +kernel
theorem dJxa1e45_init_da8c8_0 : decode cJxa1e45_init_da8c8 0 = .ok (.aload_n 0, 1) := by decide +kernel
theorem dJxa1e45_init_da8c8_1 : decode cJxa1e45_init_da8c8 1 = .ok (.invokespecial 1, 3) := by decide +kernel
theorem dJxa1e45_init_da8c8_4 : decode cJxa1e45_init_da8c8 4 = .ok (.return_, 1) := by decide +kernel
theorem dX4_init_0 : decode cX4_init 0 = .ok (.aload_n 0, 1) := by decide +kernel
theorem dX4_init_1 : decode cX4_init 1 = .ok (.invokespecial 3, 3) := by decide +kernel
theorem dX4_init_4 : decode cX4_init 4 = .ok (.aload_n 0, 1) := by decide +kernel
theorem dX4_init_5 : decode cX4_init 5 = .ok (.bipush 60, 2) := by decide +kernel
theorem dX4_init_7 : decode cX4_init 7 = .ok (.newarray .int, 2) := by decide +kernel
theorem dX4_init_9 : decode cX4_init 9 = .ok (.putfield 9, 3) := by decide +kernel
theorem dX4_init_12 : decode cX4_init 12 = .ok (.aload_n 0, 1) := by decide +kernel
theorem dX4_init_13 : decode cX4_init 13 = .ok (.bipush 60, 2) := by decide +kernel
theorem dX4_init_15 : decode cX4_init 15 = .ok (.newarray .int, 2) := by decide +kernel
theorem dX4_init_17 : decode cX4_init 17 = .ok (.putfield 15, 3) := by decide +kernel
theorem dX4_init_20 : decode cX4_init 20 = .ok (.aload_n 0, 1) := by decide +kernel
theorem dX4_init_21 : decode cX4_init 21 = .ok (.bipush 60, 2) := by decide +kernel
theorem dX4_init_23 : decode cX4_init 23 = .ok (.newarray .int, 2) := by decide +kernel
theorem dX4_init_25 : decode cX4_init 25 = .ok (.putfield 18, 3) := by decide +kernel
theorem dX4_init_28 : decode cX4_init 28 = .ok (.aload_n 0, 1) := by decide +kernel
theorem dX4_init_29 : decode cX4_init 29 = .ok (.iconst 0, 1) := by decide +kernel
theorem dX4_init_30 : decode cX4_init 30 = .ok (.putfield 21, 3) := by decide +kernel
theorem dX4_init_33 : decode cX4_init 33 = .ok (.return_, 1) := by decide +kernel
theorem dX10_init_0 : decode cX10_init 0 = .ok (.aload_n 0, 1) := by decide +kernel
theorem dX10_init_1 : decode cX10_init 1 = .ok (.invokespecial 3, 3) := by decide +kernel
theorem dX10_init_4 : decode cX10_init 4 = .ok (.aload_n 0, 1) := by decide +kernel
theorem dX10_init_5 : decode cX10_init 5 = .ok (.iconst (-1), 1) := by decide +kernel
theorem dX10_init_6 : decode cX10_init 6 = .ok (.putfield 9, 3) := by decide +kernel
theorem dX10_init_9 : decode cX10_init 9 = .ok (.aload_n 0, 1) := by decide +kernel
theorem dX10_init_10 : decode cX10_init 10 = .ok (.iconst 0, 1) := by decide +kernel
theorem dX10_init_11 : decode cX10_init 11 = .ok (.putfield 15, 3) := by decide +kernel
theorem dX10_init_14 : decode cX10_init 14 = .ok (.aload_n 0, 1) := by decide +kernel
theorem dX10_init_15 : decode cX10_init 15 = .ok (.iconst 0, 1) := by decide +kernel
theorem dX10_init_16 : decode cX10_init 16 = .ok (.putfield 18, 3) := by decide +kernel
theorem dX10_init_19 : decode cX10_init 19 = .ok (.aload_n 0, 1) := by decide +kernel
theorem dX10_init_20 : decode cX10_init 20 = .ok (.bipush 16, 2) := by decide +kernel
theorem dX10_init_22 : decode cX10_init 22 = .ok (.newarray .int, 2) := by decide +kernel
theorem dX10_init_24 : decode cX10_init 24 = .ok (.putfield 21, 3) := by decide +kernel
theorem dX10_init_27 : decode cX10_init 27 = .ok (.aload_n 0, 1) := by decide +kernel
theorem dX10_init_28 : decode cX10_init 28 = .ok (.bipush 16, 2) := by decide +kernel
theorem dX10_init_30 : decode cX10_init 30 = .ok (.newarray .int, 2) := by decide +kernel
theorem dX10_init_32 : decode cX10_init 32 = .ok (.putfield 25, 3) := by decide +kernel
theorem dX10_init_35 : decode cX10_init 35 = .ok (.aload_n 0, 1) := by decide +kernel
theorem dX10_init_36 : decode cX10_init 36 = .ok (.bipush 16, 2) := by decide +kernel
theorem dX10_init_38 : decode cX10_init 38 = .ok (.newarray .int, 2) := by decide +kernel
theorem dX10_init_40 : decode cX10_init 40 = .ok (.putfield 28, 3) := by decide +kernel
theorem dX10_init_43 : decode cX10_init 43 = .ok (.aload_n 0, 1) := by decide +kernel
theorem dX10_init_44 : decode cX10_init 44 = .ok (.bipush 16, 2) := by decide +kernel
theorem dX10_init_46 : decode cX10_init 46 = .ok (.newarray .int, 2) := by decide +kernel
theorem dX10_init_48 : decode cX10_init 48 = .ok (.putfield 31, 3) := by decide +kernel
theorem dX10_init_51 : decode cX10_init 51 = .ok (.aload_n 0, 1) := by decide +kernel
theorem dX10_init_52 : decode cX10_init 52 = .ok (.bipush 100, 2) := by decide +kernel
theorem dX10_init_54 : decode cX10_init 54 = .ok (.newarray .int, 2) := by decide +kernel
theorem dX10_init_56 : decode cX10_init 56 = .ok (.putfield 34, 3) := by decide +kernel
theorem dX10_init_59 : decode cX10_init 59 = .ok (.return_, 1) := by decide +kernel
theorem dX7_init_0 : decode cX7_init 0 = .ok (.aload_n 0, 1) := by decide +kernel
theorem dX7_init_1 : decode cX7_init 1 = .ok (.invokespecial 3, 3) := by decide +kernel
theorem dX7_init_4 : decode cX7_init 4 = .ok (.aload_n 0, 1) := by decide +kernel
theorem dX7_init_5 : decode cX7_init 5 = .ok (.sipush 301, 3) := by decide +kernel
theorem dX7_init_8 : decode cX7_init 8 = .ok (.newarray .int, 2) := by decide +kernel
theorem dX7_init_10 : decode cX7_init 10 = .ok (.putfield 9, 3) := by decide +kernel
theorem dX7_init_13 : decode cX7_init 13 = .ok (.aload_n 0, 1) := by decide +kernel
theorem dX7_init_14 : decode cX7_init 14 = .ok (.sipush 301, 3) := by decide +kernel
theorem dX7_init_17 : decode cX7_init 17 = .ok (.newarray .int, 2) := by decide +kernel
theorem dX7_init_19 : decode cX7_init 19 = .ok (.putfield 15, 3) := by decide +kernel
theorem dX7_init_22 : decode cX7_init 22 = .ok (.aload_n 0, 1) := by decide +kernel
theorem dX7_init_23 : decode cX7_init 23 = .ok (.iconst 0, 1) := by decide +kernel
theorem dX7_init_24 : decode cX7_init 24 = .ok (.putfield 18, 3) := by decide +kernel
theorem dX7_init_27 : decode cX7_init 27 = .ok (.aload_n 0, 1) := by decide +kernel
theorem dX7_init_28 : decode cX7_init 28 = .ok (.iconst 0, 1) := by decide +kernel
theorem dX7_init_29 : decode cX7_init 29 = .ok (.putfield 22, 3) := by decide +kernel
theorem dX7_init_32 : decode cX7_init 32 = .ok (.aload_n 0, 1) := by decide +kernel
theorem dX7_init_33 : decode cX7_init 33 = .ok (.iconst 0, 1) := by decide +kernel
theorem dX7_init_34 : decode cX7_init 34 = .ok (.putfield 25, 3) := by decide +kernel
theorem dX7_init_37 : decode cX7_init 37 = .ok (.aload_n 0, 1) := by decide +kernel
theorem dX7_init_38 : decode cX7_init 38 = .ok (.iconst 0, 1) := by decide +kernel
theorem dX7_init_39 : decode cX7_init 39 = .ok (.putfield 29, 3) := by decide +kernel
theorem dX7_init_42 : decode cX7_init 42 = .ok (.aload_n 0, 1) := by decide +kernel
theorem dX7_init_43 : decode cX7_init 43 = .ok (.iconst 0, 1) := by decide +kernel
theorem dX7_init_44 : decode cX7_init 44 = .ok (.putfield 32, 3) := by decide +kernel
theorem dX7_init_47 : decode cX7_init 47 = .ok (.return_, 1) := by decide +kernel
theorem dX2_init_0 : decode cX2_init 0 = .ok (.aload_n 0, 1) := by decide +kernel
theorem dX2_init_1 : decode cX2_init 1 = .ok (.invokespecial 3, 3) := by decide +kernel
theorem dX2_init_4 : decode cX2_init 4 = .ok (.aload_n 0, 1) := by decide +kernel
theorem dX2_init_5 : decode cX2_init 5 = .ok (.bipush 24, 2) := by decide +kernel
theorem dX2_init_7 : decode cX2_init 7 = .ok (.newarray .int, 2) := by decide +kernel
theorem dX2_init_9 : decode cX2_init 9 = .ok (.putfield 9, 3) := by decide +kernel
theorem dX2_init_12 : decode cX2_init 12 = .ok (.aload_n 0, 1) := by decide +kernel
theorem dX2_init_13 : decode cX2_init 13 = .ok (.bipush 24, 2) := by decide +kernel
theorem dX2_init_15 : decode cX2_init 15 = .ok (.newarray .int, 2) := by decide +kernel
theorem dX2_init_17 : decode cX2_init 17 = .ok (.putfield 15, 3) := by decide +kernel
theorem dX2_init_20 : decode cX2_init 20 = .ok (.aload_n 0, 1) := by decide +kernel
theorem dX2_init_21 : decode cX2_init 21 = .ok (.iconst 0, 1) := by decide +kernel
theorem dX2_init_22 : decode cX2_init 22 = .ok (.putfield 18, 3) := by decide +kernel
theorem dX2_init_25 : decode cX2_init 25 = .ok (.aload_n 0, 1) := by decide +kernel
theorem dX2_init_26 : decode cX2_init 26 = .ok (.lconst 0, 1) := by decide +kernel
theorem dX2_init_27 : decode cX2_init 27 = .ok (.putfield 22, 3) := by decide +kernel
theorem dX2_init_30 : decode cX2_init 30 = .ok (.return_, 1) := by decide +kernel
theorem dX8_init_0 : decode cX8_init 0 = .ok (.aload_n 0, 1) := by decide +kernel
theorem dX8_init_1 : decode cX8_init 1 = .ok (.invokespecial 3, 3) := by decide +kernel
theorem dX8_init_4 : decode cX8_init 4 = .ok (.aload_n 0, 1) := by decide +kernel
theorem dX8_init_5 : decode cX8_init 5 = .ok (.bipush 9, 2) := by decide +kernel
theorem dX8_init_7 : decode cX8_init 7 = .ok (.newarray .int, 2) := by decide +kernel
theorem dX8_init_9 : decode cX8_init 9 = .ok (.putfield 11, 3) := by decide +kernel
theorem dX8_init_12 : decode cX8_init 12 = .ok (.aload_n 0, 1) := by decide +kernel
theorem dX8_init_13 : decode cX8_init 13 = .ok (.bipush 9, 2) := by decide +kernel
theorem dX8_init_15 : decode cX8_init 15 = .ok (.newarray .int, 2) := by decide +kernel
theorem dX8_init_17 : decode cX8_init 17 = .ok (.putfield 15, 3) := by decide +kernel
theorem dX8_init_20 : decode cX8_init 20 = .ok (.aload_n 0, 1) := by decide +kernel
theorem dX8_init_21 : decode cX8_init 21 = .ok (.bipush 9, 2) := by decide +kernel
theorem dX8_init_23 : decode cX8_init 23 = .ok (.newarray .int, 2) := by decide +kernel
theorem dX8_init_25 : decode cX8_init 25 = .ok (.putfield 18, 3) := by decide +kernel
theorem dX8_init_28 : decode cX8_init 28 = .ok (.aload_n 0, 1) := by decide +kernel
theorem dX8_init_29 : decode cX8_init 29 = .ok (.iconst 0, 1) := by decide +kernel
theorem dX8_init_30 : decode cX8_init 30 = .ok (.newarray .int, 2) := by decide +kernel
theorem dX8_init_32 : decode cX8_init 32 = .ok (.putfield 21, 3) := by decide +kernel
theorem dX8_init_35 : decode cX8_init 35 = .ok (.aload_n 0, 1) := by decide +kernel
theorem dX8_init_36 : decode cX8_init 36 = .ok (.iconst 0, 1) := by decide +kernel
theorem dX8_init_37 : decode cX8_init 37 = .ok (.putfield 24, 3) := by decide +kernel
theorem dX8_init_40 : decode cX8_init 40 = .ok (.aload_n 0, 1) := by decide +kernel
theorem dX8_init_41 : decode cX8_init 41 = .ok (.iconst 0, 1) := by decide +kernel
theorem dX8_init_42 : decode cX8_init 42 = .ok (.putfield 28, 3) := by decide +kernel
theorem dX8_init_45 : decode cX8_init 45 = .ok (.return_, 1) := by decide +kernel
theorem dX6_init_0 : decode cX6_init 0 = .ok (.aload_n 0, 1) := by decide +kernel
theorem dX6_init_1 : decode cX6_init 1 = .ok (.invokespecial 3, 3) := by decide +kernel
theorem dX6_init_4 : decode cX6_init 4 = .ok (.aload_n 0, 1) := by decide +kernel
theorem dX6_init_5 : decode cX6_init 5 = .ok (.iconst 0, 1) := by decide +kernel
theorem dX6_init_6 : decode cX6_init 6 = .ok (.putfield 9, 3) := by decide +kernel
theorem dX6_init_9 : decode cX6_init 9 = .ok (.aload_n 0, 1) := by decide +kernel
theorem dX6_init_10 : decode cX6_init 10 = .ok (.bipush 64, 2) := by decide +kernel
theorem dX6_init_12 : decode cX6_init 12 = .ok (.newarray .int, 2) := by decide +kernel
theorem dX6_init_14 : decode cX6_init 14 = .ok (.putfield 15, 3) := by decide +kernel
theorem dX6_init_17 : decode cX6_init 17 = .ok (.aload_n 0, 1) := by decide +kernel
theorem dX6_init_18 : decode cX6_init 18 = .ok (.bipush 64, 2) := by decide +kernel
theorem dX6_init_20 : decode cX6_init 20 = .ok (.newarray .int, 2) := by decide +kernel
theorem dX6_init_22 : decode cX6_init 22 = .ok (.putfield 19, 3) := by decide +kernel
theorem dX6_init_25 : decode cX6_init 25 = .ok (.aload_n 0, 1) := by decide +kernel
theorem dX6_init_26 : decode cX6_init 26 = .ok (.bipush 8, 2) := by decide +kernel
theorem dX6_init_28 : decode cX6_init 28 = .ok (.newarray .int, 2) := by decide +kernel
theorem dX6_init_30 : decode cX6_init 30 = .ok (.putfield 22, 3) := by decide +kernel
theorem dX6_init_33 : decode cX6_init 33 = .ok (.aload_n 0, 1) := by decide +kernel
theorem dX6_init_34 : decode cX6_init 34 = .ok (.bipush 8, 2) := by decide +kernel
theorem dX6_init_36 : decode cX6_init 36 = .ok (.newarray .int, 2) := by decide +kernel
theorem dX6_init_38 : decode cX6_init 38 = .ok (.putfield 25, 3) := by decide +kernel
theorem dX6_init_41 : decode cX6_init 41 = .ok (.aload_n 0, 1) := by decide +kernel
theorem dX6_init_42 : decode cX6_init 42 = .ok (.bipush 8, 2) := by decide +kernel
theorem dX6_init_44 : decode cX6_init 44 = .ok (.newarray .int, 2) := by decide +kernel
theorem dX6_init_46 : decode cX6_init 46 = .ok (.putfield 28, 3) := by decide +kernel
theorem dX6_init_49 : decode cX6_init 49 = .ok (.aload_n 0, 1) := by decide +kernel
theorem dX6_init_50 : decode cX6_init 50 = .ok (.sipush 256, 3) := by decide +kernel
theorem dX6_init_53 : decode cX6_init 53 = .ok (.newarray .int, 2) := by decide +kernel
theorem dX6_init_55 : decode cX6_init 55 = .ok (.putfield 31, 3) := by decide +kernel
theorem dX6_init_58 : decode cX6_init 58 = .ok (.aload_n 0, 1) := by decide +kernel
theorem dX6_init_59 : decode cX6_init 59 = .ok (.bipush 64, 2) := by decide +kernel
theorem dX6_init_61 : decode cX6_init 61 = .ok (.newarray .boolean, 2) := by decide +kernel
theorem dX6_init_63 : decode cX6_init 63 = .ok (.putfield 34, 3) := by decide +kernel
theorem dX6_init_66 : decode cX6_init 66 = .ok (.aload_n 0, 1) := by decide +kernel
theorem dX6_init_67 : decode cX6_init 67 = .ok (.bipush 64, 2) := by decide +kernel
theorem dX6_init_69 : decode cX6_init 69 = .ok (.newarray .long, 2) := by decide +kernel
theorem dX6_init_71 : decode cX6_init 71 = .ok (.putfield 38, 3) := by decide +kernel
theorem dX6_init_74 : decode cX6_init 74 = .ok (.aload_n 0, 1) := by decide +kernel
theorem dX6_init_75 : decode cX6_init 75 = .ok (.iconst (-1), 1) := by decide +kernel
theorem dX6_init_76 : decode cX6_init 76 = .ok (.putfield 42, 3) := by decide +kernel
theorem dX6_init_79 : decode cX6_init 79 = .ok (.return_, 1) := by decide +kernel
theorem dX12_init_0 : decode cX12_init 0 = .ok (.aload_n 0, 1) := by decide +kernel
theorem dX12_init_1 : decode cX12_init 1 = .ok (.invokespecial 1, 3) := by decide +kernel
theorem dX12_init_4 : decode cX12_init 4 = .ok (.aload_n 0, 1) := by decide +kernel
theorem dX12_init_5 : decode cX12_init 5 = .ok (.sipush 420, 3) := by decide +kernel
theorem dX12_init_8 : decode cX12_init 8 = .ok (.newarray .int, 2) := by decide +kernel
theorem dX12_init_10 : decode cX12_init 10 = .ok (.putfield 7, 3) := by decide +kernel
theorem dX12_init_13 : decode cX12_init 13 = .ok (.aload_n 0, 1) := by decide +kernel
theorem dX12_init_14 : decode cX12_init 14 = .ok (.bipush 40, 2) := by decide +kernel
theorem dX12_init_16 : decode cX12_init 16 = .ok (.newarray .int, 2) := by decide +kernel
theorem dX12_init_18 : decode cX12_init 18 = .ok (.putfield 13, 3) := by decide +kernel
theorem dX12_init_21 : decode cX12_init 21 = .ok (.aload_n 0, 1) := by decide +kernel
theorem dX12_init_22 : decode cX12_init 22 = .ok (.bipush 40, 2) := by decide +kernel
theorem dX12_init_24 : decode cX12_init 24 = .ok (.newarray .int, 2) := by decide +kernel
theorem dX12_init_26 : decode cX12_init 26 = .ok (.putfield 16, 3) := by decide +kernel
theorem dX12_init_29 : decode cX12_init 29 = .ok (.aload_n 0, 1) := by decide +kernel
theorem dX12_init_30 : decode cX12_init 30 = .ok (.bipush 40, 2) := by decide +kernel
theorem dX12_init_32 : decode cX12_init 32 = .ok (.newarray .int, 2) := by decide +kernel
theorem dX12_init_34 : decode cX12_init 34 = .ok (.putfield 19, 3) := by decide +kernel
theorem dX12_init_37 : decode cX12_init 37 = .ok (.aload_n 0, 1) := by decide +kernel
theorem dX12_init_38 : decode cX12_init 38 = .ok (.bipush 40, 2) := by decide +kernel
theorem dX12_init_40 : decode cX12_init 40 = .ok (.newarray .int, 2) := by decide +kernel
theorem dX12_init_42 : decode cX12_init 42 = .ok (.putfield 22, 3) := by decide +kernel
theorem dX12_init_45 : decode cX12_init 45 = .ok (.aload_n 0, 1) := by decide +kernel
theorem dX12_init_46 : decode cX12_init 46 = .ok (.bipush 40, 2) := by decide +kernel
theorem dX12_init_48 : decode cX12_init 48 = .ok (.newarray .boolean, 2) := by decide +kernel
theorem dX12_init_50 : decode cX12_init 50 = .ok (.putfield 25, 3) := by decide +kernel
theorem dX12_init_53 : decode cX12_init 53 = .ok (.aload_n 0, 1) := by decide +kernel
theorem dX12_init_54 : decode cX12_init 54 = .ok (.bipush 10, 2) := by decide +kernel
theorem dX12_init_56 : decode cX12_init 56 = .ok (.newarray .int, 2) := by decide +kernel
theorem dX12_init_58 : decode cX12_init 58 = .ok (.dup, 1) := by decide +kernel
theorem dX12_init_59 : decode cX12_init 59 = .ok (.iconst 0, 1) := by decide +kernel
theorem dX12_init_60 : decode cX12_init 60 = .ok (.iconst (-1), 1) := by decide +kernel
theorem dX12_init_61 : decode cX12_init 61 = .ok (.iastore, 1) := by decide +kernel
theorem dX12_init_62 : decode cX12_init 62 = .ok (.dup, 1) := by decide +kernel
theorem dX12_init_63 : decode cX12_init 63 = .ok (.iconst 1, 1) := by decide +kernel
theorem dX12_init_64 : decode cX12_init 64 = .ok (.iconst (-1), 1) := by decide +kernel
theorem dX12_init_65 : decode cX12_init 65 = .ok (.iastore, 1) := by decide +kernel
theorem dX12_init_66 : decode cX12_init 66 = .ok (.dup, 1) := by decide +kernel
theorem dX12_init_67 : decode cX12_init 67 = .ok (.iconst 2, 1) := by decide +kernel
theorem dX12_init_68 : decode cX12_init 68 = .ok (.iconst (-1), 1) := by decide +kernel
theorem dX12_init_69 : decode cX12_init 69 = .ok (.iastore, 1) := by decide +kernel
theorem dX12_init_70 : decode cX12_init 70 = .ok (.dup, 1) := by decide +kernel
theorem dX12_init_71 : decode cX12_init 71 = .ok (.iconst 3, 1) := by decide +kernel
theorem dX12_init_72 : decode cX12_init 72 = .ok (.iconst (-1), 1) := by decide +kernel
theorem dX12_init_73 : decode cX12_init 73 = .ok (.iastore, 1) := by decide +kernel
theorem dX12_init_74 : decode cX12_init 74 = .ok (.dup, 1) := by decide +kernel
theorem dX12_init_75 : decode cX12_init 75 = .ok (.iconst 4, 1) := by decide +kernel
theorem dX12_init_76 : decode cX12_init 76 = .ok (.iconst (-1), 1) := by decide +kernel
theorem dX12_init_77 : decode cX12_init 77 = .ok (.iastore, 1) := by decide +kernel
theorem dX12_init_78 : decode cX12_init 78 = .ok (.dup, 1) := by decide +kernel
theorem dX12_init_79 : decode cX12_init 79 = .ok (.iconst 5, 1) := by decide +kernel
theorem dX12_init_80 : decode cX12_init 80 = .ok (.iconst (-1), 1) := by decide +kernel
theorem dX12_init_81 : decode cX12_init 81 = .ok (.iastore, 1) := by decide +kernel
theorem dX12_init_82 : decode cX12_init 82 = .ok (.dup, 1) := by decide +kernel
theorem dX12_init_83 : decode cX12_init 83 = .ok (.bipush 6, 2) := by decide +kernel
theorem dX12_init_85 : decode cX12_init 85 = .ok (.iconst (-1), 1) := by decide +kernel
theorem dX12_init_86 : decode cX12_init 86 = .ok (.iastore, 1) := by decide +kernel
theorem dX12_init_87 : decode cX12_init 87 = .ok (.dup, 1) := by decide +kernel
theorem dX12_init_88 : decode cX12_init 88 = .ok (.bipush 7, 2) := by decide +kernel
theorem dX12_init_90 : decode cX12_init 90 = .ok (.iconst (-1), 1) := by decide +kernel
theorem dX12_init_91 : decode cX12_init 91 = .ok (.iastore, 1) := by decide +kernel
theorem dX12_init_92 : decode cX12_init 92 = .ok (.dup, 1) := by decide +kernel
theorem dX12_init_93 : decode cX12_init 93 = .ok (.bipush 8, 2) := by decide +kernel
theorem dX12_init_95 : decode cX12_init 95 = .ok (.iconst (-1), 1) := by decide +kernel
theorem dX12_init_96 : decode cX12_init 96 = .ok (.iastore, 1) := by decide +kernel
theorem dX12_init_97 : decode cX12_init 97 = .ok (.dup, 1) := by decide +kernel
theorem dX12_init_98 : decode cX12_init 98 = .ok (.bipush 9, 2) := by decide +kernel
theorem dX12_init_100 : decode cX12_init 100 = .ok (.iconst (-1), 1) := by decide +kernel
theorem dX12_init_101 : decode cX12_init 101 = .ok (.iastore, 1) := by decide +kernel
theorem dX12_init_102 : decode cX12_init 102 = .ok (.putfield 29, 3) := by decide +kernel
theorem dX12_init_105 : decode cX12_init 105 = .ok (.aload_n 0, 1) := by decide +kernel
theorem dX12_init_106 : decode cX12_init 106 = .ok (.sipush 400, 3) := by decide +kernel
theorem dX12_init_109 : decode cX12_init 109 = .ok (.newarray .int, 2) := by decide +kernel
theorem dX12_init_111 : decode cX12_init 111 = .ok (.putfield 32, 3) := by decide +kernel
theorem dX12_init_114 : decode cX12_init 114 = .ok (.aload_n 0, 1) := by decide +kernel
theorem dX12_init_115 : decode cX12_init 115 = .ok (.sipush 1600, 3) := by decide +kernel
theorem dX12_init_118 : decode cX12_init 118 = .ok (.newarray .int, 2) := by decide +kernel
theorem dX12_init_120 : decode cX12_init 120 = .ok (.putfield 35, 3) := by decide +kernel
theorem dX12_init_123 : decode cX12_init 123 = .ok (.aload_n 0, 1) := by decide +kernel
theorem dX12_init_124 : decode cX12_init 124 = .ok (.bipush 40, 2) := by decide +kernel
theorem dX12_init_126 : decode cX12_init 126 = .ok (.newarray .int, 2) := by decide +kernel
theorem dX12_init_128 : decode cX12_init 128 = .ok (.putfield 38, 3) := by decide +kernel
theorem dX12_init_131 : decode cX12_init 131 = .ok (.aload_n 0, 1) := by decide +kernel
theorem dX12_init_132 : decode cX12_init 132 = .ok (.iconst 4, 1) := by decide +kernel
theorem dX12_init_133 : decode cX12_init 133 = .ok (.newarray .int, 2) := by decide +kernel
theorem dX12_init_135 : decode cX12_init 135 = .ok (.dup, 1) := by decide +kernel
theorem dX12_init_136 : decode cX12_init 136 = .ok (.iconst 0, 1) := by decide +kernel
theorem dX12_init_137 : decode cX12_init 137 = .ok (.bipush 100, 2) := by decide +kernel
theorem dX12_init_139 : decode cX12_init 139 = .ok (.iastore, 1) := by decide +kernel
theorem dX12_init_140 : decode cX12_init 140 = .ok (.dup, 1) := by decide +kernel
theorem dX12_init_141 : decode cX12_init 141 = .ok (.iconst 1, 1) := by decide +kernel
theorem dX12_init_142 : decode cX12_init 142 = .ok (.bipush 100, 2) := by decide +kernel
theorem dX12_init_144 : decode cX12_init 144 = .ok (.iastore, 1) := by decide +kernel
theorem dX12_init_145 : decode cX12_init 145 = .ok (.dup, 1) := by decide +kernel
theorem dX12_init_146 : decode cX12_init 146 = .ok (.iconst 2, 1) := by decide +kernel
theorem dX12_init_147 : decode cX12_init 147 = .ok (.bipush 100, 2) := by decide +kernel
theorem dX12_init_149 : decode cX12_init 149 = .ok (.iastore, 1) := by decide +kernel
theorem dX12_init_150 : decode cX12_init 150 = .ok (.dup, 1) := by decide +kernel
theorem dX12_init_151 : decode cX12_init 151 = .ok (.iconst 3, 1) := by decide +kernel
theorem dX12_init_152 : decode cX12_init 152 = .ok (.bipush 100, 2) := by decide +kernel
theorem dX12_init_154 : decode cX12_init 154 = .ok (.iastore, 1) := by decide +kernel
theorem dX12_init_155 : decode cX12_init 155 = .ok (.putfield 41, 3) := by decide +kernel
theorem dX12_init_158 : decode cX12_init 158 = .ok (.aload_n 0, 1) := by decide +kernel
theorem dX12_init_159 : decode cX12_init 159 = .ok (.bipush 6, 2) := by decide +kernel
theorem dX12_init_161 : decode cX12_init 161 = .ok (.newarray .int, 2) := by decide +kernel
theorem dX12_init_163 : decode cX12_init 163 = .ok (.dup, 1) := by decide +kernel
theorem dX12_init_164 : decode cX12_init 164 = .ok (.iconst 0, 1) := by decide +kernel
theorem dX12_init_165 : decode cX12_init 165 = .ok (.bipush 100, 2) := by decide +kernel
theorem dX12_init_167 : decode cX12_init 167 = .ok (.iastore, 1) := by decide +kernel
theorem dX12_init_168 : decode cX12_init 168 = .ok (.dup, 1) := by decide +kernel
theorem dX12_init_169 : decode cX12_init 169 = .ok (.iconst 1, 1) := by decide +kernel
theorem dX12_init_170 : decode cX12_init 170 = .ok (.bipush 100, 2) := by decide +kernel
theorem dX12_init_172 : decode cX12_init 172 = .ok (.iastore, 1) := by decide +kernel
theorem dX12_init_173 : decode cX12_init 173 = .ok (.dup, 1) := by decide +kernel
theorem dX12_init_174 : decode cX12_init 174 = .ok (.iconst 2, 1) := by decide +kernel
theorem dX12_init_175 : decode cX12_init 175 = .ok (.bipush 100, 2) := by decide +kernel
theorem dX12_init_177 : decode cX12_init 177 = .ok (.iastore, 1) := by decide +kernel
theorem dX12_init_178 : decode cX12_init 178 = .ok (.dup, 1) := by decide +kernel
theorem dX12_init_179 : decode cX12_init 179 = .ok (.iconst 3, 1) := by decide +kernel
theorem dX12_init_180 : decode cX12_init 180 = .ok (.bipush 100, 2) := by decide +kernel
theorem dX12_init_182 : decode cX12_init 182 = .ok (.iastore, 1) := by decide +kernel
theorem dX12_init_183 : decode cX12_init 183 = .ok (.dup, 1) := by decide +kernel
theorem dX12_init_184 : decode cX12_init 184 = .ok (.iconst 4, 1) := by decide +kernel
theorem dX12_init_185 : decode cX12_init 185 = .ok (.bipush 100, 2) := by decide +kernel
theorem dX12_init_187 : decode cX12_init 187 = .ok (.iastore, 1) := by decide +kernel
theorem dX12_init_188 : decode cX12_init 188 = .ok (.dup, 1) := by decide +kernel
theorem dX12_init_189 : decode cX12_init 189 = .ok (.iconst 5, 1) := by decide +kernel
theorem dX12_init_190 : decode cX12_init 190 = .ok (.bipush 100, 2) := by decide +kernel
theorem dX12_init_192 : decode cX12_init 192 = .ok (.iastore, 1) := by decide +kernel
theorem dX12_init_193 : decode cX12_init 193 = .ok (.putfield 44, 3) := by decide +kernel
theorem dX12_init_196 : decode cX12_init 196 = .ok (.aload_n 0, 1) := by decide +kernel
theorem dX12_init_197 : decode cX12_init 197 = .ok (.bipush 100, 2) := by decide +kernel
theorem dX12_init_199 : decode cX12_init 199 = .ok (.newarray .int, 2) := by decide +kernel
theorem dX12_init_201 : decode cX12_init 201 = .ok (.putfield 47, 3) := by decide +kernel
theorem dX12_init_204 : decode cX12_init 204 = .ok (.aload_n 0, 1) := by decide +kernel
theorem dX12_init_205 : decode cX12_init 205 = .ok (.bipush 11, 2) := by decide +kernel
theorem dX12_init_207 : decode cX12_init 207 = .ok (.newarray .int, 2) := by decide +kernel
theorem dX12_init_209 : decode cX12_init 209 = .ok (.putfield 50, 3) := by decide +kernel
theorem dX12_init_212 : decode cX12_init 212 = .ok (.aload_n 0, 1) := by decide +kernel
theorem dX12_init_213 : decode cX12_init 213 = .ok (.bipush 11, 2) := by decide +kernel
theorem dX12_init_215 : decode cX12_init 215 = .ok (.newarray .int, 2) := by decide +kernel
theorem dX12_init_217 : decode cX12_init 217 = .ok (.putfield 53, 3) := by decide +kernel
theorem dX12_init_220 : decode cX12_init 220 = .ok (.aload_n 0, 1) := by decide +kernel
theorem dX12_init_221 : decode cX12_init 221 = .ok (.sipush 176, 3) := by decide +kernel
theorem dX12_init_224 : decode cX12_init 224 = .ok (.newarray .int, 2) := by decide +kernel
theorem dX12_init_226 : decode cX12_init 226 = .ok (.putfield 56, 3) := by decide +kernel
theorem dX12_init_229 : decode cX12_init 229 = .ok (.aload_n 0, 1) := by decide +kernel
theorem dX12_init_230 : decode cX12_init 230 = .ok (.sipush 176, 3) := by decide +kernel
theorem dX12_init_233 : decode cX12_init 233 = .ok (.newarray .int, 2) := by decide +kernel
theorem dX12_init_235 : decode cX12_init 235 = .ok (.putfield 59, 3) := by decide +kernel
theorem dX12_init_238 : decode cX12_init 238 = .ok (.aload_n 0, 1) := by decide +kernel
theorem dX12_init_239 : decode cX12_init 239 = .ok (.sipush 176, 3) := by decide +kernel
theorem dX12_init_242 : decode cX12_init 242 = .ok (.newarray .int, 2) := by decide +kernel
theorem dX12_init_244 : decode cX12_init 244 = .ok (.putfield 62, 3) := by decide +kernel
theorem dX12_init_247 : decode cX12_init 247 = .ok (.aload_n 0, 1) := by decide +kernel
theorem dX12_init_248 : decode cX12_init 248 = .ok (.sipush 176, 3) := by decide +kernel
theorem dX12_init_251 : decode cX12_init 251 = .ok (.newarray .int, 2) := by decide +kernel
theorem dX12_init_253 : decode cX12_init 253 = .ok (.putfield 65, 3) := by decide +kernel
theorem dX12_init_256 : decode cX12_init 256 = .ok (.aload_n 0, 1) := by decide +kernel
theorem dX12_init_257 : decode cX12_init 257 = .ok (.sipush 1320, 3) := by decide +kernel
theorem dX12_init_260 : decode cX12_init 260 = .ok (.newarray .int, 2) := by decide +kernel
theorem dX12_init_262 : decode cX12_init 262 = .ok (.putfield 68, 3) := by decide +kernel
theorem dX12_init_265 : decode cX12_init 265 = .ok (.aload_n 0, 1) := by decide +kernel
theorem dX12_init_266 : decode cX12_init 266 = .ok (.sipush 1320, 3) := by decide +kernel
theorem dX12_init_269 : decode cX12_init 269 = .ok (.newarray .int, 2) := by decide +kernel
theorem dX12_init_271 : decode cX12_init 271 = .ok (.putfield 71, 3) := by decide +kernel
theorem dX12_init_274 : decode cX12_init 274 = .ok (.aload_n 0, 1) := by decide +kernel
theorem dX12_init_275 : decode cX12_init 275 = .ok (.sipush 1320, 3) := by decide +kernel
theorem dX12_init_278 : decode cX12_init 278 = .ok (.newarray .int, 2) := by decide +kernel
theorem dX12_init_280 : decode cX12_init 280 = .ok (.putfield 74, 3) := by decide +kernel
theorem dX12_init_283 : decode cX12_init 283 = .ok (.aload_n 0, 1) := by decide +kernel
theorem dX12_init_284 : decode cX12_init 284 = .ok (.bipush 64, 2) := by decide +kernel
theorem dX12_init_286 : decode cX12_init 286 = .ok (.newarray .int, 2) := by decide +kernel
theorem dX12_init_288 : decode cX12_init 288 = .ok (.putfield 77, 3) := by decide +kernel
theorem dX12_init_291 : decode cX12_init 291 = .ok (.aload_n 0, 1) := by decide +kernel
theorem dX12_init_292 : decode cX12_init 292 = .ok (.bipush 12, 2) := by decide +kernel
theorem dX12_init_294 : decode cX12_init 294 = .ok (.newarray .int, 2) := by decide +kernel
theorem dX12_init_296 : decode cX12_init 296 = .ok (.putfield 80, 3) := by decide +kernel
theorem dX12_init_299 : decode cX12_init 299 = .ok (.aload_n 0, 1) := by decide +kernel
theorem dX12_init_300 : decode cX12_init 300 = .ok (.bipush 64, 2) := by decide +kernel
theorem dX12_init_302 : decode cX12_init 302 = .ok (.newarray .boolean, 2) := by decide +kernel
theorem dX12_init_304 : decode cX12_init 304 = .ok (.putfield 83, 3) := by decide +kernel
theorem dX12_init_307 : decode cX12_init 307 = .ok (.aload_n 0, 1) := by decide +kernel
theorem dX12_init_308 : decode cX12_init 308 = .ok (.iconst (-1), 1) := by decide +kernel
theorem dX12_init_309 : decode cX12_init 309 = .ok (.putfield 86, 3) := by decide +kernel
theorem dX12_init_312 : decode cX12_init 312 = .ok (.aload_n 0, 1) := by decide +kernel
theorem dX12_init_313 : decode cX12_init 313 = .ok (.sipush 200, 3) := by decide +kernel
theorem dX12_init_316 : decode cX12_init 316 = .ok (.newarray .int, 2) := by decide +kernel
theorem dX12_init_318 : decode cX12_init 318 = .ok (.putfield 90, 3) := by decide +kernel
theorem dX12_init_321 : decode cX12_init 321 = .ok (.aload_n 0, 1) := by decide +kernel
theorem dX12_init_322 : decode cX12_init 322 = .ok (.sipush 200, 3) := by decide +kernel
theorem dX12_init_325 : decode cX12_init 325 = .ok (.newarray .int, 2) := by decide +kernel
theorem dX12_init_327 : decode cX12_init 327 = .ok (.putfield 93, 3) := by decide +kernel
theorem dX12_init_330 : decode cX12_init 330 = .ok (.aload_n 0, 1) := by decide +kernel
theorem dX12_init_331 : decode cX12_init 331 = .ok (.sipush 200, 3) := by decide +kernel
theorem dX12_init_334 : decode cX12_init 334 = .ok (.newarray .int, 2) := by decide +kernel
theorem dX12_init_336 : decode cX12_init 336 = .ok (.putfield 96, 3) := by decide +kernel
theorem dX12_init_339 : decode cX12_init 339 = .ok (.aload_n 0, 1) := by decide +kernel
theorem dX12_init_340 : decode cX12_init 340 = .ok (.sipush 200, 3) := by decide +kernel
theorem dX12_init_343 : decode cX12_init 343 = .ok (.newarray .int, 2) := by decide +kernel
theorem dX12_init_345 : decode cX12_init 345 = .ok (.putfield 99, 3) := by decide +kernel
theorem dX12_init_348 : decode cX12_init 348 = .ok (.aload_n 0, 1) := by decide +kernel
theorem dX12_init_349 : decode cX12_init 349 = .ok (.sipush 200, 3) := by decide +kernel
theorem dX12_init_352 : decode cX12_init 352 = .ok (.newarray .int, 2) := by decide +kernel
theorem dX12_init_354 : decode cX12_init 354 = .ok (.putfield 102, 3) := by decide +kernel
theorem dX12_init_357 : decode cX12_init 357 = .ok (.aload_n 0, 1) := by decide +kernel
theorem dX12_init_358 : decode cX12_init 358 = .ok (.sipush 200, 3) := by decide +kernel
theorem dX12_init_361 : decode cX12_init 361 = .ok (.newarray .int, 2) := by decide +kernel
theorem dX12_init_363 : decode cX12_init 363 = .ok (.putfield 105, 3) := by decide +kernel
theorem dX12_init_366 : decode cX12_init 366 = .ok (.aload_n 0, 1) := by decide +kernel
theorem dX12_init_367 : decode cX12_init 367 = .ok (.sipush 200, 3) := by decide +kernel
theorem dX12_init_370 : decode cX12_init 370 = .ok (.newarray .int, 2) := by decide +kernel
theorem dX12_init_372 : decode cX12_init 372 = .ok (.putfield 108, 3) := by decide +kernel
theorem dX12_init_375 : decode cX12_init 375 = .ok (.aload_n 0, 1) := by decide +kernel
theorem dX12_init_376 : decode cX12_init 376 = .ok (.sipush 200, 3) := by decide +kernel
theorem dX12_init_379 : decode cX12_init 379 = .ok (.newarray .int, 2) := by decide +kernel
theorem dX12_init_381 : decode cX12_init 381 = .ok (.putfield 111, 3) := by decide +kernel
theorem dX12_init_384 : decode cX12_init 384 = .ok (.aload_n 0, 1) := by decide +kernel
theorem dX12_init_385 : decode cX12_init 385 = .ok (.sipush 200, 3) := by decide +kernel
theorem dX12_init_388 : decode cX12_init 388 = .ok (.newarray .int, 2) := by decide +kernel
theorem dX12_init_390 : decode cX12_init 390 = .ok (.putfield 114, 3) := by decide +kernel
theorem dX12_init_393 : decode cX12_init 393 = .ok (.aload_n 0, 1) := by decide +kernel
theorem dX12_init_394 : decode cX12_init 394 = .ok (.sipush 200, 3) := by decide +kernel
theorem dX12_init_397 : decode cX12_init 397 = .ok (.newarray .int, 2) := by decide +kernel
theorem dX12_init_399 : decode cX12_init 399 = .ok (.putfield 117, 3) := by decide +kernel
theorem dX12_init_402 : decode cX12_init 402 = .ok (.aload_n 0, 1) := by decide +kernel
theorem dX12_init_403 : decode cX12_init 403 = .ok (.iconst (-1), 1) := by decide +kernel
theorem dX12_init_404 : decode cX12_init 404 = .ok (.putfield 120, 3) := by decide +kernel
theorem dX12_init_407 : decode cX12_init 407 = .ok (.aload_n 0, 1) := by decide +kernel
theorem dX12_init_408 : decode cX12_init 408 = .ok (.sipush 200, 3) := by decide +kernel
theorem dX12_init_411 : decode cX12_init 411 = .ok (.newarray .int, 2) := by decide +kernel
theorem dX12_init_413 : decode cX12_init 413 = .ok (.putfield 123, 3) := by decide +kernel
theorem dX12_init_416 : decode cX12_init 416 = .ok (.aload_n 0, 1) := by decide +kernel
theorem dX12_init_417 : decode cX12_init 417 = .ok (.sipush 200, 3) := by decide +kernel
theorem dX12_init_420 : decode cX12_init 420 = .ok (.newarray .int, 2) := by decide +kernel
theorem dX12_init_422 : decode cX12_init 422 = .ok (.putfield 126, 3) := by decide +kernel
theorem dX12_init_425 : decode cX12_init 425 = .ok (.aload_n 0, 1) := by decide +kernel
theorem dX12_init_426 : decode cX12_init 426 = .ok (.sipush 200, 3) := by decide +kernel
theorem dX12_init_429 : decode cX12_init 429 = .ok (.newarray .boolean, 2) := by decide +kernel
theorem dX12_init_431 : decode cX12_init 431 = .ok (.putfield 129, 3) := by decide +kernel
theorem dX12_init_434 : decode cX12_init 434 = .ok (.aload_n 0, 1) := by decide +kernel
theorem dX12_init_435 : decode cX12_init 435 = .ok (.sipush 200, 3) := by decide +kernel
theorem dX12_init_438 : decode cX12_init 438 = .ok (.newarray .boolean, 2) := by decide +kernel
theorem dX12_init_440 : decode cX12_init 440 = .ok (.putfield 132, 3) := by decide +kernel
theorem dX12_init_443 : decode cX12_init 443 = .ok (.aload_n 0, 1) := by decide +kernel
theorem dX12_init_444 : decode cX12_init 444 = .ok (.bipush 60, 2) := by decide +kernel
theorem dX12_init_446 : decode cX12_init 446 = .ok (.newarray .int, 2) := by decide +kernel
theorem dX12_init_448 : decode cX12_init 448 = .ok (.putfield 135, 3) := by decide +kernel
theorem dX12_init_451 : decode cX12_init 451 = .ok (.aload_n 0, 1) := by decide +kernel
theorem dX12_init_452 : decode cX12_init 452 = .ok (.bipush 60, 2) := by decide +kernel
theorem dX12_init_454 : decode cX12_init 454 = .ok (.newarray .int, 2) := by decide +kernel
theorem dX12_init_456 : decode cX12_init 456 = .ok (.putfield 138, 3) := by decide +kernel
theorem dX12_init_459 : decode cX12_init 459 = .ok (.aload_n 0, 1) := by decide +kernel
theorem dX12_init_460 : decode cX12_init 460 = .ok (.bipush 60, 2) := by decide +kernel
theorem dX12_init_462 : decode cX12_init 462 = .ok (.newarray .int, 2) := by decide +kernel
theorem dX12_init_464 : decode cX12_init 464 = .ok (.putfield 141, 3) := by decide +kernel
theorem dX12_init_467 : decode cX12_init 467 = .ok (.aload_n 0, 1) := by decide +kernel
theorem dX12_init_468 : decode cX12_init 468 = .ok (.bipush 60, 2) := by decide +kernel
theorem dX12_init_470 : decode cX12_init 470 = .ok (.newarray .int, 2) := by decide +kernel
theorem dX12_init_472 : decode cX12_init 472 = .ok (.putfield 144, 3) := by decide +kernel
theorem dX12_init_475 : decode cX12_init 475 = .ok (.aload_n 0, 1) := by decide +kernel
theorem dX12_init_476 : decode cX12_init 476 = .ok (.bipush 60, 2) := by decide +kernel
theorem dX12_init_478 : decode cX12_init 478 = .ok (.newarray .int, 2) := by decide +kernel
theorem dX12_init_480 : decode cX12_init 480 = .ok (.putfield 147, 3) := by decide +kernel
theorem dX12_init_483 : decode cX12_init 483 = .ok (.aload_n 0, 1) := by decide +kernel
theorem dX12_init_484 : decode cX12_init 484 = .ok (.iconst (-1), 1) := by decide +kernel
theorem dX12_init_485 : decode cX12_init 485 = .ok (.putfield 150, 3) := by decide +kernel
theorem dX12_init_488 : decode cX12_init 488 = .ok (.aload_n 0, 1) := by decide +kernel
theorem dX12_init_489 : decode cX12_init 489 = .ok (.bipush 64, 2) := by decide +kernel
theorem dX12_init_491 : decode cX12_init 491 = .ok (.newarray .int, 2) := by decide +kernel
theorem dX12_init_493 : decode cX12_init 493 = .ok (.putfield 153, 3) := by decide +kernel
theorem dX12_init_496 : decode cX12_init 496 = .ok (.aload_n 0, 1) := by decide +kernel
theorem dX12_init_497 : decode cX12_init 497 = .ok (.bipush 64, 2) := by decide +kernel
theorem dX12_init_499 : decode cX12_init 499 = .ok (.newarray .int, 2) := by decide +kernel
theorem dX12_init_501 : decode cX12_init 501 = .ok (.putfield 156, 3) := by decide +kernel
theorem dX12_init_504 : decode cX12_init 504 = .ok (.aload_n 0, 1) := by decide +kernel
theorem dX12_init_505 : decode cX12_init 505 = .ok (.bipush 8, 2) := by decide +kernel
theorem dX12_init_507 : decode cX12_init 507 = .ok (.newarray .int, 2) := by decide +kernel
theorem dX12_init_509 : decode cX12_init 509 = .ok (.putfield 159, 3) := by decide +kernel
theorem dX12_init_512 : decode cX12_init 512 = .ok (.aload_n 0, 1) := by decide +kernel
theorem dX12_init_513 : decode cX12_init 513 = .ok (.bipush 8, 2) := by decide +kernel
theorem dX12_init_515 : decode cX12_init 515 = .ok (.newarray .int, 2) := by decide +kernel
theorem dX12_init_517 : decode cX12_init 517 = .ok (.putfield 162, 3) := by decide +kernel
theorem dX12_init_520 : decode cX12_init 520 = .ok (.aload_n 0, 1) := by decide +kernel
theorem dX12_init_521 : decode cX12_init 521 = .ok (.bipush 8, 2) := by decide +kernel
theorem dX12_init_523 : decode cX12_init 523 = .ok (.newarray .int, 2) := by decide +kernel
theorem dX12_init_525 : decode cX12_init 525 = .ok (.putfield 165, 3) := by decide +kernel
theorem dX12_init_528 : decode cX12_init 528 = .ok (.aload_n 0, 1) := by decide +kernel
theorem dX12_init_529 : decode cX12_init 529 = .ok (.bipush 64, 2) := by decide +kernel
theorem dX12_init_531 : decode cX12_init 531 = .ok (.newarray .boolean, 2) := by decide +kernel
theorem dX12_init_533 : decode cX12_init 533 = .ok (.putfield 168, 3) := by decide +kernel
theorem dX12_init_536 : decode cX12_init 536 = .ok (.aload_n 0, 1) := by decide +kernel
theorem dX12_init_537 : decode cX12_init 537 = .ok (.bipush 64, 2) := by decide +kernel
theorem dX12_init_539 : decode cX12_init 539 = .ok (.newarray .int, 2) := by decide +kernel
theorem dX12_init_541 : decode cX12_init 541 = .ok (.putfield 171, 3) := by decide +kernel
theorem dX12_init_544 : decode cX12_init 544 = .ok (.aload_n 0, 1) := by decide +kernel
theorem dX12_init_545 : decode cX12_init 545 = .ok (.bipush 64, 2) := by decide +kernel
theorem dX12_init_547 : decode cX12_init 547 = .ok (.newarray .int, 2) := by decide +kernel
theorem dX12_init_549 : decode cX12_init 549 = .ok (.putfield 174, 3) := by decide +kernel
theorem dX12_init_552 : decode cX12_init 552 = .ok (.aload_n 0, 1) := by decide +kernel
theorem dX12_init_553 : decode cX12_init 553 = .ok (.bipush 10, 2) := by decide +kernel
theorem dX12_init_555 : decode cX12_init 555 = .ok (.newarray .int, 2) := by decide +kernel
theorem dX12_init_557 : decode cX12_init 557 = .ok (.putfield 177, 3) := by decide +kernel
theorem dX12_init_560 : decode cX12_init 560 = .ok (.aload_n 0, 1) := by decide +kernel
theorem dX12_init_561 : decode cX12_init 561 = .ok (.bipush 10, 2) := by decide +kernel
theorem dX12_init_563 : decode cX12_init 563 = .ok (.newarray .int, 2) := by decide +kernel
theorem dX12_init_565 : decode cX12_init 565 = .ok (.putfield 180, 3) := by decide +kernel
theorem dX12_init_568 : decode cX12_init 568 = .ok (.aload_n 0, 1) := by decide +kernel
theorem dX12_init_569 : decode cX12_init 569 = .ok (.bipush 9, 2) := by decide +kernel
theorem dX12_init_571 : decode cX12_init 571 = .ok (.newarray .int, 2) := by decide +kernel
theorem dX12_init_573 : decode cX12_init 573 = .ok (.putfield 183, 3) := by decide +kernel
theorem dX12_init_576 : decode cX12_init 576 = .ok (.aload_n 0, 1) := by decide +kernel
theorem dX12_init_577 : decode cX12_init 577 = .ok (.bipush 10, 2) := by decide +kernel
theorem dX12_init_579 : decode cX12_init 579 = .ok (.newarray .int, 2) := by decide +kernel
theorem dX12_init_581 : decode cX12_init 581 = .ok (.putfield 186, 3) := by decide +kernel
theorem dX12_init_584 : decode cX12_init 584 = .ok (.aload_n 0, 1) := by decide +kernel
theorem dX12_init_585 : decode cX12_init 585 = .ok (.bipush 10, 2) := by decide +kernel
theorem dX12_init_587 : decode cX12_init 587 = .ok (.newarray .int, 2) := by decide +kernel
theorem dX12_init_589 : decode cX12_init 589 = .ok (.putfield 189, 3) := by decide +kernel
theorem dX12_init_592 : decode cX12_init 592 = .ok (.aload_n 0, 1) := by decide +kernel
theorem dX12_init_593 : decode cX12_init 593 = .ok (.iconst (-1), 1) := by decide +kernel
theorem dX12_init_594 : decode cX12_init 594 = .ok (.putfield 192, 3) := by decide +kernel
theorem dX12_init_597 : decode cX12_init 597 = .ok (.aload_n 0, 1) := by decide +kernel
theorem dX12_init_598 : decode cX12_init 598 = .ok (.iconst (-1), 1) := by decide +kernel
theorem dX12_init_599 : decode cX12_init 599 = .ok (.putfield 195, 3) := by decide +kernel
theorem dX12_init_602 : decode cX12_init 602 = .ok (.return_, 1) := by decide +kernel
theorem dX11_feed_0 : decode cX11_feed 0 = .ok (.aload_n 0, 1) := by decide +kernel
theorem dX11_feed_1 : decode cX11_feed 1 = .ok (.getfield 10, 3) := by decide +kernel
theorem dX11_feed_4 : decode cX11_feed 4 = .ok (.getfield 102, 3) := by decide +kernel
theorem dX11_feed_7 : decode cX11_feed 7 = .ok (.bipush 20, 2) := by decide +kernel
theorem dX11_feed_9 : decode cX11_feed 9 = .ok (.iadd, 1) := by decide +kernel
theorem dX11_feed_10 : decode cX11_feed 10 = .ok (.sipush 420, 3) := by decide +kernel
theorem dX11_feed_13 : decode cX11_feed 13 = .ok (.if_icmp .le 5, 3) := by decide +kernel
theorem dX11_feed_18 : decode cX11_feed 18 = .ok (.aload_n 0, 1) := by decide +kernel
theorem dX11_feed_19 : decode cX11_feed 19 = .ok (.getfield 10, 3) := by decide +kernel
theorem dX11_feed_22 : decode cX11_feed 22 = .ok (.iload_n 1, 1) := by decide +kernel
theorem dX11_feed_23 : decode cX11_feed 23 = .ok (.invokevirtual 105, 3) := by decide +kernel
theorem dX11_feed_26 : decode cX11_feed 26 = .ok (.aload_n 0, 1) := by decide +kernel
theorem dX11_feed_27 : decode cX11_feed 27 = .ok (.getfield 10, 3) := by decide +kernel
theorem dX11_feed_30 : decode cX11_feed 30 = .ok (.iload_n 2, 1) := by decide +kernel
theorem dX11_feed_31 : decode cX11_feed 31 = .ok (.invokevirtual 105, 3) := by decide +kernel
theorem dX11_feed_34 : decode cX11_feed 34 = .ok (.aload_n 0, 1) := by decide +kernel
theorem dX11_feed_35 : decode cX11_feed 35 = .ok (.getfield 10, 3) := by decide +kernel
theorem dX11_feed_38 : decode cX11_feed 38 = .ok (.iload_n 3, 1) := by decide +kernel
theorem dX11_feed_39 : decode cX11_feed 39 = .ok (.invokevirtual 105, 3) := by decide +kernel
theorem dX11_feed_42 : decode cX11_feed 42 = .ok (.aload_n 0, 1) := by decide +kernel
theorem dX11_feed_43 : decode cX11_feed 43 = .ok (.getfield 10, 3) := by decide +kernel
theorem dX11_feed_46 : decode cX11_feed 46 = .ok (.iload 4, 2) := by decide +kernel
theorem dX11_feed_48 : decode cX11_feed 48 = .ok (.invokevirtual 105, 3) := by decide +kernel
theorem dX11_feed_51 : decode cX11_feed 51 = .ok (.aload_n 0, 1) := by decide +kernel
theorem dX11_feed_52 : decode cX11_feed 52 = .ok (.getfield 10, 3) := by decide +kernel
theorem dX11_feed_55 : decode cX11_feed 55 = .ok (.iload 5, 2) := by decide +kernel
theorem dX11_feed_57 : decode cX11_feed 57 = .ok (.invokevirtual 105, 3) := by decide +kernel
theorem dX11_feed_60 : decode cX11_feed 60 = .ok (.aload_n 0, 1) := by decide +kernel
theorem dX11_feed_61 : decode cX11_feed 61 = .ok (.getfield 10, 3) := by decide +kernel
theorem dX11_feed_64 : decode cX11_feed 64 = .ok (.getfield 102, 3) := by decide +kernel
theorem dX11_feed_67 : decode cX11_feed 67 = .ok (.ireturn, 1) := by decide +kernel
theorem dX9_put_0 : decode cX9_put 0 = .ok (.bipush 24, 2) := by decide +kernel
theorem dX9_put_2 : decode cX9_put 2 = .ok (.istore_n 2, 1) := by decide +kernel
theorem dX9_put_3 : decode cX9_put 3 = .ok (.iload_n 2, 1) := by decide +kernel
theorem dX9_put_4 : decode cX9_put 4 = .ok (.ifCond .lt 47, 3) := by decide +kernel
theorem dX9_put_7 : decode cX9_put 7 = .ok (.aload_n 0, 1) := by decide +kernel
theorem dX9_put_8 : decode cX9_put 8 = .ok (.getfield 15, 3) := by decide +kernel
theorem dX9_put_11 : decode cX9_put 11 = .ok (.aload_n 0, 1) := by decide +kernel
theorem dX9_put_12 : decode cX9_put 12 = .ok (.getfield 9, 3) := by decide +kernel
theorem dX9_put_15 : decode cX9_put 15 = .ok (.arraylength, 1) := by decide +kernel
theorem dX9_put_16 : decode cX9_put 16 = .ok (.if_icmp .ge 35, 3) := by decide +kernel
theorem dX9_put_19 : decode cX9_put 19 = .ok (.aload_n 0, 1) := by decide +kernel
theorem dX9_put_20 : decode cX9_put 20 = .ok (.getfield 9, 3) := by decide +kernel
theorem dX9_put_23 : decode cX9_put 23 = .ok (.aload_n 0, 1) := by decide +kernel
theorem dX9_put_24 : decode cX9_put 24 = .ok (.getfield 15, 3) := by decide +kernel
theorem dX9_put_27 : decode cX9_put 27 = .ok (.iload_n 1, 1) := by decide +kernel
theorem dX9_put_28 : decode cX9_put 28 = .ok (.iload_n 2, 1) := by decide +kernel
theorem dX9_put_29 : decode cX9_put 29 = .ok (.iushr, 1) := by decide +kernel
theorem dX9_put_30 : decode cX9_put 30 = .ok (.sipush 255, 3) := by decide +kernel
theorem dX9_put_33 : decode cX9_put 33 = .ok (.iand, 1) := by decide +kernel
theorem dX9_put_34 : decode cX9_put 34 = .ok (.iastore, 1) := by decide +kernel
theorem dX9_put_35 : decode cX9_put 35 = .ok (.aload_n 0, 1) := by decide +kernel
theorem dX9_put_36 : decode cX9_put 36 = .ok (.dup, 1) := by decide +kernel
theorem dX9_put_37 : decode cX9_put 37 = .ok (.getfield 15, 3) := by decide +kernel
theorem dX9_put_40 : decode cX9_put 40 = .ok (.iconst 1, 1) := by decide +kernel
theorem dX9_put_41 : decode cX9_put 41 = .ok (.iadd, 1) := by decide +kernel
theorem dX9_put_42 : decode cX9_put 42 = .ok (.putfield 15, 3) := by decide +kernel
theorem dX9_put_45 : decode cX9_put 45 = .ok (.iinc 2 (-8), 3) := by decide +kernel
theorem dX9_put_48 : decode cX9_put 48 = .ok (.goto (-45), 3) := by decide +kernel
theorem dX9_put_51 : decode cX9_put 51 = .ok (.return_, 1) := by decide +kernel
theorem dX12_feed_0 : decode cX12_feed 0 = .ok (.aload_n 0, 1) := by decide +kernel
theorem dX12_feed_1 : decode cX12_feed 1 = .ok (.iconst 0, 1) := by decide +kernel
theorem dX12_feed_2 : decode cX12_feed 2 = .ok (.putfield 198, 3) := by decide +kernel
theorem dX12_feed_5 : decode cX12_feed 5 = .ok (.aload_n 0, 1) := by decide +kernel
theorem dX12_feed_6 : decode cX12_feed 6 = .ok (.getfield 201, 3) := by decide +kernel
theorem dX12_feed_9 : decode cX12_feed 9 = .ok (.bipush 20, 2) := by decide +kernel
theorem dX12_feed_11 : decode cX12_feed 11 = .ok (.iadd, 1) := by decide +kernel
theorem dX12_feed_12 : decode cX12_feed 12 = .ok (.sipush 420, 3) := by decide +kernel
theorem dX12_feed_15 : decode cX12_feed 15 = .ok (.if_icmp .le 5, 3) := by decide +kernel
theorem dX12_feed_20 : decode cX12_feed 20 = .ok (.aload_n 0, 1) := by decide +kernel
theorem dX12_feed_21 : decode cX12_feed 21 = .ok (.iload_n 1, 1) := by decide +kernel
theorem dX12_feed_22 : decode cX12_feed 22 = .ok (.invokevirtual 204, 3) := by decide +kernel
theorem dX12_feed_25 : decode cX12_feed 25 = .ok (.aload_n 0, 1) := by decide +kernel
theorem dX12_feed_26 : decode cX12_feed 26 = .ok (.iload_n 2, 1) := by decide +kernel
theorem dX12_feed_27 : decode cX12_feed 27 = .ok (.invokevirtual 204, 3) := by decide +kernel
theorem dX12_feed_30 : decode cX12_feed 30 = .ok (.aload_n 0, 1) := by decide +kernel
theorem dX12_feed_31 : decode cX12_feed 31 = .ok (.iload_n 3, 1) := by decide +kernel
theorem dX12_feed_32 : decode cX12_feed 32 = .ok (.invokevirtual 204, 3) := by decide +kernel
theorem dX12_feed_35 : decode cX12_feed 35 = .ok (.aload_n 0, 1) := by decide +kernel
theorem dX12_feed_36 : decode cX12_feed 36 = .ok (.iload 4, 2) := by decide +kernel
theorem dX12_feed_38 : decode cX12_feed 38 = .ok (.invokevirtual 204, 3) := by decide +kernel
theorem dX12_feed_41 : decode cX12_feed 41 = .ok (.aload_n 0, 1) := by decide +kernel
theorem dX12_feed_42 : decode cX12_feed 42 = .ok (.iload 5, 2) := by decide +kernel
theorem dX12_feed_44 : decode cX12_feed 44 = .ok (.invokevirtual 204, 3) := by decide +kernel
theorem dX12_feed_47 : decode cX12_feed 47 = .ok (.aload_n 0, 1) := by decide +kernel
theorem dX12_feed_48 : decode cX12_feed 48 = .ok (.getfield 201, 3) := by decide +kernel
theorem dX12_feed_51 : decode cX12_feed 51 = .ok (.ireturn, 1) := by decide +kernel
theorem dX12_come_0 : decode cX12_come 0 = .ok (.bipush 24, 2) := by decide +kernel
theorem dX12_come_2 : decode cX12_come 2 = .ok (.istore_n 2, 1) := by decide +kernel
theorem dX12_come_3 : decode cX12_come 3 = .ok (.iload_n 2, 1) := by decide +kernel
theorem dX12_come_4 : decode cX12_come 4 = .ok (.ifCond .lt 35, 3) := by decide +kernel
theorem dX12_come_7 : decode cX12_come 7 = .ok (.aload_n 0, 1) := by decide +kernel
theorem dX12_come_8 : decode cX12_come 8 = .ok (.getfield 7, 3) := by decide +kernel
theorem dX12_come_11 : decode cX12_come 11 = .ok (.aload_n 0, 1) := by decide +kernel
theorem dX12_come_12 : decode cX12_come 12 = .ok (.getfield 201, 3) := by decide +kernel
theorem dX12_come_15 : decode cX12_come 15 = .ok (.iload_n 1, 1) := by decide +kernel
theorem dX12_come_16 : decode cX12_come 16 = .ok (.iload_n 2, 1) := by decide +kernel
theorem dX12_come_17 : decode cX12_come 17 = .ok (.iushr, 1) := by decide +kernel
theorem dX12_come_18 : decode cX12_come 18 = .ok (.sipush 255, 3) := by decide +kernel
theorem dX12_come_21 : decode cX12_come 21 = .ok (.iand, 1) := by decide +kernel
theorem dX12_come_22 : decode cX12_come 22 = .ok (.iastore, 1) := by decide +kernel
theorem dX12_come_23 : decode cX12_come 23 = .ok (.aload_n 0, 1) := by decide +kernel
theorem dX12_come_24 : decode cX12_come 24 = .ok (.dup, 1) := by decide +kernel
theorem dX12_come_25 : decode cX12_come 25 = .ok (.getfield 201, 3) := by decide +kernel
theorem dX12_come_28 : decode cX12_come 28 = .ok (.iconst 1, 1) := by decide +kernel
theorem dX12_come_29 : decode cX12_come 29 = .ok (.iadd, 1) := by decide +kernel
theorem dX12_come_30 : decode cX12_come 30 = .ok (.putfield 201, 3) := by decide +kernel
theorem dX12_come_33 : decode cX12_come 33 = .ok (.iinc 2 (-8), 3) := by decide +kernel
theorem dX12_come_36 : decode cX12_come 36 = .ok (.goto (-33), 3) := by decide +kernel
theorem dX12_come_39 : decode cX12_come 39 = .ok (.return_, 1) := by decide +kernel
theorem dX11_end_0 : decode cX11_end 0 = .ok (.iload_n 1, 1) := by decide +kernel
theorem dX11_end_1 : decode cX11_end 1 = .ok (.ifCond .lt 14, 3) := by decide +kernel
theorem dX11_end_4 : decode cX11_end 4 = .ok (.iload_n 1, 1) := by decide +kernel
theorem dX11_end_5 : decode cX11_end 5 = .ok (.aload_n 0, 1) := by decide +kernel
theorem dX11_end_6 : decode cX11_end 6 = .ok (.getfield 10, 3) := by decide +kernel
theorem dX11_end_9 : decode cX11_end 9 = .ok (.getfield 102, 3) := by decide +kernel
theorem dX11_end_12 : decode cX11_end 12 = .ok (.if_icmp .le 5, 3) := by decide +kernel
theorem dX11_end_15 : decode cX11_end 15 = .ok (.iconst 0, 1) := by decide +kernel
theorem dX11_end_16 : decode cX11_end 16 = .ok (.ireturn, 1) := by decide +kernel
theorem dX11_end_17 : decode cX11_end 17 = .ok (.aload_n 0, 1) := by decide +kernel
theorem dX11_end_18 : decode cX11_end 18 = .ok (.getfield 10, 3) := by decide +kernel
theorem dX11_end_21 : decode cX11_end 21 = .ok (.iload_n 1, 1) := by decide +kernel
theorem dX11_end_22 : decode cX11_end 22 = .ok (.putfield 102, 3) := by decide +kernel
theorem dX11_end_25 : decode cX11_end 25 = .ok (.iconst 1, 1) := by decide +kernel
theorem dX11_end_26 : decode cX11_end 26 = .ok (.ireturn, 1) := by decide +kernel
theorem dX12_end_0 : decode cX12_end 0 = .ok (.aload_n 0, 1) := by decide +kernel
theorem dX12_end_1 : decode cX12_end 1 = .ok (.iconst 0, 1) := by decide +kernel
theorem dX12_end_2 : decode cX12_end 2 = .ok (.putfield 198, 3) := by decide +kernel
theorem dX12_end_5 : decode cX12_end 5 = .ok (.iload_n 1, 1) := by decide +kernel
theorem dX12_end_6 : decode cX12_end 6 = .ok (.ifCond .lt 11, 3) := by decide +kernel
theorem dX12_end_9 : decode cX12_end 9 = .ok (.iload_n 1, 1) := by decide +kernel
theorem dX12_end_10 : decode cX12_end 10 = .ok (.aload_n 0, 1) := by decide +kernel
theorem dX12_end_11 : decode cX12_end 11 = .ok (.getfield 201, 3) := by decide +kernel
theorem dX12_end_14 : decode cX12_end 14 = .ok (.if_icmp .le 5, 3) := by decide +kernel
theorem dX12_end_17 : decode cX12_end 17 = .ok (.iconst 0, 1) := by decide +kernel
theorem dX12_end_18 : decode cX12_end 18 = .ok (.ireturn, 1) := by decide +kernel
theorem dX12_end_19 : decode cX12_end 19 = .ok (.aload_n 0, 1) := by decide +kernel
theorem dX12_end_20 : decode cX12_end 20 = .ok (.iload_n 1, 1) := by decide +kernel
theorem dX12_end_21 : decode cX12_end 21 = .ok (.putfield 201, 3) := by decide +kernel
theorem dX12_end_24 : decode cX12_end 24 = .ok (.iconst 1, 1) := by decide +kernel
theorem dX12_end_25 : decode cX12_end 25 = .ok (.ireturn, 1) := by decide +kernel
theorem dX11_boy_0 : decode cX11_boy 0 = .ok (.aload_n 0, 1) := by decide +kernel
theorem dX11_boy_1 : decode cX11_boy 1 = .ok (.getfield 19, 3) := by decide +kernel
theorem dX11_boy_4 : decode cX11_boy 4 = .ok (.getfield 109, 3) := by decide +kernel
theorem dX11_boy_7 : decode cX11_boy 7 = .ok (.invokevirtual 112, 3) := by decide +kernel
theorem dX11_boy_10 : decode cX11_boy 10 = .ok (.bipush 40, 2) := by decide +kernel
theorem dX11_boy_12 : decode cX11_boy 12 = .ok (.if_icmp .ge 32, 3) := by decide +kernel
theorem dX11_boy_15 : decode cX11_boy 15 = .ok (.iload_n 1, 1) := by decide +kernel
theorem dX11_boy_16 : decode cX11_boy 16 = .ok (.bipush 6, 2) := by decide +kernel
theorem dX11_boy_18 : decode cX11_boy 18 = .ok (.bipush 18, 2) := by decide +kernel
theorem dX11_boy_20 : decode cX11_boy 20 = .ok (.invokestatic 115, 3) := by decide +kernel
theorem dX11_boy_23 : decode cX11_boy 23 = .ok (.ifCond .eq 21, 3) := by decide +kernel
theorem dX11_boy_26 : decode cX11_boy 26 = .ok (.iload_n 3, 1) := by decide +kernel
theorem dX11_boy_27 : decode cX11_boy 27 = .ok (.invokestatic 119, 3) := by decide +kernel
theorem dX11_boy_30 : decode cX11_boy 30 = .ok (.ifCond .eq 14, 3) := by decide +kernel
theorem dX11_boy_33 : decode cX11_boy 33 = .ok (.iload 4, 2) := by decide +kernel
theorem dX11_boy_35 : decode cX11_boy 35 = .ok (.iconst 0, 1) := by decide +kernel
theorem dX11_boy_36 : decode cX11_boy 36 = .ok (.bipush 99, 2) := by decide +kernel
theorem dX11_boy_38 : decode cX11_boy 38 = .ok (.invokestatic 115, 3) := by decide +kernel
theorem dX11_boy_41 : decode cX11_boy 41 = .ok (.ifCond .ne 5, 3) := by decide +kernel
theorem dX11_boy_44 : decode cX11_boy 44 = .ok (.iconst (-1), 1) := by decide +kernel
theorem dX11_boy_45 : decode cX11_boy 45 = .ok (.ireturn, 1) := by decide +kernel
theorem dX11_boy_46 : decode cX11_boy 46 = .ok (.aload_n 0, 1) := by decide +kernel
theorem dX11_boy_47 : decode cX11_boy 47 = .ok (.getfield 19, 3) := by decide +kernel
theorem dX11_boy_50 : decode cX11_boy 50 = .ok (.getfield 109, 3) := by decide +kernel
theorem dX11_boy_53 : decode cX11_boy 53 = .ok (.invokevirtual 112, 3) := by decide +kernel
theorem dX11_boy_56 : decode cX11_boy 56 = .ok (.istore 5, 2) := by decide +kernel
theorem dX11_boy_58 : decode cX11_boy 58 = .ok (.aload_n 0, 1) := by decide +kernel
theorem dX11_boy_59 : decode cX11_boy 59 = .ok (.getfield 19, 3) := by decide +kernel
theorem dX11_boy_62 : decode cX11_boy 62 = .ok (.getfield 109, 3) := by decide +kernel
theorem dX11_boy_65 : decode cX11_boy 65 = .ok (.new 123, 3) := by decide +kernel
theorem dX11_boy_68 : decode cX11_boy 68 = .ok (.dup, 1) := by decide +kernel
theorem dX11_boy_69 : decode cX11_boy 69 = .ok (.iload 5, 2) := by decide +kernel
theorem dX11_boy_71 : decode cX11_boy 71 = .ok (.iload_n 1, 1) := by decide +kernel
theorem dX11_boy_72 : decode cX11_boy 72 = .ok (.iload_n 2, 1) := by decide +kernel
theorem dX11_boy_73 : decode cX11_boy 73 = .ok (.iload_n 3, 1) := by decide +kernel
theorem dX11_boy_74 : decode cX11_boy 74 = .ok (.iload 4, 2) := by decide +kernel
theorem dX11_boy_76 : decode cX11_boy 76 = .ok (.invokespecial 125, 3) := by decide +kernel
theorem dX11_boy_79 : decode cX11_boy 79 = .ok (.invokevirtual 128, 3) := by decide +kernel
theorem dX11_boy_82 : decode cX11_boy 82 = .ok (.pop, 1) := by decide +kernel
theorem dX11_boy_83 : decode cX11_boy 83 = .ok (.iload 5, 2) := by decide +kernel
theorem dX11_boy_85 : decode cX11_boy 85 = .ok (.ireturn, 1) := by decide +kernel
theorem dJx4a65c_size_8abf5_0 : decode cJx4a65c_size_8abf5 0 = .ok (.aload_n 0, 1) := by decide +kernel
theorem dJx4a65c_size_8abf5_1 : decode cJx4a65c_size_8abf5 1 = .ok (.getfield 48, 3) := by decide +kernel
theorem dJx4a65c_size_8abf5_4 : decode cJx4a65c_size_8abf5 4 = .ok (.ireturn, 1) := by decide +kernel
theorem dX11_within_0 : decode cX11_within 0 = .ok (.iload_n 0, 1) := by decide +kernel
theorem dX11_within_1 : decode cX11_within 1 = .ok (.iload_n 1, 1) := by decide +kernel
theorem dX11_within_2 : decode cX11_within 2 = .ok (.if_icmp .lt 12, 3) := by decide +kernel
theorem dX11_within_5 : decode cX11_within 5 = .ok (.iload_n 0, 1) := by decide +kernel
theorem dX11_within_6 : decode cX11_within 6 = .ok (.iload_n 2, 1) := by decide +kernel
theorem dX11_within_7 : decode cX11_within 7 = .ok (.if_icmp .gt 7, 3) := by decide +kernel
theorem dX11_within_10 : decode cX11_within 10 = .ok (.iconst 1, 1) := by decide +kernel
theorem dX11_within_11 : decode cX11_within 11 = .ok (.goto 4, 3) := by decide +kernel
theorem dX11_within_14 : decode cX11_within 14 = .ok (.iconst 0, 1) := by decide +kernel
theorem dX11_within_15 : decode cX11_within 15 = .ok (.ireturn, 1) := by decide +kernel
theorem dX11_isBadge_0 : decode cX11_isBadge 0 = .ok (.iload_n 0, 1) := by decide +kernel
theorem dX11_isBadge_1 : decode cX11_isBadge 1 = .ok (.iconst (-1), 1) := by decide +kernel
theorem dX11_isBadge_2 : decode cX11_isBadge 2 = .ok (.if_icmp .eq 10, 3) := by decide +kernel
theorem dX11_isBadge_5 : decode cX11_isBadge 5 = .ok (.iload_n 0, 1) := by decide +kernel
theorem dX11_isBadge_6 : decode cX11_isBadge 6 = .ok (.invokestatic 159, 3) := by decide +kernel
theorem dX11_isBadge_9 : decode cX11_isBadge 9 = .ok (.ifCond .eq 7, 3) := by decide +kernel
theorem dX11_isBadge_12 : decode cX11_isBadge 12 = .ok (.iconst 1, 1) := by decide +kernel
theorem dX11_isBadge_13 : decode cX11_isBadge 13 = .ok (.goto 4, 3) := by decide +kernel
theorem dX11_isBadge_16 : decode cX11_isBadge 16 = .ok (.iconst 0, 1) := by decide +kernel
theorem dX11_isBadge_17 : decode cX11_isBadge 17 = .ok (.ireturn, 1) := by decide +kernel
theorem dX11_isDay_0 : decode cX11_isDay 0 = .ok (.iload_n 0, 1) := by decide +kernel
theorem dX11_isDay_1 : decode cX11_isDay 1 = .ok (.iconst 0, 1) := by decide +kernel
theorem dX11_isDay_2 : decode cX11_isDay 2 = .ok (.sipush 399, 3) := by decide +kernel
theorem dX11_isDay_5 : decode cX11_isDay 5 = .ok (.invokestatic 115, 3) := by decide +kernel
theorem dX11_isDay_8 : decode cX11_isDay 8 = .ok (.ireturn, 1) := by decide +kernel
theorem dX0_init_0 : decode cX0_init 0 = .ok (.aload_n 0, 1) := by decide +kernel
theorem dX0_init_1 : decode cX0_init 1 = .ok (.invokespecial 1, 3) := by decide +kernel
theorem dX0_init_4 : decode cX0_init 4 = .ok (.aload_n 0, 1) := by decide +kernel
theorem dX0_init_5 : decode cX0_init 5 = .ok (.iconst 0, 1) := by decide +kernel
theorem dX0_init_6 : decode cX0_init 6 = .ok (.putfield 7, 3) := by decide +kernel
theorem dX0_init_9 : decode cX0_init 9 = .ok (.aload_n 0, 1) := by decide +kernel
theorem dX0_init_10 : decode cX0_init 10 = .ok (.iload_n 1, 1) := by decide +kernel
theorem dX0_init_11 : decode cX0_init 11 = .ok (.putfield 13, 3) := by decide +kernel
theorem dX0_init_14 : decode cX0_init 14 = .ok (.aload_n 0, 1) := by decide +kernel
theorem dX0_init_15 : decode cX0_init 15 = .ok (.iload_n 2, 1) := by decide +kernel
theorem dX0_init_16 : decode cX0_init 16 = .ok (.putfield 16, 3) := by decide +kernel
theorem dX0_init_19 : decode cX0_init 19 = .ok (.aload_n 0, 1) := by decide +kernel
theorem dX0_init_20 : decode cX0_init 20 = .ok (.iload_n 3, 1) := by decide +kernel
theorem dX0_init_21 : decode cX0_init 21 = .ok (.putfield 19, 3) := by decide +kernel
theorem dX0_init_24 : decode cX0_init 24 = .ok (.aload_n 0, 1) := by decide +kernel
theorem dX0_init_25 : decode cX0_init 25 = .ok (.iload 4, 2) := by decide +kernel
theorem dX0_init_27 : decode cX0_init 27 = .ok (.putfield 23, 3) := by decide +kernel
theorem dX0_init_30 : decode cX0_init 30 = .ok (.aload_n 0, 1) := by decide +kernel
theorem dX0_init_31 : decode cX0_init 31 = .ok (.iload 5, 2) := by decide +kernel
theorem dX0_init_33 : decode cX0_init 33 = .ok (.putfield 26, 3) := by decide +kernel
theorem dX0_init_36 : decode cX0_init 36 = .ok (.return_, 1) := by decide +kernel
theorem dJx4a65c_add_9ea2d_0 : decode cJx4a65c_add_9ea2d 0 = .ok (.aload_n 0, 1) := by decide +kernel
theorem dJx4a65c_add_9ea2d_1 : decode cJx4a65c_add_9ea2d 1 = .ok (.dup, 1) := by decide +kernel
theorem dJx4a65c_add_9ea2d_2 : decode cJx4a65c_add_9ea2d 2 = .ok (.getfield 63, 3) := by decide +kernel
theorem dJx4a65c_add_9ea2d_5 : decode cJx4a65c_add_9ea2d 5 = .ok (.iconst 1, 1) := by decide +kernel
theorem dJx4a65c_add_9ea2d_6 : decode cJx4a65c_add_9ea2d 6 = .ok (.iadd, 1) := by decide +kernel
theorem dJx4a65c_add_9ea2d_7 : decode cJx4a65c_add_9ea2d 7 = .ok (.putfield 63, 3) := by decide +kernel
theorem dJx4a65c_add_9ea2d_10 : decode cJx4a65c_add_9ea2d 10 = .ok (.aload_n 0, 1) := by decide +kernel
theorem dJx4a65c_add_9ea2d_11 : decode cJx4a65c_add_9ea2d 11 = .ok (.aload_n 1, 1) := by decide +kernel
theorem dJx4a65c_add_9ea2d_12 : decode cJx4a65c_add_9ea2d 12 = .ok (.aload_n 0, 1) := by decide +kernel
theorem dJx4a65c_add_9ea2d_13 : decode cJx4a65c_add_9ea2d 13 = .ok (.getfield 9, 3) := by decide +kernel
theorem dJx4a65c_add_9ea2d_16 : decode cJx4a65c_add_9ea2d 16 = .ok (.aload_n 0, 1) := by decide +kernel
theorem dJx4a65c_add_9ea2d_17 : decode cJx4a65c_add_9ea2d 17 = .ok (.getfield 48, 3) := by decide +kernel
theorem dJx4a65c_add_9ea2d_20 : decode cJx4a65c_add_9ea2d 20 = .ok (.invokevirtual 131, 3) := by decide +kernel
theorem dJx4a65c_add_9ea2d_23 : decode cJx4a65c_add_9ea2d 23 = .ok (.iconst 1, 1) := by decide +kernel
theorem dJx4a65c_add_9ea2d_24 : decode cJx4a65c_add_9ea2d 24 = .ok (.ireturn, 1) := by decide +kernel
theorem dJx4a65c_add_72be8_0 : decode cJx4a65c_add_72be8 0 = .ok (.iload_n 3, 1) := by decide +kernel
theorem dJx4a65c_add_72be8_1 : decode cJx4a65c_add_72be8 1 = .ok (.aload_n 2, 1) := by decide +kernel
theorem dJx4a65c_add_72be8_2 : decode cJx4a65c_add_72be8 2 = .ok (.arraylength, 1) := by decide +kernel
theorem dJx4a65c_add_72be8_3 : decode cJx4a65c_add_72be8 3 = .ok (.if_icmp .ne 8, 3) := by decide +kernel
theorem dJx4a65c_add_72be8_6 : decode cJx4a65c_add_72be8 6 = .ok (.aload_n 0, 1) := by decide +kernel
theorem dJx4a65c_add_72be8_7 : decode cJx4a65c_add_72be8 7 = .ok (.invokevirtual 129, 3) := by decide +kernel
theorem dJx4a65c_add_72be8_10 : decode cJx4a65c_add_72be8 10 = .ok (.astore_n 2, 1) := by decide +kernel
theorem dJx4a65c_add_72be8_11 : decode cJx4a65c_add_72be8 11 = .ok (.aload_n 2, 1) := by decide +kernel
theorem dJx4a65c_add_72be8_12 : decode cJx4a65c_add_72be8 12 = .ok (.iload_n 3, 1) := by decide +kernel
theorem dJx4a65c_add_72be8_13 : decode cJx4a65c_add_72be8 13 = .ok (.aload_n 1, 1) := by decide +kernel
theorem dJx4a65c_add_72be8_14 : decode cJx4a65c_add_72be8 14 = .ok (.aastore, 1) := by decide +kernel
theorem dJx4a65c_add_72be8_15 : decode cJx4a65c_add_72be8 15 = .ok (.aload_n 0, 1) := by decide +kernel
theorem dJx4a65c_add_72be8_16 : decode cJx4a65c_add_72be8 16 = .ok (.iload_n 3, 1) := by decide +kernel
theorem dJx4a65c_add_72be8_17 : decode cJx4a65c_add_72be8 17 = .ok (.iconst 1, 1) := by decide +kernel
theorem dJx4a65c_add_72be8_18 : decode cJx4a65c_add_72be8 18 = .ok (.iadd, 1) := by decide +kernel
theorem dJx4a65c_add_72be8_19 : decode cJx4a65c_add_72be8 19 = .ok (.putfield 48, 3) := by decide +kernel
theorem dJx4a65c_add_72be8_22 : decode cJx4a65c_add_72be8 22 = .ok (.return_, 1) := by decide +kernel
theorem dJx4a65c_grow_d5877_0 : decode cJx4a65c_grow_d5877 0 = .ok (.aload_n 0, 1) := by decide +kernel
theorem dJx4a65c_grow_d5877_1 : decode cJx4a65c_grow_d5877 1 = .ok (.aload_n 0, 1) := by decide +kernel
theorem dJx4a65c_grow_d5877_2 : decode cJx4a65c_grow_d5877 2 = .ok (.getfield 48, 3) := by decide +kernel
theorem dJx4a65c_grow_d5877_5 : decode cJx4a65c_grow_d5877 5 = .ok (.iconst 1, 1) := by decide +kernel
theorem dJx4a65c_grow_d5877_6 : decode cJx4a65c_grow_d5877 6 = .ok (.iadd, 1) := by decide +kernel
theorem dJx4a65c_grow_d5877_7 : decode cJx4a65c_grow_d5877 7 = .ok (.invokevirtual 69, 3) := by decide +kernel
theorem dJx4a65c_grow_d5877_10 : decode cJx4a65c_grow_d5877 10 = .ok (.areturn, 1) := by decide +kernel
theorem dJx4a65c_grow_92f84_0 : decode cJx4a65c_grow_92f84 0 = .ok (.aload_n 0, 1) := by decide +kernel
theorem dJx4a65c_grow_92f84_1 : decode cJx4a65c_grow_92f84 1 = .ok (.getfield 9, 3) := by decide +kernel
theorem dJx4a65c_grow_92f84_4 : decode cJx4a65c_grow_92f84 4 = .ok (.arraylength, 1) := by decide +kernel
theorem dJx4a65c_grow_92f84_5 : decode cJx4a65c_grow_92f84 5 = .ok (.istore_n 2, 1) := by decide +kernel
theorem dJx4a65c_grow_92f84_6 : decode cJx4a65c_grow_92f84 6 = .ok (.iload_n 2, 1) := by decide +kernel
theorem dJx4a65c_grow_92f84_7 : decode cJx4a65c_grow_92f84 7 = .ok (.ifCond .gt 13, 3) := by decide +kernel
theorem dJx4a65c_grow_92f84_10 : decode cJx4a65c_grow_92f84 10 = .ok (.aload_n 0, 1) := by decide +kernel
theorem dJx4a65c_grow_92f84_11 : decode cJx4a65c_grow_92f84 11 = .ok (.getfield 9, 3) := by decide +kernel
theorem dJx4a65c_grow_92f84_14 : decode cJx4a65c_grow_92f84 14 = .ok (.getstatic 39, 3) := by decide +kernel
theorem dJx4a65c_grow_92f84_17 : decode cJx4a65c_grow_92f84 17 = .ok (.if_acmp .eq 28, 3) := by decide +kernel
theorem dJx4a65c_grow_92f84_45 : decode cJx4a65c_grow_92f84 45 = .ok (.aload_n 0, 1) := by decide +kernel
theorem dJx4a65c_grow_92f84_46 : decode cJx4a65c_grow_92f84 46 = .ok (.bipush 10, 2) := by decide +kernel
theorem dJx4a65c_grow_92f84_48 : decode cJx4a65c_grow_92f84 48 = .ok (.iload_n 1, 1) := by decide +kernel
theorem dJx4a65c_grow_92f84_49 : decode cJx4a65c_grow_92f84 49 = .ok (.invokestatic 79, 3) := by decide +kernel
theorem dJx4a65c_grow_92f84_52 : decode cJx4a65c_grow_92f84 52 = .ok (.anewarray 7, 3) := by decide +kernel
theorem dJx4a65c_grow_92f84_55 : decode cJx4a65c_grow_92f84 55 = .ok (.dup_x1, 1) := by decide +kernel
theorem dJx4a65c_grow_92f84_56 : decode cJx4a65c_grow_92f84 56 = .ok (.putfield 9, 3) := by decide +kernel
theorem dJx4a65c_grow_92f84_59 : decode cJx4a65c_grow_92f84 59 = .ok (.areturn, 1) := by decide +kernel
theorem dX12_boy_0 : decode cX12_boy 0 = .ok (.aload_n 0, 1) := by decide +kernel
theorem dX12_boy_1 : decode cX12_boy 1 = .ok (.iconst 0, 1) := by decide +kernel
theorem dX12_boy_2 : decode cX12_boy 2 = .ok (.putfield 198, 3) := by decide +kernel
theorem dX12_boy_5 : decode cX12_boy 5 = .ok (.aload_n 0, 1) := by decide +kernel
theorem dX12_boy_6 : decode cX12_boy 6 = .ok (.getfield 208, 3) := by decide +kernel
theorem dX12_boy_9 : decode cX12_boy 9 = .ok (.bipush 40, 2) := by decide +kernel
theorem dX12_boy_11 : decode cX12_boy 11 = .ok (.if_icmp .eq 36, 3) := by decide +kernel
theorem dX12_boy_14 : decode cX12_boy 14 = .ok (.iload_n 1, 1) := by decide +kernel
theorem dX12_boy_15 : decode cX12_boy 15 = .ok (.bipush 6, 2) := by decide +kernel
theorem dX12_boy_17 : decode cX12_boy 17 = .ok (.bipush 18, 2) := by decide +kernel
theorem dX12_boy_19 : decode cX12_boy 19 = .ok (.invokestatic 211, 3) := by decide +kernel
theorem dX12_boy_22 : decode cX12_boy 22 = .ok (.ifCond .eq 25, 3) := by decide +kernel
theorem dX12_boy_25 : decode cX12_boy 25 = .ok (.iload_n 3, 1) := by decide +kernel
theorem dX12_boy_26 : decode cX12_boy 26 = .ok (.iconst (-1), 1) := by decide +kernel
theorem dX12_boy_27 : decode cX12_boy 27 = .ok (.sipush 399, 3) := by decide +kernel
theorem dX12_boy_30 : decode cX12_boy 30 = .ok (.invokestatic 211, 3) := by decide +kernel
theorem dX12_boy_33 : decode cX12_boy 33 = .ok (.ifCond .eq 14, 3) := by decide +kernel
theorem dX12_boy_36 : decode cX12_boy 36 = .ok (.iload 4, 2) := by decide +kernel
theorem dX12_boy_38 : decode cX12_boy 38 = .ok (.iconst 0, 1) := by decide +kernel
theorem dX12_boy_39 : decode cX12_boy 39 = .ok (.bipush 99, 2) := by decide +kernel
theorem dX12_boy_41 : decode cX12_boy 41 = .ok (.invokestatic 211, 3) := by decide +kernel
theorem dX12_boy_44 : decode cX12_boy 44 = .ok (.ifCond .ne 5, 3) := by decide +kernel
theorem dX12_boy_47 : decode cX12_boy 47 = .ok (.iconst (-1), 1) := by decide +kernel
theorem dX12_boy_48 : decode cX12_boy 48 = .ok (.ireturn, 1) := by decide +kernel
theorem dX12_boy_49 : decode cX12_boy 49 = .ok (.aload_n 0, 1) := by decide +kernel
theorem dX12_boy_50 : decode cX12_boy 50 = .ok (.getfield 13, 3) := by decide +kernel
theorem dX12_boy_53 : decode cX12_boy 53 = .ok (.aload_n 0, 1) := by decide +kernel
theorem dX12_boy_54 : decode cX12_boy 54 = .ok (.getfield 208, 3) := by decide +kernel
theorem dX12_boy_57 : decode cX12_boy 57 = .ok (.iload_n 1, 1) := by decide +kernel
theorem dX12_boy_58 : decode cX12_boy 58 = .ok (.iastore, 1) := by decide +kernel
theorem dX12_boy_59 : decode cX12_boy 59 = .ok (.aload_n 0, 1) := by decide +kernel
theorem dX12_boy_60 : decode cX12_boy 60 = .ok (.getfield 25, 3) := by decide +kernel
theorem dX12_boy_63 : decode cX12_boy 63 = .ok (.aload_n 0, 1) := by decide +kernel
theorem dX12_boy_64 : decode cX12_boy 64 = .ok (.getfield 208, 3) := by decide +kernel
theorem dX12_boy_67 : decode cX12_boy 67 = .ok (.iload_n 2, 1) := by decide +kernel
theorem dX12_boy_68 : decode cX12_boy 68 = .ok (.bastore, 1) := by decide +kernel
theorem dX12_boy_69 : decode cX12_boy 69 = .ok (.aload_n 0, 1) := by decide +kernel
theorem dX12_boy_70 : decode cX12_boy 70 = .ok (.getfield 16, 3) := by decide +kernel
theorem dX12_boy_73 : decode cX12_boy 73 = .ok (.aload_n 0, 1) := by decide +kernel
theorem dX12_boy_74 : decode cX12_boy 74 = .ok (.getfield 208, 3) := by decide +kernel
theorem dX12_boy_77 : decode cX12_boy 77 = .ok (.iload_n 3, 1) := by decide +kernel
theorem dX12_boy_78 : decode cX12_boy 78 = .ok (.iastore, 1) := by decide +kernel
theorem dX12_boy_79 : decode cX12_boy 79 = .ok (.aload_n 0, 1) := by decide +kernel
theorem dX12_boy_80 : decode cX12_boy 80 = .ok (.getfield 19, 3) := by decide +kernel
theorem dX12_boy_83 : decode cX12_boy 83 = .ok (.aload_n 0, 1) := by decide +kernel
theorem dX12_boy_84 : decode cX12_boy 84 = .ok (.getfield 208, 3) := by decide +kernel
theorem dX12_boy_87 : decode cX12_boy 87 = .ok (.iload 4, 2) := by decide +kernel
theorem dX12_boy_89 : decode cX12_boy 89 = .ok (.iastore, 1) := by decide +kernel
theorem dX12_boy_90 : decode cX12_boy 90 = .ok (.aload_n 0, 1) := by decide +kernel
theorem dX12_boy_91 : decode cX12_boy 91 = .ok (.dup, 1) := by decide +kernel
theorem dX12_boy_92 : decode cX12_boy 92 = .ok (.getfield 208, 3) := by decide +kernel
theorem dX12_boy_95 : decode cX12_boy 95 = .ok (.iconst 1, 1) := by decide +kernel
theorem dX12_boy_96 : decode cX12_boy 96 = .ok (.iadd, 1) := by decide +kernel
theorem dX12_boy_97 : decode cX12_boy 97 = .ok (.putfield 208, 3) := by decide +kernel
theorem dX12_boy_100 : decode cX12_boy 100 = .ok (.aload_n 0, 1) := by decide +kernel
theorem dX12_boy_101 : decode cX12_boy 101 = .ok (.getfield 208, 3) := by decide +kernel
theorem dX12_boy_104 : decode cX12_boy 104 = .ok (.iconst 1, 1) := by decide +kernel
theorem dX12_boy_105 : decode cX12_boy 105 = .ok (.isub, 1) := by decide +kernel
theorem dX12_boy_106 : decode cX12_boy 106 = .ok (.ireturn, 1) := by decide +kernel
theorem dX12_isIn_0 : decode cX12_isIn 0 = .ok (.iload_n 0, 1) := by decide +kernel
theorem dX12_isIn_1 : decode cX12_isIn 1 = .ok (.iload_n 1, 1) := by decide +kernel
theorem dX12_isIn_2 : decode cX12_isIn 2 = .ok (.if_icmp .lt 12, 3) := by decide +kernel
theorem dX12_isIn_5 : decode cX12_isIn 5 = .ok (.iload_n 0, 1) := by decide +kernel
theorem dX12_isIn_6 : decode cX12_isIn 6 = .ok (.iload_n 2, 1) := by decide +kernel
theorem dX12_isIn_7 : decode cX12_isIn 7 = .ok (.if_icmp .gt 7, 3) := by decide +kernel
theorem dX12_isIn_10 : decode cX12_isIn 10 = .ok (.iconst 1, 1) := by decide +kernel
theorem dX12_isIn_11 : decode cX12_isIn 11 = .ok (.goto 4, 3) := by decide +kernel
theorem dX12_isIn_14 : decode cX12_isIn 14 = .ok (.iconst 0, 1) := by decide +kernel
theorem dX12_isIn_15 : decode cX12_isIn 15 = .ok (.ireturn, 1) := by decide +kernel
theorem dX11_badge_0 : decode cX11_badge 0 = .ok (.aload_n 0, 1) := by decide +kernel
theorem dX11_badge_1 : decode cX11_badge 1 = .ok (.getfield 19, 3) := by decide +kernel
theorem dX11_badge_4 : decode cX11_badge 4 = .ok (.iload_n 1, 1) := by decide +kernel
theorem dX11_badge_5 : decode cX11_badge 5 = .ok (.invokevirtual 132, 3) := by decide +kernel
theorem dX11_badge_8 : decode cX11_badge 8 = .ok (.ifCond .eq 10, 3) := by decide +kernel
theorem dX11_badge_18 : decode cX11_badge 18 = .ok (.iconst 0, 1) := by decide +kernel
theorem dX11_badge_19 : decode cX11_badge 19 = .ok (.ireturn, 1) := by decide +kernel
theorem dX5_hasBoy_0 : decode cX5_hasBoy 0 = .ok (.iload_n 1, 1) := by decide +kernel
theorem dX5_hasBoy_1 : decode cX5_hasBoy 1 = .ok (.ifCond .lt 18, 3) := by decide +kernel
theorem dX5_hasBoy_4 : decode cX5_hasBoy 4 = .ok (.iload_n 1, 1) := by decide +kernel
theorem dX5_hasBoy_5 : decode cX5_hasBoy 5 = .ok (.aload_n 0, 1) := by decide +kernel
theorem dX5_hasBoy_6 : decode cX5_hasBoy 6 = .ok (.getfield 21, 3) := by decide +kernel
theorem dX5_hasBoy_9 : decode cX5_hasBoy 9 = .ok (.invokevirtual 45, 3) := by decide +kernel
theorem dX5_hasBoy_12 : decode cX5_hasBoy 12 = .ok (.if_icmp .ge 7, 3) := by decide +kernel
theorem dX5_hasBoy_19 : decode cX5_hasBoy 19 = .ok (.iconst 0, 1) := by decide +kernel
theorem dX5_hasBoy_20 : decode cX5_hasBoy 20 = .ok (.ireturn, 1) := by decide +kernel
theorem dX12_badge_0 : decode cX12_badge 0 = .ok (.aload_n 0, 1) := by decide +kernel
theorem dX12_badge_1 : decode cX12_badge 1 = .ok (.iconst 0, 1) := by decide +kernel
theorem dX12_badge_2 : decode cX12_badge 2 = .ok (.putfield 198, 3) := by decide +kernel
theorem dX12_badge_5 : decode cX12_badge 5 = .ok (.aload_n 0, 1) := by decide +kernel
theorem dX12_badge_6 : decode cX12_badge 6 = .ok (.iload_n 1, 1) := by decide +kernel
theorem dX12_badge_7 : decode cX12_badge 7 = .ok (.invokevirtual 215, 3) := by decide +kernel
theorem dX12_badge_10 : decode cX12_badge 10 = .ok (.ifCond .eq 14, 3) := by decide +kernel
theorem dX12_badge_24 : decode cX12_badge 24 = .ok (.iconst 0, 1) := by decide +kernel
theorem dX12_badge_25 : decode cX12_badge 25 = .ok (.ireturn, 1) := by decide +kernel
theorem dX12_isBoy_0 : decode cX12_isBoy 0 = .ok (.iload_n 1, 1) := by decide +kernel
theorem dX12_isBoy_1 : decode cX12_isBoy 1 = .ok (.ifCond .lt 15, 3) := by decide +kernel
theorem dX12_isBoy_4 : decode cX12_isBoy 4 = .ok (.iload_n 1, 1) := by decide +kernel
theorem dX12_isBoy_5 : decode cX12_isBoy 5 = .ok (.aload_n 0, 1) := by decide +kernel
theorem dX12_isBoy_6 : decode cX12_isBoy 6 = .ok (.getfield 208, 3) := by decide +kernel
theorem dX12_isBoy_9 : decode cX12_isBoy 9 = .ok (.if_icmp .ge 7, 3) := by decide +kernel
theorem dX12_isBoy_16 : decode cX12_isBoy 16 = .ok (.iconst 0, 1) := by decide +kernel
theorem dX12_isBoy_17 : decode cX12_isBoy 17 = .ok (.ireturn, 1) := by decide +kernel
theorem dX11_owner_0 : decode cX11_owner 0 = .ok (.iload_n 1, 1) := by decide +kernel
theorem dX11_owner_1 : decode cX11_owner 1 = .ok (.invokestatic 142, 3) := by decide +kernel
theorem dX11_owner_4 : decode cX11_owner 4 = .ok (.ifCond .eq 19, 3) := by decide +kernel
theorem dX11_owner_7 : decode cX11_owner 7 = .ok (.iload_n 2, 1) := by decide +kernel
theorem dX11_owner_8 : decode cX11_owner 8 = .ok (.iconst (-1), 1) := by decide +kernel
theorem dX11_owner_9 : decode cX11_owner 9 = .ok (.if_icmp .eq 16, 3) := by decide +kernel
theorem dX11_owner_12 : decode cX11_owner 12 = .ok (.aload_n 0, 1) := by decide +kernel
theorem dX11_owner_13 : decode cX11_owner 13 = .ok (.getfield 19, 3) := by decide +kernel
theorem dX11_owner_16 : decode cX11_owner 16 = .ok (.iload_n 2, 1) := by decide +kernel
theorem dX11_owner_17 : decode cX11_owner 17 = .ok (.invokevirtual 132, 3) := by decide +kernel
theorem dX11_owner_20 : decode cX11_owner 20 = .ok (.ifCond .ne 5, 3) := by decide +kernel
theorem dX11_owner_23 : decode cX11_owner 23 = .ok (.iconst 0, 1) := by decide +kernel
theorem dX11_owner_24 : decode cX11_owner 24 = .ok (.ireturn, 1) := by decide +kernel
theorem dX11_owner_25 : decode cX11_owner 25 = .ok (.aload_n 0, 1) := by decide +kernel
theorem dX11_owner_26 : decode cX11_owner 26 = .ok (.getfield 27, 3) := by decide +kernel
theorem dX11_owner_29 : decode cX11_owner 29 = .ok (.getfield 145, 3) := by decide +kernel
theorem dX11_owner_32 : decode cX11_owner 32 = .ok (.iload_n 1, 1) := by decide +kernel
theorem dX11_owner_33 : decode cX11_owner 33 = .ok (.iload_n 2, 1) := by decide +kernel
theorem dX11_owner_34 : decode cX11_owner 34 = .ok (.iastore, 1) := by decide +kernel
theorem dX11_owner_35 : decode cX11_owner 35 = .ok (.iconst 1, 1) := by decide +kernel
theorem dX11_owner_36 : decode cX11_owner 36 = .ok (.ireturn, 1) := by decide +kernel
theorem dX11_isCorner_0 : decode cX11_isCorner 0 = .ok (.iload_n 0, 1) := by decide +kernel
theorem dX11_isCorner_1 : decode cX11_isCorner 1 = .ok (.iconst 0, 1) := by decide +kernel
theorem dX11_isCorner_2 : decode cX11_isCorner 2 = .ok (.bipush 9, 2) := by decide +kernel
theorem dX11_isCorner_4 : decode cX11_isCorner 4 = .ok (.invokestatic 115, 3) := by decide +kernel
theorem dX11_isCorner_7 : decode cX11_isCorner 7 = .ok (.ireturn, 1) := by decide +kernel
theorem dX12_owner_0 : decode cX12_owner 0 = .ok (.aload_n 0, 1) := by decide +kernel
theorem dX12_owner_1 : decode cX12_owner 1 = .ok (.iconst 0, 1) := by decide +kernel
theorem dX12_owner_2 : decode cX12_owner 2 = .ok (.putfield 198, 3) := by decide +kernel
theorem dX12_owner_5 : decode cX12_owner 5 = .ok (.iload_n 1, 1) := by decide +kernel
theorem dX12_owner_6 : decode cX12_owner 6 = .ok (.invokestatic 219, 3) := by decide +kernel
theorem dX12_owner_9 : decode cX12_owner 9 = .ok (.ifCond .eq 16, 3) := by decide +kernel
theorem dX12_owner_12 : decode cX12_owner 12 = .ok (.iload_n 2, 1) := by decide +kernel
theorem dX12_owner_13 : decode cX12_owner 13 = .ok (.iconst (-1), 1) := by decide +kernel
theorem dX12_owner_14 : decode cX12_owner 14 = .ok (.if_icmp .eq 13, 3) := by decide +kernel
theorem dX12_owner_17 : decode cX12_owner 17 = .ok (.aload_n 0, 1) := by decide +kernel
theorem dX12_owner_18 : decode cX12_owner 18 = .ok (.iload_n 2, 1) := by decide +kernel
theorem dX12_owner_19 : decode cX12_owner 19 = .ok (.invokevirtual 215, 3) := by decide +kernel
theorem dX12_owner_22 : decode cX12_owner 22 = .ok (.ifCond .ne 5, 3) := by decide +kernel
theorem dX12_owner_25 : decode cX12_owner 25 = .ok (.iconst 0, 1) := by decide +kernel
theorem dX12_owner_26 : decode cX12_owner 26 = .ok (.ireturn, 1) := by decide +kernel
theorem dX12_owner_27 : decode cX12_owner 27 = .ok (.aload_n 0, 1) := by decide +kernel
theorem dX12_owner_28 : decode cX12_owner 28 = .ok (.getfield 29, 3) := by decide +kernel
theorem dX12_owner_31 : decode cX12_owner 31 = .ok (.iload_n 1, 1) := by decide +kernel
theorem dX12_owner_32 : decode cX12_owner 32 = .ok (.iload_n 2, 1) := by decide +kernel
theorem dX12_owner_33 : decode cX12_owner 33 = .ok (.iastore, 1) := by decide +kernel
theorem dX12_owner_34 : decode cX12_owner 34 = .ok (.iconst 1, 1) := by decide +kernel
theorem dX12_owner_35 : decode cX12_owner 35 = .ok (.ireturn, 1) := by decide +kernel
theorem dX12_isCorner_0 : decode cX12_isCorner 0 = .ok (.iload_n 0, 1) := by decide +kernel
theorem dX12_isCorner_1 : decode cX12_isCorner 1 = .ok (.ifCond .lt 13, 3) := by decide +kernel
theorem dX12_isCorner_4 : decode cX12_isCorner 4 = .ok (.iload_n 0, 1) := by decide +kernel
theorem dX12_isCorner_5 : decode cX12_isCorner 5 = .ok (.bipush 10, 2) := by decide +kernel
theorem dX12_isCorner_7 : decode cX12_isCorner 7 = .ok (.if_icmp .ge 7, 3) := by decide +kernel
theorem dX12_isCorner_10 : decode cX12_isCorner 10 = .ok (.iconst 1, 1) := by decide +kernel
theorem dX12_isCorner_11 : decode cX12_isCorner 11 = .ok (.goto 4, 3) := by decide +kernel
theorem dX12_isCorner_14 : decode cX12_isCorner 14 = .ok (.iconst 0, 1) := by decide +kernel
theorem dX12_isCorner_15 : decode cX12_isCorner 15 = .ok (.ireturn, 1) := by decide +kernel
theorem dX11_weather_0 : decode cX11_weather 0 = .ok (.aload_n 0, 1) := by decide +kernel
theorem dX11_weather_1 : decode cX11_weather 1 = .ok (.getfield 10, 3) := by decide +kernel
theorem dX11_weather_4 : decode cX11_weather 4 = .ok (.getfield 102, 3) := by decide +kernel
theorem dX11_weather_7 : decode cX11_weather 7 = .ok (.iconst 1, 1) := by decide +kernel
theorem dX11_weather_8 : decode cX11_weather 8 = .ok (.sipush 400, 3) := by decide +kernel
theorem dX11_weather_11 : decode cX11_weather 11 = .ok (.invokestatic 115, 3) := by decide +kernel
theorem dX11_weather_14 : decode cX11_weather 14 = .ok (.ifCond .eq 17, 3) := by decide +kernel
theorem dX11_weather_31 : decode cX11_weather 31 = .ok (.iconst 0, 1) := by decide +kernel
theorem dX11_weather_32 : decode cX11_weather 32 = .ok (.istore_n 1, 1) := by decide +kernel
theorem dX11_weather_33 : decode cX11_weather 33 = .ok (.iload_n 1, 1) := by decide +kernel
theorem dX11_weather_34 : decode cX11_weather 34 = .ok (.ifCond .eq 14, 3) := by decide +kernel
theorem dX11_weather_48 : decode cX11_weather 48 = .ok (.aload_n 0, 1) := by decide +kernel
theorem dX11_weather_49 : decode cX11_weather 49 = .ok (.getfield 10, 3) := by decide +kernel
theorem dX11_weather_52 : decode cX11_weather 52 = .ok (.iconst 0, 1) := by decide +kernel
theorem dX11_weather_53 : decode cX11_weather 53 = .ok (.putfield 102, 3) := by decide +kernel
theorem dX11_weather_56 : decode cX11_weather 56 = .ok (.iload_n 1, 1) := by decide +kernel
theorem dX11_weather_57 : decode cX11_weather 57 = .ok (.ireturn, 1) := by decide +kernel
theorem dX12_weather_0 : decode cX12_weather 0 = .ok (.aload_n 0, 1) := by decide +kernel
theorem dX12_weather_1 : decode cX12_weather 1 = .ok (.iconst 0, 1) := by decide +kernel
theorem dX12_weather_2 : decode cX12_weather 2 = .ok (.putfield 198, 3) := by decide +kernel
theorem dX12_weather_5 : decode cX12_weather 5 = .ok (.aload_n 0, 1) := by decide +kernel
theorem dX12_weather_6 : decode cX12_weather 6 = .ok (.invokevirtual 222, 3) := by decide +kernel
theorem dX12_weather_9 : decode cX12_weather 9 = .ok (.istore_n 1, 1) := by decide +kernel
theorem dX12_weather_10 : decode cX12_weather 10 = .ok (.iload_n 1, 1) := by decide +kernel
theorem dX12_weather_11 : decode cX12_weather 11 = .ok (.iconst 1, 1) := by decide +kernel
theorem dX12_weather_12 : decode cX12_weather 12 = .ok (.sipush 400, 3) := by decide +kernel
theorem dX12_weather_15 : decode cX12_weather 15 = .ok (.invokestatic 211, 3) := by decide +kernel
theorem dX12_weather_18 : decode cX12_weather 18 = .ok (.ifCond .ne 5, 3) := by decide +kernel
theorem dX12_weather_21 : decode cX12_weather 21 = .ok (.iconst 0, 1) := by decide +kernel
theorem dX12_weather_22 : decode cX12_weather 22 = .ok (.ireturn, 1) := by decide +kernel
theorem dX12_take_0 : decode cX12_take 0 = .ok (.aload_n 0, 1) := by decide +kernel
theorem dX12_take_1 : decode cX12_take 1 = .ok (.getfield 201, 3) := by decide +kernel
theorem dX12_take_4 : decode cX12_take 4 = .ok (.istore_n 1, 1) := by decide +kernel
theorem dX12_take_5 : decode cX12_take 5 = .ok (.aload_n 0, 1) := by decide +kernel
theorem dX12_take_6 : decode cX12_take 6 = .ok (.iconst 0, 1) := by decide +kernel
theorem dX12_take_7 : decode cX12_take 7 = .ok (.putfield 201, 3) := by decide +kernel
theorem dX12_take_10 : decode cX12_take 10 = .ok (.iload_n 1, 1) := by decide +kernel
theorem dX12_take_11 : decode cX12_take 11 = .ok (.ireturn, 1) := by decide +kernel
theorem dX11_sky_0 : decode cX11_sky 0 = .ok (.iload_n 1, 1) := by decide +kernel
theorem dX11_sky_1 : decode cX11_sky 1 = .ok (.invokestatic 159, 3) := by decide +kernel
theorem dX11_sky_4 : decode cX11_sky 4 = .ok (.ifCond .eq 15, 3) := by decide +kernel
theorem dX11_sky_7 : decode cX11_sky 7 = .ok (.aload_n 0, 1) := by decide +kernel
theorem dX11_sky_8 : decode cX11_sky 8 = .ok (.getfield 27, 3) := by decide +kernel
theorem dX11_sky_11 : decode cX11_sky 11 = .ok (.getfield 162, 3) := by decide +kernel
theorem dX11_sky_14 : decode cX11_sky 14 = .ok (.iload_n 1, 1) := by decide +kernel
theorem dX11_sky_15 : decode cX11_sky 15 = .ok (.iaload, 1) := by decide +kernel
theorem dX11_sky_16 : decode cX11_sky 16 = .ok (.goto 4, 3) := by decide +kernel
theorem dX11_sky_19 : decode cX11_sky 19 = .ok (.iconst (-1), 1) := by decide +kernel
theorem dX11_sky_20 : decode cX11_sky 20 = .ok (.ireturn, 1) := by decide +kernel
theorem dX12_sky_0 : decode cX12_sky 0 = .ok (.aload_n 0, 1) := by decide +kernel
theorem dX12_sky_1 : decode cX12_sky 1 = .ok (.iconst 0, 1) := by decide +kernel
theorem dX12_sky_2 : decode cX12_sky 2 = .ok (.putfield 198, 3) := by decide +kernel
theorem dX12_sky_5 : decode cX12_sky 5 = .ok (.iload_n 1, 1) := by decide +kernel
theorem dX12_sky_6 : decode cX12_sky 6 = .ok (.invokestatic 229, 3) := by decide +kernel
theorem dX12_sky_9 : decode cX12_sky 9 = .ok (.ifCond .eq 11, 3) := by decide +kernel
theorem dX12_sky_12 : decode cX12_sky 12 = .ok (.aload_n 0, 1) := by decide +kernel
theorem dX12_sky_13 : decode cX12_sky 13 = .ok (.iload_n 1, 1) := by decide +kernel
theorem dX12_sky_14 : decode cX12_sky 14 = .ok (.invokevirtual 232, 3) := by decide +kernel
theorem dX12_sky_17 : decode cX12_sky 17 = .ok (.goto 4, 3) := by decide +kernel
theorem dX12_sky_20 : decode cX12_sky 20 = .ok (.iconst (-1), 1) := by decide +kernel
theorem dX12_sky_21 : decode cX12_sky 21 = .ok (.ireturn, 1) := by decide +kernel
theorem dX12_isDay_0 : decode cX12_isDay 0 = .ok (.iload_n 0, 1) := by decide +kernel
theorem dX12_isDay_1 : decode cX12_isDay 1 = .ok (.ifCond .lt 14, 3) := by decide +kernel
theorem dX12_isDay_4 : decode cX12_isDay 4 = .ok (.iload_n 0, 1) := by decide +kernel
theorem dX12_isDay_5 : decode cX12_isDay 5 = .ok (.sipush 400, 3) := by decide +kernel
theorem dX12_isDay_8 : decode cX12_isDay 8 = .ok (.if_icmp .ge 7, 3) := by decide +kernel
theorem dX12_isDay_11 : decode cX12_isDay 11 = .ok (.iconst 1, 1) := by decide +kernel
theorem dX12_isDay_12 : decode cX12_isDay 12 = .ok (.goto 4, 3) := by decide +kernel
theorem dX12_isDay_15 : decode cX12_isDay 15 = .ok (.iconst 0, 1) := by decide +kernel
theorem dX12_isDay_16 : decode cX12_isDay 16 = .ok (.ireturn, 1) := by decide +kernel
theorem dX12_skyOf_0 : decode cX12_skyOf 0 = .ok (.aload_n 0, 1) := by decide +kernel
theorem dX12_skyOf_1 : decode cX12_skyOf 1 = .ok (.getfield 226, 3) := by decide +kernel
theorem dX12_skyOf_4 : decode cX12_skyOf 4 = .ok (.ifCond .ne 7, 3) := by decide +kernel
theorem dX12_skyOf_7 : decode cX12_skyOf 7 = .ok (.iconst 0, 1) := by decide +kernel
theorem dX12_skyOf_8 : decode cX12_skyOf 8 = .ok (.goto 21, 3) := by decide +kernel
theorem dX12_skyOf_29 : decode cX12_skyOf 29 = .ok (.ireturn, 1) := by decide +kernel
theorem dX11_headline_0 : decode cX11_headline 0 = .ok (.iload_n 1, 1) := by decide +kernel
theorem dX11_headline_1 : decode cX11_headline 1 = .ok (.invokestatic 165, 3) := by decide +kernel
theorem dX11_headline_4 : decode cX11_headline 4 = .ok (.ifCond .eq 25, 3) := by decide +kernel
theorem dX11_headline_7 : decode cX11_headline 7 = .ok (.iload_n 2, 1) := by decide +kernel
theorem dX11_headline_8 : decode cX11_headline 8 = .ok (.invokestatic 159, 3) := by decide +kernel
theorem dX11_headline_11 : decode cX11_headline 11 = .ok (.ifCond .eq 18, 3) := by decide +kernel
theorem dX11_headline_14 : decode cX11_headline 14 = .ok (.iload_n 2, 1) := by decide +kernel
theorem dX11_headline_15 : decode cX11_headline 15 = .ok (.aload_n 0, 1) := by decide +kernel
theorem dX11_headline_16 : decode cX11_headline 16 = .ok (.getfield 83, 3) := by decide +kernel
theorem dX11_headline_19 : decode cX11_headline 19 = .ok (.if_icmp .lt 10, 3) := by decide +kernel
theorem dX11_headline_22 : decode cX11_headline 22 = .ok (.iload_n 3, 1) := by decide +kernel
theorem dX11_headline_23 : decode cX11_headline 23 = .ok (.invokestatic 168, 3) := by decide +kernel
theorem dX11_headline_26 : decode cX11_headline 26 = .ok (.ifCond .ne 5, 3) := by decide +kernel
theorem dX11_headline_29 : decode cX11_headline 29 = .ok (.iconst 0, 1) := by decide +kernel
theorem dX11_headline_30 : decode cX11_headline 30 = .ok (.ireturn, 1) := by decide +kernel
theorem dX11_headline_31 : decode cX11_headline 31 = .ok (.aload_n 0, 1) := by decide +kernel
theorem dX11_headline_32 : decode cX11_headline 32 = .ok (.getfield 27, 3) := by decide +kernel
theorem dX11_headline_35 : decode cX11_headline 35 = .ok (.getfield 171, 3) := by decide +kernel
theorem dX11_headline_38 : decode cX11_headline 38 = .ok (.iload_n 1, 1) := by decide +kernel
theorem dX11_headline_39 : decode cX11_headline 39 = .ok (.aaload, 1) := by decide +kernel
theorem dX11_headline_40 : decode cX11_headline 40 = .ok (.iload_n 2, 1) := by decide +kernel
theorem dX11_headline_41 : decode cX11_headline 41 = .ok (.iload_n 3, 1) := by decide +kernel
theorem dX11_headline_42 : decode cX11_headline 42 = .ok (.iastore, 1) := by decide +kernel
theorem dX11_headline_43 : decode cX11_headline 43 = .ok (.iconst 1, 1) := by decide +kernel
theorem dX11_headline_44 : decode cX11_headline 44 = .ok (.ireturn, 1) := by decide +kernel
theorem dX11_isPaper_0 : decode cX11_isPaper 0 = .ok (.iload_n 0, 1) := by decide +kernel
theorem dX11_isPaper_1 : decode cX11_isPaper 1 = .ok (.iconst 0, 1) := by decide +kernel
theorem dX11_isPaper_2 : decode cX11_isPaper 2 = .ok (.iconst 3, 1) := by decide +kernel
theorem dX11_isPaper_3 : decode cX11_isPaper 3 = .ok (.invokestatic 115, 3) := by decide +kernel
theorem dX11_isPaper_6 : decode cX11_isPaper 6 = .ok (.ireturn, 1) := by decide +kernel
theorem dX11_isHeadline_0 : decode cX11_isHeadline 0 = .ok (.iload_n 0, 1) := by decide +kernel
theorem dX11_isHeadline_1 : decode cX11_isHeadline 1 = .ok (.iconst 0, 1) := by decide +kernel
theorem dX11_isHeadline_2 : decode cX11_isHeadline 2 = .ok (.iconst 5, 1) := by decide +kernel
theorem dX11_isHeadline_3 : decode cX11_isHeadline 3 = .ok (.invokestatic 115, 3) := by decide +kernel
theorem dX11_isHeadline_6 : decode cX11_isHeadline 6 = .ok (.ireturn, 1) := by decide +kernel
theorem dX12_headline_0 : decode cX12_headline 0 = .ok (.aload_n 0, 1) := by decide +kernel
theorem dX12_headline_1 : decode cX12_headline 1 = .ok (.iconst 0, 1) := by decide +kernel
theorem dX12_headline_2 : decode cX12_headline 2 = .ok (.putfield 198, 3) := by decide +kernel
theorem dX12_headline_5 : decode cX12_headline 5 = .ok (.iload_n 1, 1) := by decide +kernel
theorem dX12_headline_6 : decode cX12_headline 6 = .ok (.invokestatic 236, 3) := by decide +kernel
theorem dX12_headline_9 : decode cX12_headline 9 = .ok (.ifCond .eq 26, 3) := by decide +kernel
theorem dX12_headline_12 : decode cX12_headline 12 = .ok (.iload_n 2, 1) := by decide +kernel
theorem dX12_headline_13 : decode cX12_headline 13 = .ok (.aload_n 0, 1) := by decide +kernel
theorem dX12_headline_14 : decode cX12_headline 14 = .ok (.getfield 239, 3) := by decide +kernel
theorem dX12_headline_17 : decode cX12_headline 17 = .ok (.sipush 399, 3) := by decide +kernel
theorem dX12_headline_20 : decode cX12_headline 20 = .ok (.invokestatic 211, 3) := by decide +kernel
theorem dX12_headline_23 : decode cX12_headline 23 = .ok (.ifCond .eq 12, 3) := by decide +kernel
theorem dX12_headline_26 : decode cX12_headline 26 = .ok (.iload_n 3, 1) := by decide +kernel
theorem dX12_headline_27 : decode cX12_headline 27 = .ok (.iconst 0, 1) := by decide +kernel
theorem dX12_headline_28 : decode cX12_headline 28 = .ok (.iconst 5, 1) := by decide +kernel
theorem dX12_headline_29 : decode cX12_headline 29 = .ok (.invokestatic 211, 3) := by decide +kernel
theorem dX12_headline_32 : decode cX12_headline 32 = .ok (.ifCond .ne 5, 3) := by decide +kernel
theorem dX12_headline_35 : decode cX12_headline 35 = .ok (.iconst 0, 1) := by decide +kernel
theorem dX12_headline_36 : decode cX12_headline 36 = .ok (.ireturn, 1) := by decide +kernel
theorem dX12_headline_37 : decode cX12_headline 37 = .ok (.aload_n 0, 1) := by decide +kernel
theorem dX12_headline_38 : decode cX12_headline 38 = .ok (.getfield 35, 3) := by decide +kernel
theorem dX12_headline_41 : decode cX12_headline 41 = .ok (.sipush 400, 3) := by decide +kernel
theorem dX12_headline_44 : decode cX12_headline 44 = .ok (.iload_n 1, 1) := by decide +kernel
theorem dX12_headline_45 : decode cX12_headline 45 = .ok (.imul, 1) := by decide +kernel
theorem dX12_headline_46 : decode cX12_headline 46 = .ok (.iload_n 2, 1) := by decide +kernel
theorem dX12_headline_47 : decode cX12_headline 47 = .ok (.iadd, 1) := by decide +kernel
theorem dX12_headline_48 : decode cX12_headline 48 = .ok (.iload_n 3, 1) := by decide +kernel
theorem dX12_headline_49 : decode cX12_headline 49 = .ok (.iastore, 1) := by decide +kernel
theorem dX12_headline_50 : decode cX12_headline 50 = .ok (.iconst 1, 1) := by decide +kernel
theorem dX12_headline_51 : decode cX12_headline 51 = .ok (.ireturn, 1) := by decide +kernel
theorem dX12_isPaper_0 : decode cX12_isPaper 0 = .ok (.iload_n 0, 1) := by decide +kernel
theorem dX12_isPaper_1 : decode cX12_isPaper 1 = .ok (.ifCond .lt 12, 3) := by decide +kernel
theorem dX12_isPaper_4 : decode cX12_isPaper 4 = .ok (.iload_n 0, 1) := by decide +kernel
theorem dX12_isPaper_5 : decode cX12_isPaper 5 = .ok (.iconst 4, 1) := by decide +kernel
theorem dX12_isPaper_6 : decode cX12_isPaper 6 = .ok (.if_icmp .ge 7, 3) := by decide +kernel
theorem dX12_isPaper_9 : decode cX12_isPaper 9 = .ok (.iconst 1, 1) := by decide +kernel
theorem dX12_isPaper_10 : decode cX12_isPaper 10 = .ok (.goto 4, 3) := by decide +kernel
theorem dX12_isPaper_13 : decode cX12_isPaper 13 = .ok (.iconst 0, 1) := by decide +kernel
theorem dX12_isPaper_14 : decode cX12_isPaper 14 = .ok (.ireturn, 1) := by decide +kernel
theorem dX11_table_0 : decode cX11_table 0 = .ok (.iload_n 3, 1) := by decide +kernel
theorem dX11_table_1 : decode cX11_table 1 = .ok (.iconst 0, 1) := by decide +kernel
theorem dX11_table_2 : decode cX11_table 2 = .ok (.sipush 300, 3) := by decide +kernel
theorem dX11_table_5 : decode cX11_table 5 = .ok (.invokestatic 115, 3) := by decide +kernel
theorem dX11_table_8 : decode cX11_table 8 = .ok (.ifCond .ne 5, 3) := by decide +kernel
theorem dX11_table_11 : decode cX11_table 11 = .ok (.iconst 0, 1) := by decide +kernel
theorem dX11_table_12 : decode cX11_table 12 = .ok (.ireturn, 1) := by decide +kernel
theorem dX11_table_13 : decode cX11_table 13 = .ok (.iload_n 1, 1) := by decide +kernel
theorem dX11_table_14 : decode cX11_table 14 = .ok (.ifCond .ne 22, 3) := by decide +kernel
theorem dX11_table_17 : decode cX11_table 17 = .ok (.iload_n 2, 1) := by decide +kernel
theorem dX11_table_18 : decode cX11_table 18 = .ok (.invokestatic 175, 3) := by decide +kernel
theorem dX11_table_21 : decode cX11_table 21 = .ok (.ifCond .eq 15, 3) := by decide +kernel
theorem dX11_table_24 : decode cX11_table 24 = .ok (.aload_n 0, 1) := by decide +kernel
theorem dX11_table_25 : decode cX11_table 25 = .ok (.getfield 27, 3) := by decide +kernel
theorem dX11_table_28 : decode cX11_table 28 = .ok (.getfield 177, 3) := by decide +kernel
theorem dX11_table_31 : decode cX11_table 31 = .ok (.iload_n 2, 1) := by decide +kernel
theorem dX11_table_32 : decode cX11_table 32 = .ok (.iload_n 3, 1) := by decide +kernel
theorem dX11_table_33 : decode cX11_table 33 = .ok (.iastore, 1) := by decide +kernel
theorem dX11_table_34 : decode cX11_table 34 = .ok (.iconst 1, 1) := by decide +kernel
theorem dX11_table_35 : decode cX11_table 35 = .ok (.ireturn, 1) := by decide +kernel
theorem dX11_table_36 : decode cX11_table 36 = .ok (.iload_n 1, 1) := by decide +kernel
theorem dX11_table_37 : decode cX11_table 37 = .ok (.iconst 1, 1) := by decide +kernel
theorem dX11_table_38 : decode cX11_table 38 = .ok (.if_icmp .ne 22, 3) := by decide +kernel
theorem dX11_table_41 : decode cX11_table 41 = .ok (.iload_n 2, 1) := by decide +kernel
theorem dX11_table_42 : decode cX11_table 42 = .ok (.invokestatic 168, 3) := by decide +kernel
theorem dX11_table_45 : decode cX11_table 45 = .ok (.ifCond .eq 15, 3) := by decide +kernel
theorem dX11_table_48 : decode cX11_table 48 = .ok (.aload_n 0, 1) := by decide +kernel
theorem dX11_table_49 : decode cX11_table 49 = .ok (.getfield 27, 3) := by decide +kernel
theorem dX11_table_52 : decode cX11_table 52 = .ok (.getfield 180, 3) := by decide +kernel
theorem dX11_table_55 : decode cX11_table 55 = .ok (.iload_n 2, 1) := by decide +kernel
theorem dX11_table_56 : decode cX11_table 56 = .ok (.iload_n 3, 1) := by decide +kernel
theorem dX11_table_57 : decode cX11_table 57 = .ok (.iastore, 1) := by decide +kernel
theorem dX11_table_58 : decode cX11_table 58 = .ok (.iconst 1, 1) := by decide +kernel
theorem dX11_table_59 : decode cX11_table 59 = .ok (.ireturn, 1) := by decide +kernel
theorem dX11_table_60 : decode cX11_table 60 = .ok (.iconst 0, 1) := by decide +kernel
theorem dX11_table_61 : decode cX11_table 61 = .ok (.ireturn, 1) := by decide +kernel
theorem dX11_isWeather_0 : decode cX11_isWeather 0 = .ok (.iload_n 0, 1) := by decide +kernel
theorem dX11_isWeather_1 : decode cX11_isWeather 1 = .ok (.iconst 0, 1) := by decide +kernel
theorem dX11_isWeather_2 : decode cX11_isWeather 2 = .ok (.iconst 3, 1) := by decide +kernel
theorem dX11_isWeather_3 : decode cX11_isWeather 3 = .ok (.invokestatic 115, 3) := by decide +kernel
theorem dX11_isWeather_6 : decode cX11_isWeather 6 = .ok (.ireturn, 1) := by decide +kernel
theorem dX12_table_0 : decode cX12_table 0 = .ok (.aload_n 0, 1) := by decide +kernel
theorem dX12_table_1 : decode cX12_table 1 = .ok (.iconst 0, 1) := by decide +kernel
theorem dX12_table_2 : decode cX12_table 2 = .ok (.putfield 198, 3) := by decide +kernel
theorem dX12_table_5 : decode cX12_table 5 = .ok (.iload_n 1, 1) := by decide +kernel
theorem dX12_table_6 : decode cX12_table 6 = .ok (.iconst 0, 1) := by decide +kernel
theorem dX12_table_7 : decode cX12_table 7 = .ok (.iconst 1, 1) := by decide +kernel
theorem dX12_table_8 : decode cX12_table 8 = .ok (.invokestatic 211, 3) := by decide +kernel
theorem dX12_table_11 : decode cX12_table 11 = .ok (.ifCond .eq 34, 3) := by decide +kernel
theorem dX12_table_14 : decode cX12_table 14 = .ok (.iload_n 2, 1) := by decide +kernel
theorem dX12_table_15 : decode cX12_table 15 = .ok (.iconst 0, 1) := by decide +kernel
theorem dX12_table_16 : decode cX12_table 16 = .ok (.iload_n 1, 1) := by decide +kernel
theorem dX12_table_17 : decode cX12_table 17 = .ok (.ifCond .ne 7, 3) := by decide +kernel
theorem dX12_table_20 : decode cX12_table 20 = .ok (.iconst 4, 1) := by decide +kernel
theorem dX12_table_21 : decode cX12_table 21 = .ok (.goto 5, 3) := by decide +kernel
theorem dX12_table_24 : decode cX12_table 24 = .ok (.bipush 6, 2) := by decide +kernel
theorem dX12_table_26 : decode cX12_table 26 = .ok (.iconst 1, 1) := by decide +kernel
theorem dX12_table_27 : decode cX12_table 27 = .ok (.isub, 1) := by decide +kernel
theorem dX12_table_28 : decode cX12_table 28 = .ok (.invokestatic 211, 3) := by decide +kernel
theorem dX12_table_31 : decode cX12_table 31 = .ok (.ifCond .eq 14, 3) := by decide +kernel
theorem dX12_table_34 : decode cX12_table 34 = .ok (.iload_n 3, 1) := by decide +kernel
theorem dX12_table_35 : decode cX12_table 35 = .ok (.iconst 0, 1) := by decide +kernel
theorem dX12_table_36 : decode cX12_table 36 = .ok (.sipush 300, 3) := by decide +kernel
theorem dX12_table_39 : decode cX12_table 39 = .ok (.invokestatic 211, 3) := by decide +kernel
theorem dX12_table_42 : decode cX12_table 42 = .ok (.ifCond .ne 5, 3) := by decide +kernel
theorem dX12_table_45 : decode cX12_table 45 = .ok (.iconst 0, 1) := by decide +kernel
theorem dX12_table_46 : decode cX12_table 46 = .ok (.ireturn, 1) := by decide +kernel
theorem dX12_table_47 : decode cX12_table 47 = .ok (.iload_n 1, 1) := by decide +kernel
theorem dX12_table_48 : decode cX12_table 48 = .ok (.ifCond .ne 13, 3) := by decide +kernel
theorem dX12_table_51 : decode cX12_table 51 = .ok (.aload_n 0, 1) := by decide +kernel
theorem dX12_table_52 : decode cX12_table 52 = .ok (.getfield 41, 3) := by decide +kernel
theorem dX12_table_55 : decode cX12_table 55 = .ok (.iload_n 2, 1) := by decide +kernel
theorem dX12_table_56 : decode cX12_table 56 = .ok (.iload_n 3, 1) := by decide +kernel
theorem dX12_table_57 : decode cX12_table 57 = .ok (.iastore, 1) := by decide +kernel
theorem dX12_table_58 : decode cX12_table 58 = .ok (.goto 10, 3) := by decide +kernel
theorem dX12_table_61 : decode cX12_table 61 = .ok (.aload_n 0, 1) := by decide +kernel
theorem dX12_table_62 : decode cX12_table 62 = .ok (.getfield 44, 3) := by decide +kernel
theorem dX12_table_65 : decode cX12_table 65 = .ok (.iload_n 2, 1) := by decide +kernel
theorem dX12_table_66 : decode cX12_table 66 = .ok (.iload_n 3, 1) := by decide +kernel
theorem dX12_table_67 : decode cX12_table 67 = .ok (.iastore, 1) := by decide +kernel
theorem dX12_table_68 : decode cX12_table 68 = .ok (.iconst 1, 1) := by decide +kernel
theorem dX12_table_69 : decode cX12_table 69 = .ok (.ireturn, 1) := by decide +kernel
theorem dX11_want_0 : decode cX11_want 0 = .ok (.iload_n 1, 1) := by decide +kernel
theorem dX11_want_1 : decode cX11_want 1 = .ok (.invokestatic 142, 3) := by decide +kernel
theorem dX11_want_4 : decode cX11_want 4 = .ok (.ifCond .eq 21, 3) := by decide +kernel
theorem dX11_want_7 : decode cX11_want 7 = .ok (.iload_n 2, 1) := by decide +kernel
theorem dX11_want_8 : decode cX11_want 8 = .ok (.invokestatic 165, 3) := by decide +kernel
theorem dX11_want_11 : decode cX11_want 11 = .ok (.ifCond .eq 14, 3) := by decide +kernel
theorem dX11_want_14 : decode cX11_want 14 = .ok (.iload_n 3, 1) := by decide +kernel
theorem dX11_want_15 : decode cX11_want 15 = .ok (.iconst 0, 1) := by decide +kernel
theorem dX11_want_16 : decode cX11_want 16 = .ok (.sipush 400, 3) := by decide +kernel
theorem dX11_want_19 : decode cX11_want 19 = .ok (.invokestatic 115, 3) := by decide +kernel
theorem dX11_want_22 : decode cX11_want 22 = .ok (.ifCond .ne 5, 3) := by decide +kernel
theorem dX11_want_25 : decode cX11_want 25 = .ok (.iconst 0, 1) := by decide +kernel
theorem dX11_want_26 : decode cX11_want 26 = .ok (.ireturn, 1) := by decide +kernel
theorem dX11_want_27 : decode cX11_want 27 = .ok (.aload_n 0, 1) := by decide +kernel
theorem dX11_want_28 : decode cX11_want 28 = .ok (.getfield 27, 3) := by decide +kernel
theorem dX11_want_31 : decode cX11_want 31 = .ok (.getfield 183, 3) := by decide +kernel
theorem dX11_want_34 : decode cX11_want 34 = .ok (.iload_n 1, 1) := by decide +kernel
theorem dX11_want_35 : decode cX11_want 35 = .ok (.aaload, 1) := by decide +kernel
theorem dX11_want_36 : decode cX11_want 36 = .ok (.iload_n 2, 1) := by decide +kernel
theorem dX11_want_37 : decode cX11_want 37 = .ok (.iload_n 3, 1) := by decide +kernel
theorem dX11_want_38 : decode cX11_want 38 = .ok (.iastore, 1) := by decide +kernel
theorem dX11_want_39 : decode cX11_want 39 = .ok (.iconst 1, 1) := by decide +kernel
theorem dX11_want_40 : decode cX11_want 40 = .ok (.ireturn, 1) := by decide +kernel
theorem dX12_want_0 : decode cX12_want 0 = .ok (.aload_n 0, 1) := by decide +kernel
theorem dX12_want_1 : decode cX12_want 1 = .ok (.iconst 0, 1) := by decide +kernel
theorem dX12_want_2 : decode cX12_want 2 = .ok (.putfield 198, 3) := by decide +kernel
theorem dX12_want_5 : decode cX12_want 5 = .ok (.iload_n 1, 1) := by decide +kernel
theorem dX12_want_6 : decode cX12_want 6 = .ok (.invokestatic 219, 3) := by decide +kernel
theorem dX12_want_9 : decode cX12_want 9 = .ok (.ifCond .eq 21, 3) := by decide +kernel
theorem dX12_want_12 : decode cX12_want 12 = .ok (.iload_n 2, 1) := by decide +kernel
theorem dX12_want_13 : decode cX12_want 13 = .ok (.invokestatic 236, 3) := by decide +kernel
theorem dX12_want_16 : decode cX12_want 16 = .ok (.ifCond .eq 14, 3) := by decide +kernel
theorem dX12_want_19 : decode cX12_want 19 = .ok (.iload_n 3, 1) := by decide +kernel
theorem dX12_want_20 : decode cX12_want 20 = .ok (.iconst 0, 1) := by decide +kernel
theorem dX12_want_21 : decode cX12_want 21 = .ok (.sipush 400, 3) := by decide +kernel
theorem dX12_want_24 : decode cX12_want 24 = .ok (.invokestatic 211, 3) := by decide +kernel
theorem dX12_want_27 : decode cX12_want 27 = .ok (.ifCond .ne 5, 3) := by decide +kernel
theorem dX12_want_30 : decode cX12_want 30 = .ok (.iconst 0, 1) := by decide +kernel
theorem dX12_want_31 : decode cX12_want 31 = .ok (.ireturn, 1) := by decide +kernel
theorem dX12_want_32 : decode cX12_want 32 = .ok (.aload_n 0, 1) := by decide +kernel
theorem dX12_want_33 : decode cX12_want 33 = .ok (.getfield 38, 3) := by decide +kernel
theorem dX12_want_36 : decode cX12_want 36 = .ok (.iconst 4, 1) := by decide +kernel
theorem dX12_want_37 : decode cX12_want 37 = .ok (.iload_n 1, 1) := by decide +kernel
theorem dX12_want_38 : decode cX12_want 38 = .ok (.imul, 1) := by decide +kernel
theorem dX12_want_39 : decode cX12_want 39 = .ok (.iload_n 2, 1) := by decide +kernel
theorem dX12_want_40 : decode cX12_want 40 = .ok (.iadd, 1) := by decide +kernel
theorem dX12_want_41 : decode cX12_want 41 = .ok (.iload_n 3, 1) := by decide +kernel
theorem dX12_want_42 : decode cX12_want 42 = .ok (.iastore, 1) := by decide +kernel
theorem dX12_want_43 : decode cX12_want 43 = .ok (.iconst 1, 1) := by decide +kernel
theorem dX12_want_44 : decode cX12_want 44 = .ok (.ireturn, 1) := by decide +kernel
theorem dX11_asked_0 : decode cX11_asked 0 = .ok (.iload_n 1, 1) := by decide +kernel
theorem dX11_asked_1 : decode cX11_asked 1 = .ok (.invokestatic 142, 3) := by decide +kernel
theorem dX11_asked_4 : decode cX11_asked 4 = .ok (.ifCond .eq 25, 3) := by decide +kernel
theorem dX11_asked_7 : decode cX11_asked 7 = .ok (.iload_n 2, 1) := by decide +kernel
theorem dX11_asked_8 : decode cX11_asked 8 = .ok (.invokestatic 165, 3) := by decide +kernel
theorem dX11_asked_11 : decode cX11_asked 11 = .ok (.ifCond .eq 18, 3) := by decide +kernel
theorem dX11_asked_14 : decode cX11_asked 14 = .ok (.iload_n 3, 1) := by decide +kernel
theorem dX11_asked_15 : decode cX11_asked 15 = .ok (.invokestatic 175, 3) := by decide +kernel
theorem dX11_asked_18 : decode cX11_asked 18 = .ok (.ifCond .eq 11, 3) := by decide +kernel
theorem dX11_asked_21 : decode cX11_asked 21 = .ok (.iload 4, 2) := by decide +kernel
theorem dX11_asked_23 : decode cX11_asked 23 = .ok (.invokestatic 168, 3) := by decide +kernel
theorem dX11_asked_26 : decode cX11_asked 26 = .ok (.ifCond .ne 5, 3) := by decide +kernel
theorem dX11_asked_29 : decode cX11_asked 29 = .ok (.iconst (-1), 1) := by decide +kernel
theorem dX11_asked_30 : decode cX11_asked 30 = .ok (.ireturn, 1) := by decide +kernel
theorem dX11_asked_31 : decode cX11_asked 31 = .ok (.aload_n 0, 1) := by decide +kernel
theorem dX11_asked_32 : decode cX11_asked 32 = .ok (.getfield 27, 3) := by decide +kernel
theorem dX11_asked_35 : decode cX11_asked 35 = .ok (.iload_n 1, 1) := by decide +kernel
theorem dX11_asked_36 : decode cX11_asked 36 = .ok (.iload_n 2, 1) := by decide +kernel
theorem dX11_asked_37 : decode cX11_asked 37 = .ok (.iload_n 3, 1) := by decide +kernel
theorem dX11_asked_38 : decode cX11_asked 38 = .ok (.iload 4, 2) := by decide +kernel
theorem dX11_asked_40 : decode cX11_asked 40 = .ok (.invokevirtual 186, 3) := by decide +kernel
theorem dX11_asked_43 : decode cX11_asked 43 = .ok (.ireturn, 1) := by decide +kernel
theorem dX3_askedFor_0 : decode cX3_askedFor 0 = .ok (.aload_n 0, 1) := by decide +kernel
theorem dX3_askedFor_1 : decode cX3_askedFor 1 = .ok (.getfield 26, 3) := by decide +kernel
theorem dX3_askedFor_4 : decode cX3_askedFor 4 = .ok (.iload_n 1, 1) := by decide +kernel
theorem dX3_askedFor_5 : decode cX3_askedFor 5 = .ok (.aaload, 1) := by decide +kernel
theorem dX3_askedFor_6 : decode cX3_askedFor 6 = .ok (.iload_n 2, 1) := by decide +kernel
theorem dX3_askedFor_7 : decode cX3_askedFor 7 = .ok (.iaload, 1) := by decide +kernel
theorem dX3_askedFor_8 : decode cX3_askedFor 8 = .ok (.aload_n 0, 1) := by decide +kernel
theorem dX3_askedFor_9 : decode cX3_askedFor 9 = .ok (.getfield 20, 3) := by decide +kernel
theorem dX3_askedFor_12 : decode cX3_askedFor 12 = .ok (.iload_n 3, 1) := by decide +kernel
theorem dX3_askedFor_13 : decode cX3_askedFor 13 = .ok (.iaload, 1) := by decide +kernel
theorem dX3_askedFor_14 : decode cX3_askedFor 14 = .ok (.imul, 1) := by decide +kernel
theorem dX3_askedFor_15 : decode cX3_askedFor 15 = .ok (.bipush 100, 2) := by decide +kernel
theorem dX3_askedFor_17 : decode cX3_askedFor 17 = .ok (.idiv, 1) := by decide +kernel
theorem dX3_askedFor_18 : decode cX3_askedFor 18 = .ok (.istore 5, 2) := by decide +kernel
theorem dX3_askedFor_20 : decode cX3_askedFor 20 = .ok (.iload 5, 2) := by decide +kernel
theorem dX3_askedFor_22 : decode cX3_askedFor 22 = .ok (.aload_n 0, 1) := by decide +kernel
theorem dX3_askedFor_23 : decode cX3_askedFor 23 = .ok (.getfield 23, 3) := by decide +kernel
theorem dX3_askedFor_26 : decode cX3_askedFor 26 = .ok (.iload 4, 2) := by decide +kernel
theorem dX3_askedFor_28 : decode cX3_askedFor 28 = .ok (.iaload, 1) := by decide +kernel
theorem dX3_askedFor_29 : decode cX3_askedFor 29 = .ok (.imul, 1) := by decide +kernel
theorem dX3_askedFor_30 : decode cX3_askedFor 30 = .ok (.bipush 100, 2) := by decide +kernel
theorem dX3_askedFor_32 : decode cX3_askedFor 32 = .ok (.idiv, 1) := by decide +kernel
theorem dX3_askedFor_33 : decode cX3_askedFor 33 = .ok (.ireturn, 1) := by decide +kernel
theorem dX12_asked_0 : decode cX12_asked 0 = .ok (.aload_n 0, 1) := by decide +kernel
theorem dX12_asked_1 : decode cX12_asked 1 = .ok (.iconst 0, 1) := by decide +kernel
theorem dX12_asked_2 : decode cX12_asked 2 = .ok (.putfield 198, 3) := by decide +kernel
theorem dX12_asked_5 : decode cX12_asked 5 = .ok (.iload_n 1, 1) := by decide +kernel
theorem dX12_asked_6 : decode cX12_asked 6 = .ok (.invokestatic 219, 3) := by decide +kernel
theorem dX12_asked_9 : decode cX12_asked 9 = .ok (.ifCond .eq 41, 3) := by decide +kernel
theorem dX12_asked_12 : decode cX12_asked 12 = .ok (.iload_n 2, 1) := by decide +kernel
theorem dX12_asked_13 : decode cX12_asked 13 = .ok (.invokestatic 236, 3) := by decide +kernel
theorem dX12_asked_16 : decode cX12_asked 16 = .ok (.ifCond .eq 34, 3) := by decide +kernel
theorem dX12_asked_19 : decode cX12_asked 19 = .ok (.iload_n 3, 1) := by decide +kernel
theorem dX12_asked_20 : decode cX12_asked 20 = .ok (.iconst 0, 1) := by decide +kernel
theorem dX12_asked_21 : decode cX12_asked 21 = .ok (.iconst 3, 1) := by decide +kernel
theorem dX12_asked_22 : decode cX12_asked 22 = .ok (.invokestatic 211, 3) := by decide +kernel
theorem dX12_asked_25 : decode cX12_asked 25 = .ok (.ifCond .eq 25, 3) := by decide +kernel
theorem dX12_asked_28 : decode cX12_asked 28 = .ok (.iload 4, 2) := by decide +kernel
theorem dX12_asked_30 : decode cX12_asked 30 = .ok (.iconst 0, 1) := by decide +kernel
theorem dX12_asked_31 : decode cX12_asked 31 = .ok (.iconst 5, 1) := by decide +kernel
theorem dX12_asked_32 : decode cX12_asked 32 = .ok (.invokestatic 211, 3) := by decide +kernel
theorem dX12_asked_35 : decode cX12_asked 35 = .ok (.ifCond .eq 15, 3) := by decide +kernel
theorem dX12_asked_38 : decode cX12_asked 38 = .ok (.aload_n 0, 1) := by decide +kernel
theorem dX12_asked_39 : decode cX12_asked 39 = .ok (.iload_n 1, 1) := by decide +kernel
theorem dX12_asked_40 : decode cX12_asked 40 = .ok (.iload_n 2, 1) := by decide +kernel
theorem dX12_asked_41 : decode cX12_asked 41 = .ok (.iload_n 3, 1) := by decide +kernel
theorem dX12_asked_42 : decode cX12_asked 42 = .ok (.iload 4, 2) := by decide +kernel
theorem dX12_asked_44 : decode cX12_asked 44 = .ok (.invokevirtual 242, 3) := by decide +kernel
theorem dX12_asked_47 : decode cX12_asked 47 = .ok (.goto 4, 3) := by decide +kernel
theorem dX12_asked_50 : decode cX12_asked 50 = .ok (.iconst (-1), 1) := by decide +kernel
theorem dX12_asked_51 : decode cX12_asked 51 = .ok (.ireturn, 1) := by decide +kernel
theorem dX12_askedOf_0 : decode cX12_askedOf 0 = .ok (.aload_n 0, 1) := by decide +kernel
theorem dX12_askedOf_1 : decode cX12_askedOf 1 = .ok (.getfield 38, 3) := by decide +kernel
theorem dX12_askedOf_4 : decode cX12_askedOf 4 = .ok (.iconst 4, 1) := by decide +kernel
theorem dX12_askedOf_5 : decode cX12_askedOf 5 = .ok (.iload_n 1, 1) := by decide +kernel
theorem dX12_askedOf_6 : decode cX12_askedOf 6 = .ok (.imul, 1) := by decide +kernel
theorem dX12_askedOf_7 : decode cX12_askedOf 7 = .ok (.iload_n 2, 1) := by decide +kernel
theorem dX12_askedOf_8 : decode cX12_askedOf 8 = .ok (.iadd, 1) := by decide +kernel
theorem dX12_askedOf_9 : decode cX12_askedOf 9 = .ok (.iaload, 1) := by decide +kernel
theorem dX12_askedOf_10 : decode cX12_askedOf 10 = .ok (.aload_n 0, 1) := by decide +kernel
theorem dX12_askedOf_11 : decode cX12_askedOf 11 = .ok (.getfield 41, 3) := by decide +kernel
theorem dX12_askedOf_14 : decode cX12_askedOf 14 = .ok (.iload_n 3, 1) := by decide +kernel
theorem dX12_askedOf_15 : decode cX12_askedOf 15 = .ok (.iaload, 1) := by decide +kernel
theorem dX12_askedOf_16 : decode cX12_askedOf 16 = .ok (.imul, 1) := by decide +kernel
theorem dX12_askedOf_17 : decode cX12_askedOf 17 = .ok (.bipush 100, 2) := by decide +kernel
theorem dX12_askedOf_19 : decode cX12_askedOf 19 = .ok (.idiv, 1) := by decide +kernel
theorem dX12_askedOf_20 : decode cX12_askedOf 20 = .ok (.aload_n 0, 1) := by decide +kernel
theorem dX12_askedOf_21 : decode cX12_askedOf 21 = .ok (.getfield 44, 3) := by decide +kernel
theorem dX12_askedOf_24 : decode cX12_askedOf 24 = .ok (.iload 4, 2) := by decide +kernel
theorem dX12_askedOf_26 : decode cX12_askedOf 26 = .ok (.iaload, 1) := by decide +kernel
theorem dX12_askedOf_27 : decode cX12_askedOf 27 = .ok (.imul, 1) := by decide +kernel
theorem dX12_askedOf_28 : decode cX12_askedOf 28 = .ok (.bipush 100, 2) := by decide +kernel
theorem dX12_askedOf_30 : decode cX12_askedOf 30 = .ok (.idiv, 1) := by decide +kernel
theorem dX12_askedOf_31 : decode cX12_askedOf 31 = .ok (.ireturn, 1) := by decide +kernel
theorem dX11_minutes_0 : decode cX11_minutes 0 = .ok (.iload_n 1, 1) := by decide +kernel
theorem dX11_minutes_1 : decode cX11_minutes 1 = .ok (.invokestatic 142, 3) := by decide +kernel
theorem dX11_minutes_4 : decode cX11_minutes 4 = .ok (.ifCond .eq 26, 3) := by decide +kernel
theorem dX11_minutes_7 : decode cX11_minutes 7 = .ok (.iload_n 2, 1) := by decide +kernel
theorem dX11_minutes_8 : decode cX11_minutes 8 = .ok (.invokestatic 142, 3) := by decide +kernel
theorem dX11_minutes_11 : decode cX11_minutes 11 = .ok (.ifCond .eq 19, 3) := by decide +kernel
theorem dX11_minutes_14 : decode cX11_minutes 14 = .ok (.iload_n 1, 1) := by decide +kernel
theorem dX11_minutes_15 : decode cX11_minutes 15 = .ok (.iload_n 2, 1) := by decide +kernel
theorem dX11_minutes_16 : decode cX11_minutes 16 = .ok (.if_icmp .eq 14, 3) := by decide +kernel
theorem dX11_minutes_19 : decode cX11_minutes 19 = .ok (.iload_n 3, 1) := by decide +kernel
theorem dX11_minutes_20 : decode cX11_minutes 20 = .ok (.iconst 1, 1) := by decide +kernel
theorem dX11_minutes_21 : decode cX11_minutes 21 = .ok (.sipush 200, 3) := by decide +kernel
theorem dX11_minutes_24 : decode cX11_minutes 24 = .ok (.invokestatic 115, 3) := by decide +kernel
theorem dX11_minutes_27 : decode cX11_minutes 27 = .ok (.ifCond .ne 5, 3) := by decide +kernel
theorem dX11_minutes_30 : decode cX11_minutes 30 = .ok (.iconst 0, 1) := by decide +kernel
theorem dX11_minutes_31 : decode cX11_minutes 31 = .ok (.ireturn, 1) := by decide +kernel
theorem dX11_minutes_32 : decode cX11_minutes 32 = .ok (.aload_n 0, 1) := by decide +kernel
theorem dX11_minutes_33 : decode cX11_minutes 33 = .ok (.getfield 27, 3) := by decide +kernel
theorem dX11_minutes_36 : decode cX11_minutes 36 = .ok (.getfield 190, 3) := by decide +kernel
theorem dX11_minutes_39 : decode cX11_minutes 39 = .ok (.iload_n 1, 1) := by decide +kernel
theorem dX11_minutes_40 : decode cX11_minutes 40 = .ok (.aaload, 1) := by decide +kernel
theorem dX11_minutes_41 : decode cX11_minutes 41 = .ok (.iload_n 2, 1) := by decide +kernel
theorem dX11_minutes_42 : decode cX11_minutes 42 = .ok (.iload_n 3, 1) := by decide +kernel
theorem dX11_minutes_43 : decode cX11_minutes 43 = .ok (.iastore, 1) := by decide +kernel
theorem dX11_minutes_44 : decode cX11_minutes 44 = .ok (.aload_n 0, 1) := by decide +kernel
theorem dX11_minutes_45 : decode cX11_minutes 45 = .ok (.getfield 27, 3) := by decide +kernel
theorem dX11_minutes_48 : decode cX11_minutes 48 = .ok (.getfield 190, 3) := by decide +kernel
theorem dX11_minutes_51 : decode cX11_minutes 51 = .ok (.iload_n 2, 1) := by decide +kernel
theorem dX11_minutes_52 : decode cX11_minutes 52 = .ok (.aaload, 1) := by decide +kernel
theorem dX11_minutes_53 : decode cX11_minutes 53 = .ok (.iload_n 1, 1) := by decide +kernel
theorem dX11_minutes_54 : decode cX11_minutes 54 = .ok (.iload_n 3, 1) := by decide +kernel
theorem dX11_minutes_55 : decode cX11_minutes 55 = .ok (.iastore, 1) := by decide +kernel
theorem dX11_minutes_56 : decode cX11_minutes 56 = .ok (.iconst 1, 1) := by decide +kernel
theorem dX11_minutes_57 : decode cX11_minutes 57 = .ok (.ireturn, 1) := by decide +kernel
theorem dX12_minutes_0 : decode cX12_minutes 0 = .ok (.aload_n 0, 1) := by decide +kernel
theorem dX12_minutes_1 : decode cX12_minutes 1 = .ok (.iconst 0, 1) := by decide +kernel
theorem dX12_minutes_2 : decode cX12_minutes 2 = .ok (.putfield 198, 3) := by decide +kernel
theorem dX12_minutes_5 : decode cX12_minutes 5 = .ok (.iload_n 1, 1) := by decide +kernel
theorem dX12_minutes_6 : decode cX12_minutes 6 = .ok (.invokestatic 219, 3) := by decide +kernel
theorem dX12_minutes_9 : decode cX12_minutes 9 = .ok (.ifCond .eq 26, 3) := by decide +kernel
theorem dX12_minutes_12 : decode cX12_minutes 12 = .ok (.iload_n 2, 1) := by decide +kernel
theorem dX12_minutes_13 : decode cX12_minutes 13 = .ok (.invokestatic 219, 3) := by decide +kernel
theorem dX12_minutes_16 : decode cX12_minutes 16 = .ok (.ifCond .eq 19, 3) := by decide +kernel
theorem dX12_minutes_19 : decode cX12_minutes 19 = .ok (.iload_n 1, 1) := by decide +kernel
theorem dX12_minutes_20 : decode cX12_minutes 20 = .ok (.iload_n 2, 1) := by decide +kernel
theorem dX12_minutes_21 : decode cX12_minutes 21 = .ok (.if_icmp .eq 14, 3) := by decide +kernel
theorem dX12_minutes_24 : decode cX12_minutes 24 = .ok (.iload_n 3, 1) := by decide +kernel
theorem dX12_minutes_25 : decode cX12_minutes 25 = .ok (.iconst 1, 1) := by decide +kernel
theorem dX12_minutes_26 : decode cX12_minutes 26 = .ok (.sipush 200, 3) := by decide +kernel
theorem dX12_minutes_29 : decode cX12_minutes 29 = .ok (.invokestatic 211, 3) := by decide +kernel
theorem dX12_minutes_32 : decode cX12_minutes 32 = .ok (.ifCond .ne 5, 3) := by decide +kernel
theorem dX12_minutes_35 : decode cX12_minutes 35 = .ok (.iconst 0, 1) := by decide +kernel
theorem dX12_minutes_36 : decode cX12_minutes 36 = .ok (.ireturn, 1) := by decide +kernel
theorem dX12_minutes_37 : decode cX12_minutes 37 = .ok (.aload_n 0, 1) := by decide +kernel
theorem dX12_minutes_38 : decode cX12_minutes 38 = .ok (.invokevirtual 250, 3) := by decide +kernel
theorem dX12_minutes_41 : decode cX12_minutes 41 = .ok (.aload_n 0, 1) := by decide +kernel
theorem dX12_minutes_42 : decode cX12_minutes 42 = .ok (.getfield 47, 3) := by decide +kernel
theorem dX12_minutes_45 : decode cX12_minutes 45 = .ok (.bipush 10, 2) := by decide +kernel
theorem dX12_minutes_47 : decode cX12_minutes 47 = .ok (.iload_n 1, 1) := by decide +kernel
theorem dX12_minutes_48 : decode cX12_minutes 48 = .ok (.imul, 1) := by decide +kernel
theorem dX12_minutes_49 : decode cX12_minutes 49 = .ok (.iload_n 2, 1) := by decide +kernel
theorem dX12_minutes_50 : decode cX12_minutes 50 = .ok (.iadd, 1) := by decide +kernel
theorem dX12_minutes_51 : decode cX12_minutes 51 = .ok (.iload_n 3, 1) := by decide +kernel
theorem dX12_minutes_52 : decode cX12_minutes 52 = .ok (.iastore, 1) := by decide +kernel
theorem dX12_minutes_53 : decode cX12_minutes 53 = .ok (.aload_n 0, 1) := by decide +kernel
theorem dX12_minutes_54 : decode cX12_minutes 54 = .ok (.getfield 47, 3) := by decide +kernel
theorem dX12_minutes_57 : decode cX12_minutes 57 = .ok (.bipush 10, 2) := by decide +kernel
theorem dX12_minutes_59 : decode cX12_minutes 59 = .ok (.iload_n 2, 1) := by decide +kernel
theorem dX12_minutes_60 : decode cX12_minutes 60 = .ok (.imul, 1) := by decide +kernel
theorem dX12_minutes_61 : decode cX12_minutes 61 = .ok (.iload_n 1, 1) := by decide +kernel
theorem dX12_minutes_62 : decode cX12_minutes 62 = .ok (.iadd, 1) := by decide +kernel
theorem dX12_minutes_63 : decode cX12_minutes 63 = .ok (.iload_n 3, 1) := by decide +kernel
theorem dX12_minutes_64 : decode cX12_minutes 64 = .ok (.iastore, 1) := by decide +kernel
theorem dX12_minutes_65 : decode cX12_minutes 65 = .ok (.iconst 1, 1) := by decide +kernel
theorem dX12_minutes_66 : decode cX12_minutes 66 = .ok (.ireturn, 1) := by decide +kernel
theorem dX12_layWays_0 : decode cX12_layWays 0 = .ok (.aload_n 0, 1) := by decide +kernel
theorem dX12_layWays_1 : decode cX12_layWays 1 = .ok (.getfield 246, 3) := by decide +kernel
theorem dX12_layWays_4 : decode cX12_layWays 4 = .ok (.ifCond .eq 4, 3) := by decide +kernel
theorem dX12_layWays_8 : decode cX12_layWays 8 = .ok (.aload_n 0, 1) := by decide +kernel
theorem dX12_layWays_9 : decode cX12_layWays 9 = .ok (.iconst 1, 1) := by decide +kernel
theorem dX12_layWays_10 : decode cX12_layWays 10 = .ok (.putfield 246, 3) := by decide +kernel
theorem dX12_layWays_13 : decode cX12_layWays 13 = .ok (.iconst 0, 1) := by decide +kernel
theorem dX12_layWays_14 : decode cX12_layWays 14 = .ok (.istore_n 1, 1) := by decide +kernel
theorem dX12_layWays_15 : decode cX12_layWays 15 = .ok (.iload_n 1, 1) := by decide +kernel
theorem dX12_layWays_16 : decode cX12_layWays 16 = .ok (.bipush 100, 2) := by decide +kernel
theorem dX12_layWays_18 : decode cX12_layWays 18 = .ok (.if_icmp .ge 28, 3) := by decide +kernel
theorem dX12_layWays_21 : decode cX12_layWays 21 = .ok (.aload_n 0, 1) := by decide +kernel
theorem dX12_layWays_22 : decode cX12_layWays 22 = .ok (.getfield 47, 3) := by decide +kernel
theorem dX12_layWays_25 : decode cX12_layWays 25 = .ok (.iload_n 1, 1) := by decide +kernel
theorem dX12_layWays_26 : decode cX12_layWays 26 = .ok (.iload_n 1, 1) := by decide +kernel
theorem dX12_layWays_27 : decode cX12_layWays 27 = .ok (.bipush 11, 2) := by decide +kernel
theorem dX12_layWays_29 : decode cX12_layWays 29 = .ok (.irem, 1) := by decide +kernel
theorem dX12_layWays_30 : decode cX12_layWays 30 = .ok (.ifCond .ne 7, 3) := by decide +kernel
theorem dX12_layWays_33 : decode cX12_layWays 33 = .ok (.iconst 0, 1) := by decide +kernel
theorem dX12_layWays_34 : decode cX12_layWays 34 = .ok (.goto 5, 3) := by decide +kernel
theorem dX12_layWays_37 : decode cX12_layWays 37 = .ok (.bipush 10, 2) := by decide +kernel
theorem dX12_layWays_39 : decode cX12_layWays 39 = .ok (.iastore, 1) := by decide +kernel
theorem dX12_layWays_40 : decode cX12_layWays 40 = .ok (.iinc 1 1, 3) := by decide +kernel
theorem dX12_layWays_43 : decode cX12_layWays 43 = .ok (.goto (-28), 3) := by decide +kernel
theorem dX12_layWays_46 : decode cX12_layWays 46 = .ok (.return_, 1) := by decide +kernel
theorem dX11_terms_0 : decode cX11_terms 0 = .ok (.sipush (-1000), 3) := by decide +kernel
theorem dX11_terms_3 : decode cX11_terms 3 = .ok (.istore_n 2, 1) := by decide +kernel
theorem dX11_terms_4 : decode cX11_terms 4 = .ok (.aload_n 0, 1) := by decide +kernel
theorem dX11_terms_5 : decode cX11_terms 5 = .ok (.getfield 38, 3) := by decide +kernel
theorem dX11_terms_8 : decode cX11_terms 8 = .ok (.invokevirtual 112, 3) := by decide +kernel
theorem dX11_terms_11 : decode cX11_terms 11 = .ok (.bipush 10, 2) := by decide +kernel
theorem dX11_terms_13 : decode cX11_terms 13 = .ok (.if_icmp .ge 69, 3) := by decide +kernel
theorem dX11_terms_16 : decode cX11_terms 16 = .ok (.iload_n 1, 1) := by decide +kernel
theorem dX11_terms_17 : decode cX11_terms 17 = .ok (.invokestatic 159, 3) := by decide +kernel
theorem dX11_terms_20 : decode cX11_terms 20 = .ok (.ifCond .eq 62, 3) := by decide +kernel
theorem dX11_terms_23 : decode cX11_terms 23 = .ok (.iload_n 1, 1) := by decide +kernel
theorem dX11_terms_24 : decode cX11_terms 24 = .ok (.aload_n 0, 1) := by decide +kernel
theorem dX11_terms_25 : decode cX11_terms 25 = .ok (.getfield 83, 3) := by decide +kernel
theorem dX11_terms_28 : decode cX11_terms 28 = .ok (.if_icmp .lt 54, 3) := by decide +kernel
theorem dX11_terms_31 : decode cX11_terms 31 = .ok (.aload_n 0, 1) := by decide +kernel
theorem dX11_terms_32 : decode cX11_terms 32 = .ok (.getfield 52, 3) := by decide +kernel
theorem dX11_terms_35 : decode cX11_terms 35 = .ok (.aload_n 0, 1) := by decide +kernel
theorem dX11_terms_36 : decode cX11_terms 36 = .ok (.getfield 10, 3) := by decide +kernel
theorem dX11_terms_39 : decode cX11_terms 39 = .ok (.aload_n 0, 1) := by decide +kernel
theorem dX11_terms_40 : decode cX11_terms 40 = .ok (.getfield 56, 3) := by decide +kernel
theorem dX11_terms_43 : decode cX11_terms 43 = .ok (.invokevirtual 193, 3) := by decide +kernel
theorem dX11_terms_46 : decode cX11_terms 46 = .ok (.aload_n 0, 1) := by decide +kernel
theorem dX11_terms_47 : decode cX11_terms 47 = .ok (.aload_n 0, 1) := by decide +kernel
theorem dX11_terms_48 : decode cX11_terms 48 = .ok (.getfield 52, 3) := by decide +kernel
theorem dX11_terms_51 : decode cX11_terms 51 = .ok (.getfield 197, 3) := by decide +kernel
theorem dX11_terms_54 : decode cX11_terms 54 = .ok (.putfield 87, 3) := by decide +kernel
theorem dX11_terms_57 : decode cX11_terms 57 = .ok (.aload_n 0, 1) := by decide +kernel
theorem dX11_terms_58 : decode cX11_terms 58 = .ok (.getfield 87, 3) := by decide +kernel
theorem dX11_terms_61 : decode cX11_terms 61 = .ok (.ifCond .ne 11, 3) := by decide +kernel
theorem dX11_terms_64 : decode cX11_terms 64 = .ok (.aload_n 0, 1) := by decide +kernel
theorem dX11_terms_65 : decode cX11_terms 65 = .ok (.iload_n 1, 1) := by decide +kernel
theorem dX11_terms_66 : decode cX11_terms 66 = .ok (.invokevirtual 198, 3) := by decide +kernel
theorem dX11_terms_69 : decode cX11_terms 69 = .ok (.goto 12, 3) := by decide +kernel
theorem dX11_terms_81 : decode cX11_terms 81 = .ok (.istore_n 2, 1) := by decide +kernel
theorem dX11_terms_82 : decode cX11_terms 82 = .ok (.aload_n 0, 1) := by decide +kernel
theorem dX11_terms_83 : decode cX11_terms 83 = .ok (.getfield 10, 3) := by decide +kernel
theorem dX11_terms_86 : decode cX11_terms 86 = .ok (.iconst 0, 1) := by decide +kernel
theorem dX11_terms_87 : decode cX11_terms 87 = .ok (.putfield 102, 3) := by decide +kernel
theorem dX11_terms_90 : decode cX11_terms 90 = .ok (.iload_n 2, 1) := by decide +kernel
theorem dX11_terms_91 : decode cX11_terms 91 = .ok (.ireturn, 1) := by decide +kernel
theorem dX7_read_0 : decode cX7_read 0 = .ok (.aload_n 0, 1) := by decide +kernel
theorem dX7_read_1 : decode cX7_read 1 = .ok (.aload_n 1, 1) := by decide +kernel
theorem dX7_read_2 : decode cX7_read 2 = .ok (.invokevirtual 35, 3) := by decide +kernel
theorem dX7_read_5 : decode cX7_read 5 = .ok (.aload_n 0, 1) := by decide +kernel
theorem dX7_read_6 : decode cX7_read 6 = .ok (.iconst 0, 1) := by decide +kernel
theorem dX7_read_7 : decode cX7_read 7 = .ok (.putfield 18, 3) := by decide +kernel
theorem dX7_read_10 : decode cX7_read 10 = .ok (.aload_n 0, 1) := by decide +kernel
theorem dX7_read_11 : decode cX7_read 11 = .ok (.iconst 0, 1) := by decide +kernel
theorem dX7_read_12 : decode cX7_read 12 = .ok (.putfield 22, 3) := by decide +kernel
theorem dX7_read_15 : decode cX7_read 15 = .ok (.aload_n 0, 1) := by decide +kernel
theorem dX7_read_16 : decode cX7_read 16 = .ok (.iconst 0, 1) := by decide +kernel
theorem dX7_read_17 : decode cX7_read 17 = .ok (.putfield 25, 3) := by decide +kernel
theorem dX7_read_20 : decode cX7_read 20 = .ok (.aload_n 0, 1) := by decide +kernel
theorem dX7_read_21 : decode cX7_read 21 = .ok (.iconst 0, 1) := by decide +kernel
theorem dX7_read_22 : decode cX7_read 22 = .ok (.putfield 29, 3) := by decide +kernel
theorem dX7_read_25 : decode cX7_read 25 = .ok (.aload_n 0, 1) := by decide +kernel
theorem dX7_read_26 : decode cX7_read 26 = .ok (.iconst 0, 1) := by decide +kernel
theorem dX7_read_27 : decode cX7_read 27 = .ok (.putfield 32, 3) := by decide +kernel
theorem dX7_read_30 : decode cX7_read 30 = .ok (.aload_n 2, 1) := by decide +kernel
theorem dX7_read_31 : decode cX7_read 31 = .ok (.iconst 0, 1) := by decide +kernel
theorem dX7_read_32 : decode cX7_read 32 = .ok (.putfield 39, 3) := by decide +kernel
theorem dX7_read_35 : decode cX7_read 35 = .ok (.aload_n 2, 1) := by decide +kernel
theorem dX7_read_36 : decode cX7_read 36 = .ok (.iconst 0, 1) := by decide +kernel
theorem dX7_read_37 : decode cX7_read 37 = .ok (.putfield 44, 3) := by decide +kernel
theorem dX7_read_40 : decode cX7_read 40 = .ok (.iconst 0, 1) := by decide +kernel
theorem dX7_read_41 : decode cX7_read 41 = .ok (.istore_n 3, 1) := by decide +kernel
theorem dX7_read_42 : decode cX7_read 42 = .ok (.iload_n 3, 1) := by decide +kernel
theorem dX7_read_43 : decode cX7_read 43 = .ok (.bipush 16, 2) := by decide +kernel
theorem dX7_read_45 : decode cX7_read 45 = .ok (.if_icmp .gt 30, 3) := by decide +kernel
theorem dX7_read_48 : decode cX7_read 48 = .ok (.aload_n 0, 1) := by decide +kernel
theorem dX7_read_49 : decode cX7_read 49 = .ok (.getfield 29, 3) := by decide +kernel
theorem dX7_read_52 : decode cX7_read 52 = .ok (.ifCond .ne 23, 3) := by decide +kernel
theorem dX7_read_55 : decode cX7_read 55 = .ok (.aload_n 0, 1) := by decide +kernel
theorem dX7_read_56 : decode cX7_read 56 = .ok (.invokevirtual 47, 3) := by decide +kernel
theorem dX7_read_59 : decode cX7_read 59 = .ok (.bipush 23, 2) := by decide +kernel
theorem dX7_read_61 : decode cX7_read 61 = .ok (.if_icmp .eq 14, 3) := by decide +kernel
theorem dX7_read_75 : decode cX7_read 75 = .ok (.aload_n 1, 1) := by decide +kernel
theorem dX7_read_76 : decode cX7_read 76 = .ok (.getfield 55, 3) := by decide +kernel
theorem dX7_read_79 : decode cX7_read 79 = .ok (.sipush 300, 3) := by decide +kernel
theorem dX7_read_82 : decode cX7_read 82 = .ok (.if_icmp .le 8, 3) := by decide +kernel
theorem dX7_read_90 : decode cX7_read 90 = .ok (.return_, 1) := by decide +kernel
theorem dX7_scan_0 : decode cX7_scan 0 = .ok (.aload_n 1, 1) := by decide +kernel
theorem dX7_scan_1 : decode cX7_scan 1 = .ok (.getfield 55, 3) := by decide +kernel
theorem dX7_scan_4 : decode cX7_scan 4 = .ok (.sipush 300, 3) := by decide +kernel
theorem dX7_scan_7 : decode cX7_scan 7 = .ok (.invokestatic 64, 3) := by decide +kernel
theorem dX7_scan_10 : decode cX7_scan 10 = .ok (.istore_n 2, 1) := by decide +kernel
theorem dX7_scan_11 : decode cX7_scan 11 = .ok (.iconst 0, 1) := by decide +kernel
theorem dX7_scan_12 : decode cX7_scan 12 = .ok (.istore_n 3, 1) := by decide +kernel
theorem dX7_scan_13 : decode cX7_scan 13 = .ok (.iconst 0, 1) := by decide +kernel
theorem dX7_scan_14 : decode cX7_scan 14 = .ok (.istore 4, 2) := by decide +kernel
theorem dX7_scan_16 : decode cX7_scan 16 = .ok (.iconst 0, 1) := by decide +kernel
theorem dX7_scan_17 : decode cX7_scan 17 = .ok (.istore 5, 2) := by decide +kernel
theorem dX7_scan_19 : decode cX7_scan 19 = .ok (.iload 5, 2) := by decide +kernel
theorem dX7_scan_21 : decode cX7_scan 21 = .ok (.iload_n 2, 1) := by decide +kernel
theorem dX7_scan_22 : decode cX7_scan 22 = .ok (.if_icmp .ge 103, 3) := by decide +kernel
theorem dX7_scan_125 : decode cX7_scan 125 = .ok (.aload_n 0, 1) := by decide +kernel
theorem dX7_scan_126 : decode cX7_scan 126 = .ok (.getfield 9, 3) := by decide +kernel
theorem dX7_scan_129 : decode cX7_scan 129 = .ok (.iload_n 3, 1) := by decide +kernel
theorem dX7_scan_130 : decode cX7_scan 130 = .ok (.bipush 23, 2) := by decide +kernel
theorem dX7_scan_132 : decode cX7_scan 132 = .ok (.iastore, 1) := by decide +kernel
theorem dX7_scan_133 : decode cX7_scan 133 = .ok (.aload_n 0, 1) := by decide +kernel
theorem dX7_scan_134 : decode cX7_scan 134 = .ok (.getfield 15, 3) := by decide +kernel
theorem dX7_scan_137 : decode cX7_scan 137 = .ok (.iload_n 3, 1) := by decide +kernel
theorem dX7_scan_138 : decode cX7_scan 138 = .ok (.iload_n 2, 1) := by decide +kernel
theorem dX7_scan_139 : decode cX7_scan 139 = .ok (.iastore, 1) := by decide +kernel
theorem dX7_scan_140 : decode cX7_scan 140 = .ok (.return_, 1) := by decide +kernel
theorem dX7_now_0 : decode cX7_now 0 = .ok (.aload_n 0, 1) := by decide +kernel
theorem dX7_now_1 : decode cX7_now 1 = .ok (.getfield 18, 3) := by decide +kernel
theorem dX7_now_4 : decode cX7_now 4 = .ok (.aload_n 0, 1) := by decide +kernel
theorem dX7_now_5 : decode cX7_now 5 = .ok (.getfield 9, 3) := by decide +kernel
theorem dX7_now_8 : decode cX7_now 8 = .ok (.arraylength, 1) := by decide +kernel
theorem dX7_now_9 : decode cX7_now 9 = .ok (.if_icmp .ge 15, 3) := by decide +kernel
theorem dX7_now_12 : decode cX7_now 12 = .ok (.aload_n 0, 1) := by decide +kernel
theorem dX7_now_13 : decode cX7_now 13 = .ok (.getfield 9, 3) := by decide +kernel
theorem dX7_now_16 : decode cX7_now 16 = .ok (.aload_n 0, 1) := by decide +kernel
theorem dX7_now_17 : decode cX7_now 17 = .ok (.getfield 18, 3) := by decide +kernel
theorem dX7_now_20 : decode cX7_now 20 = .ok (.iaload, 1) := by decide +kernel
theorem dX7_now_21 : decode cX7_now 21 = .ok (.goto 5, 3) := by decide +kernel
theorem dX7_now_26 : decode cX7_now 26 = .ok (.ireturn, 1) := by decide +kernel
theorem dX11_takeDraft_0 : decode cX11_takeDraft 0 = .ok (.aload_n 0, 1) := by decide +kernel
theorem dX11_takeDraft_1 : decode cX11_takeDraft 1 = .ok (.getfield 56, 3) := by decide +kernel
theorem dX11_takeDraft_4 : decode cX11_takeDraft 4 = .ok (.astore_n 2, 1) := by decide +kernel
theorem dX11_takeDraft_5 : decode cX11_takeDraft 5 = .ok (.aload_n 2, 1) := by decide +kernel
theorem dX11_takeDraft_6 : decode cX11_takeDraft 6 = .ok (.iload_n 1, 1) := by decide +kernel
theorem dX11_takeDraft_7 : decode cX11_takeDraft 7 = .ok (.putfield 356, 3) := by decide +kernel
theorem dX11_takeDraft_10 : decode cX11_takeDraft 10 = .ok (.aload_n 0, 1) := by decide +kernel
theorem dX11_takeDraft_11 : decode cX11_takeDraft 11 = .ok (.getfield 38, 3) := by decide +kernel
theorem dX11_takeDraft_14 : decode cX11_takeDraft 14 = .ok (.aload_n 2, 1) := by decide +kernel
theorem dX11_takeDraft_15 : decode cX11_takeDraft 15 = .ok (.invokevirtual 128, 3) := by decide +kernel
theorem dX11_takeDraft_18 : decode cX11_takeDraft 18 = .ok (.pop, 1) := by decide +kernel
theorem dX11_takeDraft_19 : decode cX11_takeDraft 19 = .ok (.aload_n 0, 1) := by decide +kernel
theorem dX11_takeDraft_20 : decode cX11_takeDraft 20 = .ok (.new 42, 3) := by decide +kernel
theorem dX11_takeDraft_23 : decode cX11_takeDraft 23 = .ok (.dup, 1) := by decide +kernel
theorem dX11_takeDraft_24 : decode cX11_takeDraft 24 = .ok (.invokespecial 44, 3) := by decide +kernel
theorem dX11_takeDraft_27 : decode cX11_takeDraft 27 = .ok (.putfield 56, 3) := by decide +kernel
theorem dX11_takeDraft_30 : decode cX11_takeDraft 30 = .ok (.aload_n 2, 1) := by decide +kernel
theorem dX11_takeDraft_31 : decode cX11_takeDraft 31 = .ok (.getfield 359, 3) := by decide +kernel
theorem dX11_takeDraft_34 : decode cX11_takeDraft 34 = .ok (.ireturn, 1) := by decide +kernel
theorem dX12_terms_0 : decode cX12_terms 0 = .ok (.aload_n 0, 1) := by decide +kernel
theorem dX12_terms_1 : decode cX12_terms 1 = .ok (.iconst 0, 1) := by decide +kernel
theorem dX12_terms_2 : decode cX12_terms 2 = .ok (.putfield 198, 3) := by decide +kernel
theorem dX12_terms_5 : decode cX12_terms 5 = .ok (.aload_n 0, 1) := by decide +kernel
theorem dX12_terms_6 : decode cX12_terms 6 = .ok (.invokevirtual 222, 3) := by decide +kernel
theorem dX12_terms_9 : decode cX12_terms 9 = .ok (.istore_n 2, 1) := by decide +kernel
theorem dX12_terms_10 : decode cX12_terms 10 = .ok (.aload_n 0, 1) := by decide +kernel
theorem dX12_terms_11 : decode cX12_terms 11 = .ok (.getfield 373, 3) := by decide +kernel
theorem dX12_terms_14 : decode cX12_terms 14 = .ok (.bipush 10, 2) := by decide +kernel
theorem dX12_terms_16 : decode cX12_terms 16 = .ok (.if_icmp .eq 17, 3) := by decide +kernel
theorem dX12_terms_19 : decode cX12_terms 19 = .ok (.iload_n 1, 1) := by decide +kernel
theorem dX12_terms_20 : decode cX12_terms 20 = .ok (.aload_n 0, 1) := by decide +kernel
theorem dX12_terms_21 : decode cX12_terms 21 = .ok (.getfield 239, 3) := by decide +kernel
theorem dX12_terms_24 : decode cX12_terms 24 = .ok (.sipush 399, 3) := by decide +kernel
theorem dX12_terms_27 : decode cX12_terms 27 = .ok (.invokestatic 211, 3) := by decide +kernel
theorem dX12_terms_30 : decode cX12_terms 30 = .ok (.ifCond .ne 7, 3) := by decide +kernel
theorem dX12_terms_33 : decode cX12_terms 33 = .ok (.sipush (-1000), 3) := by decide +kernel
theorem dX12_terms_36 : decode cX12_terms 36 = .ok (.ireturn, 1) := by decide +kernel
theorem dX12_terms_37 : decode cX12_terms 37 = .ok (.aload_n 0, 1) := by decide +kernel
theorem dX12_terms_38 : decode cX12_terms 38 = .ok (.iload_n 2, 1) := by decide +kernel
theorem dX12_terms_39 : decode cX12_terms 39 = .ok (.invokevirtual 376, 3) := by decide +kernel
theorem dX12_terms_42 : decode cX12_terms 42 = .ok (.ifCond .ne 10, 3) := by decide +kernel
theorem dX12_terms_52 : decode cX12_terms 52 = .ok (.aload_n 0, 1) := by decide +kernel
theorem dX12_terms_53 : decode cX12_terms 53 = .ok (.getfield 50, 3) := by decide +kernel
theorem dX12_terms_56 : decode cX12_terms 56 = .ok (.aload_n 0, 1) := by decide +kernel
theorem dX12_terms_57 : decode cX12_terms 57 = .ok (.getfield 373, 3) := by decide +kernel
theorem dX12_terms_60 : decode cX12_terms 60 = .ok (.aload_n 0, 1) := by decide +kernel
theorem dX12_terms_61 : decode cX12_terms 61 = .ok (.getfield 361, 3) := by decide +kernel
theorem dX12_terms_64 : decode cX12_terms 64 = .ok (.iastore, 1) := by decide +kernel
theorem dX12_terms_65 : decode cX12_terms 65 = .ok (.aload_n 0, 1) := by decide +kernel
theorem dX12_terms_66 : decode cX12_terms 66 = .ok (.getfield 53, 3) := by decide +kernel
theorem dX12_terms_69 : decode cX12_terms 69 = .ok (.aload_n 0, 1) := by decide +kernel
theorem dX12_terms_70 : decode cX12_terms 70 = .ok (.getfield 373, 3) := by decide +kernel
theorem dX12_terms_73 : decode cX12_terms 73 = .ok (.iload_n 1, 1) := by decide +kernel
theorem dX12_terms_74 : decode cX12_terms 74 = .ok (.iastore, 1) := by decide +kernel
theorem dX12_terms_75 : decode cX12_terms 75 = .ok (.iconst 0, 1) := by decide +kernel
theorem dX12_terms_76 : decode cX12_terms 76 = .ok (.istore_n 3, 1) := by decide +kernel
theorem dX12_terms_77 : decode cX12_terms 77 = .ok (.iload_n 3, 1) := by decide +kernel
theorem dX12_terms_78 : decode cX12_terms 78 = .ok (.aload_n 0, 1) := by decide +kernel
theorem dX12_terms_79 : decode cX12_terms 79 = .ok (.getfield 361, 3) := by decide +kernel
theorem dX12_terms_82 : decode cX12_terms 82 = .ok (.if_icmp .ge 105, 3) := by decide +kernel
theorem dX12_terms_187 : decode cX12_terms 187 = .ok (.iconst 0, 1) := by decide +kernel
theorem dX12_terms_188 : decode cX12_terms 188 = .ok (.istore_n 3, 1) := by decide +kernel
theorem dX12_terms_189 : decode cX12_terms 189 = .ok (.iload_n 3, 1) := by decide +kernel
theorem dX12_terms_190 : decode cX12_terms 190 = .ok (.aload_n 0, 1) := by decide +kernel
theorem dX12_terms_191 : decode cX12_terms 191 = .ok (.getfield 313, 3) := by decide +kernel
theorem dX12_terms_194 : decode cX12_terms 194 = .ok (.if_icmp .ge 81, 3) := by decide +kernel
theorem dX12_terms_275 : decode cX12_terms 275 = .ok (.aload_n 0, 1) := by decide +kernel
theorem dX12_terms_276 : decode cX12_terms 276 = .ok (.dup, 1) := by decide +kernel
theorem dX12_terms_277 : decode cX12_terms 277 = .ok (.getfield 373, 3) := by decide +kernel
theorem dX12_terms_280 : decode cX12_terms 280 = .ok (.iconst 1, 1) := by decide +kernel
theorem dX12_terms_281 : decode cX12_terms 281 = .ok (.iadd, 1) := by decide +kernel
theorem dX12_terms_282 : decode cX12_terms 282 = .ok (.putfield 373, 3) := by decide +kernel
theorem dX12_terms_285 : decode cX12_terms 285 = .ok (.aload_n 0, 1) := by decide +kernel
theorem dX12_terms_286 : decode cX12_terms 286 = .ok (.getfield 361, 3) := by decide +kernel
theorem dX12_terms_289 : decode cX12_terms 289 = .ok (.ireturn, 1) := by decide +kernel
theorem dX12_readTerms_0 : decode cX12_readTerms 0 = .ok (.aload_n 0, 1) := by decide +kernel
theorem dX12_readTerms_1 : decode cX12_readTerms 1 = .ok (.iload_n 1, 1) := by decide +kernel
theorem dX12_readTerms_2 : decode cX12_readTerms 2 = .ok (.putfield 253, 3) := by decide +kernel
theorem dX12_readTerms_5 : decode cX12_readTerms 5 = .ok (.aload_n 0, 1) := by decide +kernel
theorem dX12_readTerms_6 : decode cX12_readTerms 6 = .ok (.iconst 0, 1) := by decide +kernel
theorem dX12_readTerms_7 : decode cX12_readTerms 7 = .ok (.putfield 291, 3) := by decide +kernel
theorem dX12_readTerms_10 : decode cX12_readTerms 10 = .ok (.aload_n 0, 1) := by decide +kernel
theorem dX12_readTerms_11 : decode cX12_readTerms 11 = .ok (.iconst 0, 1) := by decide +kernel
theorem dX12_readTerms_12 : decode cX12_readTerms 12 = .ok (.putfield 364, 3) := by decide +kernel
theorem dX12_readTerms_15 : decode cX12_readTerms 15 = .ok (.aload_n 0, 1) := by decide +kernel
theorem dX12_readTerms_16 : decode cX12_readTerms 16 = .ok (.iconst 0, 1) := by decide +kernel
theorem dX12_readTerms_17 : decode cX12_readTerms 17 = .ok (.putfield 361, 3) := by decide +kernel
theorem dX12_readTerms_20 : decode cX12_readTerms 20 = .ok (.aload_n 0, 1) := by decide +kernel
theorem dX12_readTerms_21 : decode cX12_readTerms 21 = .ok (.iconst 0, 1) := by decide +kernel
theorem dX12_readTerms_22 : decode cX12_readTerms 22 = .ok (.putfield 313, 3) := by decide +kernel
theorem dX12_readTerms_25 : decode cX12_readTerms 25 = .ok (.aload_n 0, 1) := by decide +kernel
theorem dX12_readTerms_26 : decode cX12_readTerms 26 = .ok (.iconst 0, 1) := by decide +kernel
theorem dX12_readTerms_27 : decode cX12_readTerms 27 = .ok (.putfield 336, 3) := by decide +kernel
theorem dX12_readTerms_30 : decode cX12_readTerms 30 = .ok (.aload_n 0, 1) := by decide +kernel
theorem dX12_readTerms_31 : decode cX12_readTerms 31 = .ok (.iconst 0, 1) := by decide +kernel
theorem dX12_readTerms_32 : decode cX12_readTerms 32 = .ok (.putfield 339, 3) := by decide +kernel
theorem dX12_readTerms_35 : decode cX12_readTerms 35 = .ok (.aload_n 0, 1) := by decide +kernel
theorem dX12_readTerms_36 : decode cX12_readTerms 36 = .ok (.iconst 0, 1) := by decide +kernel
theorem dX12_readTerms_37 : decode cX12_readTerms 37 = .ok (.putfield 256, 3) := by decide +kernel
theorem dX12_readTerms_40 : decode cX12_readTerms 40 = .ok (.aload_n 0, 1) := by decide +kernel
theorem dX12_readTerms_41 : decode cX12_readTerms 41 = .ok (.invokevirtual 342, 3) := by decide +kernel
theorem dX12_readTerms_44 : decode cX12_readTerms 44 = .ok (.aload_n 0, 1) := by decide +kernel
theorem dX12_readTerms_45 : decode cX12_readTerms 45 = .ok (.getfield 262, 3) := by decide +kernel
theorem dX12_readTerms_48 : decode cX12_readTerms 48 = .ok (.ifCond .eq 19, 3) := by decide +kernel
theorem dX12_readTerms_67 : decode cX12_readTerms 67 = .ok (.aload_n 0, 1) := by decide +kernel
theorem dX12_readTerms_68 : decode cX12_readTerms 68 = .ok (.getfield 50, 3) := by decide +kernel
theorem dX12_readTerms_71 : decode cX12_readTerms 71 = .ok (.bipush 10, 2) := by decide +kernel
theorem dX12_readTerms_73 : decode cX12_readTerms 73 = .ok (.aload_n 0, 1) := by decide +kernel
theorem dX12_readTerms_74 : decode cX12_readTerms 74 = .ok (.getfield 361, 3) := by decide +kernel
theorem dX12_readTerms_77 : decode cX12_readTerms 77 = .ok (.iastore, 1) := by decide +kernel
theorem dX12_readTerms_78 : decode cX12_readTerms 78 = .ok (.iconst 1, 1) := by decide +kernel
theorem dX12_readTerms_79 : decode cX12_readTerms 79 = .ok (.ireturn, 1) := by decide +kernel
theorem dX12_go_0 : decode cX12_go 0 = .ok (.aload_n 0, 1) := by decide +kernel
theorem dX12_go_1 : decode cX12_go 1 = .ok (.getfield 256, 3) := by decide +kernel
theorem dX12_go_4 : decode cX12_go 4 = .ok (.aload_n 0, 1) := by decide +kernel
theorem dX12_go_5 : decode cX12_go 5 = .ok (.getfield 253, 3) := by decide +kernel
theorem dX12_go_8 : decode cX12_go 8 = .ok (.if_icmp .ge 44, 3) := by decide +kernel
theorem dX12_go_52 : decode cX12_go 52 = .ok (.aload_n 0, 1) := by decide +kernel
theorem dX12_go_53 : decode cX12_go 53 = .ok (.aload_n 0, 1) := by decide +kernel
theorem dX12_go_54 : decode cX12_go 54 = .ok (.getfield 256, 3) := by decide +kernel
theorem dX12_go_57 : decode cX12_go 57 = .ok (.putfield 259, 3) := by decide +kernel
theorem dX12_go_60 : decode cX12_go 60 = .ok (.aload_n 0, 1) := by decide +kernel
theorem dX12_go_61 : decode cX12_go 61 = .ok (.getfield 253, 3) := by decide +kernel
theorem dX12_go_64 : decode cX12_go 64 = .ok (.sipush 300, 3) := by decide +kernel
theorem dX12_go_67 : decode cX12_go 67 = .ok (.if_icmp .le 26, 3) := by decide +kernel
theorem dX12_go_93 : decode cX12_go 93 = .ok (.aload_n 0, 1) := by decide +kernel
theorem dX12_go_94 : decode cX12_go 94 = .ok (.getfield 256, 3) := by decide +kernel
theorem dX12_go_97 : decode cX12_go 97 = .ok (.aload_n 0, 1) := by decide +kernel
theorem dX12_go_98 : decode cX12_go 98 = .ok (.getfield 253, 3) := by decide +kernel
theorem dX12_go_101 : decode cX12_go 101 = .ok (.if_icmp .lt 9, 3) := by decide +kernel
theorem dX12_go_104 : decode cX12_go 104 = .ok (.aload_n 0, 1) := by decide +kernel
theorem dX12_go_105 : decode cX12_go 105 = .ok (.iconst 0, 1) := by decide +kernel
theorem dX12_go_106 : decode cX12_go 106 = .ok (.putfield 262, 3) := by decide +kernel
theorem dX12_go_109 : decode cX12_go 109 = .ok (.return_, 1) := by decide +kernel
theorem dX11_fault_0 : decode cX11_fault 0 = .ok (.aload_n 0, 1) := by decide +kernel
theorem dX11_fault_1 : decode cX11_fault 1 = .ok (.getfield 87, 3) := by decide +kernel
theorem dX11_fault_4 : decode cX11_fault 4 = .ok (.ireturn, 1) := by decide +kernel
theorem dX12_fault_0 : decode cX12_fault 0 = .ok (.aload_n 0, 1) := by decide +kernel
theorem dX12_fault_1 : decode cX12_fault 1 = .ok (.iconst 0, 1) := by decide +kernel
theorem dX12_fault_2 : decode cX12_fault 2 = .ok (.putfield 198, 3) := by decide +kernel
theorem dX12_fault_5 : decode cX12_fault 5 = .ok (.aload_n 0, 1) := by decide +kernel
theorem dX12_fault_6 : decode cX12_fault 6 = .ok (.getfield 291, 3) := by decide +kernel
theorem dX12_fault_9 : decode cX12_fault 9 = .ok (.ireturn, 1) := by decide +kernel
theorem dX11_bundle_0 : decode cX11_bundle 0 = .ok (.aload_n 0, 1) := by decide +kernel
theorem dX11_bundle_1 : decode cX11_bundle 1 = .ok (.getfield 83, 3) := by decide +kernel
theorem dX11_bundle_4 : decode cX11_bundle 4 = .ok (.sipush 400, 3) := by decide +kernel
theorem dX11_bundle_7 : decode cX11_bundle 7 = .ok (.if_icmp .ge 67, 3) := by decide +kernel
theorem dX11_bundle_10 : decode cX11_bundle 10 = .ok (.aload_n 0, 1) := by decide +kernel
theorem dX11_bundle_11 : decode cX11_bundle 11 = .ok (.getfield 19, 3) := by decide +kernel
theorem dX11_bundle_14 : decode cX11_bundle 14 = .ok (.getfield 205, 3) := by decide +kernel
theorem dX11_bundle_17 : decode cX11_bundle 17 = .ok (.invokevirtual 112, 3) := by decide +kernel
theorem dX11_bundle_20 : decode cX11_bundle 20 = .ok (.sipush 200, 3) := by decide +kernel
theorem dX11_bundle_23 : decode cX11_bundle 23 = .ok (.if_icmp .ge 51, 3) := by decide +kernel
theorem dX11_bundle_26 : decode cX11_bundle 26 = .ok (.aload_n 0, 1) := by decide +kernel
theorem dX11_bundle_27 : decode cX11_bundle 27 = .ok (.getfield 19, 3) := by decide +kernel
theorem dX11_bundle_30 : decode cX11_bundle 30 = .ok (.iload_n 1, 1) := by decide +kernel
theorem dX11_bundle_31 : decode cX11_bundle 31 = .ok (.invokevirtual 132, 3) := by decide +kernel
theorem dX11_bundle_34 : decode cX11_bundle 34 = .ok (.ifCond .eq 40, 3) := by decide +kernel
theorem dX11_bundle_74 : decode cX11_bundle 74 = .ok (.iconst (-1), 1) := by decide +kernel
theorem dX11_bundle_75 : decode cX11_bundle 75 = .ok (.ireturn, 1) := by decide +kernel
theorem dX12_bundle_0 : decode cX12_bundle 0 = .ok (.aload_n 0, 1) := by decide +kernel
theorem dX12_bundle_1 : decode cX12_bundle 1 = .ok (.iconst 0, 1) := by decide +kernel
theorem dX12_bundle_2 : decode cX12_bundle 2 = .ok (.putfield 198, 3) := by decide +kernel
theorem dX12_bundle_5 : decode cX12_bundle 5 = .ok (.aload_n 0, 1) := by decide +kernel
theorem dX12_bundle_6 : decode cX12_bundle 6 = .ok (.getfield 389, 3) := by decide +kernel
theorem dX12_bundle_9 : decode cX12_bundle 9 = .ok (.sipush 200, 3) := by decide +kernel
theorem dX12_bundle_12 : decode cX12_bundle 12 = .ok (.if_icmp .eq 58, 3) := by decide +kernel
theorem dX12_bundle_15 : decode cX12_bundle 15 = .ok (.aload_n 0, 1) := by decide +kernel
theorem dX12_bundle_16 : decode cX12_bundle 16 = .ok (.getfield 239, 3) := by decide +kernel
theorem dX12_bundle_19 : decode cX12_bundle 19 = .ok (.sipush 400, 3) := by decide +kernel
theorem dX12_bundle_22 : decode cX12_bundle 22 = .ok (.if_icmp .eq 48, 3) := by decide +kernel
theorem dX12_bundle_25 : decode cX12_bundle 25 = .ok (.aload_n 0, 1) := by decide +kernel
theorem dX12_bundle_26 : decode cX12_bundle 26 = .ok (.iload_n 1, 1) := by decide +kernel
theorem dX12_bundle_27 : decode cX12_bundle 27 = .ok (.invokevirtual 215, 3) := by decide +kernel
theorem dX12_bundle_30 : decode cX12_bundle 30 = .ok (.ifCond .eq 40, 3) := by decide +kernel
theorem dX12_bundle_70 : decode cX12_bundle 70 = .ok (.iconst (-1), 1) := by decide +kernel
theorem dX12_bundle_71 : decode cX12_bundle 71 = .ok (.ireturn, 1) := by decide +kernel
theorem dX11_told_0 : decode cX11_told 0 = .ok (.aload_n 0, 1) := by decide +kernel
theorem dX11_told_1 : decode cX11_told 1 = .ok (.iconst (-1), 1) := by decide +kernel
theorem dX11_told_2 : decode cX11_told 2 = .ok (.putfield 90, 3) := by decide +kernel
theorem dX11_told_5 : decode cX11_told 5 = .ok (.aload_n 0, 1) := by decide +kernel
theorem dX11_told_6 : decode cX11_told 6 = .ok (.getfield 19, 3) := by decide +kernel
theorem dX11_told_9 : decode cX11_told 9 = .ok (.iload_n 1, 1) := by decide +kernel
theorem dX11_told_10 : decode cX11_told 10 = .ok (.invokevirtual 221, 3) := by decide +kernel
theorem dX11_told_13 : decode cX11_told 13 = .ok (.ifCond .eq 12, 3) := by decide +kernel
theorem dX11_told_25 : decode cX11_told 25 = .ok (.iconst (-1), 1) := by decide +kernel
theorem dX11_told_26 : decode cX11_told 26 = .ok (.ireturn, 1) := by decide +kernel
theorem dX5_hasBundle_0 : decode cX5_hasBundle 0 = .ok (.iload_n 1, 1) := by decide +kernel
theorem dX5_hasBundle_1 : decode cX5_hasBundle 1 = .ok (.ifCond .lt 18, 3) := by decide +kernel
theorem dX5_hasBundle_4 : decode cX5_hasBundle 4 = .ok (.iload_n 1, 1) := by decide +kernel
theorem dX5_hasBundle_5 : decode cX5_hasBundle 5 = .ok (.aload_n 0, 1) := by decide +kernel
theorem dX5_hasBundle_6 : decode cX5_hasBundle 6 = .ok (.getfield 25, 3) := by decide +kernel
theorem dX5_hasBundle_9 : decode cX5_hasBundle 9 = .ok (.invokevirtual 45, 3) := by decide +kernel
theorem dX5_hasBundle_12 : decode cX5_hasBundle 12 = .ok (.if_icmp .ge 7, 3) := by decide +kernel
theorem dX5_hasBundle_19 : decode cX5_hasBundle 19 = .ok (.iconst 0, 1) := by decide +kernel
theorem dX5_hasBundle_20 : decode cX5_hasBundle 20 = .ok (.ireturn, 1) := by decide +kernel
theorem dX12_told_0 : decode cX12_told 0 = .ok (.aload_n 0, 1) := by decide +kernel
theorem dX12_told_1 : decode cX12_told 1 = .ok (.iconst 0, 1) := by decide +kernel
theorem dX12_told_2 : decode cX12_told 2 = .ok (.putfield 198, 3) := by decide +kernel
theorem dX12_told_5 : decode cX12_told 5 = .ok (.iload_n 1, 1) := by decide +kernel
theorem dX12_told_6 : decode cX12_told 6 = .ok (.iconst 0, 1) := by decide +kernel
theorem dX12_told_7 : decode cX12_told 7 = .ok (.aload_n 0, 1) := by decide +kernel
theorem dX12_told_8 : decode cX12_told 8 = .ok (.getfield 389, 3) := by decide +kernel
theorem dX12_told_11 : decode cX12_told 11 = .ok (.iconst 1, 1) := by decide +kernel
theorem dX12_told_12 : decode cX12_told 12 = .ok (.isub, 1) := by decide +kernel
theorem dX12_told_13 : decode cX12_told 13 = .ok (.invokestatic 211, 3) := by decide +kernel
theorem dX12_told_16 : decode cX12_told 16 = .ok (.ifCond .eq 12, 3) := by decide +kernel
theorem dX12_told_28 : decode cX12_told 28 = .ok (.iconst (-1), 1) := by decide +kernel
theorem dX12_told_29 : decode cX12_told 29 = .ok (.ireturn, 1) := by decide +kernel
theorem dX11_why_0 : decode cX11_why 0 = .ok (.aload_n 0, 1) := by decide +kernel
theorem dX11_why_1 : decode cX11_why 1 = .ok (.getfield 90, 3) := by decide +kernel
theorem dX11_why_4 : decode cX11_why 4 = .ok (.ireturn, 1) := by decide +kernel
theorem dX12_why_0 : decode cX12_why 0 = .ok (.aload_n 0, 1) := by decide +kernel
theorem dX12_why_1 : decode cX12_why 1 = .ok (.iconst 0, 1) := by decide +kernel
theorem dX12_why_2 : decode cX12_why 2 = .ok (.putfield 198, 3) := by decide +kernel
theorem dX12_why_5 : decode cX12_why 5 = .ok (.aload_n 0, 1) := by decide +kernel
theorem dX12_why_6 : decode cX12_why 6 = .ok (.getfield 120, 3) := by decide +kernel
theorem dX12_why_9 : decode cX12_why 9 = .ok (.ireturn, 1) := by decide +kernel
theorem dX11_close_0 : decode cX11_close 0 = .ok (.aload_n 0, 1) := by decide +kernel
theorem dX11_close_1 : decode cX11_close 1 = .ok (.getfield 83, 3) := by decide +kernel
theorem dX11_close_4 : decode cX11_close 4 = .ok (.sipush 400, 3) := by decide +kernel
theorem dX11_close_7 : decode cX11_close 7 = .ok (.if_icmp .lt 5, 3) := by decide +kernel
theorem dX11_close_12 : decode cX11_close 12 = .ok (.aload_n 0, 1) := by decide +kernel
theorem dX11_close_13 : decode cX11_close 13 = .ok (.getfield 19, 3) := by decide +kernel
theorem dX11_close_16 : decode cX11_close 16 = .ok (.invokevirtual 242, 3) := by decide +kernel
theorem dX11_close_19 : decode cX11_close 19 = .ok (.aload_n 0, 1) := by decide +kernel
theorem dX11_close_20 : decode cX11_close 20 = .ok (.getfield 19, 3) := by decide +kernel
theorem dX11_close_23 : decode cX11_close 23 = .ok (.aload_n 0, 1) := by decide +kernel
theorem dX11_close_24 : decode cX11_close 24 = .ok (.getfield 83, 3) := by decide +kernel
theorem dX11_close_27 : decode cX11_close 27 = .ok (.aload_n 0, 1) := by decide +kernel
theorem dX11_close_28 : decode cX11_close 28 = .ok (.aload_n 0, 1) := by decide +kernel
theorem dX11_close_29 : decode cX11_close 29 = .ok (.getfield 83, 3) := by decide +kernel
theorem dX11_close_32 : decode cX11_close 32 = .ok (.invokevirtual 213, 3) := by decide +kernel
theorem dX11_close_35 : decode cX11_close 35 = .ok (.iconst 1, 1) := by decide +kernel
theorem dX11_close_36 : decode cX11_close 36 = .ok (.invokevirtual 245, 3) := by decide +kernel
theorem dX11_close_39 : decode cX11_close 39 = .ok (.aload_n 0, 1) := by decide +kernel
theorem dX11_close_40 : decode cX11_close 40 = .ok (.dup, 1) := by decide +kernel
theorem dX11_close_41 : decode cX11_close 41 = .ok (.getfield 83, 3) := by decide +kernel
theorem dX11_close_44 : decode cX11_close 44 = .ok (.iconst 1, 1) := by decide +kernel
theorem dX11_close_45 : decode cX11_close 45 = .ok (.iadd, 1) := by decide +kernel
theorem dX11_close_46 : decode cX11_close 46 = .ok (.putfield 83, 3) := by decide +kernel
theorem dX11_close_49 : decode cX11_close 49 = .ok (.aload_n 0, 1) := by decide +kernel
theorem dX11_close_50 : decode cX11_close 50 = .ok (.getfield 19, 3) := by decide +kernel
theorem dX11_close_53 : decode cX11_close 53 = .ok (.getfield 249, 3) := by decide +kernel
theorem dX11_close_56 : decode cX11_close 56 = .ok (.ireturn, 1) := by decide +kernel
theorem dX5_startSums_0 : decode cX5_startSums 0 = .ok (.aload_n 0, 1) := by decide +kernel
theorem dX5_startSums_1 : decode cX5_startSums 1 = .ok (.iconst 0, 1) := by decide +kernel
theorem dX5_startSums_2 : decode cX5_startSums 2 = .ok (.putfield 35, 3) := by decide +kernel
theorem dX5_startSums_5 : decode cX5_startSums 5 = .ok (.aload_n 0, 1) := by decide +kernel
theorem dX5_startSums_6 : decode cX5_startSums 6 = .ok (.iconst 0, 1) := by decide +kernel
theorem dX5_startSums_7 : decode cX5_startSums 7 = .ok (.putfield 39, 3) := by decide +kernel
theorem dX5_startSums_10 : decode cX5_startSums 10 = .ok (.aload_n 0, 1) := by decide +kernel
theorem dX5_startSums_11 : decode cX5_startSums 11 = .ok (.iconst 0, 1) := by decide +kernel
theorem dX5_startSums_12 : decode cX5_startSums 12 = .ok (.putfield 42, 3) := by decide +kernel
theorem dX5_startSums_15 : decode cX5_startSums 15 = .ok (.return_, 1) := by decide +kernel
theorem dX11_inForce_0 : decode cX11_inForce 0 = .ok (.aload_n 0, 1) := by decide +kernel
theorem dX11_inForce_1 : decode cX11_inForce 1 = .ok (.getfield 45, 3) := by decide +kernel
theorem dX11_inForce_4 : decode cX11_inForce 4 = .ok (.astore_n 2, 1) := by decide +kernel
theorem dX11_inForce_5 : decode cX11_inForce 5 = .ok (.iconst 0, 1) := by decide +kernel
theorem dX11_inForce_6 : decode cX11_inForce 6 = .ok (.istore_n 3, 1) := by decide +kernel
theorem dX11_inForce_7 : decode cX11_inForce 7 = .ok (.iload_n 3, 1) := by decide +kernel
theorem dX11_inForce_8 : decode cX11_inForce 8 = .ok (.aload_n 0, 1) := by decide +kernel
theorem dX11_inForce_9 : decode cX11_inForce 9 = .ok (.getfield 38, 3) := by decide +kernel
theorem dX11_inForce_12 : decode cX11_inForce 12 = .ok (.invokevirtual 112, 3) := by decide +kernel
theorem dX11_inForce_15 : decode cX11_inForce 15 = .ok (.if_icmp .ge 46, 3) := by decide +kernel
theorem dX11_inForce_61 : decode cX11_inForce 61 = .ok (.aload_n 2, 1) := by decide +kernel
theorem dX11_inForce_62 : decode cX11_inForce 62 = .ok (.areturn, 1) := by decide +kernel
theorem dX5_cryDay_0 : decode cX5_cryDay 0 = .ok (.aload_n 0, 1) := by decide +kernel
theorem dX5_cryDay_1 : decode cX5_cryDay 1 = .ok (.iload_n 1, 1) := by decide +kernel
theorem dX5_cryDay_2 : decode cX5_cryDay 2 = .ok (.invokevirtual 127, 3) := by decide +kernel
theorem dX5_cryDay_5 : decode cX5_cryDay 5 = .ok (.iconst 0, 1) := by decide +kernel
theorem dX5_cryDay_6 : decode cX5_cryDay 6 = .ok (.istore 4, 2) := by decide +kernel
theorem dX5_cryDay_8 : decode cX5_cryDay 8 = .ok (.iconst 0, 1) := by decide +kernel
theorem dX5_cryDay_9 : decode cX5_cryDay 9 = .ok (.istore 5, 2) := by decide +kernel
theorem dX5_cryDay_11 : decode cX5_cryDay 11 = .ok (.iload 5, 2) := by decide +kernel
theorem dX5_cryDay_13 : decode cX5_cryDay 13 = .ok (.aload_n 0, 1) := by decide +kernel
theorem dX5_cryDay_14 : decode cX5_cryDay 14 = .ok (.getfield 28, 3) := by decide +kernel
theorem dX5_cryDay_17 : decode cX5_cryDay 17 = .ok (.invokevirtual 45, 3) := by decide +kernel
theorem dX5_cryDay_20 : decode cX5_cryDay 20 = .ok (.if_icmp .ge 88, 3) := by decide +kernel
theorem dX5_cryDay_108 : decode cX5_cryDay 108 = .ok (.return_, 1) := by decide +kernel
theorem dX5_lineUp_0 : decode cX5_lineUp 0 = .ok (.aload_n 0, 1) := by decide +kernel
theorem dX5_lineUp_1 : decode cX5_lineUp 1 = .ok (.getfield 28, 3) := by decide +kernel
theorem dX5_lineUp_4 : decode cX5_lineUp 4 = .ok (.invokevirtual 162, 3) := by decide +kernel
theorem dX5_lineUp_7 : decode cX5_lineUp 7 = .ok (.iconst 0, 1) := by decide +kernel
theorem dX5_lineUp_8 : decode cX5_lineUp 8 = .ok (.istore_n 2, 1) := by decide +kernel
theorem dX5_lineUp_9 : decode cX5_lineUp 9 = .ok (.iload_n 2, 1) := by decide +kernel
theorem dX5_lineUp_10 : decode cX5_lineUp 10 = .ok (.aload_n 0, 1) := by decide +kernel
theorem dX5_lineUp_11 : decode cX5_lineUp 11 = .ok (.getfield 25, 3) := by decide +kernel
theorem dX5_lineUp_14 : decode cX5_lineUp 14 = .ok (.invokevirtual 45, 3) := by decide +kernel
theorem dX5_lineUp_17 : decode cX5_lineUp 17 = .ok (.if_icmp .ge 81, 3) := by decide +kernel
theorem dX5_lineUp_98 : decode cX5_lineUp 98 = .ok (.return_, 1) := by decide +kernel
theorem dJx4a65c_clear_da8c8_0 : decode cJx4a65c_clear_da8c8 0 = .ok (.aload_n 0, 1) := by decide +kernel
theorem dJx4a65c_clear_da8c8_1 : decode cJx4a65c_clear_da8c8 1 = .ok (.dup, 1) := by decide +kernel
theorem dJx4a65c_clear_da8c8_2 : decode cJx4a65c_clear_da8c8 2 = .ok (.getfield 63, 3) := by decide +kernel
theorem dJx4a65c_clear_da8c8_5 : decode cJx4a65c_clear_da8c8 5 = .ok (.iconst 1, 1) := by decide +kernel
theorem dJx4a65c_clear_da8c8_6 : decode cJx4a65c_clear_da8c8 6 = .ok (.iadd, 1) := by decide +kernel
theorem dJx4a65c_clear_da8c8_7 : decode cJx4a65c_clear_da8c8 7 = .ok (.putfield 63, 3) := by decide +kernel
theorem dJx4a65c_clear_da8c8_10 : decode cJx4a65c_clear_da8c8 10 = .ok (.aload_n 0, 1) := by decide +kernel
theorem dJx4a65c_clear_da8c8_11 : decode cJx4a65c_clear_da8c8 11 = .ok (.getfield 9, 3) := by decide +kernel
theorem dJx4a65c_clear_da8c8_14 : decode cJx4a65c_clear_da8c8 14 = .ok (.astore_n 1, 1) := by decide +kernel
theorem dJx4a65c_clear_da8c8_15 : decode cJx4a65c_clear_da8c8 15 = .ok (.aload_n 0, 1) := by decide +kernel
theorem dJx4a65c_clear_da8c8_16 : decode cJx4a65c_clear_da8c8 16 = .ok (.getfield 48, 3) := by decide +kernel
theorem dJx4a65c_clear_da8c8_19 : decode cJx4a65c_clear_da8c8 19 = .ok (.istore_n 2, 1) := by decide +kernel
theorem dJx4a65c_clear_da8c8_20 : decode cJx4a65c_clear_da8c8 20 = .ok (.aload_n 0, 1) := by decide +kernel
theorem dJx4a65c_clear_da8c8_21 : decode cJx4a65c_clear_da8c8 21 = .ok (.iconst 0, 1) := by decide +kernel
theorem dJx4a65c_clear_da8c8_22 : decode cJx4a65c_clear_da8c8 22 = .ok (.dup_x1, 1) := by decide +kernel
theorem dJx4a65c_clear_da8c8_23 : decode cJx4a65c_clear_da8c8 23 = .ok (.putfield 48, 3) := by decide +kernel
theorem dJx4a65c_clear_da8c8_26 : decode cJx4a65c_clear_da8c8 26 = .ok (.istore_n 3, 1) := by decide +kernel
theorem dJx4a65c_clear_da8c8_27 : decode cJx4a65c_clear_da8c8 27 = .ok (.iload_n 3, 1) := by decide +kernel
theorem dJx4a65c_clear_da8c8_28 : decode cJx4a65c_clear_da8c8 28 = .ok (.iload_n 2, 1) := by decide +kernel
theorem dJx4a65c_clear_da8c8_29 : decode cJx4a65c_clear_da8c8 29 = .ok (.if_icmp .ge 13, 3) := by decide +kernel
theorem dJx4a65c_clear_da8c8_42 : decode cJx4a65c_clear_da8c8 42 = .ok (.return_, 1) := by decide +kernel
theorem dX12_close_0 : decode cX12_close 0 = .ok (.aload_n 0, 1) := by decide +kernel
theorem dX12_close_1 : decode cX12_close 1 = .ok (.iconst 0, 1) := by decide +kernel
theorem dX12_close_2 : decode cX12_close 2 = .ok (.putfield 198, 3) := by decide +kernel
theorem dX12_close_5 : decode cX12_close 5 = .ok (.aload_n 0, 1) := by decide +kernel
theorem dX12_close_6 : decode cX12_close 6 = .ok (.getfield 239, 3) := by decide +kernel
theorem dX12_close_9 : decode cX12_close 9 = .ok (.sipush 400, 3) := by decide +kernel
theorem dX12_close_12 : decode cX12_close 12 = .ok (.if_icmp .ne 5, 3) := by decide +kernel
theorem dX12_close_17 : decode cX12_close 17 = .ok (.aload_n 0, 1) := by decide +kernel
theorem dX12_close_18 : decode cX12_close 18 = .ok (.aload_n 0, 1) := by decide +kernel
theorem dX12_close_19 : decode cX12_close 19 = .ok (.getfield 239, 3) := by decide +kernel
theorem dX12_close_22 : decode cX12_close 22 = .ok (.invokevirtual 392, 3) := by decide +kernel
theorem dX12_close_25 : decode cX12_close 25 = .ok (.istore_n 1, 1) := by decide +kernel
theorem dX12_close_26 : decode cX12_close 26 = .ok (.aload_n 0, 1) := by decide +kernel
theorem dX12_close_27 : decode cX12_close 27 = .ok (.aload_n 0, 1) := by decide +kernel
theorem dX12_close_28 : decode cX12_close 28 = .ok (.getfield 239, 3) := by decide +kernel
theorem dX12_close_31 : decode cX12_close 31 = .ok (.iload_n 1, 1) := by decide +kernel
theorem dX12_close_32 : decode cX12_close 32 = .ok (.invokevirtual 412, 3) := by decide +kernel
theorem dX12_close_35 : decode cX12_close 35 = .ok (.iconst 0, 1) := by decide +kernel
theorem dX12_close_36 : decode cX12_close 36 = .ok (.istore_n 2, 1) := by decide +kernel
theorem dX12_close_37 : decode cX12_close 37 = .ok (.iconst 0, 1) := by decide +kernel
theorem dX12_close_38 : decode cX12_close 38 = .ok (.istore_n 3, 1) := by decide +kernel
theorem dX12_close_39 : decode cX12_close 39 = .ok (.iload_n 3, 1) := by decide +kernel
theorem dX12_close_40 : decode cX12_close 40 = .ok (.aload_n 0, 1) := by decide +kernel
theorem dX12_close_41 : decode cX12_close 41 = .ok (.getfield 389, 3) := by decide +kernel
theorem dX12_close_44 : decode cX12_close 44 = .ok (.if_icmp .ge 104, 3) := by decide +kernel
theorem dX12_close_148 : decode cX12_close 148 = .ok (.aload_n 0, 1) := by decide +kernel
theorem dX12_close_149 : decode cX12_close 149 = .ok (.dup, 1) := by decide +kernel
theorem dX12_close_150 : decode cX12_close 150 = .ok (.getfield 239, 3) := by decide +kernel
theorem dX12_close_153 : decode cX12_close 153 = .ok (.iconst 1, 1) := by decide +kernel
theorem dX12_close_154 : decode cX12_close 154 = .ok (.iadd, 1) := by decide +kernel
theorem dX12_close_155 : decode cX12_close 155 = .ok (.putfield 239, 3) := by decide +kernel
theorem dX12_close_158 : decode cX12_close 158 = .ok (.iload_n 2, 1) := by decide +kernel
theorem dX12_close_159 : decode cX12_close 159 = .ok (.ireturn, 1) := by decide +kernel
theorem dX12_termsFor_0 : decode cX12_termsFor 0 = .ok (.iconst (-1), 1) := by decide +kernel
theorem dX12_termsFor_1 : decode cX12_termsFor 1 = .ok (.istore_n 2, 1) := by decide +kernel
theorem dX12_termsFor_2 : decode cX12_termsFor 2 = .ok (.iconst 0, 1) := by decide +kernel
theorem dX12_termsFor_3 : decode cX12_termsFor 3 = .ok (.istore_n 3, 1) := by decide +kernel
theorem dX12_termsFor_4 : decode cX12_termsFor 4 = .ok (.iload_n 3, 1) := by decide +kernel
theorem dX12_termsFor_5 : decode cX12_termsFor 5 = .ok (.aload_n 0, 1) := by decide +kernel
theorem dX12_termsFor_6 : decode cX12_termsFor 6 = .ok (.getfield 373, 3) := by decide +kernel
theorem dX12_termsFor_9 : decode cX12_termsFor 9 = .ok (.if_icmp .ge 41, 3) := by decide +kernel
theorem dX12_termsFor_50 : decode cX12_termsFor 50 = .ok (.iload_n 2, 1) := by decide +kernel
theorem dX12_termsFor_51 : decode cX12_termsFor 51 = .ok (.ireturn, 1) := by decide +kernel
theorem dX12_cry_0 : decode cX12_cry 0 = .ok (.iconst 0, 1) := by decide +kernel
theorem dX12_cry_1 : decode cX12_cry 1 = .ok (.istore_n 3, 1) := by decide +kernel
theorem dX12_cry_2 : decode cX12_cry 2 = .ok (.iload_n 3, 1) := by decide +kernel
theorem dX12_cry_3 : decode cX12_cry 3 = .ok (.aload_n 0, 1) := by decide +kernel
theorem dX12_cry_4 : decode cX12_cry 4 = .ok (.getfield 389, 3) := by decide +kernel
theorem dX12_cry_7 : decode cX12_cry 7 = .ok (.if_icmp .ge 68, 3) := by decide +kernel
theorem dX12_cry_75 : decode cX12_cry 75 = .ok (.iconst 0, 1) := by decide +kernel
theorem dX12_cry_76 : decode cX12_cry 76 = .ok (.istore_n 3, 1) := by decide +kernel
theorem dX12_cry_77 : decode cX12_cry 77 = .ok (.iload_n 3, 1) := by decide +kernel
theorem dX12_cry_78 : decode cX12_cry 78 = .ok (.bipush 10, 2) := by decide +kernel
theorem dX12_cry_80 : decode cX12_cry 80 = .ok (.if_icmp .ge 191, 3) := by decide +kernel
theorem dX12_cry_83 : decode cX12_cry 83 = .ok (.iconst 0, 1) := by decide +kernel
theorem dX12_cry_84 : decode cX12_cry 84 = .ok (.istore 4, 2) := by decide +kernel
theorem dX12_cry_86 : decode cX12_cry 86 = .ok (.iload 4, 2) := by decide +kernel
theorem dX12_cry_88 : decode cX12_cry 88 = .ok (.iconst 4, 1) := by decide +kernel
theorem dX12_cry_89 : decode cX12_cry 89 = .ok (.if_icmp .ge 176, 3) := by decide +kernel
theorem dX12_cry_92 : decode cX12_cry 92 = .ok (.aload_n 0, 1) := by decide +kernel
theorem dX12_cry_93 : decode cX12_cry 93 = .ok (.iload_n 3, 1) := by decide +kernel
theorem dX12_cry_94 : decode cX12_cry 94 = .ok (.iload 4, 2) := by decide +kernel
theorem dX12_cry_96 : decode cX12_cry 96 = .ok (.aload_n 0, 1) := by decide +kernel
theorem dX12_cry_97 : decode cX12_cry 97 = .ok (.iload_n 1, 1) := by decide +kernel
theorem dX12_cry_98 : decode cX12_cry 98 = .ok (.invokevirtual 232, 3) := by decide +kernel
theorem dX12_cry_101 : decode cX12_cry 101 = .ok (.aload_n 0, 1) := by decide +kernel
theorem dX12_cry_102 : decode cX12_cry 102 = .ok (.getfield 35, 3) := by decide +kernel
theorem dX12_cry_105 : decode cX12_cry 105 = .ok (.sipush 400, 3) := by decide +kernel
theorem dX12_cry_108 : decode cX12_cry 108 = .ok (.iload 4, 2) := by decide +kernel
theorem dX12_cry_110 : decode cX12_cry 110 = .ok (.imul, 1) := by decide +kernel
theorem dX12_cry_111 : decode cX12_cry 111 = .ok (.iload_n 1, 1) := by decide +kernel
theorem dX12_cry_112 : decode cX12_cry 112 = .ok (.iadd, 1) := by decide +kernel
theorem dX12_cry_113 : decode cX12_cry 113 = .ok (.iaload, 1) := by decide +kernel
theorem dX12_cry_114 : decode cX12_cry 114 = .ok (.invokevirtual 242, 3) := by decide +kernel
theorem dX12_cry_117 : decode cX12_cry 117 = .ok (.istore 5, 2) := by decide +kernel
theorem dX12_cry_119 : decode cX12_cry 119 = .ok (.aload_n 0, 1) := by decide +kernel
theorem dX12_cry_120 : decode cX12_cry 120 = .ok (.iload_n 3, 1) := by decide +kernel
theorem dX12_cry_121 : decode cX12_cry 121 = .ok (.iload 4, 2) := by decide +kernel
theorem dX12_cry_123 : decode cX12_cry 123 = .ok (.invokevirtual 405, 3) := by decide +kernel
theorem dX12_cry_126 : decode cX12_cry 126 = .ok (.istore 6, 2) := by decide +kernel
theorem dX12_cry_128 : decode cX12_cry 128 = .ok (.iload 6, 2) := by decide +kernel
theorem dX12_cry_130 : decode cX12_cry 130 = .ok (.iconst (-1), 1) := by decide +kernel
theorem dX12_cry_131 : decode cX12_cry 131 = .ok (.if_icmp .eq 128, 3) := by decide +kernel
theorem dX12_cry_259 : decode cX12_cry 259 = .ok (.iinc 4 1, 3) := by decide +kernel
theorem dX12_cry_262 : decode cX12_cry 262 = .ok (.goto (-176), 3) := by decide +kernel
theorem dX12_cry_265 : decode cX12_cry 265 = .ok (.iinc 3 1, 3) := by decide +kernel
theorem dX12_cry_268 : decode cX12_cry 268 = .ok (.goto (-191), 3) := by decide +kernel
theorem dX12_cry_271 : decode cX12_cry 271 = .ok (.return_, 1) := by decide +kernel
theorem dX12_firstAt_0 : decode cX12_firstAt 0 = .ok (.iconst (-1), 1) := by decide +kernel
theorem dX12_firstAt_1 : decode cX12_firstAt 1 = .ok (.istore_n 3, 1) := by decide +kernel
theorem dX12_firstAt_2 : decode cX12_firstAt 2 = .ok (.iconst 0, 1) := by decide +kernel
theorem dX12_firstAt_3 : decode cX12_firstAt 3 = .ok (.istore 4, 2) := by decide +kernel
theorem dX12_firstAt_5 : decode cX12_firstAt 5 = .ok (.iload 4, 2) := by decide +kernel
theorem dX12_firstAt_7 : decode cX12_firstAt 7 = .ok (.aload_n 0, 1) := by decide +kernel
theorem dX12_firstAt_8 : decode cX12_firstAt 8 = .ok (.getfield 389, 3) := by decide +kernel
theorem dX12_firstAt_11 : decode cX12_firstAt 11 = .ok (.if_icmp .ge 59, 3) := by decide +kernel
theorem dX12_firstAt_70 : decode cX12_firstAt 70 = .ok (.iload_n 3, 1) := by decide +kernel
theorem dX12_firstAt_71 : decode cX12_firstAt 71 = .ok (.ireturn, 1) := by decide +kernel
theorem dX11_of_0 : decode cX11_of 0 = .ok (.aload_n 0, 1) := by decide +kernel
theorem dX11_of_1 : decode cX11_of 1 = .ok (.getfield 19, 3) := by decide +kernel
theorem dX11_of_4 : decode cX11_of 4 = .ok (.iload_n 1, 1) := by decide +kernel
theorem dX11_of_5 : decode cX11_of 5 = .ok (.invokevirtual 221, 3) := by decide +kernel
theorem dX11_of_8 : decode cX11_of 8 = .ok (.ifCond .ne 13, 3) := by decide +kernel
theorem dX11_of_11 : decode cX11_of 11 = .ok (.new 252, 3) := by decide +kernel
theorem dX11_of_14 : decode cX11_of 14 = .ok (.dup, 1) := by decide +kernel
theorem dX11_of_15 : decode cX11_of 15 = .ok (.ldc 254, 2) := by decide +kernel
theorem dX11_of_17 : decode cX11_of 17 = .ok (.invokespecial 256, 3) := by decide +kernel
theorem dX11_of_20 : decode cX11_of 20 = .ok (.athrow, 1) := by decide +kernel
theorem dL_of_0 : decode cL_of 0 = .ok (.aload_n 3, 1) := by decide +kernel
theorem dL_of_1 : decode cL_of 1 = .ok (.iconst 0, 1) := by decide +kernel
theorem dL_of_2 : decode cL_of 2 = .ok (.aload_n 0, 1) := by decide +kernel
theorem dL_of_3 : decode cL_of 3 = .ok (.iload_n 1, 1) := by decide +kernel
theorem dL_of_4 : decode cL_of 4 = .ok (.iload_n 2, 1) := by decide +kernel
theorem dL_of_5 : decode cL_of 5 = .ok (.invokevirtual 7, 3) := by decide +kernel
theorem dL_of_13 : decode cL_of 13 = .ok (.astore 4, 2) := by decide +kernel
theorem dL_of_15 : decode cL_of 15 = .ok (.iconst 1, 1) := by decide +kernel
theorem dL_of_16 : decode cL_of 16 = .ok (.ireturn, 1) := by decide +kernel
theorem dX12_of_0 : decode cX12_of 0 = .ok (.iload_n 1, 1) := by decide +kernel
theorem dX12_of_1 : decode cX12_of 1 = .ok (.iconst 0, 1) := by decide +kernel
theorem dX12_of_2 : decode cX12_of 2 = .ok (.aload_n 0, 1) := by decide +kernel
theorem dX12_of_3 : decode cX12_of 3 = .ok (.getfield 389, 3) := by decide +kernel
theorem dX12_of_6 : decode cX12_of 6 = .ok (.iconst 1, 1) := by decide +kernel
theorem dX12_of_7 : decode cX12_of 7 = .ok (.isub, 1) := by decide +kernel
theorem dX12_of_8 : decode cX12_of 8 = .ok (.invokestatic 211, 3) := by decide +kernel
theorem dX12_of_11 : decode cX12_of 11 = .ok (.ifCond .eq 12, 3) := by decide +kernel
theorem dX12_of_23 : decode cX12_of 23 = .ok (.aload_n 0, 1) := by decide +kernel
theorem dX12_of_24 : decode cX12_of 24 = .ok (.invokevirtual 418, 3) := by decide +kernel
theorem dX12_of_27 : decode cX12_of 27 = .ok (.ireturn, 1) := by decide +kernel
theorem dX12_refuse_0 : decode cX12_refuse 0 = .ok (.aload_n 0, 1) := by decide +kernel
theorem dX12_refuse_1 : decode cX12_refuse 1 = .ok (.iconst 1, 1) := by decide +kernel
theorem dX12_refuse_2 : decode cX12_refuse 2 = .ok (.putfield 198, 3) := by decide +kernel
theorem dX12_refuse_5 : decode cX12_refuse 5 = .ok (.iconst 0, 1) := by decide +kernel
theorem dX12_refuse_6 : decode cX12_refuse 6 = .ok (.ireturn, 1) := by decide +kernel
theorem dX12_thrown_0 : decode cX12_thrown 0 = .ok (.aload_n 0, 1) := by decide +kernel
theorem dX12_thrown_1 : decode cX12_thrown 1 = .ok (.getfield 198, 3) := by decide +kernel
theorem dX12_thrown_4 : decode cX12_thrown 4 = .ok (.ireturn, 1) := by decide +kernel
theorem dX11_coin_0 : decode cX11_coin 0 = .ok (.aload_n 0, 1) := by decide +kernel
theorem dX11_coin_1 : decode cX11_coin 1 = .ok (.getfield 19, 3) := by decide +kernel
theorem dX11_coin_4 : decode cX11_coin 4 = .ok (.iload_n 1, 1) := by decide +kernel
theorem dX11_coin_5 : decode cX11_coin 5 = .ok (.invokevirtual 132, 3) := by decide +kernel
theorem dX11_coin_8 : decode cX11_coin 8 = .ok (.ifCond .ne 14, 3) := by decide +kernel
theorem dX11_coin_11 : decode cX11_coin 11 = .ok (.new 252, 3) := by decide +kernel
theorem dX11_coin_14 : decode cX11_coin 14 = .ok (.dup, 1) := by decide +kernel
theorem dX11_coin_15 : decode cX11_coin 15 = .ok (.ldc_w 273, 3) := by decide +kernel
theorem dX11_coin_18 : decode cX11_coin 18 = .ok (.invokespecial 256, 3) := by decide +kernel
theorem dX11_coin_21 : decode cX11_coin 21 = .ok (.athrow, 1) := by decide +kernel
theorem dL_coin_0 : decode cL_coin 0 = .ok (.aload_n 2, 1) := by decide +kernel
theorem dL_coin_1 : decode cL_coin 1 = .ok (.iconst 0, 1) := by decide +kernel
theorem dL_coin_2 : decode cL_coin 2 = .ok (.aload_n 0, 1) := by decide +kernel
theorem dL_coin_3 : decode cL_coin 3 = .ok (.iload_n 1, 1) := by decide +kernel
theorem dL_coin_4 : decode cL_coin 4 = .ok (.invokevirtual 15, 3) := by decide +kernel
theorem dL_coin_12 : decode cL_coin 12 = .ok (.astore_n 3, 1) := by decide +kernel
theorem dL_coin_13 : decode cL_coin 13 = .ok (.iconst 1, 1) := by decide +kernel
theorem dL_coin_14 : decode cL_coin 14 = .ok (.ireturn, 1) := by decide +kernel
theorem dX12_coin_0 : decode cX12_coin 0 = .ok (.aload_n 0, 1) := by decide +kernel
theorem dX12_coin_1 : decode cX12_coin 1 = .ok (.iload_n 1, 1) := by decide +kernel
theorem dX12_coin_2 : decode cX12_coin 2 = .ok (.invokevirtual 215, 3) := by decide +kernel
theorem dX12_coin_5 : decode cX12_coin 5 = .ok (.ifCond .ne 8, 3) := by decide +kernel
theorem dX12_coin_8 : decode cX12_coin 8 = .ok (.aload_n 0, 1) := by decide +kernel
theorem dX12_coin_9 : decode cX12_coin 9 = .ok (.invokevirtual 418, 3) := by decide +kernel
theorem dX12_coin_12 : decode cX12_coin 12 = .ok (.ireturn, 1) := by decide +kernel
theorem dX11_counted_0 : decode cX11_counted 0 = .ok (.aload_n 0, 1) := by decide +kernel
theorem dX11_counted_1 : decode cX11_counted 1 = .ok (.getfield 31, 3) := by decide +kernel
theorem dX11_counted_4 : decode cX11_counted 4 = .ok (.getfield 278, 3) := by decide +kernel
theorem dX11_counted_7 : decode cX11_counted 7 = .ok (.bipush 60, 2) := by decide +kernel
theorem dX11_counted_9 : decode cX11_counted 9 = .ok (.if_icmp .ge 43, 3) := by decide +kernel
theorem dX11_counted_12 : decode cX11_counted 12 = .ok (.iload_n 1, 1) := by decide +kernel
theorem dX11_counted_13 : decode cX11_counted 13 = .ok (.invokestatic 165, 3) := by decide +kernel
theorem dX11_counted_16 : decode cX11_counted 16 = .ok (.ifCond .eq 36, 3) := by decide +kernel
theorem dX11_counted_19 : decode cX11_counted 19 = .ok (.iload_n 2, 1) := by decide +kernel
theorem dX11_counted_20 : decode cX11_counted 20 = .ok (.invokestatic 142, 3) := by decide +kernel
theorem dX11_counted_23 : decode cX11_counted 23 = .ok (.ifCond .eq 29, 3) := by decide +kernel
theorem dX11_counted_26 : decode cX11_counted 26 = .ok (.iload_n 3, 1) := by decide +kernel
theorem dX11_counted_27 : decode cX11_counted 27 = .ok (.iconst 0, 1) := by decide +kernel
theorem dX11_counted_28 : decode cX11_counted 28 = .ok (.aload_n 0, 1) := by decide +kernel
theorem dX11_counted_29 : decode cX11_counted 29 = .ok (.getfield 83, 3) := by decide +kernel
theorem dX11_counted_32 : decode cX11_counted 32 = .ok (.iconst 1, 1) := by decide +kernel
theorem dX11_counted_33 : decode cX11_counted 33 = .ok (.isub, 1) := by decide +kernel
theorem dX11_counted_34 : decode cX11_counted 34 = .ok (.invokestatic 115, 3) := by decide +kernel
theorem dX11_counted_37 : decode cX11_counted 37 = .ok (.ifCond .eq 15, 3) := by decide +kernel
theorem dX11_counted_52 : decode cX11_counted 52 = .ok (.iconst (-1), 1) := by decide +kernel
theorem dX11_counted_53 : decode cX11_counted 53 = .ok (.ireturn, 1) := by decide +kernel
theorem dX12_counted_0 : decode cX12_counted 0 = .ok (.aload_n 0, 1) := by decide +kernel
theorem dX12_counted_1 : decode cX12_counted 1 = .ok (.iconst 0, 1) := by decide +kernel
theorem dX12_counted_2 : decode cX12_counted 2 = .ok (.putfield 198, 3) := by decide +kernel
theorem dX12_counted_5 : decode cX12_counted 5 = .ok (.aload_n 0, 1) := by decide +kernel
theorem dX12_counted_6 : decode cX12_counted 6 = .ok (.getfield 421, 3) := by decide +kernel
theorem dX12_counted_9 : decode cX12_counted 9 = .ok (.bipush 60, 2) := by decide +kernel
theorem dX12_counted_11 : decode cX12_counted 11 = .ok (.if_icmp .eq 43, 3) := by decide +kernel
theorem dX12_counted_14 : decode cX12_counted 14 = .ok (.iload_n 1, 1) := by decide +kernel
theorem dX12_counted_15 : decode cX12_counted 15 = .ok (.invokestatic 236, 3) := by decide +kernel
theorem dX12_counted_18 : decode cX12_counted 18 = .ok (.ifCond .eq 36, 3) := by decide +kernel
theorem dX12_counted_21 : decode cX12_counted 21 = .ok (.iload_n 2, 1) := by decide +kernel
theorem dX12_counted_22 : decode cX12_counted 22 = .ok (.invokestatic 219, 3) := by decide +kernel
theorem dX12_counted_25 : decode cX12_counted 25 = .ok (.ifCond .eq 29, 3) := by decide +kernel
theorem dX12_counted_28 : decode cX12_counted 28 = .ok (.iload_n 3, 1) := by decide +kernel
theorem dX12_counted_29 : decode cX12_counted 29 = .ok (.iconst 0, 1) := by decide +kernel
theorem dX12_counted_30 : decode cX12_counted 30 = .ok (.aload_n 0, 1) := by decide +kernel
theorem dX12_counted_31 : decode cX12_counted 31 = .ok (.getfield 239, 3) := by decide +kernel
theorem dX12_counted_34 : decode cX12_counted 34 = .ok (.iconst 1, 1) := by decide +kernel
theorem dX12_counted_35 : decode cX12_counted 35 = .ok (.isub, 1) := by decide +kernel
theorem dX12_counted_36 : decode cX12_counted 36 = .ok (.invokestatic 211, 3) := by decide +kernel
theorem dX12_counted_39 : decode cX12_counted 39 = .ok (.ifCond .eq 15, 3) := by decide +kernel
theorem dX12_counted_54 : decode cX12_counted 54 = .ok (.iconst (-1), 1) := by decide +kernel
theorem dX12_counted_55 : decode cX12_counted 55 = .ok (.ireturn, 1) := by decide +kernel
theorem dX11_falseCounts_0 : decode cX11_falseCounts 0 = .ok (.aload_n 0, 1) := by decide +kernel
theorem dX11_falseCounts_1 : decode cX11_falseCounts 1 = .ok (.getfield 31, 3) := by decide +kernel
theorem dX11_falseCounts_4 : decode cX11_falseCounts 4 = .ok (.iload_n 1, 1) := by decide +kernel
theorem dX11_falseCounts_5 : decode cX11_falseCounts 5 = .ok (.aload_n 0, 1) := by decide +kernel
theorem dX11_falseCounts_6 : decode cX11_falseCounts 6 = .ok (.getfield 19, 3) := by decide +kernel
theorem dX11_falseCounts_9 : decode cX11_falseCounts 9 = .ok (.invokevirtual 286, 3) := by decide +kernel
theorem dX11_falseCounts_12 : decode cX11_falseCounts 12 = .ok (.ireturn, 1) := by decide +kernel
theorem dX4_falseAsOf_0 : decode cX4_falseAsOf 0 = .ok (.iconst 0, 1) := by decide +kernel
theorem dX4_falseAsOf_1 : decode cX4_falseAsOf 1 = .ok (.istore_n 3, 1) := by decide +kernel
theorem dX4_falseAsOf_2 : decode cX4_falseAsOf 2 = .ok (.iconst 0, 1) := by decide +kernel
theorem dX4_falseAsOf_3 : decode cX4_falseAsOf 3 = .ok (.istore 4, 2) := by decide +kernel
theorem dX4_falseAsOf_5 : decode cX4_falseAsOf 5 = .ok (.iload 4, 2) := by decide +kernel
theorem dX4_falseAsOf_7 : decode cX4_falseAsOf 7 = .ok (.aload_n 0, 1) := by decide +kernel
theorem dX4_falseAsOf_8 : decode cX4_falseAsOf 8 = .ok (.getfield 21, 3) := by decide +kernel
theorem dX4_falseAsOf_11 : decode cX4_falseAsOf 11 = .ok (.if_icmp .ge 50, 3) := by decide +kernel
theorem dX4_falseAsOf_61 : decode cX4_falseAsOf 61 = .ok (.iload_n 3, 1) := by decide +kernel
theorem dX4_falseAsOf_62 : decode cX4_falseAsOf 62 = .ok (.ireturn, 1) := by decide +kernel
theorem dX12_falseCounts_0 : decode cX12_falseCounts 0 = .ok (.aload_n 0, 1) := by decide +kernel
theorem dX12_falseCounts_1 : decode cX12_falseCounts 1 = .ok (.iconst 0, 1) := by decide +kernel
theorem dX12_falseCounts_2 : decode cX12_falseCounts 2 = .ok (.putfield 198, 3) := by decide +kernel
theorem dX12_falseCounts_5 : decode cX12_falseCounts 5 = .ok (.iconst 0, 1) := by decide +kernel
theorem dX12_falseCounts_6 : decode cX12_falseCounts 6 = .ok (.istore_n 2, 1) := by decide +kernel
theorem dX12_falseCounts_7 : decode cX12_falseCounts 7 = .ok (.iconst 0, 1) := by decide +kernel
theorem dX12_falseCounts_8 : decode cX12_falseCounts 8 = .ok (.istore_n 3, 1) := by decide +kernel
theorem dX12_falseCounts_9 : decode cX12_falseCounts 9 = .ok (.iload_n 3, 1) := by decide +kernel
theorem dX12_falseCounts_10 : decode cX12_falseCounts 10 = .ok (.aload_n 0, 1) := by decide +kernel
theorem dX12_falseCounts_11 : decode cX12_falseCounts 11 = .ok (.getfield 421, 3) := by decide +kernel
theorem dX12_falseCounts_14 : decode cX12_falseCounts 14 = .ok (.if_icmp .ge 70, 3) := by decide +kernel
theorem dX12_falseCounts_84 : decode cX12_falseCounts 84 = .ok (.iload_n 2, 1) := by decide +kernel
theorem dX12_falseCounts_85 : decode cX12_falseCounts 85 = .ok (.ireturn, 1) := by decide +kernel
theorem dX11_shortOf_0 : decode cX11_shortOf 0 = .ok (.aload_n 0, 1) := by decide +kernel
theorem dX11_shortOf_1 : decode cX11_shortOf 1 = .ok (.getfield 31, 3) := by decide +kernel
theorem dX11_shortOf_4 : decode cX11_shortOf 4 = .ok (.iload_n 1, 1) := by decide +kernel
theorem dX11_shortOf_5 : decode cX11_shortOf 5 = .ok (.aload_n 0, 1) := by decide +kernel
theorem dX11_shortOf_6 : decode cX11_shortOf 6 = .ok (.getfield 83, 3) := by decide +kernel
theorem dX11_shortOf_9 : decode cX11_shortOf 9 = .ok (.aload_n 0, 1) := by decide +kernel
theorem dX11_shortOf_10 : decode cX11_shortOf 10 = .ok (.getfield 19, 3) := by decide +kernel
theorem dX11_shortOf_13 : decode cX11_shortOf 13 = .ok (.invokevirtual 290, 3) := by decide +kernel
theorem dX11_shortOf_16 : decode cX11_shortOf 16 = .ok (.ireturn, 1) := by decide +kernel
theorem dX4_shortAsOf_0 : decode cX4_shortAsOf 0 = .ok (.iconst 0, 1) := by decide +kernel
theorem dX4_shortAsOf_1 : decode cX4_shortAsOf 1 = .ok (.istore 4, 2) := by decide +kernel
theorem dX4_shortAsOf_3 : decode cX4_shortAsOf 3 = .ok (.iconst 0, 1) := by decide +kernel
theorem dX4_shortAsOf_4 : decode cX4_shortAsOf 4 = .ok (.istore 5, 2) := by decide +kernel
theorem dX4_shortAsOf_6 : decode cX4_shortAsOf 6 = .ok (.iload 5, 2) := by decide +kernel
theorem dX4_shortAsOf_8 : decode cX4_shortAsOf 8 = .ok (.aload_n 3, 1) := by decide +kernel
theorem dX4_shortAsOf_9 : decode cX4_shortAsOf 9 = .ok (.getfield 35, 3) := by decide +kernel
theorem dX4_shortAsOf_12 : decode cX4_shortAsOf 12 = .ok (.invokevirtual 39, 3) := by decide +kernel
theorem dX4_shortAsOf_15 : decode cX4_shortAsOf 15 = .ok (.if_icmp .ge 84, 3) := by decide +kernel
theorem dX4_shortAsOf_99 : decode cX4_shortAsOf 99 = .ok (.iload 4, 2) := by decide +kernel
theorem dX4_shortAsOf_101 : decode cX4_shortAsOf 101 = .ok (.ireturn, 1) := by decide +kernel
theorem dX12_shortOf_0 : decode cX12_shortOf 0 = .ok (.aload_n 0, 1) := by decide +kernel
theorem dX12_shortOf_1 : decode cX12_shortOf 1 = .ok (.iconst 0, 1) := by decide +kernel
theorem dX12_shortOf_2 : decode cX12_shortOf 2 = .ok (.putfield 198, 3) := by decide +kernel
theorem dX12_shortOf_5 : decode cX12_shortOf 5 = .ok (.iconst 0, 1) := by decide +kernel
theorem dX12_shortOf_6 : decode cX12_shortOf 6 = .ok (.istore_n 2, 1) := by decide +kernel
theorem dX12_shortOf_7 : decode cX12_shortOf 7 = .ok (.iconst 0, 1) := by decide +kernel
theorem dX12_shortOf_8 : decode cX12_shortOf 8 = .ok (.istore_n 3, 1) := by decide +kernel
theorem dX12_shortOf_9 : decode cX12_shortOf 9 = .ok (.iload_n 3, 1) := by decide +kernel
theorem dX12_shortOf_10 : decode cX12_shortOf 10 = .ok (.aload_n 0, 1) := by decide +kernel
theorem dX12_shortOf_11 : decode cX12_shortOf 11 = .ok (.getfield 389, 3) := by decide +kernel
theorem dX12_shortOf_14 : decode cX12_shortOf 14 = .ok (.if_icmp .ge 112, 3) := by decide +kernel
theorem dX12_shortOf_126 : decode cX12_shortOf 126 = .ok (.iload_n 2, 1) := by decide +kernel
theorem dX12_shortOf_127 : decode cX12_shortOf 127 = .ok (.ireturn, 1) := by decide +kernel
theorem dX11_best_0 : decode cX11_best 0 = .ok (.iconst (-1), 1) := by decide +kernel
theorem dX11_best_1 : decode cX11_best 1 = .ok (.istore 6, 2) := by decide +kernel
theorem dX11_best_3 : decode cX11_best 3 = .ok (.iload_n 1, 1) := by decide +kernel
theorem dX11_best_4 : decode cX11_best 4 = .ok (.invokestatic 142, 3) := by decide +kernel
theorem dX11_best_7 : decode cX11_best 7 = .ok (.ifCond .eq 99, 3) := by decide +kernel
theorem dX11_best_10 : decode cX11_best 10 = .ok (.iload_n 2, 1) := by decide +kernel
theorem dX11_best_11 : decode cX11_best 11 = .ok (.invokestatic 165, 3) := by decide +kernel
theorem dX11_best_14 : decode cX11_best 14 = .ok (.ifCond .eq 92, 3) := by decide +kernel
theorem dX11_best_17 : decode cX11_best 17 = .ok (.iload_n 3, 1) := by decide +kernel
theorem dX11_best_18 : decode cX11_best 18 = .ok (.iconst 0, 1) := by decide +kernel
theorem dX11_best_19 : decode cX11_best 19 = .ok (.sipush 1000, 3) := by decide +kernel
theorem dX11_best_22 : decode cX11_best 22 = .ok (.invokestatic 115, 3) := by decide +kernel
theorem dX11_best_25 : decode cX11_best 25 = .ok (.ifCond .eq 81, 3) := by decide +kernel
theorem dX11_best_28 : decode cX11_best 28 = .ok (.iload 4, 2) := by decide +kernel
theorem dX11_best_30 : decode cX11_best 30 = .ok (.iconst 0, 1) := by decide +kernel
theorem dX11_best_31 : decode cX11_best 31 = .ok (.sipush 1000, 3) := by decide +kernel
theorem dX11_best_34 : decode cX11_best 34 = .ok (.invokestatic 115, 3) := by decide +kernel
theorem dX11_best_37 : decode cX11_best 37 = .ok (.ifCond .eq 69, 3) := by decide +kernel
theorem dX11_best_40 : decode cX11_best 40 = .ok (.iload 5, 2) := by decide +kernel
theorem dX11_best_42 : decode cX11_best 42 = .ok (.iconst 0, 1) := by decide +kernel
theorem dX11_best_43 : decode cX11_best 43 = .ok (.bipush 100, 2) := by decide +kernel
theorem dX11_best_45 : decode cX11_best 45 = .ok (.invokestatic 115, 3) := by decide +kernel
theorem dX11_best_48 : decode cX11_best 48 = .ok (.ifCond .eq 58, 3) := by decide +kernel
theorem dX11_best_51 : decode cX11_best 51 = .ok (.aload_n 0, 1) := by decide +kernel
theorem dX11_best_52 : decode cX11_best 52 = .ok (.getfield 10, 3) := by decide +kernel
theorem dX11_best_55 : decode cX11_best 55 = .ok (.getfield 102, 3) := by decide +kernel
theorem dX11_best_58 : decode cX11_best 58 = .ok (.bipush 10, 2) := by decide +kernel
theorem dX11_best_60 : decode cX11_best 60 = .ok (.if_icmp .ne 46, 3) := by decide +kernel
theorem dX11_best_106 : decode cX11_best 106 = .ok (.aload_n 0, 1) := by decide +kernel
theorem dX11_best_107 : decode cX11_best 107 = .ok (.getfield 10, 3) := by decide +kernel
theorem dX11_best_110 : decode cX11_best 110 = .ok (.iconst 0, 1) := by decide +kernel
theorem dX11_best_111 : decode cX11_best 111 = .ok (.putfield 102, 3) := by decide +kernel
theorem dX11_best_114 : decode cX11_best 114 = .ok (.iload 6, 2) := by decide +kernel
theorem dX11_best_116 : decode cX11_best 116 = .ok (.ireturn, 1) := by decide +kernel
theorem dX12_best_0 : decode cX12_best 0 = .ok (.aload_n 0, 1) := by decide +kernel
theorem dX12_best_1 : decode cX12_best 1 = .ok (.iconst 0, 1) := by decide +kernel
theorem dX12_best_2 : decode cX12_best 2 = .ok (.putfield 198, 3) := by decide +kernel
theorem dX12_best_5 : decode cX12_best 5 = .ok (.aload_n 0, 1) := by decide +kernel
theorem dX12_best_6 : decode cX12_best 6 = .ok (.invokevirtual 222, 3) := by decide +kernel
theorem dX12_best_9 : decode cX12_best 9 = .ok (.istore 6, 2) := by decide +kernel
theorem dX12_best_11 : decode cX12_best 11 = .ok (.iload 6, 2) := by decide +kernel
theorem dX12_best_13 : decode cX12_best 13 = .ok (.bipush 10, 2) := by decide +kernel
theorem dX12_best_15 : decode cX12_best 15 = .ok (.if_icmp .ne 51, 3) := by decide +kernel
theorem dX12_best_66 : decode cX12_best 66 = .ok (.iconst (-1), 1) := by decide +kernel
theorem dX12_best_67 : decode cX12_best 67 = .ok (.ireturn, 1) := by decide +kernel
theorem dX11_expected_0 : decode cX11_expected 0 = .ok (.aload_n 0, 1) := by decide +kernel
theorem dX11_expected_1 : decode cX11_expected 1 = .ok (.getfield 62, 3) := by decide +kernel
theorem dX11_expected_4 : decode cX11_expected 4 = .ok (.getfield 303, 3) := by decide +kernel
theorem dX11_expected_7 : decode cX11_expected 7 = .ok (.lreturn, 1) := by decide +kernel
theorem dX12_expected_0 : decode cX12_expected 0 = .ok (.aload_n 0, 1) := by decide +kernel
theorem dX12_expected_1 : decode cX12_expected 1 = .ok (.iconst 0, 1) := by decide +kernel
theorem dX12_expected_2 : decode cX12_expected 2 = .ok (.putfield 198, 3) := by decide +kernel
theorem dX12_expected_5 : decode cX12_expected 5 = .ok (.aload_n 0, 1) := by decide +kernel
theorem dX12_expected_6 : decode cX12_expected 6 = .ok (.getfield 434, 3) := by decide +kernel
theorem dX12_expected_9 : decode cX12_expected 9 = .ok (.lreturn, 1) := by decide +kernel
theorem dX11_tried_0 : decode cX11_tried 0 = .ok (.aload_n 0, 1) := by decide +kernel
theorem dX11_tried_1 : decode cX11_tried 1 = .ok (.getfield 52, 3) := by decide +kernel
theorem dX11_tried_4 : decode cX11_tried 4 = .ok (.aload_n 0, 1) := by decide +kernel
theorem dX11_tried_5 : decode cX11_tried 5 = .ok (.getfield 10, 3) := by decide +kernel
theorem dX11_tried_8 : decode cX11_tried 8 = .ok (.aload_n 0, 1) := by decide +kernel
theorem dX11_tried_9 : decode cX11_tried 9 = .ok (.getfield 56, 3) := by decide +kernel
theorem dX11_tried_12 : decode cX11_tried 12 = .ok (.invokevirtual 193, 3) := by decide +kernel
theorem dX11_tried_15 : decode cX11_tried 15 = .ok (.aload_n 0, 1) := by decide +kernel
theorem dX11_tried_16 : decode cX11_tried 16 = .ok (.aload_n 0, 1) := by decide +kernel
theorem dX11_tried_17 : decode cX11_tried 17 = .ok (.getfield 52, 3) := by decide +kernel
theorem dX11_tried_20 : decode cX11_tried 20 = .ok (.getfield 197, 3) := by decide +kernel
theorem dX11_tried_23 : decode cX11_tried 23 = .ok (.putfield 87, 3) := by decide +kernel
theorem dX11_tried_26 : decode cX11_tried 26 = .ok (.aload_n 0, 1) := by decide +kernel
theorem dX11_tried_27 : decode cX11_tried 27 = .ok (.getfield 10, 3) := by decide +kernel
theorem dX11_tried_30 : decode cX11_tried 30 = .ok (.iconst 0, 1) := by decide +kernel
theorem dX11_tried_31 : decode cX11_tried 31 = .ok (.putfield 102, 3) := by decide +kernel
theorem dX11_tried_34 : decode cX11_tried 34 = .ok (.aload_n 0, 1) := by decide +kernel
theorem dX11_tried_35 : decode cX11_tried 35 = .ok (.getfield 87, 3) := by decide +kernel
theorem dX11_tried_38 : decode cX11_tried 38 = .ok (.ifCond .eq 15, 3) := by decide +kernel
theorem dX11_tried_53 : decode cX11_tried 53 = .ok (.aload_n 0, 1) := by decide +kernel
theorem dX11_tried_54 : decode cX11_tried 54 = .ok (.getfield 19, 3) := by decide +kernel
theorem dX11_tried_57 : decode cX11_tried 57 = .ok (.aload_n 0, 1) := by decide +kernel
theorem dX11_tried_58 : decode cX11_tried 58 = .ok (.getfield 83, 3) := by decide +kernel
theorem dX11_tried_61 : decode cX11_tried 61 = .ok (.aload_n 0, 1) := by decide +kernel
theorem dX11_tried_62 : decode cX11_tried 62 = .ok (.getfield 56, 3) := by decide +kernel
theorem dX11_tried_65 : decode cX11_tried 65 = .ok (.invokevirtual 308, 3) := by decide +kernel
theorem dX11_tried_68 : decode cX11_tried 68 = .ok (.aload_n 0, 1) := by decide +kernel
theorem dX11_tried_69 : decode cX11_tried 69 = .ok (.aload_n 0, 1) := by decide +kernel
theorem dX11_tried_70 : decode cX11_tried 70 = .ok (.getfield 19, 3) := by decide +kernel
theorem dX11_tried_73 : decode cX11_tried 73 = .ok (.getfield 312, 3) := by decide +kernel
theorem dX11_tried_76 : decode cX11_tried 76 = .ok (.putfield 93, 3) := by decide +kernel
theorem dX11_tried_79 : decode cX11_tried 79 = .ok (.aload_n 0, 1) := by decide +kernel
theorem dX11_tried_80 : decode cX11_tried 80 = .ok (.getfield 19, 3) := by decide +kernel
theorem dX11_tried_83 : decode cX11_tried 83 = .ok (.getfield 315, 3) := by decide +kernel
theorem dX11_tried_86 : decode cX11_tried 86 = .ok (.ireturn, 1) := by decide +kernel
theorem dX5_cryClosed_0 : decode cX5_cryClosed 0 = .ok (.aload_n 0, 1) := by decide +kernel
theorem dX5_cryClosed_1 : decode cX5_cryClosed 1 = .ok (.invokevirtual 116, 3) := by decide +kernel
theorem dX5_cryClosed_4 : decode cX5_cryClosed 4 = .ok (.iconst 0, 1) := by decide +kernel
theorem dX5_cryClosed_5 : decode cX5_cryClosed 5 = .ok (.istore_n 3, 1) := by decide +kernel
theorem dX5_cryClosed_6 : decode cX5_cryClosed 6 = .ok (.iload_n 3, 1) := by decide +kernel
theorem dX5_cryClosed_7 : decode cX5_cryClosed 7 = .ok (.aload_n 0, 1) := by decide +kernel
theorem dX5_cryClosed_8 : decode cX5_cryClosed 8 = .ok (.getfield 25, 3) := by decide +kernel
theorem dX5_cryClosed_11 : decode cX5_cryClosed 11 = .ok (.invokevirtual 45, 3) := by decide +kernel
theorem dX5_cryClosed_14 : decode cX5_cryClosed 14 = .ok (.if_icmp .ge 64, 3) := by decide +kernel
theorem dX5_cryClosed_78 : decode cX5_cryClosed 78 = .ok (.return_, 1) := by decide +kernel
theorem dX12_tried_0 : decode cX12_tried 0 = .ok (.aload_n 0, 1) := by decide +kernel
theorem dX12_tried_1 : decode cX12_tried 1 = .ok (.iconst 0, 1) := by decide +kernel
theorem dX12_tried_2 : decode cX12_tried 2 = .ok (.putfield 198, 3) := by decide +kernel
theorem dX12_tried_5 : decode cX12_tried 5 = .ok (.aload_n 0, 1) := by decide +kernel
theorem dX12_tried_6 : decode cX12_tried 6 = .ok (.aload_n 0, 1) := by decide +kernel
theorem dX12_tried_7 : decode cX12_tried 7 = .ok (.invokevirtual 222, 3) := by decide +kernel
theorem dX12_tried_10 : decode cX12_tried 10 = .ok (.invokevirtual 376, 3) := by decide +kernel
theorem dX12_tried_13 : decode cX12_tried 13 = .ok (.ifCond .ne 12, 3) := by decide +kernel
theorem dX12_tried_25 : decode cX12_tried 25 = .ok (.iconst 0, 1) := by decide +kernel
theorem dX12_tried_26 : decode cX12_tried 26 = .ok (.istore_n 1, 1) := by decide +kernel
theorem dX12_tried_27 : decode cX12_tried 27 = .ok (.iconst 0, 1) := by decide +kernel
theorem dX12_tried_28 : decode cX12_tried 28 = .ok (.istore_n 2, 1) := by decide +kernel
theorem dX12_tried_29 : decode cX12_tried 29 = .ok (.iconst 0, 1) := by decide +kernel
theorem dX12_tried_30 : decode cX12_tried 30 = .ok (.istore_n 3, 1) := by decide +kernel
theorem dX12_tried_31 : decode cX12_tried 31 = .ok (.iload_n 3, 1) := by decide +kernel
theorem dX12_tried_32 : decode cX12_tried 32 = .ok (.aload_n 0, 1) := by decide +kernel
theorem dX12_tried_33 : decode cX12_tried 33 = .ok (.getfield 239, 3) := by decide +kernel
theorem dX12_tried_36 : decode cX12_tried 36 = .ok (.if_icmp .ge 114, 3) := by decide +kernel
theorem dX12_tried_150 : decode cX12_tried 150 = .ok (.aload_n 0, 1) := by decide +kernel
theorem dX12_tried_151 : decode cX12_tried 151 = .ok (.iload_n 2, 1) := by decide +kernel
theorem dX12_tried_152 : decode cX12_tried 152 = .ok (.putfield 150, 3) := by decide +kernel
theorem dX12_tried_155 : decode cX12_tried 155 = .ok (.iload_n 1, 1) := by decide +kernel
theorem dX12_tried_156 : decode cX12_tried 156 = .ok (.ireturn, 1) := by decide +kernel
theorem dX11_triedEaten_0 : decode cX11_triedEaten 0 = .ok (.aload_n 0, 1) := by decide +kernel
theorem dX11_triedEaten_1 : decode cX11_triedEaten 1 = .ok (.getfield 93, 3) := by decide +kernel
theorem dX11_triedEaten_4 : decode cX11_triedEaten 4 = .ok (.ireturn, 1) := by decide +kernel
theorem dX12_triedEaten_0 : decode cX12_triedEaten 0 = .ok (.aload_n 0, 1) := by decide +kernel
theorem dX12_triedEaten_1 : decode cX12_triedEaten 1 = .ok (.iconst 0, 1) := by decide +kernel
theorem dX12_triedEaten_2 : decode cX12_triedEaten 2 = .ok (.putfield 198, 3) := by decide +kernel
theorem dX12_triedEaten_5 : decode cX12_triedEaten 5 = .ok (.aload_n 0, 1) := by decide +kernel
theorem dX12_triedEaten_6 : decode cX12_triedEaten 6 = .ok (.getfield 150, 3) := by decide +kernel
theorem dX12_triedEaten_9 : decode cX12_triedEaten 9 = .ok (.ireturn, 1) := by decide +kernel
theorem dX11_parted_0 : decode cX11_parted 0 = .ok (.iconst (-1), 1) := by decide +kernel
theorem dX11_parted_1 : decode cX11_parted 1 = .ok (.istore 4, 2) := by decide +kernel
theorem dX11_parted_3 : decode cX11_parted 3 = .ok (.iload_n 1, 1) := by decide +kernel
theorem dX11_parted_4 : decode cX11_parted 4 = .ok (.iconst 1, 1) := by decide +kernel
theorem dX11_parted_5 : decode cX11_parted 5 = .ok (.bipush 8, 2) := by decide +kernel
theorem dX11_parted_7 : decode cX11_parted 7 = .ok (.invokestatic 115, 3) := by decide +kernel
theorem dX11_parted_10 : decode cX11_parted 10 = .ok (.ifCond .eq 68, 3) := by decide +kernel
theorem dX11_parted_13 : decode cX11_parted 13 = .ok (.aload_n 0, 1) := by decide +kernel
theorem dX11_parted_14 : decode cX11_parted 14 = .ok (.getfield 10, 3) := by decide +kernel
theorem dX11_parted_17 : decode cX11_parted 17 = .ok (.getfield 102, 3) := by decide +kernel
theorem dX11_parted_20 : decode cX11_parted 20 = .ok (.iconst 2, 1) := by decide +kernel
theorem dX11_parted_21 : decode cX11_parted 21 = .ok (.iload_n 1, 1) := by decide +kernel
theorem dX11_parted_22 : decode cX11_parted 22 = .ok (.imul, 1) := by decide +kernel
theorem dX11_parted_23 : decode cX11_parted 23 = .ok (.iload_n 1, 1) := by decide +kernel
theorem dX11_parted_24 : decode cX11_parted 24 = .ok (.imul, 1) := by decide +kernel
theorem dX11_parted_25 : decode cX11_parted 25 = .ok (.if_icmp .ne 53, 3) := by decide +kernel
theorem dX11_parted_78 : decode cX11_parted 78 = .ok (.iload 4, 2) := by decide +kernel
theorem dX11_parted_80 : decode cX11_parted 80 = .ok (.iconst (-1), 1) := by decide +kernel
theorem dX11_parted_81 : decode cX11_parted 81 = .ok (.if_icmp .eq 23, 3) := by decide +kernel
theorem dX11_parted_104 : decode cX11_parted 104 = .ok (.aload_n 0, 1) := by decide +kernel
theorem dX11_parted_105 : decode cX11_parted 105 = .ok (.getfield 10, 3) := by decide +kernel
theorem dX11_parted_108 : decode cX11_parted 108 = .ok (.iconst 0, 1) := by decide +kernel
theorem dX11_parted_109 : decode cX11_parted 109 = .ok (.putfield 102, 3) := by decide +kernel
theorem dX11_parted_112 : decode cX11_parted 112 = .ok (.iload 4, 2) := by decide +kernel
theorem dX11_parted_114 : decode cX11_parted 114 = .ok (.ireturn, 1) := by decide +kernel
theorem dX12_parted_0 : decode cX12_parted 0 = .ok (.aload_n 0, 1) := by decide +kernel
theorem dX12_parted_1 : decode cX12_parted 1 = .ok (.iconst 0, 1) := by decide +kernel
theorem dX12_parted_2 : decode cX12_parted 2 = .ok (.putfield 198, 3) := by decide +kernel
theorem dX12_parted_5 : decode cX12_parted 5 = .ok (.aload_n 0, 1) := by decide +kernel
theorem dX12_parted_6 : decode cX12_parted 6 = .ok (.invokevirtual 222, 3) := by decide +kernel
theorem dX12_parted_9 : decode cX12_parted 9 = .ok (.istore 4, 2) := by decide +kernel
theorem dX12_parted_11 : decode cX12_parted 11 = .ok (.iload_n 1, 1) := by decide +kernel
theorem dX12_parted_12 : decode cX12_parted 12 = .ok (.iconst 1, 1) := by decide +kernel
theorem dX12_parted_13 : decode cX12_parted 13 = .ok (.bipush 8, 2) := by decide +kernel
theorem dX12_parted_15 : decode cX12_parted 15 = .ok (.invokestatic 211, 3) := by decide +kernel
theorem dX12_parted_18 : decode cX12_parted 18 = .ok (.ifCond .eq 38, 3) := by decide +kernel
theorem dX12_parted_21 : decode cX12_parted 21 = .ok (.iload 4, 2) := by decide +kernel
theorem dX12_parted_23 : decode cX12_parted 23 = .ok (.iconst 2, 1) := by decide +kernel
theorem dX12_parted_24 : decode cX12_parted 24 = .ok (.iload_n 1, 1) := by decide +kernel
theorem dX12_parted_25 : decode cX12_parted 25 = .ok (.imul, 1) := by decide +kernel
theorem dX12_parted_26 : decode cX12_parted 26 = .ok (.iload_n 1, 1) := by decide +kernel
theorem dX12_parted_27 : decode cX12_parted 27 = .ok (.imul, 1) := by decide +kernel
theorem dX12_parted_28 : decode cX12_parted 28 = .ok (.if_icmp .ne 28, 3) := by decide +kernel
theorem dX12_parted_56 : decode cX12_parted 56 = .ok (.iconst (-1), 1) := by decide +kernel
theorem dX12_parted_57 : decode cX12_parted 57 = .ok (.ireturn, 1) := by decide +kernel
theorem dX11_partedAt_0 : decode cX11_partedAt 0 = .ok (.iload_n 1, 1) := by decide +kernel
theorem dX11_partedAt_1 : decode cX11_partedAt 1 = .ok (.iconst 0, 1) := by decide +kernel
theorem dX11_partedAt_2 : decode cX11_partedAt 2 = .ok (.aload_n 0, 1) := by decide +kernel
theorem dX11_partedAt_3 : decode cX11_partedAt 3 = .ok (.getfield 76, 3) := by decide +kernel
theorem dX11_partedAt_6 : decode cX11_partedAt 6 = .ok (.getfield 330, 3) := by decide +kernel
theorem dX11_partedAt_9 : decode cX11_partedAt 9 = .ok (.iconst 1, 1) := by decide +kernel
theorem dX11_partedAt_10 : decode cX11_partedAt 10 = .ok (.isub, 1) := by decide +kernel
theorem dX11_partedAt_11 : decode cX11_partedAt 11 = .ok (.invokestatic 115, 3) := by decide +kernel
theorem dX11_partedAt_14 : decode cX11_partedAt 14 = .ok (.ifCond .eq 15, 3) := by decide +kernel
theorem dX11_partedAt_29 : decode cX11_partedAt 29 = .ok (.iconst (-1), 1) := by decide +kernel
theorem dX11_partedAt_30 : decode cX11_partedAt 30 = .ok (.ireturn, 1) := by decide +kernel
theorem dX12_partedAt_0 : decode cX12_partedAt 0 = .ok (.aload_n 0, 1) := by decide +kernel
theorem dX12_partedAt_1 : decode cX12_partedAt 1 = .ok (.iconst 0, 1) := by decide +kernel
theorem dX12_partedAt_2 : decode cX12_partedAt 2 = .ok (.putfield 198, 3) := by decide +kernel
theorem dX12_partedAt_5 : decode cX12_partedAt 5 = .ok (.aload_n 0, 1) := by decide +kernel
theorem dX12_partedAt_6 : decode cX12_partedAt 6 = .ok (.getfield 462, 3) := by decide +kernel
theorem dX12_partedAt_9 : decode cX12_partedAt 9 = .ok (.ifCond .eq 24, 3) := by decide +kernel
theorem dX12_partedAt_33 : decode cX12_partedAt 33 = .ok (.iconst (-1), 1) := by decide +kernel
theorem dX12_partedAt_34 : decode cX12_partedAt 34 = .ok (.ireturn, 1) := by decide +kernel
theorem dX11_peace_0 : decode cX11_peace 0 = .ok (.aload_n 0, 1) := by decide +kernel
theorem dX11_peace_1 : decode cX11_peace 1 = .ok (.getfield 76, 3) := by decide +kernel
theorem dX11_peace_4 : decode cX11_peace 4 = .ok (.getfield 330, 3) := by decide +kernel
theorem dX11_peace_7 : decode cX11_peace 7 = .ok (.ifCond .eq 10, 3) := by decide +kernel
theorem dX11_peace_17 : decode cX11_peace 17 = .ok (.iconst (-1), 1) := by decide +kernel
theorem dX11_peace_18 : decode cX11_peace 18 = .ok (.ireturn, 1) := by decide +kernel
theorem dX12_peace_0 : decode cX12_peace 0 = .ok (.aload_n 0, 1) := by decide +kernel
theorem dX12_peace_1 : decode cX12_peace 1 = .ok (.iconst 0, 1) := by decide +kernel
theorem dX12_peace_2 : decode cX12_peace 2 = .ok (.putfield 198, 3) := by decide +kernel
theorem dX12_peace_5 : decode cX12_peace 5 = .ok (.aload_n 0, 1) := by decide +kernel
theorem dX12_peace_6 : decode cX12_peace 6 = .ok (.getfield 462, 3) := by decide +kernel
theorem dX12_peace_9 : decode cX12_peace 9 = .ok (.ifCond .eq 14, 3) := by decide +kernel
theorem dX12_peace_23 : decode cX12_peace 23 = .ok (.iconst (-1), 1) := by decide +kernel
theorem dX12_peace_24 : decode cX12_peace 24 = .ok (.ireturn, 1) := by decide +kernel
theorem dX11_truck_0 : decode cX11_truck 0 = .ok (.aload_n 0, 1) := by decide +kernel
theorem dX11_truck_1 : decode cX11_truck 1 = .ok (.getfield 10, 3) := by decide +kernel
theorem dX11_truck_4 : decode cX11_truck 4 = .ok (.getfield 102, 3) := by decide +kernel
theorem dX11_truck_7 : decode cX11_truck 7 = .ok (.bipush 20, 2) := by decide +kernel
theorem dX11_truck_9 : decode cX11_truck 9 = .ok (.if_icmp .ne 21, 3) := by decide +kernel
theorem dX11_truck_30 : decode cX11_truck 30 = .ok (.iconst (-1), 1) := by decide +kernel
theorem dX11_truck_31 : decode cX11_truck 31 = .ok (.istore_n 1, 1) := by decide +kernel
theorem dX11_truck_32 : decode cX11_truck 32 = .ok (.aload_n 0, 1) := by decide +kernel
theorem dX11_truck_33 : decode cX11_truck 33 = .ok (.getfield 10, 3) := by decide +kernel
theorem dX11_truck_36 : decode cX11_truck 36 = .ok (.iconst 0, 1) := by decide +kernel
theorem dX11_truck_37 : decode cX11_truck 37 = .ok (.putfield 102, 3) := by decide +kernel
theorem dX11_truck_40 : decode cX11_truck 40 = .ok (.iload_n 1, 1) := by decide +kernel
theorem dX11_truck_41 : decode cX11_truck 41 = .ok (.ireturn, 1) := by decide +kernel
theorem dX12_truck_0 : decode cX12_truck 0 = .ok (.aload_n 0, 1) := by decide +kernel
theorem dX12_truck_1 : decode cX12_truck 1 = .ok (.iconst 0, 1) := by decide +kernel
theorem dX12_truck_2 : decode cX12_truck 2 = .ok (.putfield 198, 3) := by decide +kernel
theorem dX12_truck_5 : decode cX12_truck 5 = .ok (.aload_n 0, 1) := by decide +kernel
theorem dX12_truck_6 : decode cX12_truck 6 = .ok (.invokevirtual 222, 3) := by decide +kernel
theorem dX12_truck_9 : decode cX12_truck 9 = .ok (.bipush 20, 2) := by decide +kernel
theorem dX12_truck_11 : decode cX12_truck 11 = .ok (.if_icmp .eq 5, 3) := by decide +kernel
theorem dX12_truck_14 : decode cX12_truck 14 = .ok (.iconst (-1), 1) := by decide +kernel
theorem dX12_truck_15 : decode cX12_truck 15 = .ok (.ireturn, 1) := by decide +kernel
theorem dX11_truckAt_0 : decode cX11_truckAt 0 = .ok (.iload_n 1, 1) := by decide +kernel
theorem dX11_truckAt_1 : decode cX11_truckAt 1 = .ok (.iconst 0, 1) := by decide +kernel
theorem dX11_truckAt_2 : decode cX11_truckAt 2 = .ok (.aload_n 0, 1) := by decide +kernel
theorem dX11_truckAt_3 : decode cX11_truckAt 3 = .ok (.getfield 69, 3) := by decide +kernel
theorem dX11_truckAt_6 : decode cX11_truckAt 6 = .ok (.getfield 343, 3) := by decide +kernel
theorem dX11_truckAt_9 : decode cX11_truckAt 9 = .ok (.iconst 1, 1) := by decide +kernel
theorem dX11_truckAt_10 : decode cX11_truckAt 10 = .ok (.isub, 1) := by decide +kernel
theorem dX11_truckAt_11 : decode cX11_truckAt 11 = .ok (.invokestatic 115, 3) := by decide +kernel
theorem dX11_truckAt_14 : decode cX11_truckAt 14 = .ok (.ifCond .eq 15, 3) := by decide +kernel
theorem dX11_truckAt_29 : decode cX11_truckAt 29 = .ok (.iconst (-1), 1) := by decide +kernel
theorem dX11_truckAt_30 : decode cX11_truckAt 30 = .ok (.ireturn, 1) := by decide +kernel
theorem dX12_truckAt_0 : decode cX12_truckAt 0 = .ok (.aload_n 0, 1) := by decide +kernel
theorem dX12_truckAt_1 : decode cX12_truckAt 1 = .ok (.iconst 0, 1) := by decide +kernel
theorem dX12_truckAt_2 : decode cX12_truckAt 2 = .ok (.putfield 198, 3) := by decide +kernel
theorem dX12_truckAt_5 : decode cX12_truckAt 5 = .ok (.aload_n 0, 1) := by decide +kernel
theorem dX12_truckAt_6 : decode cX12_truckAt 6 = .ok (.getfield 477, 3) := by decide +kernel
theorem dX12_truckAt_9 : decode cX12_truckAt 9 = .ok (.ifCond .eq 24, 3) := by decide +kernel
theorem dX12_truckAt_33 : decode cX12_truckAt 33 = .ok (.iconst (-1), 1) := by decide +kernel
theorem dX12_truckAt_34 : decode cX12_truckAt 34 = .ok (.ireturn, 1) := by decide +kernel
theorem dX11_strike_0 : decode cX11_strike 0 = .ok (.iconst (-1), 1) := by decide +kernel
theorem dX11_strike_1 : decode cX11_strike 1 = .ok (.istore 6, 2) := by decide +kernel
theorem dX11_strike_3 : decode cX11_strike 3 = .ok (.iload_n 1, 1) := by decide +kernel
theorem dX11_strike_4 : decode cX11_strike 4 = .ok (.invokestatic 349, 3) := by decide +kernel
theorem dX11_strike_7 : decode cX11_strike 7 = .ok (.ifCond .eq 76, 3) := by decide +kernel
theorem dX11_strike_10 : decode cX11_strike 10 = .ok (.iload_n 2, 1) := by decide +kernel
theorem dX11_strike_11 : decode cX11_strike 11 = .ok (.invokestatic 349, 3) := by decide +kernel
theorem dX11_strike_14 : decode cX11_strike 14 = .ok (.ifCond .eq 69, 3) := by decide +kernel
theorem dX11_strike_17 : decode cX11_strike 17 = .ok (.iload_n 3, 1) := by decide +kernel
theorem dX11_strike_18 : decode cX11_strike 18 = .ok (.invokestatic 349, 3) := by decide +kernel
theorem dX11_strike_21 : decode cX11_strike 21 = .ok (.ifCond .eq 62, 3) := by decide +kernel
theorem dX11_strike_24 : decode cX11_strike 24 = .ok (.iload 4, 2) := by decide +kernel
theorem dX11_strike_26 : decode cX11_strike 26 = .ok (.invokestatic 349, 3) := by decide +kernel
theorem dX11_strike_29 : decode cX11_strike 29 = .ok (.ifCond .eq 54, 3) := by decide +kernel
theorem dX11_strike_32 : decode cX11_strike 32 = .ok (.iload 5, 2) := by decide +kernel
theorem dX11_strike_34 : decode cX11_strike 34 = .ok (.invokestatic 349, 3) := by decide +kernel
theorem dX11_strike_37 : decode cX11_strike 37 = .ok (.ifCond .eq 46, 3) := by decide +kernel
theorem dX11_strike_40 : decode cX11_strike 40 = .ok (.aload_n 0, 1) := by decide +kernel
theorem dX11_strike_41 : decode cX11_strike 41 = .ok (.getfield 10, 3) := by decide +kernel
theorem dX11_strike_44 : decode cX11_strike 44 = .ok (.getfield 102, 3) := by decide +kernel
theorem dX11_strike_47 : decode cX11_strike 47 = .ok (.iconst 2, 1) := by decide +kernel
theorem dX11_strike_48 : decode cX11_strike 48 = .ok (.irem, 1) := by decide +kernel
theorem dX11_strike_49 : decode cX11_strike 49 = .ok (.ifCond .ne 34, 3) := by decide +kernel
theorem dX11_strike_52 : decode cX11_strike 52 = .ok (.aload_n 0, 1) := by decide +kernel
theorem dX11_strike_53 : decode cX11_strike 53 = .ok (.getfield 10, 3) := by decide +kernel
theorem dX11_strike_56 : decode cX11_strike 56 = .ok (.getfield 102, 3) := by decide +kernel
theorem dX11_strike_59 : decode cX11_strike 59 = .ok (.iconst 2, 1) := by decide +kernel
theorem dX11_strike_60 : decode cX11_strike 60 = .ok (.idiv, 1) := by decide +kernel
theorem dX11_strike_61 : decode cX11_strike 61 = .ok (.iconst 1, 1) := by decide +kernel
theorem dX11_strike_62 : decode cX11_strike 62 = .ok (.bipush 50, 2) := by decide +kernel
theorem dX11_strike_64 : decode cX11_strike 64 = .ok (.invokestatic 115, 3) := by decide +kernel
theorem dX11_strike_67 : decode cX11_strike 67 = .ok (.ifCond .eq 16, 3) := by decide +kernel
theorem dX11_strike_83 : decode cX11_strike 83 = .ok (.aload_n 0, 1) := by decide +kernel
theorem dX11_strike_84 : decode cX11_strike 84 = .ok (.getfield 10, 3) := by decide +kernel
theorem dX11_strike_87 : decode cX11_strike 87 = .ok (.iconst 0, 1) := by decide +kernel
theorem dX11_strike_88 : decode cX11_strike 88 = .ok (.putfield 102, 3) := by decide +kernel
theorem dX11_strike_91 : decode cX11_strike 91 = .ok (.iload 6, 2) := by decide +kernel
theorem dX11_strike_93 : decode cX11_strike 93 = .ok (.ireturn, 1) := by decide +kernel
theorem dX11_isOfStrike_0 : decode cX11_isOfStrike 0 = .ok (.iload_n 0, 1) := by decide +kernel
theorem dX11_isOfStrike_1 : decode cX11_isOfStrike 1 = .ok (.iconst 0, 1) := by decide +kernel
theorem dX11_isOfStrike_2 : decode cX11_isOfStrike 2 = .ok (.ldc_w 368, 3) := by decide +kernel
theorem dX11_isOfStrike_5 : decode cX11_isOfStrike 5 = .ok (.invokestatic 115, 3) := by decide +kernel
theorem dX11_isOfStrike_8 : decode cX11_isOfStrike 8 = .ok (.ireturn, 1) := by decide +kernel
theorem dX12_strike_0 : decode cX12_strike 0 = .ok (.aload_n 0, 1) := by decide +kernel
theorem dX12_strike_1 : decode cX12_strike 1 = .ok (.iconst 0, 1) := by decide +kernel
theorem dX12_strike_2 : decode cX12_strike 2 = .ok (.putfield 198, 3) := by decide +kernel
theorem dX12_strike_5 : decode cX12_strike 5 = .ok (.aload_n 0, 1) := by decide +kernel
theorem dX12_strike_6 : decode cX12_strike 6 = .ok (.invokevirtual 222, 3) := by decide +kernel
theorem dX12_strike_9 : decode cX12_strike 9 = .ok (.istore 6, 2) := by decide +kernel
theorem dX12_strike_11 : decode cX12_strike 11 = .ok (.iload 6, 2) := by decide +kernel
theorem dX12_strike_13 : decode cX12_strike 13 = .ok (.iconst 2, 1) := by decide +kernel
theorem dX12_strike_14 : decode cX12_strike 14 = .ok (.irem, 1) := by decide +kernel
theorem dX12_strike_15 : decode cX12_strike 15 = .ok (.ifCond .ne 53, 3) := by decide +kernel
theorem dX12_strike_18 : decode cX12_strike 18 = .ok (.iload 6, 2) := by decide +kernel
theorem dX12_strike_20 : decode cX12_strike 20 = .ok (.iconst 2, 1) := by decide +kernel
theorem dX12_strike_21 : decode cX12_strike 21 = .ok (.idiv, 1) := by decide +kernel
theorem dX12_strike_22 : decode cX12_strike 22 = .ok (.iconst 1, 1) := by decide +kernel
theorem dX12_strike_23 : decode cX12_strike 23 = .ok (.bipush 50, 2) := by decide +kernel
theorem dX12_strike_25 : decode cX12_strike 25 = .ok (.invokestatic 211, 3) := by decide +kernel
theorem dX12_strike_28 : decode cX12_strike 28 = .ok (.ifCond .eq 40, 3) := by decide +kernel
theorem dX12_strike_68 : decode cX12_strike 68 = .ok (.iconst (-1), 1) := by decide +kernel
theorem dX12_strike_69 : decode cX12_strike 69 = .ok (.ireturn, 1) := by decide +kernel
theorem dX11_struck_0 : decode cX11_struck 0 = .ok (.iload_n 1, 1) := by decide +kernel
theorem dX11_struck_1 : decode cX11_struck 1 = .ok (.ifCond .ne 8, 3) := by decide +kernel
theorem dX11_struck_4 : decode cX11_struck 4 = .ok (.aload_n 0, 1) := by decide +kernel
theorem dX11_struck_5 : decode cX11_struck 5 = .ok (.getfield 96, 3) := by decide +kernel
theorem dX11_struck_8 : decode cX11_struck 8 = .ok (.ireturn, 1) := by decide +kernel
theorem dX11_struck_9 : decode cX11_struck 9 = .ok (.iload_n 1, 1) := by decide +kernel
theorem dX11_struck_10 : decode cX11_struck 10 = .ok (.iconst 1, 1) := by decide +kernel
theorem dX11_struck_11 : decode cX11_struck 11 = .ok (.if_icmp .ne 10, 3) := by decide +kernel
theorem dX11_struck_14 : decode cX11_struck 14 = .ok (.aload_n 0, 1) := by decide +kernel
theorem dX11_struck_15 : decode cX11_struck 15 = .ok (.getfield 99, 3) := by decide +kernel
theorem dX11_struck_18 : decode cX11_struck 18 = .ok (.goto 4, 3) := by decide +kernel
theorem dX11_struck_21 : decode cX11_struck 21 = .ok (.iconst (-1), 1) := by decide +kernel
theorem dX11_struck_22 : decode cX11_struck 22 = .ok (.ireturn, 1) := by decide +kernel
theorem dX12_struck_0 : decode cX12_struck 0 = .ok (.aload_n 0, 1) := by decide +kernel
theorem dX12_struck_1 : decode cX12_struck 1 = .ok (.iconst 0, 1) := by decide +kernel
theorem dX12_struck_2 : decode cX12_struck 2 = .ok (.putfield 198, 3) := by decide +kernel
theorem dX12_struck_5 : decode cX12_struck 5 = .ok (.iload_n 1, 1) := by decide +kernel
theorem dX12_struck_6 : decode cX12_struck 6 = .ok (.ifCond .ne 10, 3) := by decide +kernel
theorem dX12_struck_9 : decode cX12_struck 9 = .ok (.aload_n 0, 1) := by decide +kernel
theorem dX12_struck_10 : decode cX12_struck 10 = .ok (.getfield 192, 3) := by decide +kernel
theorem dX12_struck_13 : decode cX12_struck 13 = .ok (.goto 16, 3) := by decide +kernel
theorem dX12_struck_16 : decode cX12_struck 16 = .ok (.iload_n 1, 1) := by decide +kernel
theorem dX12_struck_17 : decode cX12_struck 17 = .ok (.iconst 1, 1) := by decide +kernel
theorem dX12_struck_18 : decode cX12_struck 18 = .ok (.if_icmp .ne 10, 3) := by decide +kernel
theorem dX12_struck_21 : decode cX12_struck 21 = .ok (.aload_n 0, 1) := by decide +kernel
theorem dX12_struck_22 : decode cX12_struck 22 = .ok (.getfield 195, 3) := by decide +kernel
theorem dX12_struck_25 : decode cX12_struck 25 = .ok (.goto 4, 3) := by decide +kernel
theorem dX12_struck_28 : decode cX12_struck 28 = .ok (.iconst (-1), 1) := by decide +kernel
theorem dX12_struck_29 : decode cX12_struck 29 = .ok (.ireturn, 1) := by decide +kernel
theorem dX11_count_0 : decode cX11_count 0 = .ok (.iload_n 1, 1) := by decide +kernel
theorem dX11_count_1 : decode cX11_count 1 = .ok (.tableswitch 90 0 5 #[39, 44, 55, 66, 74, 82], 39) := by decide +kernel
theorem dX11_count_40 : decode cX11_count 40 = .ok (.aload_n 0, 1) := by decide +kernel
theorem dX11_count_41 : decode cX11_count 41 = .ok (.getfield 83, 3) := by decide +kernel
theorem dX11_count_44 : decode cX11_count 44 = .ok (.ireturn, 1) := by decide +kernel
theorem dX11_count_45 : decode cX11_count 45 = .ok (.aload_n 0, 1) := by decide +kernel
theorem dX11_count_46 : decode cX11_count 46 = .ok (.getfield 19, 3) := by decide +kernel
theorem dX11_count_49 : decode cX11_count 49 = .ok (.getfield 109, 3) := by decide +kernel
theorem dX11_count_52 : decode cX11_count 52 = .ok (.invokevirtual 112, 3) := by decide +kernel
theorem dX11_count_55 : decode cX11_count 55 = .ok (.ireturn, 1) := by decide +kernel
theorem dX11_count_56 : decode cX11_count 56 = .ok (.aload_n 0, 1) := by decide +kernel
theorem dX11_count_57 : decode cX11_count 57 = .ok (.getfield 19, 3) := by decide +kernel
theorem dX11_count_60 : decode cX11_count 60 = .ok (.getfield 205, 3) := by decide +kernel
theorem dX11_count_63 : decode cX11_count 63 = .ok (.invokevirtual 112, 3) := by decide +kernel
theorem dX11_count_66 : decode cX11_count 66 = .ok (.ireturn, 1) := by decide +kernel
theorem dX11_count_67 : decode cX11_count 67 = .ok (.aload_n 0, 1) := by decide +kernel
theorem dX11_count_68 : decode cX11_count 68 = .ok (.getfield 38, 3) := by decide +kernel
theorem dX11_count_71 : decode cX11_count 71 = .ok (.invokevirtual 112, 3) := by decide +kernel
theorem dX11_count_74 : decode cX11_count 74 = .ok (.ireturn, 1) := by decide +kernel
theorem dX11_count_75 : decode cX11_count 75 = .ok (.aload_n 0, 1) := by decide +kernel
theorem dX11_count_76 : decode cX11_count 76 = .ok (.getfield 31, 3) := by decide +kernel
theorem dX11_count_79 : decode cX11_count 79 = .ok (.getfield 278, 3) := by decide +kernel
theorem dX11_count_82 : decode cX11_count 82 = .ok (.ireturn, 1) := by decide +kernel
theorem dX11_count_83 : decode cX11_count 83 = .ok (.aload_n 0, 1) := by decide +kernel
theorem dX11_count_84 : decode cX11_count 84 = .ok (.getfield 10, 3) := by decide +kernel
theorem dX11_count_87 : decode cX11_count 87 = .ok (.getfield 102, 3) := by decide +kernel
theorem dX11_count_90 : decode cX11_count 90 = .ok (.ireturn, 1) := by decide +kernel
theorem dX11_count_91 : decode cX11_count 91 = .ok (.iconst (-1), 1) := by decide +kernel
theorem dX11_count_92 : decode cX11_count 92 = .ok (.ireturn, 1) := by decide +kernel
theorem dX12_count_0 : decode cX12_count 0 = .ok (.aload_n 0, 1) := by decide +kernel
theorem dX12_count_1 : decode cX12_count 1 = .ok (.iconst 0, 1) := by decide +kernel
theorem dX12_count_2 : decode cX12_count 2 = .ok (.putfield 198, 3) := by decide +kernel
theorem dX12_count_5 : decode cX12_count 5 = .ok (.iload_n 1, 1) := by decide +kernel
theorem dX12_count_6 : decode cX12_count 6 = .ok (.tableswitch 68 0 5 #[38, 43, 48, 53, 58, 63], 38) := by decide +kernel
theorem dX12_count_44 : decode cX12_count 44 = .ok (.aload_n 0, 1) := by decide +kernel
theorem dX12_count_45 : decode cX12_count 45 = .ok (.getfield 239, 3) := by decide +kernel
theorem dX12_count_48 : decode cX12_count 48 = .ok (.ireturn, 1) := by decide +kernel
theorem dX12_count_49 : decode cX12_count 49 = .ok (.aload_n 0, 1) := by decide +kernel
theorem dX12_count_50 : decode cX12_count 50 = .ok (.getfield 208, 3) := by decide +kernel
theorem dX12_count_53 : decode cX12_count 53 = .ok (.ireturn, 1) := by decide +kernel
theorem dX12_count_54 : decode cX12_count 54 = .ok (.aload_n 0, 1) := by decide +kernel
theorem dX12_count_55 : decode cX12_count 55 = .ok (.getfield 389, 3) := by decide +kernel
theorem dX12_count_58 : decode cX12_count 58 = .ok (.ireturn, 1) := by decide +kernel
theorem dX12_count_59 : decode cX12_count 59 = .ok (.aload_n 0, 1) := by decide +kernel
theorem dX12_count_60 : decode cX12_count 60 = .ok (.getfield 373, 3) := by decide +kernel
theorem dX12_count_63 : decode cX12_count 63 = .ok (.ireturn, 1) := by decide +kernel
theorem dX12_count_64 : decode cX12_count 64 = .ok (.aload_n 0, 1) := by decide +kernel
theorem dX12_count_65 : decode cX12_count 65 = .ok (.getfield 421, 3) := by decide +kernel
theorem dX12_count_68 : decode cX12_count 68 = .ok (.ireturn, 1) := by decide +kernel
theorem dX12_count_69 : decode cX12_count 69 = .ok (.aload_n 0, 1) := by decide +kernel
theorem dX12_count_70 : decode cX12_count 70 = .ok (.getfield 201, 3) := by decide +kernel
theorem dX12_count_73 : decode cX12_count 73 = .ok (.ireturn, 1) := by decide +kernel
theorem dX12_count_74 : decode cX12_count 74 = .ok (.iconst (-1), 1) := by decide +kernel
theorem dX12_count_75 : decode cX12_count 75 = .ok (.ireturn, 1) := by decide +kernel
theorem m_1_0 : Cond.classLink RL 8 RX11 ∈ wsL_law := ch_1 _ (List.mem_of_getElem? (i := 0) rfl)
theorem m_1_1 : Cond.instantiable RX11 18 ∈ wsL_law := ch_1 _ (List.mem_of_getElem? (i := 1) rfl)
theorem m_1_2 : Cond.initialized RX11 ∈ wsL_law := ch_1 _ (List.mem_of_getElem? (i := 2) rfl)
theorem m_1_3 : Cond.classLink RL 20 RX12 ∈ wsL_law := ch_1 _ (List.mem_of_getElem? (i := 3) rfl)
theorem m_1_4 : Cond.instantiable RX12 91 ∈ wsL_law := ch_1 _ (List.mem_of_getElem? (i := 4) rfl)
theorem m_1_5 : Cond.initialized RX12 ∈ wsL_law := ch_1 _ (List.mem_of_getElem? (i := 5) rfl)
theorem m_1_6 : Cond.arrayClass .long ∈ wsL_law := ch_1 _ (List.mem_of_getElem? (i := 6) rfl)
theorem m_1_7 : Cond.methodLink RL 19 yX11_init ∈ wsL_law := ch_1 _ (List.mem_of_getElem? (i := 7) rfl)
theorem m_1_8 : Cond.instanceMethod yX11_init ∈ wsL_law := ch_1 _ (List.mem_of_getElem? (i := 8) rfl)
theorem m_1_9 : Cond.code yX11_init cX11_init 1 none ∈ wsL_law := ch_1 _ (List.mem_of_getElem? (i := 9) rfl)
theorem m_1_10 : Cond.methodLink RX11 1 objectInit ∈ wsL_law := ch_1 _ (List.mem_of_getElem? (i := 10) rfl)
theorem m_1_11 : Cond.instanceMethod objectInit ∈ wsL_law := ch_1 _ (List.mem_of_getElem? (i := 11) rfl)
theorem m_1_12 : Cond.code objectInit ⟨#[0xb1]⟩ 1 none ∈ wsL_law := ch_1 _ (List.mem_of_getElem? (i := 12) rfl)
theorem m_1_13 : Cond.classLink RX11 7 RX9 ∈ wsL_law := ch_1 _ (List.mem_of_getElem? (i := 13) rfl)
theorem m_1_14 : Cond.instantiable RX9 2 ∈ wsL_law := ch_1 _ (List.mem_of_getElem? (i := 14) rfl)
theorem m_1_15 : Cond.initialized RX9 ∈ wsL_law := ch_1 _ (List.mem_of_getElem? (i := 15) rfl)
theorem m_1_16 : Cond.fieldLink RX11 10 "PaperBoys" "tape" "LPaperBoys$Tape;" ∈ wsL_law := ch_1 _ (List.mem_of_getElem? (i := 16) rfl)
theorem m_1_17 : Cond.classLink RX11 16 RX5 ∈ wsL_law := ch_1 _ (List.mem_of_getElem? (i := 17) rfl)
theorem m_1_18 : Cond.instantiable RX5 8 ∈ wsL_law := ch_1 _ (List.mem_of_getElem? (i := 18) rfl)
theorem m_1_19 : Cond.initialized RX5 ∈ wsL_law := ch_1 _ (List.mem_of_getElem? (i := 19) rfl)
theorem m_1_20 : Cond.fieldLink RX11 19 "PaperBoys" "market" "LPaperBoys$Market;" ∈ wsL_law := ch_1 _ (List.mem_of_getElem? (i := 20) rfl)
theorem m_1_21 : Cond.fieldLink RX11 23 "PaperBoys$Market" "city" "LPaperBoys$City;" ∈ wsL_law := ch_1 _ (List.mem_of_getElem? (i := 21) rfl)
theorem m_1_22 : Cond.fieldLink RX11 27 "PaperBoys" "city" "LPaperBoys$City;" ∈ wsL_law := ch_1 _ (List.mem_of_getElem? (i := 22) rfl)
theorem m_1_23 : Cond.classLink RX11 28 RX4 ∈ wsL_law := ch_1 _ (List.mem_of_getElem? (i := 23) rfl)
theorem m_2_0 : Cond.instantiable RX4 4 ∈ wsL_law := ch_2 _ (List.mem_of_getElem? (i := 0) rfl)
theorem m_2_1 : Cond.initialized RX4 ∈ wsL_law := ch_2 _ (List.mem_of_getElem? (i := 1) rfl)
theorem m_2_2 : Cond.fieldLink RX11 31 "PaperBoys" "ledger" "LPaperBoys$Ledger;" ∈ wsL_law := ch_2 _ (List.mem_of_getElem? (i := 2) rfl)
theorem m_2_3 : Cond.classLink RX11 35 RJx4a65c ∈ wsL_law := ch_2 _ (List.mem_of_getElem? (i := 3) rfl)
theorem m_2_4 : Cond.instantiable RJx4a65c 3 ∈ wsL_law := ch_2 _ (List.mem_of_getElem? (i := 4) rfl)
theorem m_2_5 : Cond.initialized RJx4a65c ∈ wsL_law := ch_2 _ (List.mem_of_getElem? (i := 5) rfl)
theorem m_2_6 : Cond.fieldLink RX11 38 "PaperBoys" "texts" "Ljava/util/ArrayList;" ∈ wsL_law := ch_2 _ (List.mem_of_getElem? (i := 6) rfl)
theorem m_2_7 : Cond.classLink RX11 42 RX10 ∈ wsL_law := ch_2 _ (List.mem_of_getElem? (i := 7) rfl)
theorem m_2_8 : Cond.instantiable RX10 8 ∈ wsL_law := ch_2 _ (List.mem_of_getElem? (i := 8) rfl)
theorem m_2_9 : Cond.initialized RX10 ∈ wsL_law := ch_2 _ (List.mem_of_getElem? (i := 9) rfl)
theorem m_2_10 : Cond.fieldLink RX11 45 "PaperBoys" "emptyText" "LPaperBoys$Terms;" ∈ wsL_law := ch_2 _ (List.mem_of_getElem? (i := 10) rfl)
theorem m_2_11 : Cond.classLink RX11 49 RX7 ∈ wsL_law := ch_2 _ (List.mem_of_getElem? (i := 11) rfl)
theorem m_2_12 : Cond.instantiable RX7 7 ∈ wsL_law := ch_2 _ (List.mem_of_getElem? (i := 12) rfl)
theorem m_2_13 : Cond.initialized RX7 ∈ wsL_law := ch_2 _ (List.mem_of_getElem? (i := 13) rfl)
theorem m_2_14 : Cond.fieldLink RX11 52 "PaperBoys" "reader" "LPaperBoys$Reader;" ∈ wsL_law := ch_2 _ (List.mem_of_getElem? (i := 14) rfl)
theorem m_2_15 : Cond.fieldLink RX11 56 "PaperBoys" "draft" "LPaperBoys$Terms;" ∈ wsL_law := ch_2 _ (List.mem_of_getElem? (i := 15) rfl)
theorem m_2_16 : Cond.classLink RX11 59 RX2 ∈ wsL_law := ch_2 _ (List.mem_of_getElem? (i := 16) rfl)
theorem m_2_17 : Cond.instantiable RX2 4 ∈ wsL_law := ch_2 _ (List.mem_of_getElem? (i := 17) rfl)
theorem m_2_18 : Cond.initialized RX2 ∈ wsL_law := ch_2 _ (List.mem_of_getElem? (i := 18) rfl)
theorem m_2_19 : Cond.fieldLink RX11 62 "PaperBoys" "chances" "LPaperBoys$Chances;" ∈ wsL_law := ch_2 _ (List.mem_of_getElem? (i := 19) rfl)
theorem m_2_20 : Cond.classLink RX11 66 RX8 ∈ wsL_law := ch_2 _ (List.mem_of_getElem? (i := 20) rfl)
theorem m_2_21 : Cond.instantiable RX8 6 ∈ wsL_law := ch_2 _ (List.mem_of_getElem? (i := 21) rfl)
theorem m_2_22 : Cond.initialized RX8 ∈ wsL_law := ch_2 _ (List.mem_of_getElem? (i := 22) rfl)
theorem m_2_23 : Cond.fieldLink RX11 69 "PaperBoys" "route" "LPaperBoys$Route;" ∈ wsL_law := ch_2 _ (List.mem_of_getElem? (i := 23) rfl)
theorem m_3_0 : Cond.classLink RX11 73 RX6 ∈ wsL_law := ch_3 _ (List.mem_of_getElem? (i := 0) rfl)
theorem m_3_1 : Cond.instantiable RX6 10 ∈ wsL_law := ch_3 _ (List.mem_of_getElem? (i := 1) rfl)
theorem m_3_2 : Cond.initialized RX6 ∈ wsL_law := ch_3 _ (List.mem_of_getElem? (i := 2) rfl)
theorem m_3_3 : Cond.fieldLink RX11 76 "PaperBoys" "parting" "LPaperBoys$Parting;" ∈ wsL_law := ch_3 _ (List.mem_of_getElem? (i := 3) rfl)
theorem m_3_4 : Cond.fieldLink RX11 80 "PaperBoys" "nextParting" "LPaperBoys$Parting;" ∈ wsL_law := ch_3 _ (List.mem_of_getElem? (i := 4) rfl)
theorem m_3_5 : Cond.fieldLink RX11 83 "PaperBoys" "today" "I" ∈ wsL_law := ch_3 _ (List.mem_of_getElem? (i := 5) rfl)
theorem m_3_6 : Cond.fieldLink RX11 87 "PaperBoys" "fault" "I" ∈ wsL_law := ch_3 _ (List.mem_of_getElem? (i := 6) rfl)
theorem m_3_7 : Cond.fieldLink RX11 90 "PaperBoys" "why" "I" ∈ wsL_law := ch_3 _ (List.mem_of_getElem? (i := 7) rfl)
theorem m_3_8 : Cond.fieldLink RX11 93 "PaperBoys" "triedEaten" "I" ∈ wsL_law := ch_3 _ (List.mem_of_getElem? (i := 8) rfl)
theorem m_3_9 : Cond.fieldLink RX11 96 "PaperBoys" "strikeEnd" "I" ∈ wsL_law := ch_3 _ (List.mem_of_getElem? (i := 9) rfl)
theorem m_3_10 : Cond.fieldLink RX11 99 "PaperBoys" "strikePrice" "I" ∈ wsL_law := ch_3 _ (List.mem_of_getElem? (i := 10) rfl)
theorem m_3_11 : Cond.instanceMethod yX9_init ∈ wsL_law := ch_3 _ (List.mem_of_getElem? (i := 11) rfl)
theorem m_3_12 : Cond.code yX9_init cX9_init 1 none ∈ wsL_law := ch_3 _ (List.mem_of_getElem? (i := 12) rfl)
theorem m_3_13 : Cond.methodLink RX9 3 objectInit ∈ wsL_law := ch_3 _ (List.mem_of_getElem? (i := 13) rfl)
theorem m_3_14 : Cond.arrayClass .int ∈ wsL_law := ch_3 _ (List.mem_of_getElem? (i := 14) rfl)
theorem m_3_15 : Cond.fieldLink RX9 9 "PaperBoys$Tape" "bytes" "[I" ∈ wsL_law := ch_3 _ (List.mem_of_getElem? (i := 15) rfl)
theorem m_3_16 : Cond.fieldLink RX9 15 "PaperBoys$Tape" "size" "I" ∈ wsL_law := ch_3 _ (List.mem_of_getElem? (i := 16) rfl)
theorem m_3_17 : Cond.instanceMethod yX5_init ∈ wsL_law := ch_3 _ (List.mem_of_getElem? (i := 17) rfl)
theorem m_3_18 : Cond.code yX5_init cX5_init 1 none ∈ wsL_law := ch_3 _ (List.mem_of_getElem? (i := 18) rfl)
theorem m_3_19 : Cond.methodLink RX5 3 objectInit ∈ wsL_law := ch_3 _ (List.mem_of_getElem? (i := 19) rfl)
theorem m_3_20 : Cond.classLink RX5 9 RX3 ∈ wsL_law := ch_3 _ (List.mem_of_getElem? (i := 20) rfl)
theorem m_3_21 : Cond.instantiable RX3 7 ∈ wsL_law := ch_3 _ (List.mem_of_getElem? (i := 21) rfl)
theorem m_3_22 : Cond.initialized RX3 ∈ wsL_law := ch_3 _ (List.mem_of_getElem? (i := 22) rfl)
theorem m_3_23 : Cond.fieldLink RX5 12 "PaperBoys$Market" "city" "LPaperBoys$City;" ∈ wsL_law := ch_3 _ (List.mem_of_getElem? (i := 23) rfl)
theorem m_4_0 : Cond.classLink RX5 18 RJx4a65c ∈ wsL_law := ch_4 _ (List.mem_of_getElem? (i := 0) rfl)
theorem m_4_1 : Cond.fieldLink RX5 21 "PaperBoys$Market" "boys" "Ljava/util/ArrayList;" ∈ wsL_law := ch_4 _ (List.mem_of_getElem? (i := 1) rfl)
theorem m_4_2 : Cond.fieldLink RX5 25 "PaperBoys$Market" "bundles" "Ljava/util/ArrayList;" ∈ wsL_law := ch_4 _ (List.mem_of_getElem? (i := 2) rfl)
theorem m_4_3 : Cond.fieldLink RX5 28 "PaperBoys$Market" "queue" "Ljava/util/ArrayList;" ∈ wsL_law := ch_4 _ (List.mem_of_getElem? (i := 3) rfl)
theorem m_4_4 : Cond.fieldLink RX5 31 "PaperBoys$Market" "facts" "[I" ∈ wsL_law := ch_4 _ (List.mem_of_getElem? (i := 4) rfl)
theorem m_4_5 : Cond.fieldLink RX5 35 "PaperBoys$Market" "soldSum" "I" ∈ wsL_law := ch_4 _ (List.mem_of_getElem? (i := 5) rfl)
theorem m_4_6 : Cond.fieldLink RX5 39 "PaperBoys$Market" "gainSum" "I" ∈ wsL_law := ch_4 _ (List.mem_of_getElem? (i := 6) rfl)
theorem m_4_7 : Cond.fieldLink RX5 42 "PaperBoys$Market" "eatenSum" "I" ∈ wsL_law := ch_4 _ (List.mem_of_getElem? (i := 7) rfl)
theorem m_4_8 : Cond.methodLink RX5 11 yX3_init ∈ wsL_law := ch_4 _ (List.mem_of_getElem? (i := 8) rfl)
theorem m_4_9 : Cond.instanceMethod yX3_init ∈ wsL_law := ch_4 _ (List.mem_of_getElem? (i := 9) rfl)
theorem m_4_10 : Cond.code yX3_init cX3_init 3 none ∈ wsL_law := ch_4 _ (List.mem_of_getElem? (i := 10) rfl)
theorem m_4_11 : Cond.methodLink RX3 3 objectInit ∈ wsL_law := ch_4 _ (List.mem_of_getElem? (i := 11) rfl)
theorem m_4_12 : Cond.fieldLink RX3 9 "PaperBoys$City" "sky" "[I" ∈ wsL_law := ch_4 _ (List.mem_of_getElem? (i := 12) rfl)
theorem m_4_13 : Cond.classLink RX3 15 "[[I" ∈ wsL_law := ch_4 _ (List.mem_of_getElem? (i := 13) rfl)
theorem m_4_14 : Cond.fieldLink RX3 17 "PaperBoys$City" "headlines" "[[I" ∈ wsL_law := ch_4 _ (List.mem_of_getElem? (i := 14) rfl)
theorem m_4_15 : Cond.fieldLink RX3 20 "PaperBoys$City" "wet" "[I" ∈ wsL_law := ch_4 _ (List.mem_of_getElem? (i := 15) rfl)
theorem m_4_16 : Cond.fieldLink RX3 23 "PaperBoys$City" "loud" "[I" ∈ wsL_law := ch_4 _ (List.mem_of_getElem? (i := 16) rfl)
theorem m_4_17 : Cond.fieldLink RX3 26 "PaperBoys$City" "wants" "[[I" ∈ wsL_law := ch_4 _ (List.mem_of_getElem? (i := 17) rfl)
theorem m_4_18 : Cond.fieldLink RX3 29 "PaperBoys$City" "owners" "[I" ∈ wsL_law := ch_4 _ (List.mem_of_getElem? (i := 18) rfl)
theorem m_4_19 : Cond.fieldLink RX3 32 "PaperBoys$City" "minutes" "[[I" ∈ wsL_law := ch_4 _ (List.mem_of_getElem? (i := 19) rfl)
theorem m_4_20 : Cond.methodLink RX5 20 yJx4a65c_init_da8c8 ∈ wsL_law := ch_4 _ (List.mem_of_getElem? (i := 20) rfl)
theorem m_4_21 : Cond.instanceMethod yJx4a65c_init_da8c8 ∈ wsL_law := ch_4 _ (List.mem_of_getElem? (i := 21) rfl)
theorem m_4_22 : Cond.code yJx4a65c_init_da8c8 cJx4a65c_init_da8c8 1 none ∈ wsL_law := ch_4 _ (List.mem_of_getElem? (i := 22) rfl)
theorem m_4_23 : Cond.fieldLink RJx4a65c 39 "java/util/ArrayList" "DEFAULTCAPACITY_EMPTY_ELEMENTDATA" "[Ljava/lang/Object;" ∈ wsL_law := ch_4 _ (List.mem_of_getElem? (i := 23) rfl)
theorem m_5_0 : Cond.fieldLink RJx4a65c 9 "java/util/ArrayList" "elementData" "[Ljava/lang/Object;" ∈ wsL_law := ch_5 _ (List.mem_of_getElem? (i := 0) rfl)
theorem m_5_1 : Cond.methodLink RJx4a65c 1 yJxc12de_init_da8c8 ∈ wsL_law := ch_5 _ (List.mem_of_getElem? (i := 1) rfl)
theorem m_5_2 : Cond.instanceMethod yJxc12de_init_da8c8 ∈ wsL_law := ch_5 _ (List.mem_of_getElem? (i := 2) rfl)
theorem m_5_3 : Cond.initialized RJxc12de ∈ wsL_law := ch_5 _ (List.mem_of_getElem? (i := 3) rfl)
theorem m_5_4 : Cond.code yJxc12de_init_da8c8 cJxc12de_init_da8c8 1 none ∈ wsL_law := ch_5 _ (List.mem_of_getElem? (i := 4) rfl)
theorem m_5_5 : Cond.fieldLink RJxc12de 7 "java/util/AbstractList" "modCount" "I" ∈ wsL_law := ch_5 _ (List.mem_of_getElem? (i := 5) rfl)
theorem m_5_6 : Cond.methodLink RJxc12de 1 yJxa1e45_init_da8c8 ∈ wsL_law := ch_5 _ (List.mem_of_getElem? (i := 6) rfl)
theorem m_5_7 : Cond.instanceMethod yJxa1e45_init_da8c8 ∈ wsL_law := ch_5 _ (List.mem_of_getElem? (i := 7) rfl)
theorem m_5_8 : Cond.initialized RJxa1e45 ∈ wsL_law := ch_5 _ (List.mem_of_getElem? (i := 8) rfl)
theorem m_5_9 : Cond.code yJxa1e45_init_da8c8 cJxa1e45_init_da8c8 1 none ∈ wsL_law := ch_5 _ (List.mem_of_getElem? (i := 9) rfl)
theorem m_5_10 : Cond.methodLink RJxa1e45 1 objectInit ∈ wsL_law := ch_5 _ (List.mem_of_getElem? (i := 10) rfl)
theorem m_5_11 : Cond.instanceMethod yX4_init ∈ wsL_law := ch_5 _ (List.mem_of_getElem? (i := 11) rfl)
theorem m_5_12 : Cond.code yX4_init cX4_init 1 none ∈ wsL_law := ch_5 _ (List.mem_of_getElem? (i := 12) rfl)
theorem m_5_13 : Cond.methodLink RX4 3 objectInit ∈ wsL_law := ch_5 _ (List.mem_of_getElem? (i := 13) rfl)
theorem m_5_14 : Cond.fieldLink RX4 9 "PaperBoys$Ledger" "place" "[I" ∈ wsL_law := ch_5 _ (List.mem_of_getElem? (i := 14) rfl)
theorem m_5_15 : Cond.fieldLink RX4 15 "PaperBoys$Ledger" "copies" "[I" ∈ wsL_law := ch_5 _ (List.mem_of_getElem? (i := 15) rfl)
theorem m_5_16 : Cond.fieldLink RX4 18 "PaperBoys$Ledger" "told" "[I" ∈ wsL_law := ch_5 _ (List.mem_of_getElem? (i := 16) rfl)
theorem m_5_17 : Cond.fieldLink RX4 21 "PaperBoys$Ledger" "size" "I" ∈ wsL_law := ch_5 _ (List.mem_of_getElem? (i := 17) rfl)
theorem m_5_18 : Cond.methodLink RX11 37 yJx4a65c_init_da8c8 ∈ wsL_law := ch_5 _ (List.mem_of_getElem? (i := 18) rfl)
theorem m_5_19 : Cond.instanceMethod yX10_init ∈ wsL_law := ch_5 _ (List.mem_of_getElem? (i := 19) rfl)
theorem m_5_20 : Cond.code yX10_init cX10_init 1 none ∈ wsL_law := ch_5 _ (List.mem_of_getElem? (i := 20) rfl)
theorem m_5_21 : Cond.methodLink RX10 3 objectInit ∈ wsL_law := ch_5 _ (List.mem_of_getElem? (i := 21) rfl)
theorem m_5_22 : Cond.fieldLink RX10 9 "PaperBoys$Terms" "from" "I" ∈ wsL_law := ch_5 _ (List.mem_of_getElem? (i := 22) rfl)
theorem m_5_23 : Cond.fieldLink RX10 15 "PaperBoys$Terms" "lines" "I" ∈ wsL_law := ch_5 _ (List.mem_of_getElem? (i := 23) rfl)
theorem m_6_0 : Cond.fieldLink RX10 18 "PaperBoys$Terms" "steps" "I" ∈ wsL_law := ch_6 _ (List.mem_of_getElem? (i := 0) rfl)
theorem m_6_1 : Cond.fieldLink RX10 21 "PaperBoys$Terms" "kind" "[I" ∈ wsL_law := ch_6 _ (List.mem_of_getElem? (i := 1) rfl)
theorem m_6_2 : Cond.fieldLink RX10 25 "PaperBoys$Terms" "number" "[I" ∈ wsL_law := ch_6 _ (List.mem_of_getElem? (i := 2) rfl)
theorem m_6_3 : Cond.fieldLink RX10 28 "PaperBoys$Terms" "first" "[I" ∈ wsL_law := ch_6 _ (List.mem_of_getElem? (i := 3) rfl)
theorem m_6_4 : Cond.fieldLink RX10 31 "PaperBoys$Terms" "behind" "[I" ∈ wsL_law := ch_6 _ (List.mem_of_getElem? (i := 4) rfl)
theorem m_6_5 : Cond.fieldLink RX10 34 "PaperBoys$Terms" "step" "[I" ∈ wsL_law := ch_6 _ (List.mem_of_getElem? (i := 5) rfl)
theorem m_6_6 : Cond.instanceMethod yX7_init ∈ wsL_law := ch_6 _ (List.mem_of_getElem? (i := 6) rfl)
theorem m_6_7 : Cond.code yX7_init cX7_init 1 none ∈ wsL_law := ch_6 _ (List.mem_of_getElem? (i := 7) rfl)
theorem m_6_8 : Cond.methodLink RX7 3 objectInit ∈ wsL_law := ch_6 _ (List.mem_of_getElem? (i := 8) rfl)
theorem m_6_9 : Cond.fieldLink RX7 9 "PaperBoys$Reader" "token" "[I" ∈ wsL_law := ch_6 _ (List.mem_of_getElem? (i := 9) rfl)
theorem m_6_10 : Cond.fieldLink RX7 15 "PaperBoys$Reader" "place" "[I" ∈ wsL_law := ch_6 _ (List.mem_of_getElem? (i := 10) rfl)
theorem m_6_11 : Cond.fieldLink RX7 18 "PaperBoys$Reader" "at" "I" ∈ wsL_law := ch_6 _ (List.mem_of_getElem? (i := 11) rfl)
theorem m_6_12 : Cond.fieldLink RX7 22 "PaperBoys$Reader" "ones" "I" ∈ wsL_law := ch_6 _ (List.mem_of_getElem? (i := 12) rfl)
theorem m_6_13 : Cond.fieldLink RX7 25 "PaperBoys$Reader" "oweTold" "Z" ∈ wsL_law := ch_6 _ (List.mem_of_getElem? (i := 13) rfl)
theorem m_6_14 : Cond.fieldLink RX7 29 "PaperBoys$Reader" "fault" "I" ∈ wsL_law := ch_6 _ (List.mem_of_getElem? (i := 14) rfl)
theorem m_6_15 : Cond.fieldLink RX7 32 "PaperBoys$Reader" "faultPlace" "I" ∈ wsL_law := ch_6 _ (List.mem_of_getElem? (i := 15) rfl)
theorem m_6_16 : Cond.instanceMethod yX2_init ∈ wsL_law := ch_6 _ (List.mem_of_getElem? (i := 16) rfl)
theorem m_6_17 : Cond.code yX2_init cX2_init 1 none ∈ wsL_law := ch_6 _ (List.mem_of_getElem? (i := 17) rfl)
theorem m_6_18 : Cond.methodLink RX2 3 objectInit ∈ wsL_law := ch_6 _ (List.mem_of_getElem? (i := 18) rfl)
theorem m_6_19 : Cond.fieldLink RX2 9 "PaperBoys$Chances" "asks" "[I" ∈ wsL_law := ch_6 _ (List.mem_of_getElem? (i := 19) rfl)
theorem m_6_20 : Cond.fieldLink RX2 15 "PaperBoys$Chances" "shares" "[I" ∈ wsL_law := ch_6 _ (List.mem_of_getElem? (i := 20) rfl)
theorem m_6_21 : Cond.fieldLink RX2 18 "PaperBoys$Chances" "size" "I" ∈ wsL_law := ch_6 _ (List.mem_of_getElem? (i := 21) rfl)
theorem m_6_22 : Cond.fieldLink RX2 22 "PaperBoys$Chances" "expected" "J" ∈ wsL_law := ch_6 _ (List.mem_of_getElem? (i := 22) rfl)
theorem m_6_23 : Cond.instanceMethod yX8_init ∈ wsL_law := ch_6 _ (List.mem_of_getElem? (i := 23) rfl)
theorem m_7_0 : Cond.code yX8_init cX8_init 1 none ∈ wsL_law := ch_7 _ (List.mem_of_getElem? (i := 0) rfl)
theorem m_7_1 : Cond.methodLink RX8 3 objectInit ∈ wsL_law := ch_7 _ (List.mem_of_getElem? (i := 1) rfl)
theorem m_7_2 : Cond.fieldLink RX8 11 "PaperBoys$Route" "stops" "[I" ∈ wsL_law := ch_7 _ (List.mem_of_getElem? (i := 2) rfl)
theorem m_7_3 : Cond.fieldLink RX8 15 "PaperBoys$Route" "by" "[I" ∈ wsL_law := ch_7 _ (List.mem_of_getElem? (i := 3) rfl)
theorem m_7_4 : Cond.fieldLink RX8 18 "PaperBoys$Route" "way" "[I" ∈ wsL_law := ch_7 _ (List.mem_of_getElem? (i := 4) rfl)
theorem m_7_5 : Cond.fieldLink RX8 21 "PaperBoys$Route" "soonest" "[I" ∈ wsL_law := ch_7 _ (List.mem_of_getElem? (i := 5) rfl)
theorem m_7_6 : Cond.fieldLink RX8 24 "PaperBoys$Route" "size" "I" ∈ wsL_law := ch_7 _ (List.mem_of_getElem? (i := 6) rfl)
theorem m_7_7 : Cond.fieldLink RX8 28 "PaperBoys$Route" "wayLength" "I" ∈ wsL_law := ch_7 _ (List.mem_of_getElem? (i := 7) rfl)
theorem m_7_8 : Cond.instanceMethod yX6_init ∈ wsL_law := ch_7 _ (List.mem_of_getElem? (i := 8) rfl)
theorem m_7_9 : Cond.code yX6_init cX6_init 1 none ∈ wsL_law := ch_7 _ (List.mem_of_getElem? (i := 9) rfl)
theorem m_7_10 : Cond.methodLink RX6 3 objectInit ∈ wsL_law := ch_7 _ (List.mem_of_getElem? (i := 10) rfl)
theorem m_7_11 : Cond.fieldLink RX6 9 "PaperBoys$Parting" "n" "I" ∈ wsL_law := ch_7 _ (List.mem_of_getElem? (i := 11) rfl)
theorem m_7_12 : Cond.fieldLink RX6 15 "PaperBoys$Parting" "gain" "[I" ∈ wsL_law := ch_7 _ (List.mem_of_getElem? (i := 12) rfl)
theorem m_7_13 : Cond.fieldLink RX6 19 "PaperBoys$Parting" "might" "[I" ∈ wsL_law := ch_7 _ (List.mem_of_getElem? (i := 13) rfl)
theorem m_7_14 : Cond.fieldLink RX6 22 "PaperBoys$Parting" "cornerOf" "[I" ∈ wsL_law := ch_7 _ (List.mem_of_getElem? (i := 14) rfl)
theorem m_7_15 : Cond.fieldLink RX6 25 "PaperBoys$Parting" "boyOf" "[I" ∈ wsL_law := ch_7 _ (List.mem_of_getElem? (i := 15) rfl)
theorem m_7_16 : Cond.fieldLink RX6 28 "PaperBoys$Parting" "trial" "[I" ∈ wsL_law := ch_7 _ (List.mem_of_getElem? (i := 16) rfl)
theorem m_7_17 : Cond.fieldLink RX6 31 "PaperBoys$Parting" "rest" "[I" ∈ wsL_law := ch_7 _ (List.mem_of_getElem? (i := 17) rfl)
theorem m_7_18 : Cond.arrayClass .boolean ∈ wsL_law := ch_7 _ (List.mem_of_getElem? (i := 18) rfl)
theorem m_7_19 : Cond.fieldLink RX6 34 "PaperBoys$Parting" "sentAway" "[Z" ∈ wsL_law := ch_7 _ (List.mem_of_getElem? (i := 19) rfl)
theorem m_7_20 : Cond.fieldLink RX6 38 "PaperBoys$Parting" "clash" "[J" ∈ wsL_law := ch_7 _ (List.mem_of_getElem? (i := 20) rfl)
theorem m_7_21 : Cond.fieldLink RX6 42 "PaperBoys$Parting" "bestSum" "I" ∈ wsL_law := ch_7 _ (List.mem_of_getElem? (i := 21) rfl)
theorem m_7_22 : Cond.methodLink RL 22 yX12_init ∈ wsL_law := ch_7 _ (List.mem_of_getElem? (i := 22) rfl)
theorem m_7_23 : Cond.instanceMethod yX12_init ∈ wsL_law := ch_7 _ (List.mem_of_getElem? (i := 23) rfl)
theorem m_8_0 : Cond.code yX12_init cX12_init 1 none ∈ wsL_law := ch_8 _ (List.mem_of_getElem? (i := 0) rfl)
theorem m_8_1 : Cond.methodLink RX12 1 objectInit ∈ wsL_law := ch_8 _ (List.mem_of_getElem? (i := 1) rfl)
theorem m_8_2 : Cond.fieldLink RX12 7 "PaperBoysModel" "tape" "[I" ∈ wsL_law := ch_8 _ (List.mem_of_getElem? (i := 2) rfl)
theorem m_8_3 : Cond.fieldLink RX12 13 "PaperBoysModel" "age" "[I" ∈ wsL_law := ch_8 _ (List.mem_of_getElem? (i := 3) rfl)
theorem m_8_4 : Cond.fieldLink RX12 16 "PaperBoysModel" "badge" "[I" ∈ wsL_law := ch_8 _ (List.mem_of_getElem? (i := 4) rfl)
theorem m_8_5 : Cond.fieldLink RX12 19 "PaperBoysModel" "fists" "[I" ∈ wsL_law := ch_8 _ (List.mem_of_getElem? (i := 5) rfl)
theorem m_8_6 : Cond.fieldLink RX12 22 "PaperBoysModel" "coin" "[I" ∈ wsL_law := ch_8 _ (List.mem_of_getElem? (i := 6) rfl)
theorem m_8_7 : Cond.fieldLink RX12 25 "PaperBoysModel" "school" "[Z" ∈ wsL_law := ch_8 _ (List.mem_of_getElem? (i := 7) rfl)
theorem m_8_8 : Cond.fieldLink RX12 29 "PaperBoysModel" "ownerOf" "[I" ∈ wsL_law := ch_8 _ (List.mem_of_getElem? (i := 8) rfl)
theorem m_8_9 : Cond.fieldLink RX12 32 "PaperBoysModel" "skies" "[I" ∈ wsL_law := ch_8 _ (List.mem_of_getElem? (i := 9) rfl)
theorem m_8_10 : Cond.fieldLink RX12 35 "PaperBoysModel" "heads" "[I" ∈ wsL_law := ch_8 _ (List.mem_of_getElem? (i := 10) rfl)
theorem m_8_11 : Cond.fieldLink RX12 38 "PaperBoysModel" "wants" "[I" ∈ wsL_law := ch_8 _ (List.mem_of_getElem? (i := 11) rfl)
theorem m_8_12 : Cond.fieldLink RX12 41 "PaperBoysModel" "wet" "[I" ∈ wsL_law := ch_8 _ (List.mem_of_getElem? (i := 12) rfl)
theorem m_8_13 : Cond.fieldLink RX12 44 "PaperBoysModel" "loud" "[I" ∈ wsL_law := ch_8 _ (List.mem_of_getElem? (i := 13) rfl)
theorem m_8_14 : Cond.fieldLink RX12 47 "PaperBoysModel" "way" "[I" ∈ wsL_law := ch_8 _ (List.mem_of_getElem? (i := 14) rfl)
theorem m_8_15 : Cond.fieldLink RX12 50 "PaperBoysModel" "linesOf" "[I" ∈ wsL_law := ch_8 _ (List.mem_of_getElem? (i := 15) rfl)
theorem m_8_16 : Cond.fieldLink RX12 53 "PaperBoysModel" "fromDay" "[I" ∈ wsL_law := ch_8 _ (List.mem_of_getElem? (i := 16) rfl)
theorem m_8_17 : Cond.fieldLink RX12 56 "PaperBoysModel" "sort" "[I" ∈ wsL_law := ch_8 _ (List.mem_of_getElem? (i := 17) rfl)
theorem m_8_18 : Cond.fieldLink RX12 59 "PaperBoysModel" "amount" "[I" ∈ wsL_law := ch_8 _ (List.mem_of_getElem? (i := 18) rfl)
theorem m_8_19 : Cond.fieldLink RX12 62 "PaperBoysModel" "condFrom" "[I" ∈ wsL_law := ch_8 _ (List.mem_of_getElem? (i := 19) rfl)
theorem m_8_20 : Cond.fieldLink RX12 65 "PaperBoysModel" "condTo" "[I" ∈ wsL_law := ch_8 _ (List.mem_of_getElem? (i := 20) rfl)
theorem m_8_21 : Cond.fieldLink RX12 68 "PaperBoysModel" "piece" "[I" ∈ wsL_law := ch_8 _ (List.mem_of_getElem? (i := 21) rfl)
theorem m_8_22 : Cond.fieldLink RX12 71 "PaperBoysModel" "pieceSign" "[I" ∈ wsL_law := ch_8 _ (List.mem_of_getElem? (i := 22) rfl)
theorem m_8_23 : Cond.fieldLink RX12 74 "PaperBoysModel" "pieceNumber" "[I" ∈ wsL_law := ch_8 _ (List.mem_of_getElem? (i := 23) rfl)
theorem m_9_0 : Cond.fieldLink RX12 77 "PaperBoysModel" "pile" "[I" ∈ wsL_law := ch_9 _ (List.mem_of_getElem? (i := 0) rfl)
theorem m_9_1 : Cond.fieldLink RX12 80 "PaperBoysModel" "fact" "[I" ∈ wsL_law := ch_9 _ (List.mem_of_getElem? (i := 1) rfl)
theorem m_9_2 : Cond.fieldLink RX12 83 "PaperBoysModel" "value" "[Z" ∈ wsL_law := ch_9 _ (List.mem_of_getElem? (i := 2) rfl)
theorem m_9_3 : Cond.fieldLink RX12 86 "PaperBoysModel" "teller" "I" ∈ wsL_law := ch_9 _ (List.mem_of_getElem? (i := 3) rfl)
theorem m_9_4 : Cond.fieldLink RX12 90 "PaperBoysModel" "boyOf" "[I" ∈ wsL_law := ch_9 _ (List.mem_of_getElem? (i := 4) rfl)
theorem m_9_5 : Cond.fieldLink RX12 93 "PaperBoysModel" "paperOf" "[I" ∈ wsL_law := ch_9 _ (List.mem_of_getElem? (i := 5) rfl)
theorem m_9_6 : Cond.fieldLink RX12 96 "PaperBoysModel" "cornerOf" "[I" ∈ wsL_law := ch_9 _ (List.mem_of_getElem? (i := 6) rfl)
theorem m_9_7 : Cond.fieldLink RX12 99 "PaperBoysModel" "copiesOf" "[I" ∈ wsL_law := ch_9 _ (List.mem_of_getElem? (i := 7) rfl)
theorem m_9_8 : Cond.fieldLink RX12 102 "PaperBoysModel" "hourOf" "[I" ∈ wsL_law := ch_9 _ (List.mem_of_getElem? (i := 8) rfl)
theorem m_9_9 : Cond.fieldLink RX12 105 "PaperBoysModel" "dayOf" "[I" ∈ wsL_law := ch_9 _ (List.mem_of_getElem? (i := 9) rfl)
theorem m_9_10 : Cond.fieldLink RX12 108 "PaperBoysModel" "costOf" "[I" ∈ wsL_law := ch_9 _ (List.mem_of_getElem? (i := 10) rfl)
theorem m_9_11 : Cond.fieldLink RX12 111 "PaperBoysModel" "sold" "[I" ∈ wsL_law := ch_9 _ (List.mem_of_getElem? (i := 11) rfl)
theorem m_9_12 : Cond.fieldLink RX12 114 "PaperBoysModel" "backOf" "[I" ∈ wsL_law := ch_9 _ (List.mem_of_getElem? (i := 12) rfl)
theorem m_9_13 : Cond.fieldLink RX12 117 "PaperBoysModel" "eaten" "[I" ∈ wsL_law := ch_9 _ (List.mem_of_getElem? (i := 13) rfl)
theorem m_9_14 : Cond.fieldLink RX12 120 "PaperBoysModel" "why" "I" ∈ wsL_law := ch_9 _ (List.mem_of_getElem? (i := 14) rfl)
theorem m_9_15 : Cond.fieldLink RX12 123 "PaperBoysModel" "soldNow" "[I" ∈ wsL_law := ch_9 _ (List.mem_of_getElem? (i := 15) rfl)
theorem m_9_16 : Cond.fieldLink RX12 126 "PaperBoysModel" "backNow" "[I" ∈ wsL_law := ch_9 _ (List.mem_of_getElem? (i := 16) rfl)
theorem m_9_17 : Cond.fieldLink RX12 129 "PaperBoysModel" "isCried" "[Z" ∈ wsL_law := ch_9 _ (List.mem_of_getElem? (i := 17) rfl)
theorem m_9_18 : Cond.fieldLink RX12 132 "PaperBoysModel" "maySell" "[Z" ∈ wsL_law := ch_9 _ (List.mem_of_getElem? (i := 18) rfl)
theorem m_9_19 : Cond.fieldLink RX12 135 "PaperBoysModel" "countPaper" "[I" ∈ wsL_law := ch_9 _ (List.mem_of_getElem? (i := 19) rfl)
theorem m_9_20 : Cond.fieldLink RX12 138 "PaperBoysModel" "countCorner" "[I" ∈ wsL_law := ch_9 _ (List.mem_of_getElem? (i := 20) rfl)
theorem m_9_21 : Cond.fieldLink RX12 141 "PaperBoysModel" "countDay" "[I" ∈ wsL_law := ch_9 _ (List.mem_of_getElem? (i := 21) rfl)
theorem m_9_22 : Cond.fieldLink RX12 144 "PaperBoysModel" "countCopies" "[I" ∈ wsL_law := ch_9 _ (List.mem_of_getElem? (i := 22) rfl)
theorem m_9_23 : Cond.fieldLink RX12 147 "PaperBoysModel" "countTold" "[I" ∈ wsL_law := ch_9 _ (List.mem_of_getElem? (i := 23) rfl)
theorem m_10_0 : Cond.fieldLink RX12 150 "PaperBoysModel" "triedEaten" "I" ∈ wsL_law := ch_10 _ (List.mem_of_getElem? (i := 0) rfl)
theorem m_10_1 : Cond.fieldLink RX12 153 "PaperBoysModel" "gain" "[I" ∈ wsL_law := ch_10 _ (List.mem_of_getElem? (i := 1) rfl)
theorem m_10_2 : Cond.fieldLink RX12 156 "PaperBoysModel" "might" "[I" ∈ wsL_law := ch_10 _ (List.mem_of_getElem? (i := 2) rfl)
theorem m_10_3 : Cond.fieldLink RX12 159 "PaperBoysModel" "has" "[I" ∈ wsL_law := ch_10 _ (List.mem_of_getElem? (i := 3) rfl)
theorem m_10_4 : Cond.fieldLink RX12 162 "PaperBoysModel" "tryHas" "[I" ∈ wsL_law := ch_10 _ (List.mem_of_getElem? (i := 4) rfl)
theorem m_10_5 : Cond.fieldLink RX12 165 "PaperBoysModel" "by" "[I" ∈ wsL_law := ch_10 _ (List.mem_of_getElem? (i := 5) rfl)
theorem m_10_6 : Cond.fieldLink RX12 168 "PaperBoysModel" "isSent" "[Z" ∈ wsL_law := ch_10 _ (List.mem_of_getElem? (i := 6) rfl)
theorem m_10_7 : Cond.fieldLink RX12 171 "PaperBoysModel" "keptGain" "[I" ∈ wsL_law := ch_10 _ (List.mem_of_getElem? (i := 7) rfl)
theorem m_10_8 : Cond.fieldLink RX12 174 "PaperBoysModel" "keptMight" "[I" ∈ wsL_law := ch_10 _ (List.mem_of_getElem? (i := 8) rfl)
theorem m_10_9 : Cond.fieldLink RX12 177 "PaperBoysModel" "need" "[I" ∈ wsL_law := ch_10 _ (List.mem_of_getElem? (i := 9) rfl)
theorem m_10_10 : Cond.fieldLink RX12 180 "PaperBoysModel" "stop" "[I" ∈ wsL_law := ch_10 _ (List.mem_of_getElem? (i := 10) rfl)
theorem m_10_11 : Cond.fieldLink RX12 183 "PaperBoysModel" "truckWay" "[I" ∈ wsL_law := ch_10 _ (List.mem_of_getElem? (i := 11) rfl)
theorem m_10_12 : Cond.fieldLink RX12 186 "PaperBoysModel" "tryWay" "[I" ∈ wsL_law := ch_10 _ (List.mem_of_getElem? (i := 12) rfl)
theorem m_10_13 : Cond.fieldLink RX12 189 "PaperBoysModel" "tryAt" "[I" ∈ wsL_law := ch_10 _ (List.mem_of_getElem? (i := 13) rfl)
theorem m_10_14 : Cond.fieldLink RX12 192 "PaperBoysModel" "struckHow" "I" ∈ wsL_law := ch_10 _ (List.mem_of_getElem? (i := 14) rfl)
theorem m_10_15 : Cond.fieldLink RX12 195 "PaperBoysModel" "struckPrice" "I" ∈ wsL_law := ch_10 _ (List.mem_of_getElem? (i := 15) rfl)
theorem m_10_16 : Cond.methodLink RL 23 yX11_feed ∈ wsL_law := ch_10 _ (List.mem_of_getElem? (i := 16) rfl)
theorem m_10_17 : Cond.instanceMethod yX11_feed ∈ wsL_law := ch_10 _ (List.mem_of_getElem? (i := 17) rfl)
theorem m_10_18 : Cond.selects RX11 yX11_feed yX11_feed ∈ wsL_law := ch_10 _ (List.mem_of_getElem? (i := 18) rfl)
theorem m_10_19 : Cond.code yX11_feed cX11_feed 6 (some .int) ∈ wsL_law := ch_10 _ (List.mem_of_getElem? (i := 19) rfl)
theorem m_10_20 : Cond.fieldLink RX11 102 "PaperBoys$Tape" "size" "I" ∈ wsL_law := ch_10 _ (List.mem_of_getElem? (i := 20) rfl)
theorem m_10_21 : Cond.methodLink RX11 105 yX9_put ∈ wsL_law := ch_10 _ (List.mem_of_getElem? (i := 21) rfl)
theorem m_10_22 : Cond.instanceMethod yX9_put ∈ wsL_law := ch_10 _ (List.mem_of_getElem? (i := 22) rfl)
theorem m_10_23 : Cond.selects RX9 yX9_put yX9_put ∈ wsL_law := ch_10 _ (List.mem_of_getElem? (i := 23) rfl)
theorem m_11_0 : Cond.code yX9_put cX9_put 3 none ∈ wsL_law := ch_11 _ (List.mem_of_getElem? (i := 0) rfl)
theorem m_11_1 : Cond.methodLink RL 27 yX12_feed ∈ wsL_law := ch_11 _ (List.mem_of_getElem? (i := 1) rfl)
theorem m_11_2 : Cond.instanceMethod yX12_feed ∈ wsL_law := ch_11 _ (List.mem_of_getElem? (i := 2) rfl)
theorem m_11_3 : Cond.selects RX12 yX12_feed yX12_feed ∈ wsL_law := ch_11 _ (List.mem_of_getElem? (i := 3) rfl)
theorem m_11_4 : Cond.code yX12_feed cX12_feed 6 (some .int) ∈ wsL_law := ch_11 _ (List.mem_of_getElem? (i := 4) rfl)
theorem m_11_5 : Cond.fieldLink RX12 198 "PaperBoysModel" "thrown" "I" ∈ wsL_law := ch_11 _ (List.mem_of_getElem? (i := 5) rfl)
theorem m_11_6 : Cond.fieldLink RX12 201 "PaperBoysModel" "taped" "I" ∈ wsL_law := ch_11 _ (List.mem_of_getElem? (i := 6) rfl)
theorem m_11_7 : Cond.methodLink RX12 204 yX12_come ∈ wsL_law := ch_11 _ (List.mem_of_getElem? (i := 7) rfl)
theorem m_11_8 : Cond.instanceMethod yX12_come ∈ wsL_law := ch_11 _ (List.mem_of_getElem? (i := 8) rfl)
theorem m_11_9 : Cond.selects RX12 yX12_come yX12_come ∈ wsL_law := ch_11 _ (List.mem_of_getElem? (i := 9) rfl)
theorem m_11_10 : Cond.code yX12_come cX12_come 3 none ∈ wsL_law := ch_11 _ (List.mem_of_getElem? (i := 10) rfl)
theorem m_11_11 : Cond.methodLink RL 28 yX11_end ∈ wsL_law := ch_11 _ (List.mem_of_getElem? (i := 11) rfl)
theorem m_11_12 : Cond.instanceMethod yX11_end ∈ wsL_law := ch_11 _ (List.mem_of_getElem? (i := 12) rfl)
theorem m_11_13 : Cond.selects RX11 yX11_end yX11_end ∈ wsL_law := ch_11 _ (List.mem_of_getElem? (i := 13) rfl)
theorem m_11_14 : Cond.code yX11_end cX11_end 2 (some .boolean) ∈ wsL_law := ch_11 _ (List.mem_of_getElem? (i := 14) rfl)
theorem m_11_15 : Cond.methodLink RL 32 yX12_end ∈ wsL_law := ch_11 _ (List.mem_of_getElem? (i := 15) rfl)
theorem m_11_16 : Cond.instanceMethod yX12_end ∈ wsL_law := ch_11 _ (List.mem_of_getElem? (i := 16) rfl)
theorem m_11_17 : Cond.selects RX12 yX12_end yX12_end ∈ wsL_law := ch_11 _ (List.mem_of_getElem? (i := 17) rfl)
theorem m_11_18 : Cond.code yX12_end cX12_end 2 (some .boolean) ∈ wsL_law := ch_11 _ (List.mem_of_getElem? (i := 18) rfl)
theorem m_11_19 : Cond.methodLink RL 33 yX11_boy ∈ wsL_law := ch_11 _ (List.mem_of_getElem? (i := 19) rfl)
theorem m_11_20 : Cond.instanceMethod yX11_boy ∈ wsL_law := ch_11 _ (List.mem_of_getElem? (i := 20) rfl)
theorem m_11_21 : Cond.selects RX11 yX11_boy yX11_boy ∈ wsL_law := ch_11 _ (List.mem_of_getElem? (i := 21) rfl)
theorem m_11_22 : Cond.code yX11_boy cX11_boy 6 (some .int) ∈ wsL_law := ch_11 _ (List.mem_of_getElem? (i := 22) rfl)
theorem m_11_23 : Cond.fieldLink RX11 109 "PaperBoys$Market" "boys" "Ljava/util/ArrayList;" ∈ wsL_law := ch_11 _ (List.mem_of_getElem? (i := 23) rfl)
theorem m_12_0 : Cond.classLink RX11 123 RX0 ∈ wsL_law := ch_12 _ (List.mem_of_getElem? (i := 0) rfl)
theorem m_12_1 : Cond.instantiable RX0 6 ∈ wsL_law := ch_12 _ (List.mem_of_getElem? (i := 1) rfl)
theorem m_12_2 : Cond.initialized RX0 ∈ wsL_law := ch_12 _ (List.mem_of_getElem? (i := 2) rfl)
theorem m_12_3 : Cond.methodLink RX11 112 yJx4a65c_size_8abf5 ∈ wsL_law := ch_12 _ (List.mem_of_getElem? (i := 3) rfl)
theorem m_12_4 : Cond.instanceMethod yJx4a65c_size_8abf5 ∈ wsL_law := ch_12 _ (List.mem_of_getElem? (i := 4) rfl)
theorem m_12_5 : Cond.selects RJx4a65c yJx4a65c_size_8abf5 yJx4a65c_size_8abf5 ∈ wsL_law := ch_12 _ (List.mem_of_getElem? (i := 5) rfl)
theorem m_12_6 : Cond.code yJx4a65c_size_8abf5 cJx4a65c_size_8abf5 1 (some .int) ∈ wsL_law := ch_12 _ (List.mem_of_getElem? (i := 6) rfl)
theorem m_12_7 : Cond.fieldLink RJx4a65c 48 "java/util/ArrayList" "size" "I" ∈ wsL_law := ch_12 _ (List.mem_of_getElem? (i := 7) rfl)
theorem m_12_8 : Cond.methodLink RX11 115 yX11_within ∈ wsL_law := ch_12 _ (List.mem_of_getElem? (i := 8) rfl)
theorem m_12_9 : Cond.static yX11_within ∈ wsL_law := ch_12 _ (List.mem_of_getElem? (i := 9) rfl)
theorem m_12_10 : Cond.code yX11_within cX11_within 3 (some .boolean) ∈ wsL_law := ch_12 _ (List.mem_of_getElem? (i := 10) rfl)
theorem m_12_11 : Cond.methodLink RX11 119 yX11_isBadge ∈ wsL_law := ch_12 _ (List.mem_of_getElem? (i := 11) rfl)
theorem m_12_12 : Cond.static yX11_isBadge ∈ wsL_law := ch_12 _ (List.mem_of_getElem? (i := 12) rfl)
theorem m_12_13 : Cond.code yX11_isBadge cX11_isBadge 1 (some .boolean) ∈ wsL_law := ch_12 _ (List.mem_of_getElem? (i := 13) rfl)
theorem m_12_14 : Cond.methodLink RX11 159 yX11_isDay ∈ wsL_law := ch_12 _ (List.mem_of_getElem? (i := 14) rfl)
theorem m_12_15 : Cond.static yX11_isDay ∈ wsL_law := ch_12 _ (List.mem_of_getElem? (i := 15) rfl)
theorem m_12_16 : Cond.code yX11_isDay cX11_isDay 1 (some .boolean) ∈ wsL_law := ch_12 _ (List.mem_of_getElem? (i := 16) rfl)
theorem m_12_17 : Cond.methodLink RX11 125 yX0_init ∈ wsL_law := ch_12 _ (List.mem_of_getElem? (i := 17) rfl)
theorem m_12_18 : Cond.instanceMethod yX0_init ∈ wsL_law := ch_12 _ (List.mem_of_getElem? (i := 18) rfl)
theorem m_12_19 : Cond.code yX0_init cX0_init 6 none ∈ wsL_law := ch_12 _ (List.mem_of_getElem? (i := 19) rfl)
theorem m_12_20 : Cond.methodLink RX0 1 objectInit ∈ wsL_law := ch_12 _ (List.mem_of_getElem? (i := 20) rfl)
theorem m_12_21 : Cond.fieldLink RX0 7 "PaperBoys$Boy" "coin" "I" ∈ wsL_law := ch_12 _ (List.mem_of_getElem? (i := 21) rfl)
theorem m_12_22 : Cond.fieldLink RX0 13 "PaperBoys$Boy" "number" "I" ∈ wsL_law := ch_12 _ (List.mem_of_getElem? (i := 22) rfl)
theorem m_12_23 : Cond.fieldLink RX0 16 "PaperBoys$Boy" "age" "I" ∈ wsL_law := ch_12 _ (List.mem_of_getElem? (i := 23) rfl)
theorem m_13_0 : Cond.fieldLink RX0 19 "PaperBoys$Boy" "school" "Z" ∈ wsL_law := ch_13 _ (List.mem_of_getElem? (i := 0) rfl)
theorem m_13_1 : Cond.fieldLink RX0 23 "PaperBoys$Boy" "badge" "I" ∈ wsL_law := ch_13 _ (List.mem_of_getElem? (i := 1) rfl)
theorem m_13_2 : Cond.fieldLink RX0 26 "PaperBoys$Boy" "fists" "I" ∈ wsL_law := ch_13 _ (List.mem_of_getElem? (i := 2) rfl)
theorem m_13_3 : Cond.methodLink RX11 128 yJx4a65c_add_9ea2d ∈ wsL_law := ch_13 _ (List.mem_of_getElem? (i := 3) rfl)
theorem m_13_4 : Cond.instanceMethod yJx4a65c_add_9ea2d ∈ wsL_law := ch_13 _ (List.mem_of_getElem? (i := 4) rfl)
theorem m_13_5 : Cond.selects RJx4a65c yJx4a65c_add_9ea2d yJx4a65c_add_9ea2d ∈ wsL_law := ch_13 _ (List.mem_of_getElem? (i := 5) rfl)
theorem m_13_6 : Cond.code yJx4a65c_add_9ea2d cJx4a65c_add_9ea2d 2 (some .boolean) ∈ wsL_law := ch_13 _ (List.mem_of_getElem? (i := 6) rfl)
theorem m_13_7 : Cond.fieldLink RJx4a65c 63 "java/util/ArrayList" "modCount" "I" ∈ wsL_law := ch_13 _ (List.mem_of_getElem? (i := 7) rfl)
theorem m_13_8 : Cond.sameField "java/util/ArrayList" "java/util/AbstractList" "modCount" "I" ∈ wsL_law := ch_13 _ (List.mem_of_getElem? (i := 8) rfl)
theorem m_13_9 : Cond.methodLink RJx4a65c 131 yJx4a65c_add_72be8 ∈ wsL_law := ch_13 _ (List.mem_of_getElem? (i := 9) rfl)
theorem m_13_10 : Cond.instanceMethod yJx4a65c_add_72be8 ∈ wsL_law := ch_13 _ (List.mem_of_getElem? (i := 10) rfl)
theorem m_13_11 : Cond.selects RJx4a65c yJx4a65c_add_72be8 yJx4a65c_add_72be8 ∈ wsL_law := ch_13 _ (List.mem_of_getElem? (i := 11) rfl)
theorem m_13_12 : Cond.code yJx4a65c_add_72be8 cJx4a65c_add_72be8 4 none ∈ wsL_law := ch_13 _ (List.mem_of_getElem? (i := 12) rfl)
theorem m_13_13 : Cond.methodLink RJx4a65c 129 yJx4a65c_grow_d5877 ∈ wsL_law := ch_13 _ (List.mem_of_getElem? (i := 13) rfl)
theorem m_13_14 : Cond.instanceMethod yJx4a65c_grow_d5877 ∈ wsL_law := ch_13 _ (List.mem_of_getElem? (i := 14) rfl)
theorem m_13_15 : Cond.selects RJx4a65c yJx4a65c_grow_d5877 yJx4a65c_grow_d5877 ∈ wsL_law := ch_13 _ (List.mem_of_getElem? (i := 15) rfl)
theorem m_13_16 : Cond.code yJx4a65c_grow_d5877 cJx4a65c_grow_d5877 1 (some (.array (.object "java/lang/Object"))) ∈ wsL_law := ch_13 _ (List.mem_of_getElem? (i := 16) rfl)
theorem m_13_17 : Cond.methodLink RJx4a65c 69 yJx4a65c_grow_92f84 ∈ wsL_law := ch_13 _ (List.mem_of_getElem? (i := 17) rfl)
theorem m_13_18 : Cond.instanceMethod yJx4a65c_grow_92f84 ∈ wsL_law := ch_13 _ (List.mem_of_getElem? (i := 18) rfl)
theorem m_13_19 : Cond.selects RJx4a65c yJx4a65c_grow_92f84 yJx4a65c_grow_92f84 ∈ wsL_law := ch_13 _ (List.mem_of_getElem? (i := 19) rfl)
theorem m_13_20 : Cond.code yJx4a65c_grow_92f84 cJx4a65c_grow_92f84 4 (some (.array (.object "java/lang/Object"))) ∈ wsL_law := ch_13 _ (List.mem_of_getElem? (i := 20) rfl)
theorem m_13_21 : Cond.methodLink RJx4a65c 79 Lib.Math.max.name ∈ wsL_law := ch_13 _ (List.mem_of_getElem? (i := 21) rfl)
theorem m_13_22 : Cond.static Lib.Math.max.name ∈ wsL_law := ch_13 _ (List.mem_of_getElem? (i := 22) rfl)
theorem m_13_23 : Cond.initialized "java/lang/Math" ∈ wsL_law := ch_13 _ (List.mem_of_getElem? (i := 23) rfl)
theorem m_14_0 : Cond.code Lib.Math.max.name Lib.Math.max.code 2 (some .int) ∈ wsL_law := ch_14 _ (List.mem_of_getElem? (i := 0) rfl)
theorem m_14_1 : Cond.classLink RJx4a65c 7 "java/lang/Object" ∈ wsL_law := ch_14 _ (List.mem_of_getElem? (i := 1) rfl)
theorem m_15_1 : Cond.static Lib.Math.min.name ∈ wsL_law := ch_15 _ (List.mem_of_getElem? (i := 1) rfl)
theorem m_15_2 : Cond.code Lib.Math.min.name Lib.Math.min.code 2 (some .int) ∈ wsL_law := ch_15 _ (List.mem_of_getElem? (i := 2) rfl)
theorem m_15_4 : Cond.methodLink RL 37 yX12_boy ∈ wsL_law := ch_15 _ (List.mem_of_getElem? (i := 4) rfl)
theorem m_15_5 : Cond.instanceMethod yX12_boy ∈ wsL_law := ch_15 _ (List.mem_of_getElem? (i := 5) rfl)
theorem m_15_6 : Cond.selects RX12 yX12_boy yX12_boy ∈ wsL_law := ch_15 _ (List.mem_of_getElem? (i := 6) rfl)
theorem m_15_7 : Cond.code yX12_boy cX12_boy 5 (some .int) ∈ wsL_law := ch_15 _ (List.mem_of_getElem? (i := 7) rfl)
theorem m_15_8 : Cond.fieldLink RX12 208 "PaperBoysModel" "boys" "I" ∈ wsL_law := ch_15 _ (List.mem_of_getElem? (i := 8) rfl)
theorem m_15_9 : Cond.methodLink RX12 211 yX12_isIn ∈ wsL_law := ch_15 _ (List.mem_of_getElem? (i := 9) rfl)
theorem m_15_10 : Cond.static yX12_isIn ∈ wsL_law := ch_15 _ (List.mem_of_getElem? (i := 10) rfl)
theorem m_15_11 : Cond.code yX12_isIn cX12_isIn 3 (some .boolean) ∈ wsL_law := ch_15 _ (List.mem_of_getElem? (i := 11) rfl)
theorem m_15_12 : Cond.methodLink RL 38 yX11_badge ∈ wsL_law := ch_15 _ (List.mem_of_getElem? (i := 12) rfl)
theorem m_15_13 : Cond.instanceMethod yX11_badge ∈ wsL_law := ch_15 _ (List.mem_of_getElem? (i := 13) rfl)
theorem m_15_14 : Cond.selects RX11 yX11_badge yX11_badge ∈ wsL_law := ch_15 _ (List.mem_of_getElem? (i := 14) rfl)
theorem m_15_15 : Cond.code yX11_badge cX11_badge 3 (some .boolean) ∈ wsL_law := ch_15 _ (List.mem_of_getElem? (i := 15) rfl)
theorem m_15_18 : Cond.methodLink RX11 132 yX5_hasBoy ∈ wsL_law := ch_15 _ (List.mem_of_getElem? (i := 18) rfl)
theorem m_15_19 : Cond.instanceMethod yX5_hasBoy ∈ wsL_law := ch_15 _ (List.mem_of_getElem? (i := 19) rfl)
theorem m_15_20 : Cond.selects RX5 yX5_hasBoy yX5_hasBoy ∈ wsL_law := ch_15 _ (List.mem_of_getElem? (i := 20) rfl)
theorem m_16_0 : Cond.code yX5_hasBoy cX5_hasBoy 2 (some .boolean) ∈ wsL_law := ch_16 _ (List.mem_of_getElem? (i := 0) rfl)
theorem m_16_1 : Cond.methodLink RX5 45 yJx4a65c_size_8abf5 ∈ wsL_law := ch_16 _ (List.mem_of_getElem? (i := 1) rfl)
theorem m_16_18 : Cond.methodLink RL 42 yX12_badge ∈ wsL_law := ch_16 _ (List.mem_of_getElem? (i := 18) rfl)
theorem m_16_19 : Cond.instanceMethod yX12_badge ∈ wsL_law := ch_16 _ (List.mem_of_getElem? (i := 19) rfl)
theorem m_16_20 : Cond.selects RX12 yX12_badge yX12_badge ∈ wsL_law := ch_16 _ (List.mem_of_getElem? (i := 20) rfl)
theorem m_16_21 : Cond.code yX12_badge cX12_badge 3 (some .boolean) ∈ wsL_law := ch_16 _ (List.mem_of_getElem? (i := 21) rfl)
theorem m_16_22 : Cond.methodLink RX12 215 yX12_isBoy ∈ wsL_law := ch_16 _ (List.mem_of_getElem? (i := 22) rfl)
theorem m_16_23 : Cond.instanceMethod yX12_isBoy ∈ wsL_law := ch_16 _ (List.mem_of_getElem? (i := 23) rfl)
theorem m_17_0 : Cond.selects RX12 yX12_isBoy yX12_isBoy ∈ wsL_law := ch_17 _ (List.mem_of_getElem? (i := 0) rfl)
theorem m_17_1 : Cond.code yX12_isBoy cX12_isBoy 2 (some .boolean) ∈ wsL_law := ch_17 _ (List.mem_of_getElem? (i := 1) rfl)
theorem m_17_2 : Cond.methodLink RL 43 yX11_owner ∈ wsL_law := ch_17 _ (List.mem_of_getElem? (i := 2) rfl)
theorem m_17_3 : Cond.instanceMethod yX11_owner ∈ wsL_law := ch_17 _ (List.mem_of_getElem? (i := 3) rfl)
theorem m_17_4 : Cond.selects RX11 yX11_owner yX11_owner ∈ wsL_law := ch_17 _ (List.mem_of_getElem? (i := 4) rfl)
theorem m_17_5 : Cond.code yX11_owner cX11_owner 3 (some .boolean) ∈ wsL_law := ch_17 _ (List.mem_of_getElem? (i := 5) rfl)
theorem m_17_6 : Cond.fieldLink RX11 145 "PaperBoys$City" "owners" "[I" ∈ wsL_law := ch_17 _ (List.mem_of_getElem? (i := 6) rfl)
theorem m_17_7 : Cond.methodLink RX11 142 yX11_isCorner ∈ wsL_law := ch_17 _ (List.mem_of_getElem? (i := 7) rfl)
theorem m_17_8 : Cond.static yX11_isCorner ∈ wsL_law := ch_17 _ (List.mem_of_getElem? (i := 8) rfl)
theorem m_17_9 : Cond.code yX11_isCorner cX11_isCorner 1 (some .boolean) ∈ wsL_law := ch_17 _ (List.mem_of_getElem? (i := 9) rfl)
theorem m_17_10 : Cond.methodLink RL 46 yX12_owner ∈ wsL_law := ch_17 _ (List.mem_of_getElem? (i := 10) rfl)
theorem m_17_11 : Cond.instanceMethod yX12_owner ∈ wsL_law := ch_17 _ (List.mem_of_getElem? (i := 11) rfl)
theorem m_17_12 : Cond.selects RX12 yX12_owner yX12_owner ∈ wsL_law := ch_17 _ (List.mem_of_getElem? (i := 12) rfl)
theorem m_17_13 : Cond.code yX12_owner cX12_owner 3 (some .boolean) ∈ wsL_law := ch_17 _ (List.mem_of_getElem? (i := 13) rfl)
theorem m_17_14 : Cond.methodLink RX12 219 yX12_isCorner ∈ wsL_law := ch_17 _ (List.mem_of_getElem? (i := 14) rfl)
theorem m_17_15 : Cond.static yX12_isCorner ∈ wsL_law := ch_17 _ (List.mem_of_getElem? (i := 15) rfl)
theorem m_17_16 : Cond.code yX12_isCorner cX12_isCorner 1 (some .boolean) ∈ wsL_law := ch_17 _ (List.mem_of_getElem? (i := 16) rfl)
theorem m_17_17 : Cond.methodLink RL 47 yX11_weather ∈ wsL_law := ch_17 _ (List.mem_of_getElem? (i := 17) rfl)
theorem m_17_18 : Cond.instanceMethod yX11_weather ∈ wsL_law := ch_17 _ (List.mem_of_getElem? (i := 18) rfl)
theorem m_17_19 : Cond.selects RX11 yX11_weather yX11_weather ∈ wsL_law := ch_17 _ (List.mem_of_getElem? (i := 19) rfl)
theorem m_17_20 : Cond.code yX11_weather cX11_weather 2 (some .boolean) ∈ wsL_law := ch_17 _ (List.mem_of_getElem? (i := 20) rfl)
theorem m_18_7 : Cond.methodLink RL 51 yX12_weather ∈ wsL_law := ch_18 _ (List.mem_of_getElem? (i := 7) rfl)
theorem m_18_8 : Cond.instanceMethod yX12_weather ∈ wsL_law := ch_18 _ (List.mem_of_getElem? (i := 8) rfl)
theorem m_18_9 : Cond.selects RX12 yX12_weather yX12_weather ∈ wsL_law := ch_18 _ (List.mem_of_getElem? (i := 9) rfl)
theorem m_18_10 : Cond.code yX12_weather cX12_weather 3 (some .boolean) ∈ wsL_law := ch_18 _ (List.mem_of_getElem? (i := 10) rfl)
theorem m_18_11 : Cond.fieldLink RX12 226 "PaperBoysModel" "skyMany" "I" ∈ wsL_law := ch_18 _ (List.mem_of_getElem? (i := 11) rfl)
theorem m_18_12 : Cond.methodLink RX12 222 yX12_take ∈ wsL_law := ch_18 _ (List.mem_of_getElem? (i := 12) rfl)
theorem m_18_13 : Cond.instanceMethod yX12_take ∈ wsL_law := ch_18 _ (List.mem_of_getElem? (i := 13) rfl)
theorem m_18_14 : Cond.selects RX12 yX12_take yX12_take ∈ wsL_law := ch_18 _ (List.mem_of_getElem? (i := 14) rfl)
theorem m_18_15 : Cond.code yX12_take cX12_take 2 (some .int) ∈ wsL_law := ch_18 _ (List.mem_of_getElem? (i := 15) rfl)
theorem m_18_16 : Cond.methodLink RL 52 yX11_sky ∈ wsL_law := ch_18 _ (List.mem_of_getElem? (i := 16) rfl)
theorem m_18_17 : Cond.instanceMethod yX11_sky ∈ wsL_law := ch_18 _ (List.mem_of_getElem? (i := 17) rfl)
theorem m_18_18 : Cond.selects RX11 yX11_sky yX11_sky ∈ wsL_law := ch_18 _ (List.mem_of_getElem? (i := 18) rfl)
theorem m_18_19 : Cond.code yX11_sky cX11_sky 2 (some .int) ∈ wsL_law := ch_18 _ (List.mem_of_getElem? (i := 19) rfl)
theorem m_18_20 : Cond.fieldLink RX11 162 "PaperBoys$City" "sky" "[I" ∈ wsL_law := ch_18 _ (List.mem_of_getElem? (i := 20) rfl)
theorem m_18_21 : Cond.methodLink RL 55 yX12_sky ∈ wsL_law := ch_18 _ (List.mem_of_getElem? (i := 21) rfl)
theorem m_18_22 : Cond.instanceMethod yX12_sky ∈ wsL_law := ch_18 _ (List.mem_of_getElem? (i := 22) rfl)
theorem m_18_23 : Cond.selects RX12 yX12_sky yX12_sky ∈ wsL_law := ch_18 _ (List.mem_of_getElem? (i := 23) rfl)
theorem m_19_0 : Cond.code yX12_sky cX12_sky 2 (some .int) ∈ wsL_law := ch_19 _ (List.mem_of_getElem? (i := 0) rfl)
theorem m_19_1 : Cond.methodLink RX12 229 yX12_isDay ∈ wsL_law := ch_19 _ (List.mem_of_getElem? (i := 1) rfl)
theorem m_19_2 : Cond.static yX12_isDay ∈ wsL_law := ch_19 _ (List.mem_of_getElem? (i := 2) rfl)
theorem m_19_3 : Cond.code yX12_isDay cX12_isDay 1 (some .boolean) ∈ wsL_law := ch_19 _ (List.mem_of_getElem? (i := 3) rfl)
theorem m_19_4 : Cond.methodLink RX12 232 yX12_skyOf ∈ wsL_law := ch_19 _ (List.mem_of_getElem? (i := 4) rfl)
theorem m_19_5 : Cond.instanceMethod yX12_skyOf ∈ wsL_law := ch_19 _ (List.mem_of_getElem? (i := 5) rfl)
theorem m_19_6 : Cond.selects RX12 yX12_skyOf yX12_skyOf ∈ wsL_law := ch_19 _ (List.mem_of_getElem? (i := 6) rfl)
theorem m_19_7 : Cond.code yX12_skyOf cX12_skyOf 2 (some .int) ∈ wsL_law := ch_19 _ (List.mem_of_getElem? (i := 7) rfl)
theorem m_19_8 : Cond.methodLink RL 56 yX11_headline ∈ wsL_law := ch_19 _ (List.mem_of_getElem? (i := 8) rfl)
theorem m_19_9 : Cond.instanceMethod yX11_headline ∈ wsL_law := ch_19 _ (List.mem_of_getElem? (i := 9) rfl)
theorem m_19_10 : Cond.selects RX11 yX11_headline yX11_headline ∈ wsL_law := ch_19 _ (List.mem_of_getElem? (i := 10) rfl)
theorem m_19_11 : Cond.code yX11_headline cX11_headline 4 (some .boolean) ∈ wsL_law := ch_19 _ (List.mem_of_getElem? (i := 11) rfl)
theorem m_19_12 : Cond.fieldLink RX11 171 "PaperBoys$City" "headlines" "[[I" ∈ wsL_law := ch_19 _ (List.mem_of_getElem? (i := 12) rfl)
theorem m_19_13 : Cond.methodLink RX11 165 yX11_isPaper ∈ wsL_law := ch_19 _ (List.mem_of_getElem? (i := 13) rfl)
theorem m_19_14 : Cond.static yX11_isPaper ∈ wsL_law := ch_19 _ (List.mem_of_getElem? (i := 14) rfl)
theorem m_19_15 : Cond.code yX11_isPaper cX11_isPaper 1 (some .boolean) ∈ wsL_law := ch_19 _ (List.mem_of_getElem? (i := 15) rfl)
theorem m_19_16 : Cond.methodLink RX11 168 yX11_isHeadline ∈ wsL_law := ch_19 _ (List.mem_of_getElem? (i := 16) rfl)
theorem m_19_17 : Cond.static yX11_isHeadline ∈ wsL_law := ch_19 _ (List.mem_of_getElem? (i := 17) rfl)
theorem m_19_18 : Cond.code yX11_isHeadline cX11_isHeadline 1 (some .boolean) ∈ wsL_law := ch_19 _ (List.mem_of_getElem? (i := 18) rfl)
theorem m_19_19 : Cond.methodLink RL 60 yX12_headline ∈ wsL_law := ch_19 _ (List.mem_of_getElem? (i := 19) rfl)
theorem m_19_20 : Cond.instanceMethod yX12_headline ∈ wsL_law := ch_19 _ (List.mem_of_getElem? (i := 20) rfl)
theorem m_19_21 : Cond.selects RX12 yX12_headline yX12_headline ∈ wsL_law := ch_19 _ (List.mem_of_getElem? (i := 21) rfl)
theorem m_19_22 : Cond.code yX12_headline cX12_headline 4 (some .boolean) ∈ wsL_law := ch_19 _ (List.mem_of_getElem? (i := 22) rfl)
theorem m_19_23 : Cond.fieldLink RX12 239 "PaperBoysModel" "today" "I" ∈ wsL_law := ch_19 _ (List.mem_of_getElem? (i := 23) rfl)
theorem m_20_0 : Cond.methodLink RX12 236 yX12_isPaper ∈ wsL_law := ch_20 _ (List.mem_of_getElem? (i := 0) rfl)
theorem m_20_1 : Cond.static yX12_isPaper ∈ wsL_law := ch_20 _ (List.mem_of_getElem? (i := 1) rfl)
theorem m_20_2 : Cond.code yX12_isPaper cX12_isPaper 1 (some .boolean) ∈ wsL_law := ch_20 _ (List.mem_of_getElem? (i := 2) rfl)
theorem m_20_3 : Cond.methodLink RL 61 yX11_table ∈ wsL_law := ch_20 _ (List.mem_of_getElem? (i := 3) rfl)
theorem m_20_4 : Cond.instanceMethod yX11_table ∈ wsL_law := ch_20 _ (List.mem_of_getElem? (i := 4) rfl)
theorem m_20_5 : Cond.selects RX11 yX11_table yX11_table ∈ wsL_law := ch_20 _ (List.mem_of_getElem? (i := 5) rfl)
theorem m_20_6 : Cond.code yX11_table cX11_table 4 (some .boolean) ∈ wsL_law := ch_20 _ (List.mem_of_getElem? (i := 6) rfl)
theorem m_20_7 : Cond.fieldLink RX11 177 "PaperBoys$City" "wet" "[I" ∈ wsL_law := ch_20 _ (List.mem_of_getElem? (i := 7) rfl)
theorem m_20_8 : Cond.fieldLink RX11 180 "PaperBoys$City" "loud" "[I" ∈ wsL_law := ch_20 _ (List.mem_of_getElem? (i := 8) rfl)
theorem m_20_9 : Cond.methodLink RX11 175 yX11_isWeather ∈ wsL_law := ch_20 _ (List.mem_of_getElem? (i := 9) rfl)
theorem m_20_10 : Cond.static yX11_isWeather ∈ wsL_law := ch_20 _ (List.mem_of_getElem? (i := 10) rfl)
theorem m_20_11 : Cond.code yX11_isWeather cX11_isWeather 1 (some .boolean) ∈ wsL_law := ch_20 _ (List.mem_of_getElem? (i := 11) rfl)
theorem m_20_12 : Cond.methodLink RL 64 yX12_table ∈ wsL_law := ch_20 _ (List.mem_of_getElem? (i := 12) rfl)
theorem m_20_13 : Cond.instanceMethod yX12_table ∈ wsL_law := ch_20 _ (List.mem_of_getElem? (i := 13) rfl)
theorem m_20_14 : Cond.selects RX12 yX12_table yX12_table ∈ wsL_law := ch_20 _ (List.mem_of_getElem? (i := 14) rfl)
theorem m_20_15 : Cond.code yX12_table cX12_table 4 (some .boolean) ∈ wsL_law := ch_20 _ (List.mem_of_getElem? (i := 15) rfl)
theorem m_20_16 : Cond.methodLink RL 65 yX11_want ∈ wsL_law := ch_20 _ (List.mem_of_getElem? (i := 16) rfl)
theorem m_20_17 : Cond.instanceMethod yX11_want ∈ wsL_law := ch_20 _ (List.mem_of_getElem? (i := 17) rfl)
theorem m_20_18 : Cond.selects RX11 yX11_want yX11_want ∈ wsL_law := ch_20 _ (List.mem_of_getElem? (i := 18) rfl)
theorem m_20_19 : Cond.code yX11_want cX11_want 4 (some .boolean) ∈ wsL_law := ch_20 _ (List.mem_of_getElem? (i := 19) rfl)
theorem m_20_20 : Cond.fieldLink RX11 183 "PaperBoys$City" "wants" "[[I" ∈ wsL_law := ch_20 _ (List.mem_of_getElem? (i := 20) rfl)
theorem m_20_21 : Cond.methodLink RL 68 yX12_want ∈ wsL_law := ch_20 _ (List.mem_of_getElem? (i := 21) rfl)
theorem m_20_22 : Cond.instanceMethod yX12_want ∈ wsL_law := ch_20 _ (List.mem_of_getElem? (i := 22) rfl)
theorem m_20_23 : Cond.selects RX12 yX12_want yX12_want ∈ wsL_law := ch_20 _ (List.mem_of_getElem? (i := 23) rfl)
theorem m_21_0 : Cond.code yX12_want cX12_want 4 (some .boolean) ∈ wsL_law := ch_21 _ (List.mem_of_getElem? (i := 0) rfl)
theorem m_21_1 : Cond.methodLink RL 69 yX11_asked ∈ wsL_law := ch_21 _ (List.mem_of_getElem? (i := 1) rfl)
theorem m_21_2 : Cond.instanceMethod yX11_asked ∈ wsL_law := ch_21 _ (List.mem_of_getElem? (i := 2) rfl)
theorem m_21_3 : Cond.selects RX11 yX11_asked yX11_asked ∈ wsL_law := ch_21 _ (List.mem_of_getElem? (i := 3) rfl)
theorem m_21_4 : Cond.code yX11_asked cX11_asked 5 (some .int) ∈ wsL_law := ch_21 _ (List.mem_of_getElem? (i := 4) rfl)
theorem m_21_5 : Cond.methodLink RX11 186 yX3_askedFor ∈ wsL_law := ch_21 _ (List.mem_of_getElem? (i := 5) rfl)
theorem m_21_6 : Cond.instanceMethod yX3_askedFor ∈ wsL_law := ch_21 _ (List.mem_of_getElem? (i := 6) rfl)
theorem m_21_7 : Cond.selects RX3 yX3_askedFor yX3_askedFor ∈ wsL_law := ch_21 _ (List.mem_of_getElem? (i := 7) rfl)
theorem m_21_8 : Cond.code yX3_askedFor cX3_askedFor 6 (some .int) ∈ wsL_law := ch_21 _ (List.mem_of_getElem? (i := 8) rfl)
theorem m_21_9 : Cond.methodLink RL 73 yX12_asked ∈ wsL_law := ch_21 _ (List.mem_of_getElem? (i := 9) rfl)
theorem m_21_10 : Cond.instanceMethod yX12_asked ∈ wsL_law := ch_21 _ (List.mem_of_getElem? (i := 10) rfl)
theorem m_21_11 : Cond.selects RX12 yX12_asked yX12_asked ∈ wsL_law := ch_21 _ (List.mem_of_getElem? (i := 11) rfl)
theorem m_21_12 : Cond.code yX12_asked cX12_asked 5 (some .int) ∈ wsL_law := ch_21 _ (List.mem_of_getElem? (i := 12) rfl)
theorem m_21_13 : Cond.methodLink RX12 242 yX12_askedOf ∈ wsL_law := ch_21 _ (List.mem_of_getElem? (i := 13) rfl)
theorem m_21_14 : Cond.instanceMethod yX12_askedOf ∈ wsL_law := ch_21 _ (List.mem_of_getElem? (i := 14) rfl)
theorem m_21_15 : Cond.selects RX12 yX12_askedOf yX12_askedOf ∈ wsL_law := ch_21 _ (List.mem_of_getElem? (i := 15) rfl)
theorem m_21_16 : Cond.code yX12_askedOf cX12_askedOf 5 (some .int) ∈ wsL_law := ch_21 _ (List.mem_of_getElem? (i := 16) rfl)
theorem m_21_17 : Cond.methodLink RL 74 yX11_minutes ∈ wsL_law := ch_21 _ (List.mem_of_getElem? (i := 17) rfl)
theorem m_21_18 : Cond.instanceMethod yX11_minutes ∈ wsL_law := ch_21 _ (List.mem_of_getElem? (i := 18) rfl)
theorem m_21_19 : Cond.selects RX11 yX11_minutes yX11_minutes ∈ wsL_law := ch_21 _ (List.mem_of_getElem? (i := 19) rfl)
theorem m_21_20 : Cond.code yX11_minutes cX11_minutes 4 (some .boolean) ∈ wsL_law := ch_21 _ (List.mem_of_getElem? (i := 20) rfl)
theorem m_21_21 : Cond.fieldLink RX11 190 "PaperBoys$City" "minutes" "[[I" ∈ wsL_law := ch_21 _ (List.mem_of_getElem? (i := 21) rfl)
theorem m_21_22 : Cond.methodLink RL 77 yX12_minutes ∈ wsL_law := ch_21 _ (List.mem_of_getElem? (i := 22) rfl)
theorem m_21_23 : Cond.instanceMethod yX12_minutes ∈ wsL_law := ch_21 _ (List.mem_of_getElem? (i := 23) rfl)
theorem m_22_0 : Cond.selects RX12 yX12_minutes yX12_minutes ∈ wsL_law := ch_22 _ (List.mem_of_getElem? (i := 0) rfl)
theorem m_22_1 : Cond.code yX12_minutes cX12_minutes 4 (some .boolean) ∈ wsL_law := ch_22 _ (List.mem_of_getElem? (i := 1) rfl)
theorem m_22_2 : Cond.methodLink RX12 250 yX12_layWays ∈ wsL_law := ch_22 _ (List.mem_of_getElem? (i := 2) rfl)
theorem m_22_3 : Cond.instanceMethod yX12_layWays ∈ wsL_law := ch_22 _ (List.mem_of_getElem? (i := 3) rfl)
theorem m_22_4 : Cond.selects RX12 yX12_layWays yX12_layWays ∈ wsL_law := ch_22 _ (List.mem_of_getElem? (i := 4) rfl)
theorem m_22_5 : Cond.code yX12_layWays cX12_layWays 2 none ∈ wsL_law := ch_22 _ (List.mem_of_getElem? (i := 5) rfl)
theorem m_22_6 : Cond.fieldLink RX12 246 "PaperBoysModel" "isLaid" "Z" ∈ wsL_law := ch_22 _ (List.mem_of_getElem? (i := 6) rfl)
theorem m_22_7 : Cond.methodLink RL 78 yX11_terms ∈ wsL_law := ch_22 _ (List.mem_of_getElem? (i := 7) rfl)
theorem m_22_8 : Cond.instanceMethod yX11_terms ∈ wsL_law := ch_22 _ (List.mem_of_getElem? (i := 8) rfl)
theorem m_22_9 : Cond.selects RX11 yX11_terms yX11_terms ∈ wsL_law := ch_22 _ (List.mem_of_getElem? (i := 9) rfl)
theorem m_22_10 : Cond.code yX11_terms cX11_terms 3 (some .int) ∈ wsL_law := ch_22 _ (List.mem_of_getElem? (i := 10) rfl)
theorem m_22_11 : Cond.fieldLink RX11 197 "PaperBoys$Reader" "fault" "I" ∈ wsL_law := ch_22 _ (List.mem_of_getElem? (i := 11) rfl)
theorem m_22_13 : Cond.methodLink RX11 193 yX7_read ∈ wsL_law := ch_22 _ (List.mem_of_getElem? (i := 13) rfl)
theorem m_22_14 : Cond.instanceMethod yX7_read ∈ wsL_law := ch_22 _ (List.mem_of_getElem? (i := 14) rfl)
theorem m_22_15 : Cond.selects RX7 yX7_read yX7_read ∈ wsL_law := ch_22 _ (List.mem_of_getElem? (i := 15) rfl)
theorem m_22_16 : Cond.code yX7_read cX7_read 4 none ∈ wsL_law := ch_22 _ (List.mem_of_getElem? (i := 16) rfl)
theorem m_22_17 : Cond.fieldLink RX7 39 "PaperBoys$Terms" "lines" "I" ∈ wsL_law := ch_22 _ (List.mem_of_getElem? (i := 17) rfl)
theorem m_22_18 : Cond.fieldLink RX7 44 "PaperBoys$Terms" "steps" "I" ∈ wsL_law := ch_22 _ (List.mem_of_getElem? (i := 18) rfl)
theorem m_22_19 : Cond.fieldLink RX7 55 "PaperBoys$Tape" "size" "I" ∈ wsL_law := ch_22 _ (List.mem_of_getElem? (i := 19) rfl)
theorem m_22_20 : Cond.methodLink RX7 35 yX7_scan ∈ wsL_law := ch_22 _ (List.mem_of_getElem? (i := 20) rfl)
theorem m_22_21 : Cond.instanceMethod yX7_scan ∈ wsL_law := ch_22 _ (List.mem_of_getElem? (i := 21) rfl)
theorem m_22_22 : Cond.selects RX7 yX7_scan yX7_scan ∈ wsL_law := ch_22 _ (List.mem_of_getElem? (i := 22) rfl)
theorem m_22_23 : Cond.code yX7_scan cX7_scan 7 none ∈ wsL_law := ch_22 _ (List.mem_of_getElem? (i := 23) rfl)
theorem m_23_0 : Cond.methodLink RX7 64 Lib.Math.min.name ∈ wsL_law := ch_23 _ (List.mem_of_getElem? (i := 0) rfl)
theorem m_25_21 : Cond.methodLink RX7 47 yX7_now ∈ wsL_law := ch_25 _ (List.mem_of_getElem? (i := 21) rfl)
theorem m_25_22 : Cond.instanceMethod yX7_now ∈ wsL_law := ch_25 _ (List.mem_of_getElem? (i := 22) rfl)
theorem m_25_23 : Cond.selects RX7 yX7_now yX7_now ∈ wsL_law := ch_25 _ (List.mem_of_getElem? (i := 23) rfl)
theorem m_26_0 : Cond.code yX7_now cX7_now 1 (some .int) ∈ wsL_law := ch_26 _ (List.mem_of_getElem? (i := 0) rfl)
theorem m_27_21 : Cond.methodLink RX11 198 yX11_takeDraft ∈ wsL_law := ch_27 _ (List.mem_of_getElem? (i := 21) rfl)
theorem m_27_22 : Cond.instanceMethod yX11_takeDraft ∈ wsL_law := ch_27 _ (List.mem_of_getElem? (i := 22) rfl)
theorem m_27_23 : Cond.selects RX11 yX11_takeDraft yX11_takeDraft ∈ wsL_law := ch_27 _ (List.mem_of_getElem? (i := 23) rfl)
theorem m_28_0 : Cond.code yX11_takeDraft cX11_takeDraft 3 (some .int) ∈ wsL_law := ch_28 _ (List.mem_of_getElem? (i := 0) rfl)
theorem m_28_1 : Cond.fieldLink RX11 356 "PaperBoys$Terms" "from" "I" ∈ wsL_law := ch_28 _ (List.mem_of_getElem? (i := 1) rfl)
theorem m_28_2 : Cond.fieldLink RX11 359 "PaperBoys$Terms" "lines" "I" ∈ wsL_law := ch_28 _ (List.mem_of_getElem? (i := 2) rfl)
theorem m_28_3 : Cond.methodLink RL 81 yX12_terms ∈ wsL_law := ch_28 _ (List.mem_of_getElem? (i := 3) rfl)
theorem m_28_4 : Cond.instanceMethod yX12_terms ∈ wsL_law := ch_28 _ (List.mem_of_getElem? (i := 4) rfl)
theorem m_28_5 : Cond.selects RX12 yX12_terms yX12_terms ∈ wsL_law := ch_28 _ (List.mem_of_getElem? (i := 5) rfl)
theorem m_28_6 : Cond.code yX12_terms cX12_terms 4 (some .int) ∈ wsL_law := ch_28 _ (List.mem_of_getElem? (i := 6) rfl)
theorem m_28_7 : Cond.fieldLink RX12 373 "PaperBoysModel" "terms" "I" ∈ wsL_law := ch_28 _ (List.mem_of_getElem? (i := 7) rfl)
theorem m_28_9 : Cond.fieldLink RX12 361 "PaperBoysModel" "lines" "I" ∈ wsL_law := ch_28 _ (List.mem_of_getElem? (i := 9) rfl)
theorem m_28_10 : Cond.fieldLink RX12 313 "PaperBoysModel" "pieces" "I" ∈ wsL_law := ch_28 _ (List.mem_of_getElem? (i := 10) rfl)
theorem m_28_11 : Cond.methodLink RX12 376 yX12_readTerms ∈ wsL_law := ch_28 _ (List.mem_of_getElem? (i := 11) rfl)
theorem m_28_12 : Cond.instanceMethod yX12_readTerms ∈ wsL_law := ch_28 _ (List.mem_of_getElem? (i := 12) rfl)
theorem m_28_13 : Cond.selects RX12 yX12_readTerms yX12_readTerms ∈ wsL_law := ch_28 _ (List.mem_of_getElem? (i := 13) rfl)
theorem m_28_14 : Cond.code yX12_readTerms cX12_readTerms 2 (some .boolean) ∈ wsL_law := ch_28 _ (List.mem_of_getElem? (i := 14) rfl)
theorem m_28_15 : Cond.fieldLink RX12 253 "PaperBoysModel" "size" "I" ∈ wsL_law := ch_28 _ (List.mem_of_getElem? (i := 15) rfl)
theorem m_28_16 : Cond.fieldLink RX12 291 "PaperBoysModel" "fault" "I" ∈ wsL_law := ch_28 _ (List.mem_of_getElem? (i := 16) rfl)
theorem m_28_17 : Cond.fieldLink RX12 364 "PaperBoysModel" "told" "I" ∈ wsL_law := ch_28 _ (List.mem_of_getElem? (i := 17) rfl)
theorem m_28_18 : Cond.fieldLink RX12 336 "PaperBoysModel" "ones" "I" ∈ wsL_law := ch_28 _ (List.mem_of_getElem? (i := 18) rfl)
theorem m_28_19 : Cond.fieldLink RX12 339 "PaperBoysModel" "within" "I" ∈ wsL_law := ch_28 _ (List.mem_of_getElem? (i := 19) rfl)
theorem m_28_20 : Cond.fieldLink RX12 256 "PaperBoysModel" "to" "I" ∈ wsL_law := ch_28 _ (List.mem_of_getElem? (i := 20) rfl)
theorem m_28_21 : Cond.fieldLink RX12 262 "PaperBoysModel" "kind" "I" ∈ wsL_law := ch_28 _ (List.mem_of_getElem? (i := 21) rfl)
theorem m_28_22 : Cond.methodLink RX12 342 yX12_go ∈ wsL_law := ch_28 _ (List.mem_of_getElem? (i := 22) rfl)
theorem m_28_23 : Cond.instanceMethod yX12_go ∈ wsL_law := ch_28 _ (List.mem_of_getElem? (i := 23) rfl)
theorem m_29_0 : Cond.selects RX12 yX12_go yX12_go ∈ wsL_law := ch_29 _ (List.mem_of_getElem? (i := 0) rfl)
theorem m_29_1 : Cond.code yX12_go cX12_go 5 none ∈ wsL_law := ch_29 _ (List.mem_of_getElem? (i := 1) rfl)
theorem m_29_2 : Cond.fieldLink RX12 259 "PaperBoysModel" "from" "I" ∈ wsL_law := ch_29 _ (List.mem_of_getElem? (i := 2) rfl)
theorem m_32_9 : Cond.methodLink RL 82 yX11_fault ∈ wsL_law := ch_32 _ (List.mem_of_getElem? (i := 9) rfl)
theorem m_32_10 : Cond.instanceMethod yX11_fault ∈ wsL_law := ch_32 _ (List.mem_of_getElem? (i := 10) rfl)
theorem m_32_11 : Cond.selects RX11 yX11_fault yX11_fault ∈ wsL_law := ch_32 _ (List.mem_of_getElem? (i := 11) rfl)
theorem m_32_12 : Cond.code yX11_fault cX11_fault 1 (some .int) ∈ wsL_law := ch_32 _ (List.mem_of_getElem? (i := 12) rfl)
theorem m_32_13 : Cond.methodLink RL 86 yX12_fault ∈ wsL_law := ch_32 _ (List.mem_of_getElem? (i := 13) rfl)
theorem m_32_14 : Cond.instanceMethod yX12_fault ∈ wsL_law := ch_32 _ (List.mem_of_getElem? (i := 14) rfl)
theorem m_32_15 : Cond.selects RX12 yX12_fault yX12_fault ∈ wsL_law := ch_32 _ (List.mem_of_getElem? (i := 15) rfl)
theorem m_32_16 : Cond.code yX12_fault cX12_fault 1 (some .int) ∈ wsL_law := ch_32 _ (List.mem_of_getElem? (i := 16) rfl)
theorem m_32_17 : Cond.methodLink RL 87 yX11_bundle ∈ wsL_law := ch_32 _ (List.mem_of_getElem? (i := 17) rfl)
theorem m_32_18 : Cond.instanceMethod yX11_bundle ∈ wsL_law := ch_32 _ (List.mem_of_getElem? (i := 18) rfl)
theorem m_32_19 : Cond.selects RX11 yX11_bundle yX11_bundle ∈ wsL_law := ch_32 _ (List.mem_of_getElem? (i := 19) rfl)
theorem m_32_20 : Cond.code yX11_bundle cX11_bundle 7 (some .int) ∈ wsL_law := ch_32 _ (List.mem_of_getElem? (i := 20) rfl)
theorem m_32_21 : Cond.fieldLink RX11 205 "PaperBoys$Market" "bundles" "Ljava/util/ArrayList;" ∈ wsL_law := ch_32 _ (List.mem_of_getElem? (i := 21) rfl)
theorem m_32_23 : Cond.instantiable RX1 11 ∈ wsL_law := ch_32 _ (List.mem_of_getElem? (i := 23) rfl)
theorem m_33_18 : Cond.methodLink RX11 213 yX11_inForce ∈ wsL_law := ch_33 _ (List.mem_of_getElem? (i := 18) rfl)
theorem m_33_19 : Cond.instanceMethod yX11_inForce ∈ wsL_law := ch_33 _ (List.mem_of_getElem? (i := 19) rfl)
theorem m_33_20 : Cond.selects RX11 yX11_inForce yX11_inForce ∈ wsL_law := ch_33 _ (List.mem_of_getElem? (i := 20) rfl)
theorem m_33_21 : Cond.code yX11_inForce cX11_inForce 5 (some (.object "PaperBoys$Terms")) ∈ wsL_law := ch_33 _ (List.mem_of_getElem? (i := 21) rfl)
theorem m_36_1 : Cond.methodLink RL 90 yX12_bundle ∈ wsL_law := ch_36 _ (List.mem_of_getElem? (i := 1) rfl)
theorem m_36_2 : Cond.instanceMethod yX12_bundle ∈ wsL_law := ch_36 _ (List.mem_of_getElem? (i := 2) rfl)
theorem m_36_3 : Cond.selects RX12 yX12_bundle yX12_bundle ∈ wsL_law := ch_36 _ (List.mem_of_getElem? (i := 3) rfl)
theorem m_36_4 : Cond.code yX12_bundle cX12_bundle 8 (some .int) ∈ wsL_law := ch_36 _ (List.mem_of_getElem? (i := 4) rfl)
theorem m_36_5 : Cond.fieldLink RX12 389 "PaperBoysModel" "bundles" "I" ∈ wsL_law := ch_36 _ (List.mem_of_getElem? (i := 5) rfl)
theorem m_36_10 : Cond.methodLink RX12 392 yX12_termsFor ∈ wsL_law := ch_36 _ (List.mem_of_getElem? (i := 10) rfl)
theorem m_36_11 : Cond.instanceMethod yX12_termsFor ∈ wsL_law := ch_36 _ (List.mem_of_getElem? (i := 11) rfl)
theorem m_36_12 : Cond.selects RX12 yX12_termsFor yX12_termsFor ∈ wsL_law := ch_36 _ (List.mem_of_getElem? (i := 12) rfl)
theorem m_36_13 : Cond.code yX12_termsFor cX12_termsFor 4 (some .int) ∈ wsL_law := ch_36 _ (List.mem_of_getElem? (i := 13) rfl)
theorem m_37_4 : Cond.methodLink RL 91 yX11_told ∈ wsL_law := ch_37 _ (List.mem_of_getElem? (i := 4) rfl)
theorem m_37_5 : Cond.instanceMethod yX11_told ∈ wsL_law := ch_37 _ (List.mem_of_getElem? (i := 5) rfl)
theorem m_37_6 : Cond.selects RX11 yX11_told yX11_told ∈ wsL_law := ch_37 _ (List.mem_of_getElem? (i := 6) rfl)
theorem m_37_7 : Cond.code yX11_told cX11_told 5 (some .int) ∈ wsL_law := ch_37 _ (List.mem_of_getElem? (i := 7) rfl)
theorem m_37_11 : Cond.methodLink RX11 221 yX5_hasBundle ∈ wsL_law := ch_37 _ (List.mem_of_getElem? (i := 11) rfl)
theorem m_37_12 : Cond.instanceMethod yX5_hasBundle ∈ wsL_law := ch_37 _ (List.mem_of_getElem? (i := 12) rfl)
theorem m_37_13 : Cond.selects RX5 yX5_hasBundle yX5_hasBundle ∈ wsL_law := ch_37 _ (List.mem_of_getElem? (i := 13) rfl)
theorem m_37_14 : Cond.code yX5_hasBundle cX5_hasBundle 2 (some .boolean) ∈ wsL_law := ch_37 _ (List.mem_of_getElem? (i := 14) rfl)
theorem m_37_18 : Cond.methodLink RL 94 yX12_told ∈ wsL_law := ch_37 _ (List.mem_of_getElem? (i := 18) rfl)
theorem m_37_19 : Cond.instanceMethod yX12_told ∈ wsL_law := ch_37 _ (List.mem_of_getElem? (i := 19) rfl)
theorem m_37_20 : Cond.selects RX12 yX12_told yX12_told ∈ wsL_law := ch_37 _ (List.mem_of_getElem? (i := 20) rfl)
theorem m_37_21 : Cond.code yX12_told cX12_told 4 (some .int) ∈ wsL_law := ch_37 _ (List.mem_of_getElem? (i := 21) rfl)
theorem m_38_2 : Cond.methodLink RL 95 yX11_why ∈ wsL_law := ch_38 _ (List.mem_of_getElem? (i := 2) rfl)
theorem m_38_3 : Cond.instanceMethod yX11_why ∈ wsL_law := ch_38 _ (List.mem_of_getElem? (i := 3) rfl)
theorem m_38_4 : Cond.selects RX11 yX11_why yX11_why ∈ wsL_law := ch_38 _ (List.mem_of_getElem? (i := 4) rfl)
theorem m_38_5 : Cond.code yX11_why cX11_why 1 (some .int) ∈ wsL_law := ch_38 _ (List.mem_of_getElem? (i := 5) rfl)
theorem m_38_6 : Cond.methodLink RL 98 yX12_why ∈ wsL_law := ch_38 _ (List.mem_of_getElem? (i := 6) rfl)
theorem m_38_7 : Cond.instanceMethod yX12_why ∈ wsL_law := ch_38 _ (List.mem_of_getElem? (i := 7) rfl)
theorem m_38_8 : Cond.selects RX12 yX12_why yX12_why ∈ wsL_law := ch_38 _ (List.mem_of_getElem? (i := 8) rfl)
theorem m_38_9 : Cond.code yX12_why cX12_why 1 (some .int) ∈ wsL_law := ch_38 _ (List.mem_of_getElem? (i := 9) rfl)
theorem m_38_10 : Cond.methodLink RL 99 yX11_close ∈ wsL_law := ch_38 _ (List.mem_of_getElem? (i := 10) rfl)
theorem m_38_11 : Cond.instanceMethod yX11_close ∈ wsL_law := ch_38 _ (List.mem_of_getElem? (i := 11) rfl)
theorem m_38_12 : Cond.selects RX11 yX11_close yX11_close ∈ wsL_law := ch_38 _ (List.mem_of_getElem? (i := 12) rfl)
theorem m_38_13 : Cond.code yX11_close cX11_close 1 (some .int) ∈ wsL_law := ch_38 _ (List.mem_of_getElem? (i := 13) rfl)
theorem m_38_14 : Cond.fieldLink RX11 249 "PaperBoys$Market" "soldSum" "I" ∈ wsL_law := ch_38 _ (List.mem_of_getElem? (i := 14) rfl)
theorem m_38_15 : Cond.methodLink RX11 242 yX5_startSums ∈ wsL_law := ch_38 _ (List.mem_of_getElem? (i := 15) rfl)
theorem m_38_16 : Cond.instanceMethod yX5_startSums ∈ wsL_law := ch_38 _ (List.mem_of_getElem? (i := 16) rfl)
theorem m_38_17 : Cond.selects RX5 yX5_startSums yX5_startSums ∈ wsL_law := ch_38 _ (List.mem_of_getElem? (i := 17) rfl)
theorem m_38_18 : Cond.code yX5_startSums cX5_startSums 1 none ∈ wsL_law := ch_38 _ (List.mem_of_getElem? (i := 18) rfl)
theorem m_38_19 : Cond.methodLink RX11 245 yX5_cryDay ∈ wsL_law := ch_38 _ (List.mem_of_getElem? (i := 19) rfl)
theorem m_38_20 : Cond.instanceMethod yX5_cryDay ∈ wsL_law := ch_38 _ (List.mem_of_getElem? (i := 20) rfl)
theorem m_38_21 : Cond.selects RX5 yX5_cryDay yX5_cryDay ∈ wsL_law := ch_38 _ (List.mem_of_getElem? (i := 21) rfl)
theorem m_38_22 : Cond.code yX5_cryDay cX5_cryDay 7 none ∈ wsL_law := ch_38 _ (List.mem_of_getElem? (i := 22) rfl)
theorem m_39_1 : Cond.methodLink RX5 127 yX5_lineUp ∈ wsL_law := ch_39 _ (List.mem_of_getElem? (i := 1) rfl)
theorem m_39_2 : Cond.instanceMethod yX5_lineUp ∈ wsL_law := ch_39 _ (List.mem_of_getElem? (i := 2) rfl)
theorem m_39_3 : Cond.selects RX5 yX5_lineUp yX5_lineUp ∈ wsL_law := ch_39 _ (List.mem_of_getElem? (i := 3) rfl)
theorem m_39_4 : Cond.code yX5_lineUp cX5_lineUp 5 none ∈ wsL_law := ch_39 _ (List.mem_of_getElem? (i := 4) rfl)
theorem m_39_5 : Cond.methodLink RX5 162 yJx4a65c_clear_da8c8 ∈ wsL_law := ch_39 _ (List.mem_of_getElem? (i := 5) rfl)
theorem m_39_6 : Cond.instanceMethod yJx4a65c_clear_da8c8 ∈ wsL_law := ch_39 _ (List.mem_of_getElem? (i := 6) rfl)
theorem m_39_7 : Cond.selects RJx4a65c yJx4a65c_clear_da8c8 yJx4a65c_clear_da8c8 ∈ wsL_law := ch_39 _ (List.mem_of_getElem? (i := 7) rfl)
theorem m_39_8 : Cond.code yJx4a65c_clear_da8c8 cJx4a65c_clear_da8c8 4 none ∈ wsL_law := ch_39 _ (List.mem_of_getElem? (i := 8) rfl)
theorem m_40_16 : Cond.methodLink RL 102 yX12_close ∈ wsL_law := ch_40 _ (List.mem_of_getElem? (i := 16) rfl)
theorem m_40_17 : Cond.instanceMethod yX12_close ∈ wsL_law := ch_40 _ (List.mem_of_getElem? (i := 17) rfl)
theorem m_40_18 : Cond.selects RX12 yX12_close yX12_close ∈ wsL_law := ch_40 _ (List.mem_of_getElem? (i := 18) rfl)
theorem m_40_19 : Cond.code yX12_close cX12_close 4 (some .int) ∈ wsL_law := ch_40 _ (List.mem_of_getElem? (i := 19) rfl)
theorem m_40_20 : Cond.methodLink RX12 412 yX12_cry ∈ wsL_law := ch_40 _ (List.mem_of_getElem? (i := 20) rfl)
theorem m_40_21 : Cond.instanceMethod yX12_cry ∈ wsL_law := ch_40 _ (List.mem_of_getElem? (i := 21) rfl)
theorem m_40_22 : Cond.selects RX12 yX12_cry yX12_cry ∈ wsL_law := ch_40 _ (List.mem_of_getElem? (i := 22) rfl)
theorem m_40_23 : Cond.code yX12_cry cX12_cry 9 none ∈ wsL_law := ch_40 _ (List.mem_of_getElem? (i := 23) rfl)
theorem m_41_0 : Cond.methodLink RX12 405 yX12_firstAt ∈ wsL_law := ch_41 _ (List.mem_of_getElem? (i := 0) rfl)
theorem m_41_1 : Cond.instanceMethod yX12_firstAt ∈ wsL_law := ch_41 _ (List.mem_of_getElem? (i := 1) rfl)
theorem m_41_2 : Cond.selects RX12 yX12_firstAt yX12_firstAt ∈ wsL_law := ch_41 _ (List.mem_of_getElem? (i := 2) rfl)
theorem m_41_3 : Cond.code yX12_firstAt cX12_firstAt 5 (some .int) ∈ wsL_law := ch_41 _ (List.mem_of_getElem? (i := 3) rfl)
theorem m_41_12 : Cond.methodLink RL 103 yL_of ∈ wsL_law := ch_41 _ (List.mem_of_getElem? (i := 12) rfl)
theorem m_41_13 : Cond.static yL_of ∈ wsL_law := ch_41 _ (List.mem_of_getElem? (i := 13) rfl)
theorem m_41_15 : Cond.classLink RL 13 "java/util/NoSuchElementException" ∈ wsL_law := ch_41 _ (List.mem_of_getElem? (i := 15) rfl)
theorem m_41_16 : Cond.methodLink RL 7 yX11_of ∈ wsL_law := ch_41 _ (List.mem_of_getElem? (i := 16) rfl)
theorem m_41_17 : Cond.instanceMethod yX11_of ∈ wsL_law := ch_41 _ (List.mem_of_getElem? (i := 17) rfl)
theorem m_41_18 : Cond.selects RX11 yX11_of yX11_of ∈ wsL_law := ch_41 _ (List.mem_of_getElem? (i := 18) rfl)
theorem m_41_19 : Cond.code yX11_of cX11_of 4 (some .int) ∈ wsL_law := ch_41 _ (List.mem_of_getElem? (i := 19) rfl)
theorem m_41_20 : Cond.classLink RX11 252 "java/util/NoSuchElementException" ∈ wsL_law := ch_41 _ (List.mem_of_getElem? (i := 20) rfl)
theorem m_41_21 : Cond.initialized "java/util/NoSuchElementException" ∈ wsL_law := ch_41 _ (List.mem_of_getElem? (i := 21) rfl)
theorem m_42_3 : Cond.methodLink RL 108 yX12_of ∈ wsL_law := ch_42 _ (List.mem_of_getElem? (i := 3) rfl)
theorem m_42_4 : Cond.instanceMethod yX12_of ∈ wsL_law := ch_42 _ (List.mem_of_getElem? (i := 4) rfl)
theorem m_42_5 : Cond.selects RX12 yX12_of yX12_of ∈ wsL_law := ch_42 _ (List.mem_of_getElem? (i := 5) rfl)
theorem m_42_6 : Cond.code yX12_of cX12_of 3 (some .int) ∈ wsL_law := ch_42 _ (List.mem_of_getElem? (i := 6) rfl)
theorem m_42_7 : Cond.methodLink RX12 418 yX12_refuse ∈ wsL_law := ch_42 _ (List.mem_of_getElem? (i := 7) rfl)
theorem m_42_8 : Cond.instanceMethod yX12_refuse ∈ wsL_law := ch_42 _ (List.mem_of_getElem? (i := 8) rfl)
theorem m_42_9 : Cond.selects RX12 yX12_refuse yX12_refuse ∈ wsL_law := ch_42 _ (List.mem_of_getElem? (i := 9) rfl)
theorem m_42_10 : Cond.code yX12_refuse cX12_refuse 1 (some .int) ∈ wsL_law := ch_42 _ (List.mem_of_getElem? (i := 10) rfl)
theorem m_42_11 : Cond.methodLink RL 109 yX12_thrown ∈ wsL_law := ch_42 _ (List.mem_of_getElem? (i := 11) rfl)
theorem m_42_12 : Cond.instanceMethod yX12_thrown ∈ wsL_law := ch_42 _ (List.mem_of_getElem? (i := 12) rfl)
theorem m_42_13 : Cond.selects RX12 yX12_thrown yX12_thrown ∈ wsL_law := ch_42 _ (List.mem_of_getElem? (i := 13) rfl)
theorem m_42_14 : Cond.code yX12_thrown cX12_thrown 1 (some .int) ∈ wsL_law := ch_42 _ (List.mem_of_getElem? (i := 14) rfl)
theorem m_42_15 : Cond.methodLink RL 112 yL_coin ∈ wsL_law := ch_42 _ (List.mem_of_getElem? (i := 15) rfl)
theorem m_42_16 : Cond.static yL_coin ∈ wsL_law := ch_42 _ (List.mem_of_getElem? (i := 16) rfl)
theorem m_42_17 : Cond.methodLink RL 15 yX11_coin ∈ wsL_law := ch_42 _ (List.mem_of_getElem? (i := 17) rfl)
theorem m_42_18 : Cond.instanceMethod yX11_coin ∈ wsL_law := ch_42 _ (List.mem_of_getElem? (i := 18) rfl)
theorem m_42_19 : Cond.selects RX11 yX11_coin yX11_coin ∈ wsL_law := ch_42 _ (List.mem_of_getElem? (i := 19) rfl)
theorem m_42_20 : Cond.code yX11_coin cX11_coin 2 (some .int) ∈ wsL_law := ch_42 _ (List.mem_of_getElem? (i := 20) rfl)
theorem m_42_22 : Cond.methodLink RL 115 yX12_coin ∈ wsL_law := ch_42 _ (List.mem_of_getElem? (i := 22) rfl)
theorem m_43_0 : Cond.instanceMethod yX12_coin ∈ wsL_law := ch_43 _ (List.mem_of_getElem? (i := 0) rfl)
theorem m_43_1 : Cond.selects RX12 yX12_coin yX12_coin ∈ wsL_law := ch_43 _ (List.mem_of_getElem? (i := 1) rfl)
theorem m_43_2 : Cond.code yX12_coin cX12_coin 2 (some .int) ∈ wsL_law := ch_43 _ (List.mem_of_getElem? (i := 2) rfl)
theorem m_43_3 : Cond.methodLink RL 116 yX11_counted ∈ wsL_law := ch_43 _ (List.mem_of_getElem? (i := 3) rfl)
theorem m_43_4 : Cond.instanceMethod yX11_counted ∈ wsL_law := ch_43 _ (List.mem_of_getElem? (i := 4) rfl)
theorem m_43_5 : Cond.selects RX11 yX11_counted yX11_counted ∈ wsL_law := ch_43 _ (List.mem_of_getElem? (i := 5) rfl)
theorem m_43_6 : Cond.code yX11_counted cX11_counted 5 (some .int) ∈ wsL_law := ch_43 _ (List.mem_of_getElem? (i := 6) rfl)
theorem m_43_7 : Cond.fieldLink RX11 278 "PaperBoys$Ledger" "size" "I" ∈ wsL_law := ch_43 _ (List.mem_of_getElem? (i := 7) rfl)
theorem m_43_13 : Cond.methodLink RL 119 yX12_counted ∈ wsL_law := ch_43 _ (List.mem_of_getElem? (i := 13) rfl)
theorem m_43_14 : Cond.instanceMethod yX12_counted ∈ wsL_law := ch_43 _ (List.mem_of_getElem? (i := 14) rfl)
theorem m_43_15 : Cond.selects RX12 yX12_counted yX12_counted ∈ wsL_law := ch_43 _ (List.mem_of_getElem? (i := 15) rfl)
theorem m_43_16 : Cond.code yX12_counted cX12_counted 5 (some .int) ∈ wsL_law := ch_43 _ (List.mem_of_getElem? (i := 16) rfl)
theorem m_43_17 : Cond.fieldLink RX12 421 "PaperBoysModel" "counts" "I" ∈ wsL_law := ch_43 _ (List.mem_of_getElem? (i := 17) rfl)
theorem m_43_18 : Cond.methodLink RL 120 yX11_falseCounts ∈ wsL_law := ch_43 _ (List.mem_of_getElem? (i := 18) rfl)
theorem m_43_19 : Cond.instanceMethod yX11_falseCounts ∈ wsL_law := ch_43 _ (List.mem_of_getElem? (i := 19) rfl)
theorem m_43_20 : Cond.selects RX11 yX11_falseCounts yX11_falseCounts ∈ wsL_law := ch_43 _ (List.mem_of_getElem? (i := 20) rfl)
theorem m_43_21 : Cond.code yX11_falseCounts cX11_falseCounts 2 (some .int) ∈ wsL_law := ch_43 _ (List.mem_of_getElem? (i := 21) rfl)
theorem m_43_22 : Cond.methodLink RX11 286 yX4_falseAsOf ∈ wsL_law := ch_43 _ (List.mem_of_getElem? (i := 22) rfl)
theorem m_43_23 : Cond.instanceMethod yX4_falseAsOf ∈ wsL_law := ch_43 _ (List.mem_of_getElem? (i := 23) rfl)
theorem m_44_0 : Cond.selects RX4 yX4_falseAsOf yX4_falseAsOf ∈ wsL_law := ch_44 _ (List.mem_of_getElem? (i := 0) rfl)
theorem m_44_1 : Cond.code yX4_falseAsOf cX4_falseAsOf 5 (some .int) ∈ wsL_law := ch_44 _ (List.mem_of_getElem? (i := 1) rfl)
theorem m_44_10 : Cond.methodLink RL 123 yX12_falseCounts ∈ wsL_law := ch_44 _ (List.mem_of_getElem? (i := 10) rfl)
theorem m_44_11 : Cond.instanceMethod yX12_falseCounts ∈ wsL_law := ch_44 _ (List.mem_of_getElem? (i := 11) rfl)
theorem m_44_12 : Cond.selects RX12 yX12_falseCounts yX12_falseCounts ∈ wsL_law := ch_44 _ (List.mem_of_getElem? (i := 12) rfl)
theorem m_44_13 : Cond.code yX12_falseCounts cX12_falseCounts 7 (some .int) ∈ wsL_law := ch_44 _ (List.mem_of_getElem? (i := 13) rfl)
theorem m_44_22 : Cond.methodLink RL 124 yX11_shortOf ∈ wsL_law := ch_44 _ (List.mem_of_getElem? (i := 22) rfl)
theorem m_44_23 : Cond.instanceMethod yX11_shortOf ∈ wsL_law := ch_44 _ (List.mem_of_getElem? (i := 23) rfl)
theorem m_45_0 : Cond.selects RX11 yX11_shortOf yX11_shortOf ∈ wsL_law := ch_45 _ (List.mem_of_getElem? (i := 0) rfl)
theorem m_45_1 : Cond.code yX11_shortOf cX11_shortOf 2 (some .int) ∈ wsL_law := ch_45 _ (List.mem_of_getElem? (i := 1) rfl)
theorem m_45_2 : Cond.methodLink RX11 290 yX4_shortAsOf ∈ wsL_law := ch_45 _ (List.mem_of_getElem? (i := 2) rfl)
theorem m_45_3 : Cond.instanceMethod yX4_shortAsOf ∈ wsL_law := ch_45 _ (List.mem_of_getElem? (i := 3) rfl)
theorem m_45_4 : Cond.selects RX4 yX4_shortAsOf yX4_shortAsOf ∈ wsL_law := ch_45 _ (List.mem_of_getElem? (i := 4) rfl)
theorem m_45_5 : Cond.code yX4_shortAsOf cX4_shortAsOf 7 (some .int) ∈ wsL_law := ch_45 _ (List.mem_of_getElem? (i := 5) rfl)
theorem m_45_6 : Cond.fieldLink RX4 35 "PaperBoys$Market" "bundles" "Ljava/util/ArrayList;" ∈ wsL_law := ch_45 _ (List.mem_of_getElem? (i := 6) rfl)
theorem m_45_11 : Cond.methodLink RX4 39 yJx4a65c_size_8abf5 ∈ wsL_law := ch_45 _ (List.mem_of_getElem? (i := 11) rfl)
theorem m_45_21 : Cond.methodLink RL 127 yX12_shortOf ∈ wsL_law := ch_45 _ (List.mem_of_getElem? (i := 21) rfl)
theorem m_45_22 : Cond.instanceMethod yX12_shortOf ∈ wsL_law := ch_45 _ (List.mem_of_getElem? (i := 22) rfl)
theorem m_45_23 : Cond.selects RX12 yX12_shortOf yX12_shortOf ∈ wsL_law := ch_45 _ (List.mem_of_getElem? (i := 23) rfl)
theorem m_46_0 : Cond.code yX12_shortOf cX12_shortOf 9 (some .int) ∈ wsL_law := ch_46 _ (List.mem_of_getElem? (i := 0) rfl)
theorem m_46_5 : Cond.methodLink RL 128 yX11_best ∈ wsL_law := ch_46 _ (List.mem_of_getElem? (i := 5) rfl)
theorem m_46_6 : Cond.instanceMethod yX11_best ∈ wsL_law := ch_46 _ (List.mem_of_getElem? (i := 6) rfl)
theorem m_46_7 : Cond.selects RX11 yX11_best yX11_best ∈ wsL_law := ch_46 _ (List.mem_of_getElem? (i := 7) rfl)
theorem m_46_8 : Cond.code yX11_best cX11_best 7 (some .int) ∈ wsL_law := ch_46 _ (List.mem_of_getElem? (i := 8) rfl)
theorem m_47_4 : Cond.methodLink RL 131 yX12_best ∈ wsL_law := ch_47 _ (List.mem_of_getElem? (i := 4) rfl)
theorem m_47_5 : Cond.instanceMethod yX12_best ∈ wsL_law := ch_47 _ (List.mem_of_getElem? (i := 5) rfl)
theorem m_47_6 : Cond.selects RX12 yX12_best yX12_best ∈ wsL_law := ch_47 _ (List.mem_of_getElem? (i := 6) rfl)
theorem m_47_7 : Cond.code yX12_best cX12_best 19 (some .int) ∈ wsL_law := ch_47 _ (List.mem_of_getElem? (i := 7) rfl)
theorem m_47_8 : Cond.fieldLink RX12 434 "PaperBoysModel" "expected" "J" ∈ wsL_law := ch_47 _ (List.mem_of_getElem? (i := 8) rfl)
theorem m_47_9 : Cond.methodLink RL 132 yX11_expected ∈ wsL_law := ch_47 _ (List.mem_of_getElem? (i := 9) rfl)
theorem m_47_10 : Cond.instanceMethod yX11_expected ∈ wsL_law := ch_47 _ (List.mem_of_getElem? (i := 10) rfl)
theorem m_47_11 : Cond.selects RX11 yX11_expected yX11_expected ∈ wsL_law := ch_47 _ (List.mem_of_getElem? (i := 11) rfl)
theorem m_47_12 : Cond.code yX11_expected cX11_expected 1 (some .long) ∈ wsL_law := ch_47 _ (List.mem_of_getElem? (i := 12) rfl)
theorem m_47_13 : Cond.fieldLink RX11 303 "PaperBoys$Chances" "expected" "J" ∈ wsL_law := ch_47 _ (List.mem_of_getElem? (i := 13) rfl)
theorem m_47_14 : Cond.methodLink RL 136 yX12_expected ∈ wsL_law := ch_47 _ (List.mem_of_getElem? (i := 14) rfl)
theorem m_47_15 : Cond.instanceMethod yX12_expected ∈ wsL_law := ch_47 _ (List.mem_of_getElem? (i := 15) rfl)
theorem m_47_16 : Cond.selects RX12 yX12_expected yX12_expected ∈ wsL_law := ch_47 _ (List.mem_of_getElem? (i := 16) rfl)
theorem m_47_17 : Cond.code yX12_expected cX12_expected 1 (some .long) ∈ wsL_law := ch_47 _ (List.mem_of_getElem? (i := 17) rfl)
theorem m_47_18 : Cond.methodLink RL 137 yX11_tried ∈ wsL_law := ch_47 _ (List.mem_of_getElem? (i := 18) rfl)
theorem m_47_19 : Cond.instanceMethod yX11_tried ∈ wsL_law := ch_47 _ (List.mem_of_getElem? (i := 19) rfl)
theorem m_47_20 : Cond.selects RX11 yX11_tried yX11_tried ∈ wsL_law := ch_47 _ (List.mem_of_getElem? (i := 20) rfl)
theorem m_47_21 : Cond.code yX11_tried cX11_tried 1 (some .int) ∈ wsL_law := ch_47 _ (List.mem_of_getElem? (i := 21) rfl)
theorem m_47_23 : Cond.fieldLink RX11 312 "PaperBoys$Market" "eatenSum" "I" ∈ wsL_law := ch_47 _ (List.mem_of_getElem? (i := 23) rfl)
theorem m_48_0 : Cond.fieldLink RX11 315 "PaperBoys$Market" "gainSum" "I" ∈ wsL_law := ch_48 _ (List.mem_of_getElem? (i := 0) rfl)
theorem m_48_1 : Cond.methodLink RX11 308 yX5_cryClosed ∈ wsL_law := ch_48 _ (List.mem_of_getElem? (i := 1) rfl)
theorem m_48_2 : Cond.instanceMethod yX5_cryClosed ∈ wsL_law := ch_48 _ (List.mem_of_getElem? (i := 2) rfl)
theorem m_48_3 : Cond.selects RX5 yX5_cryClosed yX5_cryClosed ∈ wsL_law := ch_48 _ (List.mem_of_getElem? (i := 3) rfl)
theorem m_48_4 : Cond.code yX5_cryClosed cX5_cryClosed 5 none ∈ wsL_law := ch_48 _ (List.mem_of_getElem? (i := 4) rfl)
theorem m_48_5 : Cond.methodLink RX5 116 yX5_startSums ∈ wsL_law := ch_48 _ (List.mem_of_getElem? (i := 5) rfl)
theorem m_48_7 : Cond.methodLink RL 140 yX12_tried ∈ wsL_law := ch_48 _ (List.mem_of_getElem? (i := 7) rfl)
theorem m_48_8 : Cond.instanceMethod yX12_tried ∈ wsL_law := ch_48 _ (List.mem_of_getElem? (i := 8) rfl)
theorem m_48_9 : Cond.selects RX12 yX12_tried yX12_tried ∈ wsL_law := ch_48 _ (List.mem_of_getElem? (i := 9) rfl)
theorem m_48_10 : Cond.code yX12_tried cX12_tried 5 (some .int) ∈ wsL_law := ch_48 _ (List.mem_of_getElem? (i := 10) rfl)
theorem m_48_16 : Cond.methodLink RL 141 yX11_triedEaten ∈ wsL_law := ch_48 _ (List.mem_of_getElem? (i := 16) rfl)
theorem m_48_17 : Cond.instanceMethod yX11_triedEaten ∈ wsL_law := ch_48 _ (List.mem_of_getElem? (i := 17) rfl)
theorem m_48_18 : Cond.selects RX11 yX11_triedEaten yX11_triedEaten ∈ wsL_law := ch_48 _ (List.mem_of_getElem? (i := 18) rfl)
theorem m_48_19 : Cond.code yX11_triedEaten cX11_triedEaten 1 (some .int) ∈ wsL_law := ch_48 _ (List.mem_of_getElem? (i := 19) rfl)
theorem m_48_20 : Cond.methodLink RL 144 yX12_triedEaten ∈ wsL_law := ch_48 _ (List.mem_of_getElem? (i := 20) rfl)
theorem m_48_21 : Cond.instanceMethod yX12_triedEaten ∈ wsL_law := ch_48 _ (List.mem_of_getElem? (i := 21) rfl)
theorem m_48_22 : Cond.selects RX12 yX12_triedEaten yX12_triedEaten ∈ wsL_law := ch_48 _ (List.mem_of_getElem? (i := 22) rfl)
theorem m_48_23 : Cond.code yX12_triedEaten cX12_triedEaten 1 (some .int) ∈ wsL_law := ch_48 _ (List.mem_of_getElem? (i := 23) rfl)
theorem m_49_0 : Cond.methodLink RL 145 yX11_parted ∈ wsL_law := ch_49 _ (List.mem_of_getElem? (i := 0) rfl)
theorem m_49_1 : Cond.instanceMethod yX11_parted ∈ wsL_law := ch_49 _ (List.mem_of_getElem? (i := 1) rfl)
theorem m_49_2 : Cond.selects RX11 yX11_parted yX11_parted ∈ wsL_law := ch_49 _ (List.mem_of_getElem? (i := 2) rfl)
theorem m_49_3 : Cond.code yX11_parted cX11_parted 6 (some .int) ∈ wsL_law := ch_49 _ (List.mem_of_getElem? (i := 3) rfl)
theorem m_51_20 : Cond.methodLink RL 149 yX12_parted ∈ wsL_law := ch_51 _ (List.mem_of_getElem? (i := 20) rfl)
theorem m_51_21 : Cond.instanceMethod yX12_parted ∈ wsL_law := ch_51 _ (List.mem_of_getElem? (i := 21) rfl)
theorem m_51_22 : Cond.selects RX12 yX12_parted yX12_parted ∈ wsL_law := ch_51 _ (List.mem_of_getElem? (i := 22) rfl)
theorem m_51_23 : Cond.code yX12_parted cX12_parted 7 (some .int) ∈ wsL_law := ch_51 _ (List.mem_of_getElem? (i := 23) rfl)
theorem m_52_1 : Cond.fieldLink RX12 462 "PaperBoysModel" "isParted" "Z" ∈ wsL_law := ch_52 _ (List.mem_of_getElem? (i := 1) rfl)
theorem m_52_20 : Cond.methodLink RL 150 yX11_partedAt ∈ wsL_law := ch_52 _ (List.mem_of_getElem? (i := 20) rfl)
theorem m_52_21 : Cond.instanceMethod yX11_partedAt ∈ wsL_law := ch_52 _ (List.mem_of_getElem? (i := 21) rfl)
theorem m_52_22 : Cond.selects RX11 yX11_partedAt yX11_partedAt ∈ wsL_law := ch_52 _ (List.mem_of_getElem? (i := 22) rfl)
theorem m_52_23 : Cond.code yX11_partedAt cX11_partedAt 2 (some .int) ∈ wsL_law := ch_52 _ (List.mem_of_getElem? (i := 23) rfl)
theorem m_53_0 : Cond.fieldLink RX11 330 "PaperBoys$Parting" "n" "I" ∈ wsL_law := ch_53 _ (List.mem_of_getElem? (i := 0) rfl)
theorem m_53_2 : Cond.methodLink RL 153 yX12_partedAt ∈ wsL_law := ch_53 _ (List.mem_of_getElem? (i := 2) rfl)
theorem m_53_3 : Cond.instanceMethod yX12_partedAt ∈ wsL_law := ch_53 _ (List.mem_of_getElem? (i := 3) rfl)
theorem m_53_4 : Cond.selects RX12 yX12_partedAt yX12_partedAt ∈ wsL_law := ch_53 _ (List.mem_of_getElem? (i := 4) rfl)
theorem m_53_5 : Cond.code yX12_partedAt cX12_partedAt 2 (some .int) ∈ wsL_law := ch_53 _ (List.mem_of_getElem? (i := 5) rfl)
theorem m_53_6 : Cond.methodLink RL 154 yX11_peace ∈ wsL_law := ch_53 _ (List.mem_of_getElem? (i := 6) rfl)
theorem m_53_7 : Cond.instanceMethod yX11_peace ∈ wsL_law := ch_53 _ (List.mem_of_getElem? (i := 7) rfl)
theorem m_53_8 : Cond.selects RX11 yX11_peace yX11_peace ∈ wsL_law := ch_53 _ (List.mem_of_getElem? (i := 8) rfl)
theorem m_53_9 : Cond.code yX11_peace cX11_peace 2 (some .int) ∈ wsL_law := ch_53 _ (List.mem_of_getElem? (i := 9) rfl)
theorem m_53_14 : Cond.methodLink RL 157 yX12_peace ∈ wsL_law := ch_53 _ (List.mem_of_getElem? (i := 14) rfl)
theorem m_53_15 : Cond.instanceMethod yX12_peace ∈ wsL_law := ch_53 _ (List.mem_of_getElem? (i := 15) rfl)
theorem m_53_16 : Cond.selects RX12 yX12_peace yX12_peace ∈ wsL_law := ch_53 _ (List.mem_of_getElem? (i := 16) rfl)
theorem m_53_17 : Cond.code yX12_peace cX12_peace 2 (some .int) ∈ wsL_law := ch_53 _ (List.mem_of_getElem? (i := 17) rfl)
theorem m_53_18 : Cond.methodLink RL 158 yX11_truck ∈ wsL_law := ch_53 _ (List.mem_of_getElem? (i := 18) rfl)
theorem m_53_19 : Cond.instanceMethod yX11_truck ∈ wsL_law := ch_53 _ (List.mem_of_getElem? (i := 19) rfl)
theorem m_53_20 : Cond.selects RX11 yX11_truck yX11_truck ∈ wsL_law := ch_53 _ (List.mem_of_getElem? (i := 20) rfl)
theorem m_53_21 : Cond.code yX11_truck cX11_truck 2 (some .int) ∈ wsL_law := ch_53 _ (List.mem_of_getElem? (i := 21) rfl)
theorem m_55_14 : Cond.methodLink RL 161 yX12_truck ∈ wsL_law := ch_55 _ (List.mem_of_getElem? (i := 14) rfl)
theorem m_55_15 : Cond.instanceMethod yX12_truck ∈ wsL_law := ch_55 _ (List.mem_of_getElem? (i := 15) rfl)
theorem m_55_16 : Cond.selects RX12 yX12_truck yX12_truck ∈ wsL_law := ch_55 _ (List.mem_of_getElem? (i := 16) rfl)
theorem m_55_17 : Cond.code yX12_truck cX12_truck 7 (some .int) ∈ wsL_law := ch_55 _ (List.mem_of_getElem? (i := 17) rfl)
theorem m_55_21 : Cond.fieldLink RX12 477 "PaperBoysModel" "isLed" "Z" ∈ wsL_law := ch_55 _ (List.mem_of_getElem? (i := 21) rfl)
theorem m_56_6 : Cond.methodLink RL 162 yX11_truckAt ∈ wsL_law := ch_56 _ (List.mem_of_getElem? (i := 6) rfl)
theorem m_56_7 : Cond.instanceMethod yX11_truckAt ∈ wsL_law := ch_56 _ (List.mem_of_getElem? (i := 7) rfl)
theorem m_56_8 : Cond.selects RX11 yX11_truckAt yX11_truckAt ∈ wsL_law := ch_56 _ (List.mem_of_getElem? (i := 8) rfl)
theorem m_56_9 : Cond.code yX11_truckAt cX11_truckAt 2 (some .int) ∈ wsL_law := ch_56 _ (List.mem_of_getElem? (i := 9) rfl)
theorem m_56_10 : Cond.fieldLink RX11 343 "PaperBoys$Route" "wayLength" "I" ∈ wsL_law := ch_56 _ (List.mem_of_getElem? (i := 10) rfl)
theorem m_56_12 : Cond.methodLink RL 165 yX12_truckAt ∈ wsL_law := ch_56 _ (List.mem_of_getElem? (i := 12) rfl)
theorem m_56_13 : Cond.instanceMethod yX12_truckAt ∈ wsL_law := ch_56 _ (List.mem_of_getElem? (i := 13) rfl)
theorem m_56_14 : Cond.selects RX12 yX12_truckAt yX12_truckAt ∈ wsL_law := ch_56 _ (List.mem_of_getElem? (i := 14) rfl)
theorem m_56_15 : Cond.code yX12_truckAt cX12_truckAt 2 (some .int) ∈ wsL_law := ch_56 _ (List.mem_of_getElem? (i := 15) rfl)
theorem m_56_16 : Cond.methodLink RL 166 yX11_strike ∈ wsL_law := ch_56 _ (List.mem_of_getElem? (i := 16) rfl)
theorem m_56_17 : Cond.instanceMethod yX11_strike ∈ wsL_law := ch_56 _ (List.mem_of_getElem? (i := 17) rfl)
theorem m_56_18 : Cond.selects RX11 yX11_strike yX11_strike ∈ wsL_law := ch_56 _ (List.mem_of_getElem? (i := 18) rfl)
theorem m_56_19 : Cond.code yX11_strike cX11_strike 7 (some .int) ∈ wsL_law := ch_56 _ (List.mem_of_getElem? (i := 19) rfl)
theorem m_56_20 : Cond.methodLink RX11 349 yX11_isOfStrike ∈ wsL_law := ch_56 _ (List.mem_of_getElem? (i := 20) rfl)
theorem m_56_21 : Cond.static yX11_isOfStrike ∈ wsL_law := ch_56 _ (List.mem_of_getElem? (i := 21) rfl)
theorem m_56_22 : Cond.code yX11_isOfStrike cX11_isOfStrike 1 (some .boolean) ∈ wsL_law := ch_56 _ (List.mem_of_getElem? (i := 22) rfl)
theorem m_56_23 : Cond.constant RX11 368 (100000) ∈ wsL_law := ch_56 _ (List.mem_of_getElem? (i := 23) rfl)
theorem m_57_9 : Cond.methodLink RL 169 yX12_strike ∈ wsL_law := ch_57 _ (List.mem_of_getElem? (i := 9) rfl)
theorem m_57_10 : Cond.instanceMethod yX12_strike ∈ wsL_law := ch_57 _ (List.mem_of_getElem? (i := 10) rfl)
theorem m_57_11 : Cond.selects RX12 yX12_strike yX12_strike ∈ wsL_law := ch_57 _ (List.mem_of_getElem? (i := 11) rfl)
theorem m_57_12 : Cond.code yX12_strike cX12_strike 13 (some .int) ∈ wsL_law := ch_57 _ (List.mem_of_getElem? (i := 12) rfl)
theorem m_57_16 : Cond.methodLink RL 170 yX11_struck ∈ wsL_law := ch_57 _ (List.mem_of_getElem? (i := 16) rfl)
theorem m_57_17 : Cond.instanceMethod yX11_struck ∈ wsL_law := ch_57 _ (List.mem_of_getElem? (i := 17) rfl)
theorem m_57_18 : Cond.selects RX11 yX11_struck yX11_struck ∈ wsL_law := ch_57 _ (List.mem_of_getElem? (i := 18) rfl)
theorem m_57_19 : Cond.code yX11_struck cX11_struck 2 (some .int) ∈ wsL_law := ch_57 _ (List.mem_of_getElem? (i := 19) rfl)
theorem m_57_20 : Cond.methodLink RL 173 yX12_struck ∈ wsL_law := ch_57 _ (List.mem_of_getElem? (i := 20) rfl)
theorem m_57_21 : Cond.instanceMethod yX12_struck ∈ wsL_law := ch_57 _ (List.mem_of_getElem? (i := 21) rfl)
theorem m_57_22 : Cond.selects RX12 yX12_struck yX12_struck ∈ wsL_law := ch_57 _ (List.mem_of_getElem? (i := 22) rfl)
theorem m_57_23 : Cond.code yX12_struck cX12_struck 2 (some .int) ∈ wsL_law := ch_57 _ (List.mem_of_getElem? (i := 23) rfl)
theorem m_58_0 : Cond.methodLink RL 174 yX11_count ∈ wsL_law := ch_58 _ (List.mem_of_getElem? (i := 0) rfl)
theorem m_58_1 : Cond.instanceMethod yX11_count ∈ wsL_law := ch_58 _ (List.mem_of_getElem? (i := 1) rfl)
theorem m_58_2 : Cond.selects RX11 yX11_count yX11_count ∈ wsL_law := ch_58 _ (List.mem_of_getElem? (i := 2) rfl)
theorem m_58_3 : Cond.code yX11_count cX11_count 2 (some .int) ∈ wsL_law := ch_58 _ (List.mem_of_getElem? (i := 3) rfl)
theorem m_58_4 : Cond.methodLink RL 177 yX12_count ∈ wsL_law := ch_58 _ (List.mem_of_getElem? (i := 4) rfl)
theorem m_58_5 : Cond.instanceMethod yX12_count ∈ wsL_law := ch_58 _ (List.mem_of_getElem? (i := 5) rfl)
theorem m_58_6 : Cond.selects RX12 yX12_count yX12_count ∈ wsL_law := ch_58 _ (List.mem_of_getElem? (i := 6) rfl)
theorem m_58_7 : Cond.code yX12_count cX12_count 2 (some .int) ∈ wsL_law := ch_58 _ (List.mem_of_getElem? (i := 7) rfl)
