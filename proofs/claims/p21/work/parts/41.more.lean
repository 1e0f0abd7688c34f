abbrev cX0_init : ByteArray := prog_1_method_1_code
def yX0_init : MethodName := ⟨"ChipMap", "<init>", "()V"⟩
def wsX0_init : List Cond := Cond.code yX0_init cX0_init 1 none :: GT
abbrev cX10_init : ByteArray := prog_10_method_1_code
def yX10_init : MethodName := ⟨"ChipMap$Reader", "<init>", "(LChipMap$Draft;)V"⟩
def wsX10_init : List Cond := Cond.code yX10_init cX10_init 2 none :: GT
abbrev cX11_init : ByteArray := prog_11_method_1_code
def yX11_init : MethodName := ⟨"ChipMap$Rules", "<init>", "()V"⟩
def wsX11_init : List Cond := Cond.code yX11_init cX11_init 1 none :: GT
abbrev cX12_init : ByteArray := prog_12_method_1_code
def yX12_init : MethodName := ⟨"ChipMap$Steps", "<init>", "(I)V"⟩
def wsX12_init : List Cond := Cond.code yX12_init cX12_init 2 none :: GT
abbrev cX1_init : ByteArray := prog_14_method_1_code
def yX1_init : MethodName := ⟨"ChipMapModel", "<init>", "()V"⟩
def wsX1_init : List Cond := Cond.code yX1_init cX1_init 1 none :: GT
abbrev cX2_init : ByteArray := prog_2_method_1_code
def yX2_init : MethodName := ⟨"ChipMap$Checker", "<init>", "(LChipMap$Layout;LChipMap$Steps;LChipMap$Plan;)V"⟩
def wsX2_init : List Cond := Cond.code yX2_init cX2_init 4 none :: GT
abbrev cX3_init : ByteArray := prog_3_method_1_code
def yX3_init : MethodName := ⟨"ChipMap$Device", "<init>", "(LChipMap$Layout;)V"⟩
def wsX3_init : List Cond := Cond.code yX3_init cX3_init 2 none :: GT
abbrev cX4_init : ByteArray := prog_4_method_1_code
def yX4_init : MethodName := ⟨"ChipMap$Draft", "<init>", "()V"⟩
def wsX4_init : List Cond := Cond.code yX4_init cX4_init 1 none :: GT
abbrev cX5_init : ByteArray := prog_5_method_1_code
def yX5_init : MethodName := ⟨"ChipMap$Judge", "<init>", "(LChipMap$Draft;)V"⟩
def wsX5_init : List Cond := Cond.code yX5_init cX5_init 2 none :: GT
abbrev cX6_init : ByteArray := prog_6_method_1_code
def yX6_init : MethodName := ⟨"ChipMap$Layout", "<init>", "()V"⟩
def wsX6_init : List Cond := Cond.code yX6_init cX6_init 1 none :: GT
abbrev cX7_init : ByteArray := prog_7_method_1_code
def yX7_init : MethodName := ⟨"ChipMap$Log", "<init>", "()V"⟩
def wsX7_init : List Cond := Cond.code yX7_init cX7_init 1 none :: GT
abbrev cX8_init : ByteArray := prog_8_method_1_code
def yX8_init : MethodName := ⟨"ChipMap$Mind", "<init>", "(LChipMap$Layout;)V"⟩
def wsX8_init : List Cond := Cond.code yX8_init cX8_init 2 none :: GT
abbrev cX9_init : ByteArray := prog_9_method_1_code
def yX9_init : MethodName := ⟨"ChipMap$Plan", "<init>", "(LChipMap$Layout;)V"⟩
def wsX9_init : List Cond := Cond.code yX9_init cX9_init 2 none :: GT
theorem dX0_init_0 : decode cX0_init 0 = .ok (.aload_n 0, 1) := by decide +kernel
theorem dX0_init_1 : decode cX0_init 1 = .ok (.invokespecial 3, 3) := by decide +kernel
theorem dX0_init_4 : decode cX0_init 4 = .ok (.aload_n 0, 1) := by decide +kernel
theorem dX0_init_5 : decode cX0_init 5 = .ok (.new 9, 3) := by decide +kernel
theorem dX0_init_8 : decode cX0_init 8 = .ok (.dup, 1) := by decide +kernel
theorem dX0_init_9 : decode cX0_init 9 = .ok (.invokespecial 11, 3) := by decide +kernel
theorem dX0_init_12 : decode cX0_init 12 = .ok (.putfield 12, 3) := by decide +kernel
theorem dX0_init_15 : decode cX0_init 15 = .ok (.aload_n 0, 1) := by decide +kernel
theorem dX0_init_16 : decode cX0_init 16 = .ok (.new 16, 3) := by decide +kernel
theorem dX0_init_19 : decode cX0_init 19 = .ok (.dup, 1) := by decide +kernel
theorem dX0_init_20 : decode cX0_init 20 = .ok (.aload_n 0, 1) := by decide +kernel
theorem dX0_init_21 : decode cX0_init 21 = .ok (.getfield 12, 3) := by decide +kernel
theorem dX0_init_24 : decode cX0_init 24 = .ok (.invokespecial 18, 3) := by decide +kernel
theorem dX0_init_27 : decode cX0_init 27 = .ok (.putfield 21, 3) := by decide +kernel
theorem dX0_init_30 : decode cX0_init 30 = .ok (.aload_n 0, 1) := by decide +kernel
theorem dX0_init_31 : decode cX0_init 31 = .ok (.new 25, 3) := by decide +kernel
theorem dX0_init_34 : decode cX0_init 34 = .ok (.dup, 1) := by decide +kernel
theorem dX0_init_35 : decode cX0_init 35 = .ok (.aload_n 0, 1) := by decide +kernel
theorem dX0_init_36 : decode cX0_init 36 = .ok (.getfield 12, 3) := by decide +kernel
theorem dX0_init_39 : decode cX0_init 39 = .ok (.invokespecial 27, 3) := by decide +kernel
theorem dX0_init_42 : decode cX0_init 42 = .ok (.putfield 28, 3) := by decide +kernel
theorem dX0_init_45 : decode cX0_init 45 = .ok (.aload_n 0, 1) := by decide +kernel
theorem dX0_init_46 : decode cX0_init 46 = .ok (.new 32, 3) := by decide +kernel
theorem dX0_init_49 : decode cX0_init 49 = .ok (.dup, 1) := by decide +kernel
theorem dX0_init_50 : decode cX0_init 50 = .ok (.invokespecial 34, 3) := by decide +kernel
theorem dX0_init_53 : decode cX0_init 53 = .ok (.putfield 35, 3) := by decide +kernel
theorem dX0_init_56 : decode cX0_init 56 = .ok (.aload_n 0, 1) := by decide +kernel
theorem dX0_init_57 : decode cX0_init 57 = .ok (.new 39, 3) := by decide +kernel
theorem dX0_init_60 : decode cX0_init 60 = .ok (.dup, 1) := by decide +kernel
theorem dX0_init_61 : decode cX0_init 61 = .ok (.aload_n 0, 1) := by decide +kernel
theorem dX0_init_62 : decode cX0_init 62 = .ok (.getfield 35, 3) := by decide +kernel
theorem dX0_init_65 : decode cX0_init 65 = .ok (.invokespecial 41, 3) := by decide +kernel
theorem dX0_init_68 : decode cX0_init 68 = .ok (.putfield 44, 3) := by decide +kernel
theorem dX0_init_71 : decode cX0_init 71 = .ok (.aload_n 0, 1) := by decide +kernel
theorem dX0_init_72 : decode cX0_init 72 = .ok (.new 48, 3) := by decide +kernel
theorem dX0_init_75 : decode cX0_init 75 = .ok (.dup, 1) := by decide +kernel
theorem dX0_init_76 : decode cX0_init 76 = .ok (.aload_n 0, 1) := by decide +kernel
theorem dX0_init_77 : decode cX0_init 77 = .ok (.getfield 35, 3) := by decide +kernel
theorem dX0_init_80 : decode cX0_init 80 = .ok (.invokespecial 50, 3) := by decide +kernel
theorem dX0_init_83 : decode cX0_init 83 = .ok (.putfield 51, 3) := by decide +kernel
theorem dX0_init_86 : decode cX0_init 86 = .ok (.aload_n 0, 1) := by decide +kernel
theorem dX0_init_87 : decode cX0_init 87 = .ok (.new 55, 3) := by decide +kernel
theorem dX0_init_90 : decode cX0_init 90 = .ok (.dup, 1) := by decide +kernel
theorem dX0_init_91 : decode cX0_init 91 = .ok (.bipush 8, 2) := by decide +kernel
theorem dX0_init_93 : decode cX0_init 93 = .ok (.invokespecial 57, 3) := by decide +kernel
theorem dX0_init_96 : decode cX0_init 96 = .ok (.putfield 60, 3) := by decide +kernel
theorem dX0_init_99 : decode cX0_init 99 = .ok (.aload_n 0, 1) := by decide +kernel
theorem dX0_init_100 : decode cX0_init 100 = .ok (.new 55, 3) := by decide +kernel
theorem dX0_init_103 : decode cX0_init 103 = .ok (.dup, 1) := by decide +kernel
theorem dX0_init_104 : decode cX0_init 104 = .ok (.bipush 40, 2) := by decide +kernel
theorem dX0_init_106 : decode cX0_init 106 = .ok (.invokespecial 57, 3) := by decide +kernel
theorem dX0_init_109 : decode cX0_init 109 = .ok (.putfield 64, 3) := by decide +kernel
theorem dX0_init_112 : decode cX0_init 112 = .ok (.aload_n 0, 1) := by decide +kernel
theorem dX0_init_113 : decode cX0_init 113 = .ok (.new 67, 3) := by decide +kernel
theorem dX0_init_116 : decode cX0_init 116 = .ok (.dup, 1) := by decide +kernel
theorem dX0_init_117 : decode cX0_init 117 = .ok (.aload_n 0, 1) := by decide +kernel
theorem dX0_init_118 : decode cX0_init 118 = .ok (.getfield 35, 3) := by decide +kernel
theorem dX0_init_121 : decode cX0_init 121 = .ok (.aload_n 0, 1) := by decide +kernel
theorem dX0_init_122 : decode cX0_init 122 = .ok (.getfield 64, 3) := by decide +kernel
theorem dX0_init_125 : decode cX0_init 125 = .ok (.aload_n 0, 1) := by decide +kernel
theorem dX0_init_126 : decode cX0_init 126 = .ok (.getfield 51, 3) := by decide +kernel
theorem dX0_init_129 : decode cX0_init 129 = .ok (.invokespecial 69, 3) := by decide +kernel
theorem dX0_init_132 : decode cX0_init 132 = .ok (.putfield 72, 3) := by decide +kernel
theorem dX0_init_135 : decode cX0_init 135 = .ok (.return_, 1) := by decide +kernel
theorem dX10_init_0 : decode cX10_init 0 = .ok (.aload_n 0, 1) := by decide +kernel
theorem dX10_init_1 : decode cX10_init 1 = .ok (.invokespecial 3, 3) := by decide +kernel
theorem dX10_init_4 : decode cX10_init 4 = .ok (.aload_n 0, 1) := by decide +kernel
theorem dX10_init_5 : decode cX10_init 5 = .ok (.sipush 480, 3) := by decide +kernel
theorem dX10_init_8 : decode cX10_init 8 = .ok (.newarray .char, 2) := by decide +kernel
theorem dX10_init_10 : decode cX10_init 10 = .ok (.putfield 9, 3) := by decide +kernel
theorem dX10_init_13 : decode cX10_init 13 = .ok (.aload_n 0, 1) := by decide +kernel
theorem dX10_init_14 : decode cX10_init 14 = .ok (.aload_n 1, 1) := by decide +kernel
theorem dX10_init_15 : decode cX10_init 15 = .ok (.putfield 15, 3) := by decide +kernel
theorem dX10_init_18 : decode cX10_init 18 = .ok (.return_, 1) := by decide +kernel
theorem dX11_init_0 : decode cX11_init 0 = .ok (.aload_n 0, 1) := by decide +kernel
theorem dX11_init_1 : decode cX11_init 1 = .ok (.invokespecial 3, 3) := by decide +kernel
theorem dX11_init_4 : decode cX11_init 4 = .ok (.aload_n 0, 1) := by decide +kernel
theorem dX11_init_5 : decode cX11_init 5 = .ok (.bipush 12, 2) := by decide +kernel
theorem dX11_init_7 : decode cX11_init 7 = .ok (.newarray .int, 2) := by decide +kernel
theorem dX11_init_9 : decode cX11_init 9 = .ok (.putfield 9, 3) := by decide +kernel
theorem dX11_init_12 : decode cX11_init 12 = .ok (.aload_n 0, 1) := by decide +kernel
theorem dX11_init_13 : decode cX11_init 13 = .ok (.bipush 12, 2) := by decide +kernel
theorem dX11_init_15 : decode cX11_init 15 = .ok (.newarray .int, 2) := by decide +kernel
theorem dX11_init_17 : decode cX11_init 17 = .ok (.putfield 15, 3) := by decide +kernel
theorem dX11_init_20 : decode cX11_init 20 = .ok (.aload_n 0, 1) := by decide +kernel
theorem dX11_init_21 : decode cX11_init 21 = .ok (.bipush 12, 2) := by decide +kernel
theorem dX11_init_23 : decode cX11_init 23 = .ok (.newarray .int, 2) := by decide +kernel
theorem dX11_init_25 : decode cX11_init 25 = .ok (.putfield 18, 3) := by decide +kernel
theorem dX11_init_28 : decode cX11_init 28 = .ok (.aload_n 0, 1) := by decide +kernel
theorem dX11_init_29 : decode cX11_init 29 = .ok (.bipush 12, 2) := by decide +kernel
theorem dX11_init_31 : decode cX11_init 31 = .ok (.newarray .int, 2) := by decide +kernel
theorem dX11_init_33 : decode cX11_init 33 = .ok (.putfield 21, 3) := by decide +kernel
theorem dX11_init_36 : decode cX11_init 36 = .ok (.aload_n 0, 1) := by decide +kernel
theorem dX11_init_37 : decode cX11_init 37 = .ok (.bipush 12, 2) := by decide +kernel
theorem dX11_init_39 : decode cX11_init 39 = .ok (.newarray .int, 2) := by decide +kernel
theorem dX11_init_41 : decode cX11_init 41 = .ok (.putfield 24, 3) := by decide +kernel
theorem dX11_init_44 : decode cX11_init 44 = .ok (.aload_n 0, 1) := by decide +kernel
theorem dX11_init_45 : decode cX11_init 45 = .ok (.bipush 12, 2) := by decide +kernel
theorem dX11_init_47 : decode cX11_init 47 = .ok (.newarray .int, 2) := by decide +kernel
theorem dX11_init_49 : decode cX11_init 49 = .ok (.putfield 27, 3) := by decide +kernel
theorem dX11_init_52 : decode cX11_init 52 = .ok (.return_, 1) := by decide +kernel
theorem dX12_init_0 : decode cX12_init 0 = .ok (.aload_n 0, 1) := by decide +kernel
theorem dX12_init_1 : decode cX12_init 1 = .ok (.invokespecial 1, 3) := by decide +kernel
theorem dX12_init_4 : decode cX12_init 4 = .ok (.aload_n 0, 1) := by decide +kernel
theorem dX12_init_5 : decode cX12_init 5 = .ok (.iload_n 1, 1) := by decide +kernel
theorem dX12_init_6 : decode cX12_init 6 = .ok (.newarray .int, 2) := by decide +kernel
theorem dX12_init_8 : decode cX12_init 8 = .ok (.putfield 7, 3) := by decide +kernel
theorem dX12_init_11 : decode cX12_init 11 = .ok (.aload_n 0, 1) := by decide +kernel
theorem dX12_init_12 : decode cX12_init 12 = .ok (.iload_n 1, 1) := by decide +kernel
theorem dX12_init_13 : decode cX12_init 13 = .ok (.newarray .int, 2) := by decide +kernel
theorem dX12_init_15 : decode cX12_init 15 = .ok (.putfield 13, 3) := by decide +kernel
theorem dX12_init_18 : decode cX12_init 18 = .ok (.aload_n 0, 1) := by decide +kernel
theorem dX12_init_19 : decode cX12_init 19 = .ok (.iload_n 1, 1) := by decide +kernel
theorem dX12_init_20 : decode cX12_init 20 = .ok (.newarray .int, 2) := by decide +kernel
theorem dX12_init_22 : decode cX12_init 22 = .ok (.putfield 16, 3) := by decide +kernel
theorem dX12_init_25 : decode cX12_init 25 = .ok (.return_, 1) := by decide +kernel
theorem dX1_init_0 : decode cX1_init 0 = .ok (.aload_n 0, 1) := by decide +kernel
theorem dX1_init_1 : decode cX1_init 1 = .ok (.invokespecial 1, 3) := by decide +kernel
theorem dX1_init_4 : decode cX1_init 4 = .ok (.aload_n 0, 1) := by decide +kernel
theorem dX1_init_5 : decode cX1_init 5 = .ok (.sipush 480, 3) := by decide +kernel
theorem dX1_init_8 : decode cX1_init 8 = .ok (.newarray .int, 2) := by decide +kernel
theorem dX1_init_10 : decode cX1_init 10 = .ok (.putfield 7, 3) := by decide +kernel
theorem dX1_init_13 : decode cX1_init 13 = .ok (.aload_n 0, 1) := by decide +kernel
theorem dX1_init_14 : decode cX1_init 14 = .ok (.bipush 17, 2) := by decide +kernel
theorem dX1_init_16 : decode cX1_init 16 = .ok (.newarray .int, 2) := by decide +kernel
theorem dX1_init_18 : decode cX1_init 18 = .ok (.putfield 13, 3) := by decide +kernel
theorem dX1_init_21 : decode cX1_init 21 = .ok (.aload_n 0, 1) := by decide +kernel
theorem dX1_init_22 : decode cX1_init 22 = .ok (.bipush 17, 2) := by decide +kernel
theorem dX1_init_24 : decode cX1_init 24 = .ok (.newarray .int, 2) := by decide +kernel
theorem dX1_init_26 : decode cX1_init 26 = .ok (.putfield 16, 3) := by decide +kernel
theorem dX1_init_29 : decode cX1_init 29 = .ok (.aload_n 0, 1) := by decide +kernel
theorem dX1_init_30 : decode cX1_init 30 = .ok (.bipush 17, 2) := by decide +kernel
theorem dX1_init_32 : decode cX1_init 32 = .ok (.newarray .int, 2) := by decide +kernel
theorem dX1_init_34 : decode cX1_init 34 = .ok (.putfield 19, 3) := by decide +kernel
theorem dX1_init_37 : decode cX1_init 37 = .ok (.aload_n 0, 1) := by decide +kernel
theorem dX1_init_38 : decode cX1_init 38 = .ok (.bipush 17, 2) := by decide +kernel
theorem dX1_init_40 : decode cX1_init 40 = .ok (.newarray .int, 2) := by decide +kernel
theorem dX1_init_42 : decode cX1_init 42 = .ok (.putfield 22, 3) := by decide +kernel
theorem dX1_init_45 : decode cX1_init 45 = .ok (.aload_n 0, 1) := by decide +kernel
theorem dX1_init_46 : decode cX1_init 46 = .ok (.bipush 17, 2) := by decide +kernel
theorem dX1_init_48 : decode cX1_init 48 = .ok (.newarray .int, 2) := by decide +kernel
theorem dX1_init_50 : decode cX1_init 50 = .ok (.putfield 25, 3) := by decide +kernel
theorem dX1_init_53 : decode cX1_init 53 = .ok (.aload_n 0, 1) := by decide +kernel
theorem dX1_init_54 : decode cX1_init 54 = .ok (.sipush 140, 3) := by decide +kernel
theorem dX1_init_57 : decode cX1_init 57 = .ok (.newarray .int, 2) := by decide +kernel
theorem dX1_init_59 : decode cX1_init 59 = .ok (.putfield 28, 3) := by decide +kernel
theorem dX1_init_62 : decode cX1_init 62 = .ok (.aload_n 0, 1) := by decide +kernel
theorem dX1_init_63 : decode cX1_init 63 = .ok (.sipush 140, 3) := by decide +kernel
theorem dX1_init_66 : decode cX1_init 66 = .ok (.newarray .int, 2) := by decide +kernel
theorem dX1_init_68 : decode cX1_init 68 = .ok (.putfield 31, 3) := by decide +kernel
theorem dX1_init_71 : decode cX1_init 71 = .ok (.aload_n 0, 1) := by decide +kernel
theorem dX1_init_72 : decode cX1_init 72 = .ok (.sipush 140, 3) := by decide +kernel
theorem dX1_init_75 : decode cX1_init 75 = .ok (.newarray .int, 2) := by decide +kernel
theorem dX1_init_77 : decode cX1_init 77 = .ok (.putfield 34, 3) := by decide +kernel
theorem dX1_init_80 : decode cX1_init 80 = .ok (.aload_n 0, 1) := by decide +kernel
theorem dX1_init_81 : decode cX1_init 81 = .ok (.sipush 140, 3) := by decide +kernel
theorem dX1_init_84 : decode cX1_init 84 = .ok (.newarray .int, 2) := by decide +kernel
theorem dX1_init_86 : decode cX1_init 86 = .ok (.putfield 37, 3) := by decide +kernel
theorem dX1_init_89 : decode cX1_init 89 = .ok (.aload_n 0, 1) := by decide +kernel
theorem dX1_init_90 : decode cX1_init 90 = .ok (.sipush 140, 3) := by decide +kernel
theorem dX1_init_93 : decode cX1_init 93 = .ok (.newarray .int, 2) := by decide +kernel
theorem dX1_init_95 : decode cX1_init 95 = .ok (.putfield 40, 3) := by decide +kernel
theorem dX1_init_98 : decode cX1_init 98 = .ok (.aload_n 0, 1) := by decide +kernel
theorem dX1_init_99 : decode cX1_init 99 = .ok (.sipush 140, 3) := by decide +kernel
theorem dX1_init_102 : decode cX1_init 102 = .ok (.newarray .int, 2) := by decide +kernel
theorem dX1_init_104 : decode cX1_init 104 = .ok (.putfield 43, 3) := by decide +kernel
theorem dX1_init_107 : decode cX1_init 107 = .ok (.aload_n 0, 1) := by decide +kernel
theorem dX1_init_108 : decode cX1_init 108 = .ok (.sipush 140, 3) := by decide +kernel
theorem dX1_init_111 : decode cX1_init 111 = .ok (.newarray .int, 2) := by decide +kernel
theorem dX1_init_113 : decode cX1_init 113 = .ok (.putfield 46, 3) := by decide +kernel
theorem dX1_init_116 : decode cX1_init 116 = .ok (.aload_n 0, 1) := by decide +kernel
theorem dX1_init_117 : decode cX1_init 117 = .ok (.bipush 13, 2) := by decide +kernel
theorem dX1_init_119 : decode cX1_init 119 = .ok (.newarray .int, 2) := by decide +kernel
theorem dX1_init_121 : decode cX1_init 121 = .ok (.putfield 49, 3) := by decide +kernel
theorem dX1_init_124 : decode cX1_init 124 = .ok (.aload_n 0, 1) := by decide +kernel
theorem dX1_init_125 : decode cX1_init 125 = .ok (.bipush 13, 2) := by decide +kernel
theorem dX1_init_127 : decode cX1_init 127 = .ok (.newarray .int, 2) := by decide +kernel
theorem dX1_init_129 : decode cX1_init 129 = .ok (.putfield 52, 3) := by decide +kernel
theorem dX1_init_132 : decode cX1_init 132 = .ok (.aload_n 0, 1) := by decide +kernel
theorem dX1_init_133 : decode cX1_init 133 = .ok (.bipush 13, 2) := by decide +kernel
theorem dX1_init_135 : decode cX1_init 135 = .ok (.newarray .int, 2) := by decide +kernel
theorem dX1_init_137 : decode cX1_init 137 = .ok (.putfield 55, 3) := by decide +kernel
theorem dX1_init_140 : decode cX1_init 140 = .ok (.aload_n 0, 1) := by decide +kernel
theorem dX1_init_141 : decode cX1_init 141 = .ok (.bipush 13, 2) := by decide +kernel
theorem dX1_init_143 : decode cX1_init 143 = .ok (.newarray .int, 2) := by decide +kernel
theorem dX1_init_145 : decode cX1_init 145 = .ok (.putfield 58, 3) := by decide +kernel
theorem dX1_init_148 : decode cX1_init 148 = .ok (.aload_n 0, 1) := by decide +kernel
theorem dX1_init_149 : decode cX1_init 149 = .ok (.bipush 13, 2) := by decide +kernel
theorem dX1_init_151 : decode cX1_init 151 = .ok (.newarray .int, 2) := by decide +kernel
theorem dX1_init_153 : decode cX1_init 153 = .ok (.putfield 61, 3) := by decide +kernel
theorem dX1_init_156 : decode cX1_init 156 = .ok (.aload_n 0, 1) := by decide +kernel
theorem dX1_init_157 : decode cX1_init 157 = .ok (.bipush 13, 2) := by decide +kernel
theorem dX1_init_159 : decode cX1_init 159 = .ok (.newarray .int, 2) := by decide +kernel
theorem dX1_init_161 : decode cX1_init 161 = .ok (.putfield 64, 3) := by decide +kernel
theorem dX1_init_164 : decode cX1_init 164 = .ok (.aload_n 0, 1) := by decide +kernel
theorem dX1_init_165 : decode cX1_init 165 = .ok (.bipush 16, 2) := by decide +kernel
theorem dX1_init_167 : decode cX1_init 167 = .ok (.newarray .int, 2) := by decide +kernel
theorem dX1_init_169 : decode cX1_init 169 = .ok (.putfield 67, 3) := by decide +kernel
theorem dX1_init_172 : decode cX1_init 172 = .ok (.aload_n 0, 1) := by decide +kernel
theorem dX1_init_173 : decode cX1_init 173 = .ok (.bipush 16, 2) := by decide +kernel
theorem dX1_init_175 : decode cX1_init 175 = .ok (.newarray .int, 2) := by decide +kernel
theorem dX1_init_177 : decode cX1_init 177 = .ok (.putfield 70, 3) := by decide +kernel
theorem dX1_init_180 : decode cX1_init 180 = .ok (.aload_n 0, 1) := by decide +kernel
theorem dX1_init_181 : decode cX1_init 181 = .ok (.bipush 16, 2) := by decide +kernel
theorem dX1_init_183 : decode cX1_init 183 = .ok (.newarray .int, 2) := by decide +kernel
theorem dX1_init_185 : decode cX1_init 185 = .ok (.putfield 73, 3) := by decide +kernel
theorem dX1_init_188 : decode cX1_init 188 = .ok (.aload_n 0, 1) := by decide +kernel
theorem dX1_init_189 : decode cX1_init 189 = .ok (.bipush 26, 2) := by decide +kernel
theorem dX1_init_191 : decode cX1_init 191 = .ok (.newarray .boolean, 2) := by decide +kernel
theorem dX1_init_193 : decode cX1_init 193 = .ok (.putfield 76, 3) := by decide +kernel
theorem dX1_init_196 : decode cX1_init 196 = .ok (.aload_n 0, 1) := by decide +kernel
theorem dX1_init_197 : decode cX1_init 197 = .ok (.bipush 26, 2) := by decide +kernel
theorem dX1_init_199 : decode cX1_init 199 = .ok (.newarray .int, 2) := by decide +kernel
theorem dX1_init_201 : decode cX1_init 201 = .ok (.putfield 80, 3) := by decide +kernel
theorem dX1_init_204 : decode cX1_init 204 = .ok (.aload_n 0, 1) := by decide +kernel
theorem dX1_init_205 : decode cX1_init 205 = .ok (.bipush 26, 2) := by decide +kernel
theorem dX1_init_207 : decode cX1_init 207 = .ok (.newarray .int, 2) := by decide +kernel
theorem dX1_init_209 : decode cX1_init 209 = .ok (.putfield 83, 3) := by decide +kernel
theorem dX1_init_212 : decode cX1_init 212 = .ok (.aload_n 0, 1) := by decide +kernel
theorem dX1_init_213 : decode cX1_init 213 = .ok (.bipush 26, 2) := by decide +kernel
theorem dX1_init_215 : decode cX1_init 215 = .ok (.newarray .int, 2) := by decide +kernel
theorem dX1_init_217 : decode cX1_init 217 = .ok (.putfield 86, 3) := by decide +kernel
theorem dX1_init_220 : decode cX1_init 220 = .ok (.aload_n 0, 1) := by decide +kernel
theorem dX1_init_221 : decode cX1_init 221 = .ok (.bipush 26, 2) := by decide +kernel
theorem dX1_init_223 : decode cX1_init 223 = .ok (.newarray .int, 2) := by decide +kernel
theorem dX1_init_225 : decode cX1_init 225 = .ok (.putfield 89, 3) := by decide +kernel
theorem dX1_init_228 : decode cX1_init 228 = .ok (.aload_n 0, 1) := by decide +kernel
theorem dX1_init_229 : decode cX1_init 229 = .ok (.bipush 26, 2) := by decide +kernel
theorem dX1_init_231 : decode cX1_init 231 = .ok (.newarray .int, 2) := by decide +kernel
theorem dX1_init_233 : decode cX1_init 233 = .ok (.putfield 92, 3) := by decide +kernel
theorem dX1_init_236 : decode cX1_init 236 = .ok (.aload_n 0, 1) := by decide +kernel
theorem dX1_init_237 : decode cX1_init 237 = .ok (.bipush 12, 2) := by decide +kernel
theorem dX1_init_239 : decode cX1_init 239 = .ok (.newarray .int, 2) := by decide +kernel
theorem dX1_init_241 : decode cX1_init 241 = .ok (.putfield 95, 3) := by decide +kernel
theorem dX1_init_244 : decode cX1_init 244 = .ok (.aload_n 0, 1) := by decide +kernel
theorem dX1_init_245 : decode cX1_init 245 = .ok (.bipush 12, 2) := by decide +kernel
theorem dX1_init_247 : decode cX1_init 247 = .ok (.newarray .int, 2) := by decide +kernel
theorem dX1_init_249 : decode cX1_init 249 = .ok (.putfield 98, 3) := by decide +kernel
theorem dX1_init_252 : decode cX1_init 252 = .ok (.aload_n 0, 1) := by decide +kernel
theorem dX1_init_253 : decode cX1_init 253 = .ok (.bipush 12, 2) := by decide +kernel
theorem dX1_init_255 : decode cX1_init 255 = .ok (.newarray .int, 2) := by decide +kernel
theorem dX1_init_257 : decode cX1_init 257 = .ok (.putfield 101, 3) := by decide +kernel
theorem dX1_init_260 : decode cX1_init 260 = .ok (.aload_n 0, 1) := by decide +kernel
theorem dX1_init_261 : decode cX1_init 261 = .ok (.bipush 12, 2) := by decide +kernel
theorem dX1_init_263 : decode cX1_init 263 = .ok (.newarray .int, 2) := by decide +kernel
theorem dX1_init_265 : decode cX1_init 265 = .ok (.putfield 104, 3) := by decide +kernel
theorem dX1_init_268 : decode cX1_init 268 = .ok (.aload_n 0, 1) := by decide +kernel
theorem dX1_init_269 : decode cX1_init 269 = .ok (.bipush 78, 2) := by decide +kernel
theorem dX1_init_271 : decode cX1_init 271 = .ok (.newarray .int, 2) := by decide +kernel
theorem dX1_init_273 : decode cX1_init 273 = .ok (.putfield 107, 3) := by decide +kernel
theorem dX1_init_276 : decode cX1_init 276 = .ok (.aload_n 0, 1) := by decide +kernel
theorem dX1_init_277 : decode cX1_init 277 = .ok (.bipush 78, 2) := by decide +kernel
theorem dX1_init_279 : decode cX1_init 279 = .ok (.newarray .int, 2) := by decide +kernel
theorem dX1_init_281 : decode cX1_init 281 = .ok (.putfield 110, 3) := by decide +kernel
theorem dX1_init_284 : decode cX1_init 284 = .ok (.aload_n 0, 1) := by decide +kernel
theorem dX1_init_285 : decode cX1_init 285 = .ok (.bipush 78, 2) := by decide +kernel
theorem dX1_init_287 : decode cX1_init 287 = .ok (.newarray .int, 2) := by decide +kernel
theorem dX1_init_289 : decode cX1_init 289 = .ok (.putfield 113, 3) := by decide +kernel
theorem dX1_init_292 : decode cX1_init 292 = .ok (.aload_n 0, 1) := by decide +kernel
theorem dX1_init_293 : decode cX1_init 293 = .ok (.bipush 36, 2) := by decide +kernel
theorem dX1_init_295 : decode cX1_init 295 = .ok (.newarray .boolean, 2) := by decide +kernel
theorem dX1_init_297 : decode cX1_init 297 = .ok (.putfield 116, 3) := by decide +kernel
theorem dX1_init_300 : decode cX1_init 300 = .ok (.aload_n 0, 1) := by decide +kernel
theorem dX1_init_301 : decode cX1_init 301 = .ok (.bipush 64, 2) := by decide +kernel
theorem dX1_init_303 : decode cX1_init 303 = .ok (.newarray .int, 2) := by decide +kernel
theorem dX1_init_305 : decode cX1_init 305 = .ok (.putfield 119, 3) := by decide +kernel
theorem dX1_init_308 : decode cX1_init 308 = .ok (.aload_n 0, 1) := by decide +kernel
theorem dX1_init_309 : decode cX1_init 309 = .ok (.bipush 64, 2) := by decide +kernel
theorem dX1_init_311 : decode cX1_init 311 = .ok (.newarray .int, 2) := by decide +kernel
theorem dX1_init_313 : decode cX1_init 313 = .ok (.putfield 122, 3) := by decide +kernel
theorem dX1_init_316 : decode cX1_init 316 = .ok (.aload_n 0, 1) := by decide +kernel
theorem dX1_init_317 : decode cX1_init 317 = .ok (.bipush 64, 2) := by decide +kernel
theorem dX1_init_319 : decode cX1_init 319 = .ok (.newarray .int, 2) := by decide +kernel
theorem dX1_init_321 : decode cX1_init 321 = .ok (.putfield 125, 3) := by decide +kernel
theorem dX1_init_324 : decode cX1_init 324 = .ok (.aload_n 0, 1) := by decide +kernel
theorem dX1_init_325 : decode cX1_init 325 = .ok (.bipush 8, 2) := by decide +kernel
theorem dX1_init_327 : decode cX1_init 327 = .ok (.newarray .int, 2) := by decide +kernel
theorem dX1_init_329 : decode cX1_init 329 = .ok (.putfield 128, 3) := by decide +kernel
theorem dX1_init_332 : decode cX1_init 332 = .ok (.aload_n 0, 1) := by decide +kernel
theorem dX1_init_333 : decode cX1_init 333 = .ok (.bipush 8, 2) := by decide +kernel
theorem dX1_init_335 : decode cX1_init 335 = .ok (.newarray .int, 2) := by decide +kernel
theorem dX1_init_337 : decode cX1_init 337 = .ok (.putfield 131, 3) := by decide +kernel
theorem dX1_init_340 : decode cX1_init 340 = .ok (.aload_n 0, 1) := by decide +kernel
theorem dX1_init_341 : decode cX1_init 341 = .ok (.bipush 40, 2) := by decide +kernel
theorem dX1_init_343 : decode cX1_init 343 = .ok (.newarray .int, 2) := by decide +kernel
theorem dX1_init_345 : decode cX1_init 345 = .ok (.putfield 134, 3) := by decide +kernel
theorem dX1_init_348 : decode cX1_init 348 = .ok (.aload_n 0, 1) := by decide +kernel
theorem dX1_init_349 : decode cX1_init 349 = .ok (.bipush 40, 2) := by decide +kernel
theorem dX1_init_351 : decode cX1_init 351 = .ok (.newarray .int, 2) := by decide +kernel
theorem dX1_init_353 : decode cX1_init 353 = .ok (.putfield 137, 3) := by decide +kernel
theorem dX1_init_356 : decode cX1_init 356 = .ok (.aload_n 0, 1) := by decide +kernel
theorem dX1_init_357 : decode cX1_init 357 = .ok (.bipush 40, 2) := by decide +kernel
theorem dX1_init_359 : decode cX1_init 359 = .ok (.newarray .int, 2) := by decide +kernel
theorem dX1_init_361 : decode cX1_init 361 = .ok (.putfield 140, 3) := by decide +kernel
theorem dX1_init_364 : decode cX1_init 364 = .ok (.aload_n 0, 1) := by decide +kernel
theorem dX1_init_365 : decode cX1_init 365 = .ok (.sipush 1001, 3) := by decide +kernel
theorem dX1_init_368 : decode cX1_init 368 = .ok (.newarray .int, 2) := by decide +kernel
theorem dX1_init_370 : decode cX1_init 370 = .ok (.putfield 143, 3) := by decide +kernel
theorem dX1_init_373 : decode cX1_init 373 = .ok (.aload_n 0, 1) := by decide +kernel
theorem dX1_init_374 : decode cX1_init 374 = .ok (.sipush 26026, 3) := by decide +kernel
theorem dX1_init_377 : decode cX1_init 377 = .ok (.newarray .int, 2) := by decide +kernel
theorem dX1_init_379 : decode cX1_init 379 = .ok (.putfield 146, 3) := by decide +kernel
theorem dX1_init_382 : decode cX1_init 382 = .ok (.aload_n 0, 1) := by decide +kernel
theorem dX1_init_383 : decode cX1_init 383 = .ok (.sipush 1001, 3) := by decide +kernel
theorem dX1_init_386 : decode cX1_init 386 = .ok (.newarray .int, 2) := by decide +kernel
theorem dX1_init_388 : decode cX1_init 388 = .ok (.putfield 149, 3) := by decide +kernel
theorem dX1_init_391 : decode cX1_init 391 = .ok (.aload_n 0, 1) := by decide +kernel
theorem dX1_init_392 : decode cX1_init 392 = .ok (.bipush 64, 2) := by decide +kernel
theorem dX1_init_394 : decode cX1_init 394 = .ok (.newarray .int, 2) := by decide +kernel
theorem dX1_init_396 : decode cX1_init 396 = .ok (.putfield 152, 3) := by decide +kernel
theorem dX1_init_399 : decode cX1_init 399 = .ok (.aload_n 0, 1) := by decide +kernel
theorem dX1_init_400 : decode cX1_init 400 = .ok (.bipush 64, 2) := by decide +kernel
theorem dX1_init_402 : decode cX1_init 402 = .ok (.newarray .int, 2) := by decide +kernel
theorem dX1_init_404 : decode cX1_init 404 = .ok (.putfield 155, 3) := by decide +kernel
theorem dX1_init_407 : decode cX1_init 407 = .ok (.aload_n 0, 1) := by decide +kernel
theorem dX1_init_408 : decode cX1_init 408 = .ok (.bipush 64, 2) := by decide +kernel
theorem dX1_init_410 : decode cX1_init 410 = .ok (.newarray .int, 2) := by decide +kernel
theorem dX1_init_412 : decode cX1_init 412 = .ok (.putfield 158, 3) := by decide +kernel
theorem dX1_init_415 : decode cX1_init 415 = .ok (.return_, 1) := by decide +kernel
theorem dX2_init_0 : decode cX2_init 0 = .ok (.aload_n 0, 1) := by decide +kernel
theorem dX2_init_1 : decode cX2_init 1 = .ok (.invokespecial 5, 3) := by decide +kernel
theorem dX2_init_4 : decode cX2_init 4 = .ok (.aload_n 0, 1) := by decide +kernel
theorem dX2_init_5 : decode cX2_init 5 = .ok (.sipush 5000, 3) := by decide +kernel
theorem dX2_init_8 : decode cX2_init 8 = .ok (.newarray .long, 2) := by decide +kernel
theorem dX2_init_10 : decode cX2_init 10 = .ok (.putfield 11, 3) := by decide +kernel
theorem dX2_init_13 : decode cX2_init 13 = .ok (.aload_n 0, 1) := by decide +kernel
theorem dX2_init_14 : decode cX2_init 14 = .ok (.iconst 5, 1) := by decide +kernel
theorem dX2_init_15 : decode cX2_init 15 = .ok (.newarray .long, 2) := by decide +kernel
theorem dX2_init_17 : decode cX2_init 17 = .ok (.putfield 15, 3) := by decide +kernel
theorem dX2_init_20 : decode cX2_init 20 = .ok (.aload_n 0, 1) := by decide +kernel
theorem dX2_init_21 : decode cX2_init 21 = .ok (.sipush 2048, 3) := by decide +kernel
theorem dX2_init_24 : decode cX2_init 24 = .ok (.newarray .int, 2) := by decide +kernel
theorem dX2_init_26 : decode cX2_init 26 = .ok (.putfield 18, 3) := by decide +kernel
theorem dX2_init_29 : decode cX2_init 29 = .ok (.aload_n 0, 1) := by decide +kernel
theorem dX2_init_30 : decode cX2_init 30 = .ok (.iconst (-1), 1) := by decide +kernel
theorem dX2_init_31 : decode cX2_init 31 = .ok (.putfield 22, 3) := by decide +kernel
theorem dX2_init_34 : decode cX2_init 34 = .ok (.aload_n 0, 1) := by decide +kernel
theorem dX2_init_35 : decode cX2_init 35 = .ok (.aload_n 1, 1) := by decide +kernel
theorem dX2_init_36 : decode cX2_init 36 = .ok (.putfield 26, 3) := by decide +kernel
theorem dX2_init_39 : decode cX2_init 39 = .ok (.aload_n 0, 1) := by decide +kernel
theorem dX2_init_40 : decode cX2_init 40 = .ok (.aload_n 2, 1) := by decide +kernel
theorem dX2_init_41 : decode cX2_init 41 = .ok (.putfield 30, 3) := by decide +kernel
theorem dX2_init_44 : decode cX2_init 44 = .ok (.aload_n 0, 1) := by decide +kernel
theorem dX2_init_45 : decode cX2_init 45 = .ok (.aload_n 3, 1) := by decide +kernel
theorem dX2_init_46 : decode cX2_init 46 = .ok (.putfield 34, 3) := by decide +kernel
theorem dX2_init_49 : decode cX2_init 49 = .ok (.return_, 1) := by decide +kernel
theorem dX3_init_0 : decode cX3_init 0 = .ok (.aload_n 0, 1) := by decide +kernel
theorem dX3_init_1 : decode cX3_init 1 = .ok (.invokespecial 3, 3) := by decide +kernel
theorem dX3_init_4 : decode cX3_init 4 = .ok (.aload_n 0, 1) := by decide +kernel
theorem dX3_init_5 : decode cX3_init 5 = .ok (.new 9, 3) := by decide +kernel
theorem dX3_init_8 : decode cX3_init 8 = .ok (.dup, 1) := by decide +kernel
theorem dX3_init_9 : decode cX3_init 9 = .ok (.invokespecial 11, 3) := by decide +kernel
theorem dX3_init_12 : decode cX3_init 12 = .ok (.putfield 12, 3) := by decide +kernel
theorem dX3_init_15 : decode cX3_init 15 = .ok (.aload_n 0, 1) := by decide +kernel
theorem dX3_init_16 : decode cX3_init 16 = .ok (.bipush 16, 2) := by decide +kernel
theorem dX3_init_18 : decode cX3_init 18 = .ok (.newarray .int, 2) := by decide +kernel
theorem dX3_init_20 : decode cX3_init 20 = .ok (.putfield 18, 3) := by decide +kernel
theorem dX3_init_23 : decode cX3_init 23 = .ok (.aload_n 0, 1) := by decide +kernel
theorem dX3_init_24 : decode cX3_init 24 = .ok (.bipush 16, 2) := by decide +kernel
theorem dX3_init_26 : decode cX3_init 26 = .ok (.newarray .int, 2) := by decide +kernel
theorem dX3_init_28 : decode cX3_init 28 = .ok (.putfield 22, 3) := by decide +kernel
theorem dX3_init_31 : decode cX3_init 31 = .ok (.aload_n 0, 1) := by decide +kernel
theorem dX3_init_32 : decode cX3_init 32 = .ok (.bipush 26, 2) := by decide +kernel
theorem dX3_init_34 : decode cX3_init 34 = .ok (.newarray .int, 2) := by decide +kernel
theorem dX3_init_36 : decode cX3_init 36 = .ok (.putfield 25, 3) := by decide +kernel
theorem dX3_init_39 : decode cX3_init 39 = .ok (.aload_n 0, 1) := by decide +kernel
theorem dX3_init_40 : decode cX3_init 40 = .ok (.aload_n 1, 1) := by decide +kernel
theorem dX3_init_41 : decode cX3_init 41 = .ok (.putfield 28, 3) := by decide +kernel
theorem dX3_init_44 : decode cX3_init 44 = .ok (.aload_n 0, 1) := by decide +kernel
theorem dX3_init_45 : decode cX3_init 45 = .ok (.new 32, 3) := by decide +kernel
theorem dX3_init_48 : decode cX3_init 48 = .ok (.dup, 1) := by decide +kernel
theorem dX3_init_49 : decode cX3_init 49 = .ok (.aload_n 1, 1) := by decide +kernel
theorem dX3_init_50 : decode cX3_init 50 = .ok (.invokespecial 34, 3) := by decide +kernel
theorem dX3_init_53 : decode cX3_init 53 = .ok (.putfield 37, 3) := by decide +kernel
theorem dX3_init_56 : decode cX3_init 56 = .ok (.return_, 1) := by decide +kernel
theorem dX4_init_0 : decode cX4_init 0 = .ok (.aload_n 0, 1) := by decide +kernel
theorem dX4_init_1 : decode cX4_init 1 = .ok (.invokespecial 3, 3) := by decide +kernel
theorem dX4_init_4 : decode cX4_init 4 = .ok (.aload_n 0, 1) := by decide +kernel
theorem dX4_init_5 : decode cX4_init 5 = .ok (.bipush 16, 2) := by decide +kernel
theorem dX4_init_7 : decode cX4_init 7 = .ok (.newarray .int, 2) := by decide +kernel
theorem dX4_init_9 : decode cX4_init 9 = .ok (.putfield 9, 3) := by decide +kernel
theorem dX4_init_12 : decode cX4_init 12 = .ok (.aload_n 0, 1) := by decide +kernel
theorem dX4_init_13 : decode cX4_init 13 = .ok (.bipush 16, 2) := by decide +kernel
theorem dX4_init_15 : decode cX4_init 15 = .ok (.newarray .int, 2) := by decide +kernel
theorem dX4_init_17 : decode cX4_init 17 = .ok (.putfield 15, 3) := by decide +kernel
theorem dX4_init_20 : decode cX4_init 20 = .ok (.aload_n 0, 1) := by decide +kernel
theorem dX4_init_21 : decode cX4_init 21 = .ok (.bipush 16, 2) := by decide +kernel
theorem dX4_init_23 : decode cX4_init 23 = .ok (.newarray .int, 2) := by decide +kernel
theorem dX4_init_25 : decode cX4_init 25 = .ok (.putfield 18, 3) := by decide +kernel
theorem dX4_init_28 : decode cX4_init 28 = .ok (.aload_n 0, 1) := by decide +kernel
theorem dX4_init_29 : decode cX4_init 29 = .ok (.bipush 16, 2) := by decide +kernel
theorem dX4_init_31 : decode cX4_init 31 = .ok (.newarray .int, 2) := by decide +kernel
theorem dX4_init_33 : decode cX4_init 33 = .ok (.putfield 21, 3) := by decide +kernel
theorem dX4_init_36 : decode cX4_init 36 = .ok (.aload_n 0, 1) := by decide +kernel
theorem dX4_init_37 : decode cX4_init 37 = .ok (.bipush 16, 2) := by decide +kernel
theorem dX4_init_39 : decode cX4_init 39 = .ok (.newarray .int, 2) := by decide +kernel
theorem dX4_init_41 : decode cX4_init 41 = .ok (.putfield 24, 3) := by decide +kernel
theorem dX4_init_44 : decode cX4_init 44 = .ok (.aload_n 0, 1) := by decide +kernel
theorem dX4_init_45 : decode cX4_init 45 = .ok (.sipush 128, 3) := by decide +kernel
theorem dX4_init_48 : decode cX4_init 48 = .ok (.newarray .int, 2) := by decide +kernel
theorem dX4_init_50 : decode cX4_init 50 = .ok (.putfield 27, 3) := by decide +kernel
theorem dX4_init_53 : decode cX4_init 53 = .ok (.aload_n 0, 1) := by decide +kernel
theorem dX4_init_54 : decode cX4_init 54 = .ok (.sipush 128, 3) := by decide +kernel
theorem dX4_init_57 : decode cX4_init 57 = .ok (.newarray .int, 2) := by decide +kernel
theorem dX4_init_59 : decode cX4_init 59 = .ok (.putfield 30, 3) := by decide +kernel
theorem dX4_init_62 : decode cX4_init 62 = .ok (.aload_n 0, 1) := by decide +kernel
theorem dX4_init_63 : decode cX4_init 63 = .ok (.sipush 128, 3) := by decide +kernel
theorem dX4_init_66 : decode cX4_init 66 = .ok (.newarray .int, 2) := by decide +kernel
theorem dX4_init_68 : decode cX4_init 68 = .ok (.putfield 33, 3) := by decide +kernel
theorem dX4_init_71 : decode cX4_init 71 = .ok (.aload_n 0, 1) := by decide +kernel
theorem dX4_init_72 : decode cX4_init 72 = .ok (.sipush 128, 3) := by decide +kernel
theorem dX4_init_75 : decode cX4_init 75 = .ok (.newarray .int, 2) := by decide +kernel
theorem dX4_init_77 : decode cX4_init 77 = .ok (.putfield 36, 3) := by decide +kernel
theorem dX4_init_80 : decode cX4_init 80 = .ok (.aload_n 0, 1) := by decide +kernel
theorem dX4_init_81 : decode cX4_init 81 = .ok (.sipush 128, 3) := by decide +kernel
theorem dX4_init_84 : decode cX4_init 84 = .ok (.newarray .int, 2) := by decide +kernel
theorem dX4_init_86 : decode cX4_init 86 = .ok (.putfield 39, 3) := by decide +kernel
theorem dX4_init_89 : decode cX4_init 89 = .ok (.aload_n 0, 1) := by decide +kernel
theorem dX4_init_90 : decode cX4_init 90 = .ok (.sipush 128, 3) := by decide +kernel
theorem dX4_init_93 : decode cX4_init 93 = .ok (.newarray .int, 2) := by decide +kernel
theorem dX4_init_95 : decode cX4_init 95 = .ok (.putfield 42, 3) := by decide +kernel
theorem dX4_init_98 : decode cX4_init 98 = .ok (.aload_n 0, 1) := by decide +kernel
theorem dX4_init_99 : decode cX4_init 99 = .ok (.sipush 128, 3) := by decide +kernel
theorem dX4_init_102 : decode cX4_init 102 = .ok (.newarray .int, 2) := by decide +kernel
theorem dX4_init_104 : decode cX4_init 104 = .ok (.putfield 45, 3) := by decide +kernel
theorem dX4_init_107 : decode cX4_init 107 = .ok (.aload_n 0, 1) := by decide +kernel
theorem dX4_init_108 : decode cX4_init 108 = .ok (.new 48, 3) := by decide +kernel
theorem dX4_init_111 : decode cX4_init 111 = .ok (.dup, 1) := by decide +kernel
theorem dX4_init_112 : decode cX4_init 112 = .ok (.invokespecial 50, 3) := by decide +kernel
theorem dX4_init_115 : decode cX4_init 115 = .ok (.putfield 51, 3) := by decide +kernel
theorem dX4_init_118 : decode cX4_init 118 = .ok (.return_, 1) := by decide +kernel
theorem dX5_init_0 : decode cX5_init 0 = .ok (.aload_n 0, 1) := by decide +kernel
theorem dX5_init_1 : decode cX5_init 1 = .ok (.invokespecial 3, 3) := by decide +kernel
theorem dX5_init_4 : decode cX5_init 4 = .ok (.aload_n 0, 1) := by decide +kernel
theorem dX5_init_5 : decode cX5_init 5 = .ok (.aload_n 1, 1) := by decide +kernel
theorem dX5_init_6 : decode cX5_init 6 = .ok (.putfield 9, 3) := by decide +kernel
theorem dX5_init_9 : decode cX5_init 9 = .ok (.return_, 1) := by decide +kernel
theorem dX6_init_0 : decode cX6_init 0 = .ok (.aload_n 0, 1) := by decide +kernel
theorem dX6_init_1 : decode cX6_init 1 = .ok (.invokespecial 3, 3) := by decide +kernel
theorem dX6_init_4 : decode cX6_init 4 = .ok (.aload_n 0, 1) := by decide +kernel
theorem dX6_init_5 : decode cX6_init 5 = .ok (.bipush 16, 2) := by decide +kernel
theorem dX6_init_7 : decode cX6_init 7 = .ok (.newarray .int, 2) := by decide +kernel
theorem dX6_init_9 : decode cX6_init 9 = .ok (.putfield 9, 3) := by decide +kernel
theorem dX6_init_12 : decode cX6_init 12 = .ok (.aload_n 0, 1) := by decide +kernel
theorem dX6_init_13 : decode cX6_init 13 = .ok (.bipush 16, 2) := by decide +kernel
theorem dX6_init_15 : decode cX6_init 15 = .ok (.newarray .int, 2) := by decide +kernel
theorem dX6_init_17 : decode cX6_init 17 = .ok (.putfield 15, 3) := by decide +kernel
theorem dX6_init_20 : decode cX6_init 20 = .ok (.aload_n 0, 1) := by decide +kernel
theorem dX6_init_21 : decode cX6_init 21 = .ok (.bipush 16, 2) := by decide +kernel
theorem dX6_init_23 : decode cX6_init 23 = .ok (.newarray .int, 2) := by decide +kernel
theorem dX6_init_25 : decode cX6_init 25 = .ok (.putfield 18, 3) := by decide +kernel
theorem dX6_init_28 : decode cX6_init 28 = .ok (.aload_n 0, 1) := by decide +kernel
theorem dX6_init_29 : decode cX6_init 29 = .ok (.bipush 16, 2) := by decide +kernel
theorem dX6_init_31 : decode cX6_init 31 = .ok (.newarray .int, 2) := by decide +kernel
theorem dX6_init_33 : decode cX6_init 33 = .ok (.putfield 21, 3) := by decide +kernel
theorem dX6_init_36 : decode cX6_init 36 = .ok (.aload_n 0, 1) := by decide +kernel
theorem dX6_init_37 : decode cX6_init 37 = .ok (.bipush 16, 2) := by decide +kernel
theorem dX6_init_39 : decode cX6_init 39 = .ok (.newarray .int, 2) := by decide +kernel
theorem dX6_init_41 : decode cX6_init 41 = .ok (.putfield 24, 3) := by decide +kernel
theorem dX6_init_44 : decode cX6_init 44 = .ok (.aload_n 0, 1) := by decide +kernel
theorem dX6_init_45 : decode cX6_init 45 = .ok (.ldc 27, 2) := by decide +kernel
theorem dX6_init_47 : decode cX6_init 47 = .ok (.invokevirtual 29, 3) := by decide +kernel
theorem dX6_init_50 : decode cX6_init 50 = .ok (.bipush 16, 2) := by decide +kernel
theorem dX6_init_52 : decode cX6_init 52 = .ok (.multianewarray 35 2, 4) := by decide +kernel
theorem dX6_init_56 : decode cX6_init 56 = .ok (.putfield 37, 3) := by decide +kernel
theorem dX6_init_59 : decode cX6_init 59 = .ok (.aload_n 0, 1) := by decide +kernel
theorem dX6_init_60 : decode cX6_init 60 = .ok (.bipush 26, 2) := by decide +kernel
theorem dX6_init_62 : decode cX6_init 62 = .ok (.newarray .int, 2) := by decide +kernel
theorem dX6_init_64 : decode cX6_init 64 = .ok (.putfield 40, 3) := by decide +kernel
theorem dX6_init_67 : decode cX6_init 67 = .ok (.aload_n 0, 1) := by decide +kernel
theorem dX6_init_68 : decode cX6_init 68 = .ok (.bipush 26, 2) := by decide +kernel
theorem dX6_init_70 : decode cX6_init 70 = .ok (.newarray .int, 2) := by decide +kernel
theorem dX6_init_72 : decode cX6_init 72 = .ok (.putfield 43, 3) := by decide +kernel
theorem dX6_init_75 : decode cX6_init 75 = .ok (.aload_n 0, 1) := by decide +kernel
theorem dX6_init_76 : decode cX6_init 76 = .ok (.bipush 26, 2) := by decide +kernel
theorem dX6_init_78 : decode cX6_init 78 = .ok (.newarray .int, 2) := by decide +kernel
theorem dX6_init_80 : decode cX6_init 80 = .ok (.putfield 46, 3) := by decide +kernel
theorem dX6_init_83 : decode cX6_init 83 = .ok (.aload_n 0, 1) := by decide +kernel
theorem dX6_init_84 : decode cX6_init 84 = .ok (.bipush 26, 2) := by decide +kernel
theorem dX6_init_86 : decode cX6_init 86 = .ok (.newarray .int, 2) := by decide +kernel
theorem dX6_init_88 : decode cX6_init 88 = .ok (.putfield 49, 3) := by decide +kernel
theorem dX6_init_91 : decode cX6_init 91 = .ok (.aload_n 0, 1) := by decide +kernel
theorem dX6_init_92 : decode cX6_init 92 = .ok (.bipush 26, 2) := by decide +kernel
theorem dX6_init_94 : decode cX6_init 94 = .ok (.newarray .int, 2) := by decide +kernel
theorem dX6_init_96 : decode cX6_init 96 = .ok (.putfield 52, 3) := by decide +kernel
theorem dX6_init_99 : decode cX6_init 99 = .ok (.aload_n 0, 1) := by decide +kernel
theorem dX6_init_100 : decode cX6_init 100 = .ok (.new 55, 3) := by decide +kernel
theorem dX6_init_103 : decode cX6_init 103 = .ok (.dup, 1) := by decide +kernel
theorem dX6_init_104 : decode cX6_init 104 = .ok (.invokespecial 57, 3) := by decide +kernel
theorem dX6_init_107 : decode cX6_init 107 = .ok (.putfield 58, 3) := by decide +kernel
theorem dX6_init_110 : decode cX6_init 110 = .ok (.aload_n 0, 1) := by decide +kernel
theorem dX6_init_111 : decode cX6_init 111 = .ok (.getfield 40, 3) := by decide +kernel
theorem dX6_init_114 : decode cX6_init 114 = .ok (.iconst (-1), 1) := by decide +kernel
theorem dX6_init_115 : decode cX6_init 115 = .ok (.invokestatic 62, 3) := by decide +kernel
theorem dX6_init_118 : decode cX6_init 118 = .ok (.return_, 1) := by decide +kernel
theorem dX7_init_0 : decode cX7_init 0 = .ok (.aload_n 0, 1) := by decide +kernel
theorem dX7_init_1 : decode cX7_init 1 = .ok (.invokespecial 3, 3) := by decide +kernel
theorem dX7_init_4 : decode cX7_init 4 = .ok (.aload_n 0, 1) := by decide +kernel
theorem dX7_init_5 : decode cX7_init 5 = .ok (.bipush 64, 2) := by decide +kernel
theorem dX7_init_7 : decode cX7_init 7 = .ok (.newarray .int, 2) := by decide +kernel
theorem dX7_init_9 : decode cX7_init 9 = .ok (.putfield 9, 3) := by decide +kernel
theorem dX7_init_12 : decode cX7_init 12 = .ok (.aload_n 0, 1) := by decide +kernel
theorem dX7_init_13 : decode cX7_init 13 = .ok (.bipush 64, 2) := by decide +kernel
theorem dX7_init_15 : decode cX7_init 15 = .ok (.newarray .int, 2) := by decide +kernel
theorem dX7_init_17 : decode cX7_init 17 = .ok (.putfield 15, 3) := by decide +kernel
theorem dX7_init_20 : decode cX7_init 20 = .ok (.aload_n 0, 1) := by decide +kernel
theorem dX7_init_21 : decode cX7_init 21 = .ok (.bipush 64, 2) := by decide +kernel
theorem dX7_init_23 : decode cX7_init 23 = .ok (.newarray .int, 2) := by decide +kernel
theorem dX7_init_25 : decode cX7_init 25 = .ok (.putfield 18, 3) := by decide +kernel
theorem dX7_init_28 : decode cX7_init 28 = .ok (.return_, 1) := by decide +kernel
theorem dX8_init_0 : decode cX8_init 0 = .ok (.aload_n 0, 1) := by decide +kernel
theorem dX8_init_1 : decode cX8_init 1 = .ok (.invokespecial 3, 3) := by decide +kernel
theorem dX8_init_4 : decode cX8_init 4 = .ok (.aload_n 0, 1) := by decide +kernel
theorem dX8_init_5 : decode cX8_init 5 = .ok (.bipush 16, 2) := by decide +kernel
theorem dX8_init_7 : decode cX8_init 7 = .ok (.newarray .int, 2) := by decide +kernel
theorem dX8_init_9 : decode cX8_init 9 = .ok (.putfield 9, 3) := by decide +kernel
theorem dX8_init_12 : decode cX8_init 12 = .ok (.aload_n 0, 1) := by decide +kernel
theorem dX8_init_13 : decode cX8_init 13 = .ok (.aload_n 1, 1) := by decide +kernel
theorem dX8_init_14 : decode cX8_init 14 = .ok (.putfield 15, 3) := by decide +kernel
theorem dX8_init_17 : decode cX8_init 17 = .ok (.return_, 1) := by decide +kernel
theorem dX9_init_0 : decode cX9_init 0 = .ok (.aload_n 0, 1) := by decide +kernel
theorem dX9_init_1 : decode cX9_init 1 = .ok (.invokespecial 3, 3) := by decide +kernel
theorem dX9_init_4 : decode cX9_init 4 = .ok (.aload_n 0, 1) := by decide +kernel
theorem dX9_init_5 : decode cX9_init 5 = .ok (.bipush 16, 2) := by decide +kernel
theorem dX9_init_7 : decode cX9_init 7 = .ok (.newarray .int, 2) := by decide +kernel
theorem dX9_init_9 : decode cX9_init 9 = .ok (.putfield 11, 3) := by decide +kernel
theorem dX9_init_12 : decode cX9_init 12 = .ok (.aload_n 0, 1) := by decide +kernel
theorem dX9_init_13 : decode cX9_init 13 = .ok (.bipush 16, 2) := by decide +kernel
theorem dX9_init_15 : decode cX9_init 15 = .ok (.newarray .int, 2) := by decide +kernel
theorem dX9_init_17 : decode cX9_init 17 = .ok (.putfield 15, 3) := by decide +kernel
theorem dX9_init_20 : decode cX9_init 20 = .ok (.aload_n 0, 1) := by decide +kernel
theorem dX9_init_21 : decode cX9_init 21 = .ok (.aload_n 1, 1) := by decide +kernel
theorem dX9_init_22 : decode cX9_init 22 = .ok (.putfield 18, 3) := by decide +kernel
theorem dX9_init_25 : decode cX9_init 25 = .ok (.aload_n 0, 1) := by decide +kernel
theorem dX9_init_26 : decode cX9_init 26 = .ok (.new 22, 3) := by decide +kernel
theorem dX9_init_29 : decode cX9_init 29 = .ok (.dup, 1) := by decide +kernel
theorem dX9_init_30 : decode cX9_init 30 = .ok (.aload_n 1, 1) := by decide +kernel
theorem dX9_init_31 : decode cX9_init 31 = .ok (.invokespecial 24, 3) := by decide +kernel
theorem dX9_init_34 : decode cX9_init 34 = .ok (.putfield 27, 3) := by decide +kernel
theorem dX9_init_37 : decode cX9_init 37 = .ok (.return_, 1) := by decide +kernel
set_option maxRecDepth 20000 in
theorem wd_0_34 : Jvm.Cond.methodLink "ChipMap" (3 : Nat) ({ cls := "java/lang/Object", name := "<init>", desc := "()V" } : Jvm.MethodName) ∈ GT := gt_in (in_t0 (List.mem_of_getElem? (i := 34) rfl)) rfl
set_option maxRecDepth 20000 in
theorem wd_0_35 : Jvm.Cond.instanceMethod ({ cls := "java/lang/Object", name := "<init>", desc := "()V" } : Jvm.MethodName) ∈ GT := gt_in (in_t0 (List.mem_of_getElem? (i := 35) rfl)) rfl
set_option maxRecDepth 20000 in
theorem wd_0_36 : Jvm.Cond.code ({ cls := "java/lang/Object", name := "<init>", desc := "()V" } : Jvm.MethodName) object_method_1_code (1 : Nat) (Option.none : Option Jvm.ClassFile.FieldType) ∈ GT := gt_in (in_t0 (List.mem_of_getElem? (i := 36) rfl)) rfl
set_option maxRecDepth 20000 in
theorem wd_0_37 : Jvm.Cond.classLink "ChipMap" (9 : Nat) "ChipMap$Draft" ∈ GT := gt_in (in_t0 (List.mem_of_getElem? (i := 37) rfl)) rfl
set_option maxRecDepth 20000 in
theorem wd_0_38 : Jvm.Cond.instantiable "ChipMap$Draft" (15 : Nat) ∈ GT := gt_in (in_t0 (List.mem_of_getElem? (i := 38) rfl)) rfl
set_option maxRecDepth 20000 in
theorem wd_0_40 : Jvm.Cond.instanceMethod ({ cls := "ChipMap$Draft", name := "<init>", desc := "()V" } : Jvm.MethodName) ∈ GT := gt_in (in_t0 (List.mem_of_getElem? (i := 40) rfl)) rfl
set_option maxRecDepth 20000 in
theorem wd_0_41 : Jvm.Cond.code ({ cls := "ChipMap$Draft", name := "<init>", desc := "()V" } : Jvm.MethodName) prog_4_method_1_code (1 : Nat) (Option.none : Option Jvm.ClassFile.FieldType) ∈ GT := gt_in (in_t0 (List.mem_of_getElem? (i := 41) rfl)) rfl
set_option maxRecDepth 20000 in
theorem wd_0_42 : Jvm.Cond.methodLink "ChipMap$Draft" (3 : Nat) ({ cls := "java/lang/Object", name := "<init>", desc := "()V" } : Jvm.MethodName) ∈ GT := gt_in (in_t0 (List.mem_of_getElem? (i := 42) rfl)) rfl
set_option maxRecDepth 20000 in
theorem wd_0_43 : Jvm.Cond.classLink "ChipMap$Draft" (48 : Nat) "ChipMap$Rules" ∈ GT := gt_in (in_t0 (List.mem_of_getElem? (i := 43) rfl)) rfl
set_option maxRecDepth 20000 in
theorem wd_0_44 : Jvm.Cond.instantiable "ChipMap$Rules" (7 : Nat) ∈ GT := gt_in (in_t0 (List.mem_of_getElem? (i := 44) rfl)) rfl
set_option maxRecDepth 20000 in
theorem wd_0_46 : Jvm.Cond.instanceMethod ({ cls := "ChipMap$Rules", name := "<init>", desc := "()V" } : Jvm.MethodName) ∈ GT := gt_in (in_t0 (List.mem_of_getElem? (i := 46) rfl)) rfl
set_option maxRecDepth 20000 in
theorem wd_0_47 : Jvm.Cond.code ({ cls := "ChipMap$Rules", name := "<init>", desc := "()V" } : Jvm.MethodName) prog_11_method_1_code (1 : Nat) (Option.none : Option Jvm.ClassFile.FieldType) ∈ GT := gt_in (in_t0 (List.mem_of_getElem? (i := 47) rfl)) rfl
set_option maxRecDepth 20000 in
theorem wd_0_48 : Jvm.Cond.methodLink "ChipMap$Rules" (3 : Nat) ({ cls := "java/lang/Object", name := "<init>", desc := "()V" } : Jvm.MethodName) ∈ GT := gt_in (in_t0 (List.mem_of_getElem? (i := 48) rfl)) rfl
set_option maxRecDepth 20000 in
theorem wd_0_71 : Jvm.Cond.fieldLink "ChipMap$Rules" (24 : Nat) "ChipMap$Rules" "placeOfA" "[I" ∈ GT := gt_in (in_t0 (List.mem_of_getElem? (i := 71) rfl)) rfl
set_option maxRecDepth 20000 in
theorem wd_0_74 : Jvm.Cond.fieldLink "ChipMap$Rules" (27 : Nat) "ChipMap$Rules" "placeOfB" "[I" ∈ GT := gt_in (in_t0 (List.mem_of_getElem? (i := 74) rfl)) rfl
set_option maxRecDepth 20000 in
theorem wd_0_92 : Jvm.Cond.arrayClass Jvm.ClassFile.FieldType.int ∈ GT := gt_in (in_t0 (List.mem_of_getElem? (i := 92) rfl)) rfl
set_option maxRecDepth 20000 in
theorem wd_0_97 : Jvm.Cond.fieldLink "ChipMap$Draft" (9 : Nat) "ChipMap$Draft" "registerPlace" "[I" ∈ GT := gt_in (in_t0 (List.mem_of_getElem? (i := 97) rfl)) rfl
set_option maxRecDepth 20000 in
theorem wd_0_100 : Jvm.Cond.fieldLink "ChipMap$Draft" (15 : Nat) "ChipMap$Draft" "offset" "[I" ∈ GT := gt_in (in_t0 (List.mem_of_getElem? (i := 100) rfl)) rfl
set_option maxRecDepth 20000 in
theorem wd_0_104 : Jvm.Cond.fieldLink "ChipMap$Draft" (18 : Nat) "ChipMap$Draft" "bank" "[I" ∈ GT := gt_in (in_t0 (List.mem_of_getElem? (i := 104) rfl)) rfl
set_option maxRecDepth 20000 in
theorem wd_0_108 : Jvm.Cond.fieldLink "ChipMap$Draft" (21 : Nat) "ChipMap$Draft" "bankPlace" "[I" ∈ GT := gt_in (in_t0 (List.mem_of_getElem? (i := 108) rfl)) rfl
set_option maxRecDepth 20000 in
theorem wd_0_111 : Jvm.Cond.fieldLink "ChipMap$Draft" (24 : Nat) "ChipMap$Draft" "digit" "[I" ∈ GT := gt_in (in_t0 (List.mem_of_getElem? (i := 111) rfl)) rfl
set_option maxRecDepth 20000 in
theorem wd_0_123 : Jvm.Cond.fieldLink "ChipMap$Draft" (30 : Nat) "ChipMap$Draft" "place" "[I" ∈ GT := gt_in (in_t0 (List.mem_of_getElem? (i := 123) rfl)) rfl
set_option maxRecDepth 20000 in
theorem wd_0_126 : Jvm.Cond.fieldLink "ChipMap$Draft" (33 : Nat) "ChipMap$Draft" "home" "[I" ∈ GT := gt_in (in_t0 (List.mem_of_getElem? (i := 126) rfl)) rfl
set_option maxRecDepth 20000 in
theorem wd_0_130 : Jvm.Cond.fieldLink "ChipMap$Draft" (36 : Nat) "ChipMap$Draft" "access" "[I" ∈ GT := gt_in (in_t0 (List.mem_of_getElem? (i := 130) rfl)) rfl
set_option maxRecDepth 20000 in
theorem wd_0_142 : Jvm.Cond.fieldLink "ChipMap$Draft" (45 : Nat) "ChipMap$Draft" "value" "[I" ∈ GT := gt_in (in_t0 (List.mem_of_getElem? (i := 142) rfl)) rfl
set_option maxRecDepth 20000 in
theorem wd_0_181 : Jvm.Cond.classLink "ChipMap" (16 : Nat) "ChipMap$Reader" ∈ GT := gt_in (in_t0 (List.mem_of_getElem? (i := 181) rfl)) rfl
set_option maxRecDepth 20000 in
theorem wd_0_182 : Jvm.Cond.instantiable "ChipMap$Reader" (4 : Nat) ∈ GT := gt_in (in_t0 (List.mem_of_getElem? (i := 182) rfl)) rfl
set_option maxRecDepth 20000 in
theorem wd_0_183 : Jvm.Cond.methodLink "ChipMap" (18 : Nat) ({ cls := "ChipMap$Reader", name := "<init>", desc := "(LChipMap$Draft;)V" } : Jvm.MethodName) ∈ GT := gt_in (in_t0 (List.mem_of_getElem? (i := 183) rfl)) rfl
set_option maxRecDepth 20000 in
theorem wd_0_184 : Jvm.Cond.instanceMethod ({ cls := "ChipMap$Reader", name := "<init>", desc := "(LChipMap$Draft;)V" } : Jvm.MethodName) ∈ GT := gt_in (in_t0 (List.mem_of_getElem? (i := 184) rfl)) rfl
set_option maxRecDepth 20000 in
theorem wd_0_185 : Jvm.Cond.code ({ cls := "ChipMap$Reader", name := "<init>", desc := "(LChipMap$Draft;)V" } : Jvm.MethodName) prog_10_method_1_code (2 : Nat) (Option.none : Option Jvm.ClassFile.FieldType) ∈ GT := gt_in (in_t0 (List.mem_of_getElem? (i := 185) rfl)) rfl
set_option maxRecDepth 20000 in
theorem wd_0_186 : Jvm.Cond.methodLink "ChipMap$Reader" (3 : Nat) ({ cls := "java/lang/Object", name := "<init>", desc := "()V" } : Jvm.MethodName) ∈ GT := gt_in (in_t0 (List.mem_of_getElem? (i := 186) rfl)) rfl
set_option maxRecDepth 20000 in
theorem wd_0_201 : Jvm.Cond.arrayClass Jvm.ClassFile.FieldType.char ∈ GT := gt_in (in_t0 (List.mem_of_getElem? (i := 201) rfl)) rfl
set_option maxRecDepth 20000 in
theorem wd_0_202 : Jvm.Cond.classLink "ChipMap" (25 : Nat) "ChipMap$Judge" ∈ GT := gt_in (in_t0 (List.mem_of_getElem? (i := 202) rfl)) rfl
set_option maxRecDepth 20000 in
theorem wd_0_203 : Jvm.Cond.instantiable "ChipMap$Judge" (3 : Nat) ∈ GT := gt_in (in_t0 (List.mem_of_getElem? (i := 203) rfl)) rfl
set_option maxRecDepth 20000 in
theorem wd_0_204 : Jvm.Cond.methodLink "ChipMap" (27 : Nat) ({ cls := "ChipMap$Judge", name := "<init>", desc := "(LChipMap$Draft;)V" } : Jvm.MethodName) ∈ GT := gt_in (in_t0 (List.mem_of_getElem? (i := 204) rfl)) rfl
set_option maxRecDepth 20000 in
theorem wd_0_205 : Jvm.Cond.instanceMethod ({ cls := "ChipMap$Judge", name := "<init>", desc := "(LChipMap$Draft;)V" } : Jvm.MethodName) ∈ GT := gt_in (in_t0 (List.mem_of_getElem? (i := 205) rfl)) rfl
set_option maxRecDepth 20000 in
theorem wd_0_206 : Jvm.Cond.code ({ cls := "ChipMap$Judge", name := "<init>", desc := "(LChipMap$Draft;)V" } : Jvm.MethodName) prog_5_method_1_code (2 : Nat) (Option.none : Option Jvm.ClassFile.FieldType) ∈ GT := gt_in (in_t0 (List.mem_of_getElem? (i := 206) rfl)) rfl
set_option maxRecDepth 20000 in
theorem wd_0_207 : Jvm.Cond.methodLink "ChipMap$Judge" (3 : Nat) ({ cls := "java/lang/Object", name := "<init>", desc := "()V" } : Jvm.MethodName) ∈ GT := gt_in (in_t0 (List.mem_of_getElem? (i := 207) rfl)) rfl
set_option maxRecDepth 20000 in
theorem wd_0_220 : Jvm.Cond.classLink "ChipMap" (32 : Nat) "ChipMap$Layout" ∈ GT := gt_in (in_t0 (List.mem_of_getElem? (i := 220) rfl)) rfl
set_option maxRecDepth 20000 in
theorem wd_0_221 : Jvm.Cond.instantiable "ChipMap$Layout" (13 : Nat) ∈ GT := gt_in (in_t0 (List.mem_of_getElem? (i := 221) rfl)) rfl
set_option maxRecDepth 20000 in
theorem wd_0_222 : Jvm.Cond.methodLink "ChipMap" (34 : Nat) ({ cls := "ChipMap$Layout", name := "<init>", desc := "()V" } : Jvm.MethodName) ∈ GT := gt_in (in_t0 (List.mem_of_getElem? (i := 222) rfl)) rfl
set_option maxRecDepth 20000 in
theorem wd_0_223 : Jvm.Cond.instanceMethod ({ cls := "ChipMap$Layout", name := "<init>", desc := "()V" } : Jvm.MethodName) ∈ GT := gt_in (in_t0 (List.mem_of_getElem? (i := 223) rfl)) rfl
set_option maxRecDepth 20000 in
theorem wd_0_224 : Jvm.Cond.code ({ cls := "ChipMap$Layout", name := "<init>", desc := "()V" } : Jvm.MethodName) prog_6_method_1_code (1 : Nat) (Option.none : Option Jvm.ClassFile.FieldType) ∈ GT := gt_in (in_t0 (List.mem_of_getElem? (i := 224) rfl)) rfl
set_option maxRecDepth 20000 in
theorem wd_0_225 : Jvm.Cond.methodLink "ChipMap$Layout" (3 : Nat) ({ cls := "java/lang/Object", name := "<init>", desc := "()V" } : Jvm.MethodName) ∈ GT := gt_in (in_t0 (List.mem_of_getElem? (i := 225) rfl)) rfl
set_option maxRecDepth 20000 in
theorem wd_0_227 : Jvm.Cond.methodLink "ChipMap$Layout" (29 : Nat) ({ cls := "java/lang/String", name := "length", desc := "()I" } : Jvm.MethodName) ∈ GT := gt_in (in_t0 (List.mem_of_getElem? (i := 227) rfl)) rfl
set_option maxRecDepth 20000 in
theorem wd_0_237 : Jvm.Cond.classLink "ChipMap$Layout" (35 : Nat) "[[I" ∈ GT := gt_in (in_t0 (List.mem_of_getElem? (i := 237) rfl)) rfl
set_option maxRecDepth 20000 in
theorem wd_0_239 : Jvm.Cond.classLink "ChipMap$Layout" (55 : Nat) "ChipMap$Rules" ∈ GT := gt_in (in_t0 (List.mem_of_getElem? (i := 239) rfl)) rfl
set_option maxRecDepth 20000 in
theorem wd_1_76 : Jvm.Cond.classLink "ChipMap" (39 : Nat) "ChipMap$Device" ∈ GT := gt_in (in_t1 (List.mem_of_getElem? (i := 76) rfl)) rfl
set_option maxRecDepth 20000 in
theorem wd_1_77 : Jvm.Cond.instantiable "ChipMap$Device" (7 : Nat) ∈ GT := gt_in (in_t1 (List.mem_of_getElem? (i := 77) rfl)) rfl
set_option maxRecDepth 20000 in
theorem wd_1_78 : Jvm.Cond.methodLink "ChipMap" (41 : Nat) ({ cls := "ChipMap$Device", name := "<init>", desc := "(LChipMap$Layout;)V" } : Jvm.MethodName) ∈ GT := gt_in (in_t1 (List.mem_of_getElem? (i := 78) rfl)) rfl
set_option maxRecDepth 20000 in
theorem wd_1_79 : Jvm.Cond.instanceMethod ({ cls := "ChipMap$Device", name := "<init>", desc := "(LChipMap$Layout;)V" } : Jvm.MethodName) ∈ GT := gt_in (in_t1 (List.mem_of_getElem? (i := 79) rfl)) rfl
set_option maxRecDepth 20000 in
theorem wd_1_80 : Jvm.Cond.code ({ cls := "ChipMap$Device", name := "<init>", desc := "(LChipMap$Layout;)V" } : Jvm.MethodName) prog_3_method_1_code (2 : Nat) (Option.none : Option Jvm.ClassFile.FieldType) ∈ GT := gt_in (in_t1 (List.mem_of_getElem? (i := 80) rfl)) rfl
set_option maxRecDepth 20000 in
theorem wd_1_81 : Jvm.Cond.methodLink "ChipMap$Device" (3 : Nat) ({ cls := "java/lang/Object", name := "<init>", desc := "()V" } : Jvm.MethodName) ∈ GT := gt_in (in_t1 (List.mem_of_getElem? (i := 81) rfl)) rfl
set_option maxRecDepth 20000 in
theorem wd_1_82 : Jvm.Cond.classLink "ChipMap$Device" (9 : Nat) "ChipMap$Log" ∈ GT := gt_in (in_t1 (List.mem_of_getElem? (i := 82) rfl)) rfl
set_option maxRecDepth 20000 in
theorem wd_1_83 : Jvm.Cond.instantiable "ChipMap$Log" (4 : Nat) ∈ GT := gt_in (in_t1 (List.mem_of_getElem? (i := 83) rfl)) rfl
set_option maxRecDepth 20000 in
theorem wd_1_85 : Jvm.Cond.instanceMethod ({ cls := "ChipMap$Log", name := "<init>", desc := "()V" } : Jvm.MethodName) ∈ GT := gt_in (in_t1 (List.mem_of_getElem? (i := 85) rfl)) rfl
set_option maxRecDepth 20000 in
theorem wd_1_86 : Jvm.Cond.code ({ cls := "ChipMap$Log", name := "<init>", desc := "()V" } : Jvm.MethodName) prog_7_method_1_code (1 : Nat) (Option.none : Option Jvm.ClassFile.FieldType) ∈ GT := gt_in (in_t1 (List.mem_of_getElem? (i := 86) rfl)) rfl
set_option maxRecDepth 20000 in
theorem wd_1_87 : Jvm.Cond.methodLink "ChipMap$Log" (3 : Nat) ({ cls := "java/lang/Object", name := "<init>", desc := "()V" } : Jvm.MethodName) ∈ GT := gt_in (in_t1 (List.mem_of_getElem? (i := 87) rfl)) rfl
set_option maxRecDepth 20000 in
theorem wd_1_106 : Jvm.Cond.classLink "ChipMap$Device" (32 : Nat) "ChipMap$Mind" ∈ GT := gt_in (in_t1 (List.mem_of_getElem? (i := 106) rfl)) rfl
set_option maxRecDepth 20000 in
theorem wd_1_107 : Jvm.Cond.instantiable "ChipMap$Mind" (3 : Nat) ∈ GT := gt_in (in_t1 (List.mem_of_getElem? (i := 107) rfl)) rfl
set_option maxRecDepth 20000 in
theorem wd_1_108 : Jvm.Cond.methodLink "ChipMap$Device" (34 : Nat) ({ cls := "ChipMap$Mind", name := "<init>", desc := "(LChipMap$Layout;)V" } : Jvm.MethodName) ∈ GT := gt_in (in_t1 (List.mem_of_getElem? (i := 108) rfl)) rfl
set_option maxRecDepth 20000 in
theorem wd_1_109 : Jvm.Cond.instanceMethod ({ cls := "ChipMap$Mind", name := "<init>", desc := "(LChipMap$Layout;)V" } : Jvm.MethodName) ∈ GT := gt_in (in_t1 (List.mem_of_getElem? (i := 109) rfl)) rfl
set_option maxRecDepth 20000 in
theorem wd_1_110 : Jvm.Cond.code ({ cls := "ChipMap$Mind", name := "<init>", desc := "(LChipMap$Layout;)V" } : Jvm.MethodName) prog_8_method_1_code (2 : Nat) (Option.none : Option Jvm.ClassFile.FieldType) ∈ GT := gt_in (in_t1 (List.mem_of_getElem? (i := 110) rfl)) rfl
set_option maxRecDepth 20000 in
theorem wd_1_111 : Jvm.Cond.methodLink "ChipMap$Mind" (3 : Nat) ({ cls := "java/lang/Object", name := "<init>", desc := "()V" } : Jvm.MethodName) ∈ GT := gt_in (in_t1 (List.mem_of_getElem? (i := 111) rfl)) rfl
set_option maxRecDepth 20000 in
theorem wd_1_152 : Jvm.Cond.classLink "ChipMap" (48 : Nat) "ChipMap$Plan" ∈ GT := gt_in (in_t1 (List.mem_of_getElem? (i := 152) rfl)) rfl
set_option maxRecDepth 20000 in
theorem wd_1_153 : Jvm.Cond.instantiable "ChipMap$Plan" (6 : Nat) ∈ GT := gt_in (in_t1 (List.mem_of_getElem? (i := 153) rfl)) rfl
set_option maxRecDepth 20000 in
theorem wd_1_154 : Jvm.Cond.methodLink "ChipMap" (50 : Nat) ({ cls := "ChipMap$Plan", name := "<init>", desc := "(LChipMap$Layout;)V" } : Jvm.MethodName) ∈ GT := gt_in (in_t1 (List.mem_of_getElem? (i := 154) rfl)) rfl
set_option maxRecDepth 20000 in
theorem wd_1_155 : Jvm.Cond.instanceMethod ({ cls := "ChipMap$Plan", name := "<init>", desc := "(LChipMap$Layout;)V" } : Jvm.MethodName) ∈ GT := gt_in (in_t1 (List.mem_of_getElem? (i := 155) rfl)) rfl
set_option maxRecDepth 20000 in
theorem wd_1_156 : Jvm.Cond.code ({ cls := "ChipMap$Plan", name := "<init>", desc := "(LChipMap$Layout;)V" } : Jvm.MethodName) prog_9_method_1_code (2 : Nat) (Option.none : Option Jvm.ClassFile.FieldType) ∈ GT := gt_in (in_t1 (List.mem_of_getElem? (i := 156) rfl)) rfl
set_option maxRecDepth 20000 in
theorem wd_1_157 : Jvm.Cond.methodLink "ChipMap$Plan" (3 : Nat) ({ cls := "java/lang/Object", name := "<init>", desc := "()V" } : Jvm.MethodName) ∈ GT := gt_in (in_t1 (List.mem_of_getElem? (i := 157) rfl)) rfl
set_option maxRecDepth 20000 in
theorem wd_1_158 : Jvm.Cond.classLink "ChipMap$Plan" (22 : Nat) "ChipMap$Mind" ∈ GT := gt_in (in_t1 (List.mem_of_getElem? (i := 158) rfl)) rfl
set_option maxRecDepth 20000 in
theorem wd_1_159 : Jvm.Cond.methodLink "ChipMap$Plan" (24 : Nat) ({ cls := "ChipMap$Mind", name := "<init>", desc := "(LChipMap$Layout;)V" } : Jvm.MethodName) ∈ GT := gt_in (in_t1 (List.mem_of_getElem? (i := 159) rfl)) rfl
set_option maxRecDepth 20000 in
theorem wd_1_185 : Jvm.Cond.classLink "ChipMap" (55 : Nat) "ChipMap$Steps" ∈ GT := gt_in (in_t1 (List.mem_of_getElem? (i := 185) rfl)) rfl
set_option maxRecDepth 20000 in
theorem wd_1_186 : Jvm.Cond.instantiable "ChipMap$Steps" (4 : Nat) ∈ GT := gt_in (in_t1 (List.mem_of_getElem? (i := 186) rfl)) rfl
set_option maxRecDepth 20000 in
theorem wd_1_187 : Jvm.Cond.methodLink "ChipMap" (57 : Nat) ({ cls := "ChipMap$Steps", name := "<init>", desc := "(I)V" } : Jvm.MethodName) ∈ GT := gt_in (in_t1 (List.mem_of_getElem? (i := 187) rfl)) rfl
set_option maxRecDepth 20000 in
theorem wd_1_188 : Jvm.Cond.instanceMethod ({ cls := "ChipMap$Steps", name := "<init>", desc := "(I)V" } : Jvm.MethodName) ∈ GT := gt_in (in_t1 (List.mem_of_getElem? (i := 188) rfl)) rfl
set_option maxRecDepth 20000 in
theorem wd_1_189 : Jvm.Cond.code ({ cls := "ChipMap$Steps", name := "<init>", desc := "(I)V" } : Jvm.MethodName) prog_12_method_1_code (2 : Nat) (Option.none : Option Jvm.ClassFile.FieldType) ∈ GT := gt_in (in_t1 (List.mem_of_getElem? (i := 189) rfl)) rfl
set_option maxRecDepth 20000 in
theorem wd_1_190 : Jvm.Cond.methodLink "ChipMap$Steps" (1 : Nat) ({ cls := "java/lang/Object", name := "<init>", desc := "()V" } : Jvm.MethodName) ∈ GT := gt_in (in_t1 (List.mem_of_getElem? (i := 190) rfl)) rfl
set_option maxRecDepth 20000 in
theorem wd_1_215 : Jvm.Cond.classLink "ChipMap" (67 : Nat) "ChipMap$Checker" ∈ GT := gt_in (in_t1 (List.mem_of_getElem? (i := 215) rfl)) rfl
set_option maxRecDepth 20000 in
theorem wd_1_216 : Jvm.Cond.instantiable "ChipMap$Checker" (10 : Nat) ∈ GT := gt_in (in_t1 (List.mem_of_getElem? (i := 216) rfl)) rfl
set_option maxRecDepth 20000 in
theorem wd_1_217 : Jvm.Cond.methodLink "ChipMap" (69 : Nat) ({ cls := "ChipMap$Checker", name := "<init>", desc := "(LChipMap$Layout;LChipMap$Steps;LChipMap$Plan;)V" } : Jvm.MethodName) ∈ GT := gt_in (in_t1 (List.mem_of_getElem? (i := 217) rfl)) rfl
set_option maxRecDepth 20000 in
theorem wd_1_218 : Jvm.Cond.instanceMethod ({ cls := "ChipMap$Checker", name := "<init>", desc := "(LChipMap$Layout;LChipMap$Steps;LChipMap$Plan;)V" } : Jvm.MethodName) ∈ GT := gt_in (in_t1 (List.mem_of_getElem? (i := 218) rfl)) rfl
set_option maxRecDepth 20000 in
theorem wd_1_219 : Jvm.Cond.code ({ cls := "ChipMap$Checker", name := "<init>", desc := "(LChipMap$Layout;LChipMap$Steps;LChipMap$Plan;)V" } : Jvm.MethodName) prog_2_method_1_code (4 : Nat) (Option.none : Option Jvm.ClassFile.FieldType) ∈ GT := gt_in (in_t1 (List.mem_of_getElem? (i := 219) rfl)) rfl
set_option maxRecDepth 20000 in
theorem wd_1_220 : Jvm.Cond.methodLink "ChipMap$Checker" (5 : Nat) ({ cls := "java/lang/Object", name := "<init>", desc := "()V" } : Jvm.MethodName) ∈ GT := gt_in (in_t1 (List.mem_of_getElem? (i := 220) rfl)) rfl
set_option maxRecDepth 20000 in
theorem wd_2_16 : Jvm.Cond.arrayClass Jvm.ClassFile.FieldType.long ∈ GT := gt_in (in_t2 (List.mem_of_getElem? (i := 16) rfl)) rfl
set_option maxRecDepth 20000 in
theorem wd_4_200 : Jvm.Cond.methodLink "ChipMapModel" (1 : Nat) ({ cls := "java/lang/Object", name := "<init>", desc := "()V" } : Jvm.MethodName) ∈ GT := gt_in (in_t4 (List.mem_of_getElem? (i := 200) rfl)) rfl
set_option maxRecDepth 20000 in
theorem wd_5_190 : Jvm.Cond.arrayClass Jvm.ClassFile.FieldType.boolean ∈ GT := gt_in (in_t5 (List.mem_of_getElem? (i := 190) rfl)) rfl
