/-! THE CHECKS, place by place: 1 -/
set_option maxRecDepth 100000 in
theorem ck82_0 : ∀ q ∈ k82_0, ck 82 q = true := by decide +kernel
theorem ck82 : ∀ q ∈ k82, ck 82 q = true := ck82_0
set_option maxRecDepth 100000 in
theorem ck83_0 : ∀ q ∈ k83_0, ck 83 q = true := by decide +kernel
set_option maxRecDepth 100000 in
theorem ck83_1 : ∀ q ∈ k83_1, ck 83 q = true := by decide +kernel
theorem ck83 : ∀ q ∈ k83, ck 83 q = true := List.forall_mem_append.mpr ⟨ck83_0, ck83_1⟩
set_option maxRecDepth 100000 in
theorem ck84_0 : ∀ q ∈ k84_0, ck 84 q = true := by decide +kernel
theorem ck84 : ∀ q ∈ k84, ck 84 q = true := ck84_0
set_option maxRecDepth 100000 in
theorem ck85_0 : ∀ q ∈ k85_0, ck 85 q = true := by decide +kernel
theorem ck85 : ∀ q ∈ k85, ck 85 q = true := ck85_0
set_option maxRecDepth 100000 in
theorem ck86_0 : ∀ q ∈ k86_0, ck 86 q = true := by decide +kernel
theorem ck86 : ∀ q ∈ k86, ck 86 q = true := ck86_0
set_option maxRecDepth 100000 in
theorem ck87_0 : ∀ q ∈ k87_0, ck 87 q = true := by decide +kernel
theorem ck87 : ∀ q ∈ k87, ck 87 q = true := ck87_0
set_option maxRecDepth 100000 in
theorem ck88_0 : ∀ q ∈ k88_0, ck 88 q = true := by decide +kernel
theorem ck88 : ∀ q ∈ k88, ck 88 q = true := ck88_0
set_option maxRecDepth 100000 in
theorem ck89_0 : ∀ q ∈ k89_0, ck 89 q = true := by decide +kernel
set_option maxRecDepth 100000 in
theorem ck89_1 : ∀ q ∈ k89_1, ck 89 q = true := by decide +kernel
set_option maxRecDepth 100000 in
theorem ck89_2 : ∀ q ∈ k89_2, ck 89 q = true := by decide +kernel
theorem ck89 : ∀ q ∈ k89, ck 89 q = true := List.forall_mem_append.mpr ⟨ck89_0, List.forall_mem_append.mpr ⟨ck89_1, ck89_2⟩⟩
set_option maxRecDepth 100000 in
theorem ck90_0 : ∀ q ∈ k90_0, ck 90 q = true := by decide +kernel
set_option maxRecDepth 100000 in
theorem ck90_1 : ∀ q ∈ k90_1, ck 90 q = true := by decide +kernel
theorem ck90 : ∀ q ∈ k90, ck 90 q = true := List.forall_mem_append.mpr ⟨ck90_0, ck90_1⟩
set_option maxRecDepth 100000 in
theorem ck91_0 : ∀ q ∈ k91_0, ck 91 q = true := by decide +kernel
set_option maxRecDepth 100000 in
theorem ck91_1 : ∀ q ∈ k91_1, ck 91 q = true := by decide +kernel
set_option maxRecDepth 100000 in
theorem ck91_2 : ∀ q ∈ k91_2, ck 91 q = true := by decide +kernel
set_option maxRecDepth 100000 in
theorem ck91_3 : ∀ q ∈ k91_3, ck 91 q = true := by decide +kernel
theorem ck91 : ∀ q ∈ k91, ck 91 q = true := List.forall_mem_append.mpr ⟨ck91_0, List.forall_mem_append.mpr ⟨ck91_1, List.forall_mem_append.mpr ⟨ck91_2, ck91_3⟩⟩⟩
set_option maxRecDepth 100000 in
theorem ck92_0 : ∀ q ∈ k92_0, ck 92 q = true := by decide +kernel
set_option maxRecDepth 100000 in
theorem ck92_1 : ∀ q ∈ k92_1, ck 92 q = true := by decide +kernel
set_option maxRecDepth 100000 in
theorem ck92_2 : ∀ q ∈ k92_2, ck 92 q = true := by decide +kernel
theorem ck92 : ∀ q ∈ k92, ck 92 q = true := List.forall_mem_append.mpr ⟨ck92_0, List.forall_mem_append.mpr ⟨ck92_1, ck92_2⟩⟩
set_option maxRecDepth 100000 in
theorem ck93_0 : ∀ q ∈ k93_0, ck 93 q = true := by decide +kernel
set_option maxRecDepth 100000 in
theorem ck93_1 : ∀ q ∈ k93_1, ck 93 q = true := by decide +kernel
theorem ck93 : ∀ q ∈ k93, ck 93 q = true := List.forall_mem_append.mpr ⟨ck93_0, ck93_1⟩
set_option maxRecDepth 100000 in
theorem ck94_0 : ∀ q ∈ k94_0, ck 94 q = true := by decide +kernel
theorem ck94 : ∀ q ∈ k94, ck 94 q = true := ck94_0
set_option maxRecDepth 100000 in
theorem ck95_0 : ∀ q ∈ k95_0, ck 95 q = true := by decide +kernel
theorem ck95 : ∀ q ∈ k95, ck 95 q = true := ck95_0
set_option maxRecDepth 100000 in
theorem ck96_0 : ∀ q ∈ k96_0, ck 96 q = true := by decide +kernel
theorem ck96 : ∀ q ∈ k96, ck 96 q = true := ck96_0
set_option maxRecDepth 100000 in
theorem ck97_0 : ∀ q ∈ k97_0, ck 97 q = true := by decide +kernel
set_option maxRecDepth 100000 in
theorem ck97_1 : ∀ q ∈ k97_1, ck 97 q = true := by decide +kernel
theorem ck97 : ∀ q ∈ k97, ck 97 q = true := List.forall_mem_append.mpr ⟨ck97_0, ck97_1⟩
set_option maxRecDepth 100000 in
theorem ck98_0 : ∀ q ∈ k98_0, ck 98 q = true := by decide +kernel
theorem ck98 : ∀ q ∈ k98, ck 98 q = true := ck98_0
set_option maxRecDepth 100000 in
theorem ck99_0 : ∀ q ∈ k99_0, ck 99 q = true := by decide +kernel
set_option maxRecDepth 100000 in
theorem ck99_1 : ∀ q ∈ k99_1, ck 99 q = true := by decide +kernel
theorem ck99 : ∀ q ∈ k99, ck 99 q = true := List.forall_mem_append.mpr ⟨ck99_0, ck99_1⟩
set_option maxRecDepth 100000 in
theorem ck100_0 : ∀ q ∈ k100_0, ck 100 q = true := by decide +kernel
set_option maxRecDepth 100000 in
theorem ck100_1 : ∀ q ∈ k100_1, ck 100 q = true := by decide +kernel
theorem ck100 : ∀ q ∈ k100, ck 100 q = true := List.forall_mem_append.mpr ⟨ck100_0, ck100_1⟩
set_option maxRecDepth 100000 in
theorem ck101_0 : ∀ q ∈ k101_0, ck 101 q = true := by decide +kernel
set_option maxRecDepth 100000 in
theorem ck101_1 : ∀ q ∈ k101_1, ck 101 q = true := by decide +kernel
theorem ck101 : ∀ q ∈ k101, ck 101 q = true := List.forall_mem_append.mpr ⟨ck101_0, ck101_1⟩
set_option maxRecDepth 100000 in
theorem ck102_0 : ∀ q ∈ k102_0, ck 102 q = true := by decide +kernel
set_option maxRecDepth 100000 in
theorem ck102_1 : ∀ q ∈ k102_1, ck 102 q = true := by decide +kernel
theorem ck102 : ∀ q ∈ k102, ck 102 q = true := List.forall_mem_append.mpr ⟨ck102_0, ck102_1⟩
set_option maxRecDepth 100000 in
theorem ck103_0 : ∀ q ∈ k103_0, ck 103 q = true := by decide +kernel
set_option maxRecDepth 100000 in
theorem ck103_1 : ∀ q ∈ k103_1, ck 103 q = true := by decide +kernel
set_option maxRecDepth 100000 in
theorem ck103_2 : ∀ q ∈ k103_2, ck 103 q = true := by decide +kernel
theorem ck103 : ∀ q ∈ k103, ck 103 q = true := List.forall_mem_append.mpr ⟨ck103_0, List.forall_mem_append.mpr ⟨ck103_1, ck103_2⟩⟩
set_option maxRecDepth 100000 in
theorem ck104_0 : ∀ q ∈ k104_0, ck 104 q = true := by decide +kernel
theorem ck104 : ∀ q ∈ k104, ck 104 q = true := ck104_0
set_option maxRecDepth 100000 in
theorem ck105_0 : ∀ q ∈ k105_0, ck 105 q = true := by decide +kernel
theorem ck105 : ∀ q ∈ k105, ck 105 q = true := ck105_0
set_option maxRecDepth 100000 in
theorem ck106_0 : ∀ q ∈ k106_0, ck 106 q = true := by decide +kernel
theorem ck106 : ∀ q ∈ k106, ck 106 q = true := ck106_0
set_option maxRecDepth 100000 in
theorem ck107_0 : ∀ q ∈ k107_0, ck 107 q = true := by decide +kernel
set_option maxRecDepth 100000 in
theorem ck107_1 : ∀ q ∈ k107_1, ck 107 q = true := by decide +kernel
set_option maxRecDepth 100000 in
theorem ck107_2 : ∀ q ∈ k107_2, ck 107 q = true := by decide +kernel
theorem ck107 : ∀ q ∈ k107, ck 107 q = true := List.forall_mem_append.mpr ⟨ck107_0, List.forall_mem_append.mpr ⟨ck107_1, ck107_2⟩⟩
set_option maxRecDepth 100000 in
theorem ck108_0 : ∀ q ∈ k108_0, ck 108 q = true := by decide +kernel
set_option maxRecDepth 100000 in
theorem ck108_1 : ∀ q ∈ k108_1, ck 108 q = true := by decide +kernel
theorem ck108 : ∀ q ∈ k108, ck 108 q = true := List.forall_mem_append.mpr ⟨ck108_0, ck108_1⟩
set_option maxRecDepth 100000 in
theorem ck109_0 : ∀ q ∈ k109_0, ck 109 q = true := by decide +kernel
theorem ck109 : ∀ q ∈ k109, ck 109 q = true := ck109_0
set_option maxRecDepth 100000 in
theorem ck110_0 : ∀ q ∈ k110_0, ck 110 q = true := by decide +kernel
theorem ck110 : ∀ q ∈ k110, ck 110 q = true := ck110_0
set_option maxRecDepth 100000 in
theorem ck111_0 : ∀ q ∈ k111_0, ck 111 q = true := by decide +kernel
set_option maxRecDepth 100000 in
theorem ck111_1 : ∀ q ∈ k111_1, ck 111 q = true := by decide +kernel
theorem ck111 : ∀ q ∈ k111, ck 111 q = true := List.forall_mem_append.mpr ⟨ck111_0, ck111_1⟩
set_option maxRecDepth 100000 in
theorem ck112_0 : ∀ q ∈ k112_0, ck 112 q = true := by decide +kernel
set_option maxRecDepth 100000 in
theorem ck112_1 : ∀ q ∈ k112_1, ck 112 q = true := by decide +kernel
theorem ck112 : ∀ q ∈ k112, ck 112 q = true := List.forall_mem_append.mpr ⟨ck112_0, ck112_1⟩
set_option maxRecDepth 100000 in
theorem ck113_0 : ∀ q ∈ k113_0, ck 113 q = true := by decide +kernel
set_option maxRecDepth 100000 in
theorem ck113_1 : ∀ q ∈ k113_1, ck 113 q = true := by decide +kernel
theorem ck113 : ∀ q ∈ k113, ck 113 q = true := List.forall_mem_append.mpr ⟨ck113_0, ck113_1⟩
set_option maxRecDepth 100000 in
theorem ck114_0 : ∀ q ∈ k114_0, ck 114 q = true := by decide +kernel
theorem ck114 : ∀ q ∈ k114, ck 114 q = true := ck114_0
set_option maxRecDepth 100000 in
theorem ck115_0 : ∀ q ∈ k115_0, ck 115 q = true := by decide +kernel
theorem ck115 : ∀ q ∈ k115, ck 115 q = true := ck115_0
set_option maxRecDepth 100000 in
theorem ck116_0 : ∀ q ∈ k116_0, ck 116 q = true := by decide +kernel
theorem ck116 : ∀ q ∈ k116, ck 116 q = true := ck116_0
set_option maxRecDepth 100000 in
theorem ck117_0 : ∀ q ∈ k117_0, ck 117 q = true := by decide +kernel
theorem ck117 : ∀ q ∈ k117, ck 117 q = true := ck117_0
set_option maxRecDepth 100000 in
theorem ck118_0 : ∀ q ∈ k118_0, ck 118 q = true := by decide +kernel
set_option maxRecDepth 100000 in
theorem ck118_1 : ∀ q ∈ k118_1, ck 118 q = true := by decide +kernel
set_option maxRecDepth 100000 in
theorem ck118_2 : ∀ q ∈ k118_2, ck 118 q = true := by decide +kernel
theorem ck118 : ∀ q ∈ k118, ck 118 q = true := List.forall_mem_append.mpr ⟨ck118_0, List.forall_mem_append.mpr ⟨ck118_1, ck118_2⟩⟩
set_option maxRecDepth 100000 in
theorem ck119_0 : ∀ q ∈ k119_0, ck 119 q = true := by decide +kernel
set_option maxRecDepth 100000 in
theorem ck119_1 : ∀ q ∈ k119_1, ck 119 q = true := by decide +kernel
theorem ck119 : ∀ q ∈ k119, ck 119 q = true := List.forall_mem_append.mpr ⟨ck119_0, ck119_1⟩
set_option maxRecDepth 100000 in
theorem ck120_0 : ∀ q ∈ k120_0, ck 120 q = true := by decide +kernel
theorem ck120 : ∀ q ∈ k120, ck 120 q = true := ck120_0
set_option maxRecDepth 100000 in
theorem ck121_0 : ∀ q ∈ k121_0, ck 121 q = true := by decide +kernel
set_option maxRecDepth 100000 in
theorem ck121_1 : ∀ q ∈ k121_1, ck 121 q = true := by decide +kernel
theorem ck121 : ∀ q ∈ k121, ck 121 q = true := List.forall_mem_append.mpr ⟨ck121_0, ck121_1⟩
set_option maxRecDepth 100000 in
theorem ck122_0 : ∀ q ∈ k122_0, ck 122 q = true := by decide +kernel
set_option maxRecDepth 100000 in
theorem ck122_1 : ∀ q ∈ k122_1, ck 122 q = true := by decide +kernel
theorem ck122 : ∀ q ∈ k122, ck 122 q = true := List.forall_mem_append.mpr ⟨ck122_0, ck122_1⟩
set_option maxRecDepth 100000 in
theorem ck123_0 : ∀ q ∈ k123_0, ck 123 q = true := by decide +kernel
theorem ck123 : ∀ q ∈ k123, ck 123 q = true := ck123_0
set_option maxRecDepth 100000 in
theorem ck124_0 : ∀ q ∈ k124_0, ck 124 q = true := by decide +kernel
theorem ck124 : ∀ q ∈ k124, ck 124 q = true := ck124_0
set_option maxRecDepth 100000 in
theorem ck125_0 : ∀ q ∈ k125_0, ck 125 q = true := by decide +kernel
theorem ck125 : ∀ q ∈ k125, ck 125 q = true := ck125_0
set_option maxRecDepth 100000 in
theorem ck126_0 : ∀ q ∈ k126_0, ck 126 q = true := by decide +kernel
theorem ck126 : ∀ q ∈ k126, ck 126 q = true := ck126_0
set_option maxRecDepth 100000 in
theorem ck127_0 : ∀ q ∈ k127_0, ck 127 q = true := by decide +kernel
set_option maxRecDepth 100000 in
theorem ck127_1 : ∀ q ∈ k127_1, ck 127 q = true := by decide +kernel
theorem ck127 : ∀ q ∈ k127, ck 127 q = true := List.forall_mem_append.mpr ⟨ck127_0, ck127_1⟩
set_option maxRecDepth 100000 in
theorem ck128_0 : ∀ q ∈ k128_0, ck 128 q = true := by decide +kernel
set_option maxRecDepth 100000 in
theorem ck128_1 : ∀ q ∈ k128_1, ck 128 q = true := by decide +kernel
theorem ck128 : ∀ q ∈ k128, ck 128 q = true := List.forall_mem_append.mpr ⟨ck128_0, ck128_1⟩
set_option maxRecDepth 100000 in
theorem ck129_0 : ∀ q ∈ k129_0, ck 129 q = true := by decide +kernel
theorem ck129 : ∀ q ∈ k129, ck 129 q = true := ck129_0
set_option maxRecDepth 100000 in
theorem ck130_0 : ∀ q ∈ k130_0, ck 130 q = true := by decide +kernel
theorem ck130 : ∀ q ∈ k130, ck 130 q = true := ck130_0
set_option maxRecDepth 100000 in
theorem ck131_0 : ∀ q ∈ k131_0, ck 131 q = true := by decide +kernel
theorem ck131 : ∀ q ∈ k131, ck 131 q = true := ck131_0
set_option maxRecDepth 100000 in
theorem ck132_0 : ∀ q ∈ k132_0, ck 132 q = true := by decide +kernel
set_option maxRecDepth 100000 in
theorem ck132_1 : ∀ q ∈ k132_1, ck 132 q = true := by decide +kernel
theorem ck132 : ∀ q ∈ k132, ck 132 q = true := List.forall_mem_append.mpr ⟨ck132_0, ck132_1⟩
set_option maxRecDepth 100000 in
theorem ck133_0 : ∀ q ∈ k133_0, ck 133 q = true := by decide +kernel
set_option maxRecDepth 100000 in
theorem ck133_1 : ∀ q ∈ k133_1, ck 133 q = true := by decide +kernel
theorem ck133 : ∀ q ∈ k133, ck 133 q = true := List.forall_mem_append.mpr ⟨ck133_0, ck133_1⟩
set_option maxRecDepth 100000 in
theorem ck134_0 : ∀ q ∈ k134_0, ck 134 q = true := by decide +kernel
theorem ck134 : ∀ q ∈ k134, ck 134 q = true := ck134_0
set_option maxRecDepth 100000 in
theorem ck135_0 : ∀ q ∈ k135_0, ck 135 q = true := by decide +kernel
set_option maxRecDepth 100000 in
theorem ck135_1 : ∀ q ∈ k135_1, ck 135 q = true := by decide +kernel
theorem ck135 : ∀ q ∈ k135, ck 135 q = true := List.forall_mem_append.mpr ⟨ck135_0, ck135_1⟩
set_option maxRecDepth 100000 in
theorem ck136_0 : ∀ q ∈ k136_0, ck 136 q = true := by decide +kernel
theorem ck136 : ∀ q ∈ k136, ck 136 q = true := ck136_0
set_option maxRecDepth 100000 in
theorem ck137_0 : ∀ q ∈ k137_0, ck 137 q = true := by decide +kernel
theorem ck137 : ∀ q ∈ k137, ck 137 q = true := ck137_0
set_option maxRecDepth 100000 in
theorem ck138_0 : ∀ q ∈ k138_0, ck 138 q = true := by decide +kernel
theorem ck138 : ∀ q ∈ k138, ck 138 q = true := ck138_0
set_option maxRecDepth 100000 in
theorem ck139_0 : ∀ q ∈ k139_0, ck 139 q = true := by decide +kernel
theorem ck139 : ∀ q ∈ k139, ck 139 q = true := ck139_0
set_option maxRecDepth 100000 in
theorem ck140_0 : ∀ q ∈ k140_0, ck 140 q = true := by decide +kernel
theorem ck140 : ∀ q ∈ k140, ck 140 q = true := ck140_0
set_option maxRecDepth 100000 in
theorem ck141_0 : ∀ q ∈ k141_0, ck 141 q = true := by decide +kernel
theorem ck141 : ∀ q ∈ k141, ck 141 q = true := ck141_0
set_option maxRecDepth 100000 in
theorem ck142_0 : ∀ q ∈ k142_0, ck 142 q = true := by decide +kernel
set_option maxRecDepth 100000 in
theorem ck142_1 : ∀ q ∈ k142_1, ck 142 q = true := by decide +kernel
theorem ck142 : ∀ q ∈ k142, ck 142 q = true := List.forall_mem_append.mpr ⟨ck142_0, ck142_1⟩
set_option maxRecDepth 100000 in
theorem ck143_0 : ∀ q ∈ k143_0, ck 143 q = true := by decide +kernel
set_option maxRecDepth 100000 in
theorem ck143_1 : ∀ q ∈ k143_1, ck 143 q = true := by decide +kernel
theorem ck143 : ∀ q ∈ k143, ck 143 q = true := List.forall_mem_append.mpr ⟨ck143_0, ck143_1⟩
set_option maxRecDepth 100000 in
theorem ck144_0 : ∀ q ∈ k144_0, ck 144 q = true := by decide +kernel
theorem ck144 : ∀ q ∈ k144, ck 144 q = true := ck144_0
set_option maxRecDepth 100000 in
theorem ck145_0 : ∀ q ∈ k145_0, ck 145 q = true := by decide +kernel
theorem ck145 : ∀ q ∈ k145, ck 145 q = true := ck145_0
set_option maxRecDepth 100000 in
theorem ck146_0 : ∀ q ∈ k146_0, ck 146 q = true := by decide +kernel
theorem ck146 : ∀ q ∈ k146, ck 146 q = true := ck146_0
set_option maxRecDepth 100000 in
theorem ck147_0 : ∀ q ∈ k147_0, ck 147 q = true := by decide +kernel
theorem ck147 : ∀ q ∈ k147, ck 147 q = true := ck147_0
set_option maxRecDepth 100000 in
theorem ck148_0 : ∀ q ∈ k148_0, ck 148 q = true := by decide +kernel
set_option maxRecDepth 100000 in
theorem ck148_1 : ∀ q ∈ k148_1, ck 148 q = true := by decide +kernel
theorem ck148 : ∀ q ∈ k148, ck 148 q = true := List.forall_mem_append.mpr ⟨ck148_0, ck148_1⟩
set_option maxRecDepth 100000 in
theorem ck149_0 : ∀ q ∈ k149_0, ck 149 q = true := by decide +kernel
theorem ck149 : ∀ q ∈ k149, ck 149 q = true := ck149_0
set_option maxRecDepth 100000 in
theorem ck150_0 : ∀ q ∈ k150_0, ck 150 q = true := by decide +kernel
theorem ck150 : ∀ q ∈ k150, ck 150 q = true := ck150_0
set_option maxRecDepth 100000 in
theorem ck151_0 : ∀ q ∈ k151_0, ck 151 q = true := by decide +kernel
set_option maxRecDepth 100000 in
theorem ck151_1 : ∀ q ∈ k151_1, ck 151 q = true := by decide +kernel
theorem ck151 : ∀ q ∈ k151, ck 151 q = true := List.forall_mem_append.mpr ⟨ck151_0, ck151_1⟩
set_option maxRecDepth 100000 in
theorem ck152_0 : ∀ q ∈ k152_0, ck 152 q = true := by decide +kernel
set_option maxRecDepth 100000 in
theorem ck152_1 : ∀ q ∈ k152_1, ck 152 q = true := by decide +kernel
theorem ck152 : ∀ q ∈ k152, ck 152 q = true := List.forall_mem_append.mpr ⟨ck152_0, ck152_1⟩
set_option maxRecDepth 100000 in
theorem ck153_0 : ∀ q ∈ k153_0, ck 153 q = true := by decide +kernel
set_option maxRecDepth 100000 in
theorem ck153_1 : ∀ q ∈ k153_1, ck 153 q = true := by decide +kernel
theorem ck153 : ∀ q ∈ k153, ck 153 q = true := List.forall_mem_append.mpr ⟨ck153_0, ck153_1⟩
set_option maxRecDepth 100000 in
theorem ck154_0 : ∀ q ∈ k154_0, ck 154 q = true := by decide +kernel
set_option maxRecDepth 100000 in
theorem ck154_1 : ∀ q ∈ k154_1, ck 154 q = true := by decide +kernel
theorem ck154 : ∀ q ∈ k154, ck 154 q = true := List.forall_mem_append.mpr ⟨ck154_0, ck154_1⟩
set_option maxRecDepth 100000 in
theorem ck155_0 : ∀ q ∈ k155_0, ck 155 q = true := by decide +kernel
set_option maxRecDepth 100000 in
theorem ck155_1 : ∀ q ∈ k155_1, ck 155 q = true := by decide +kernel
set_option maxRecDepth 100000 in
theorem ck155_2 : ∀ q ∈ k155_2, ck 155 q = true := by decide +kernel
theorem ck155 : ∀ q ∈ k155, ck 155 q = true := List.forall_mem_append.mpr ⟨ck155_0, List.forall_mem_append.mpr ⟨ck155_1, ck155_2⟩⟩
set_option maxRecDepth 100000 in
theorem ck156_0 : ∀ q ∈ k156_0, ck 156 q = true := by decide +kernel
theorem ck156 : ∀ q ∈ k156, ck 156 q = true := ck156_0
set_option maxRecDepth 100000 in
theorem ck157_0 : ∀ q ∈ k157_0, ck 157 q = true := by decide +kernel
theorem ck157 : ∀ q ∈ k157, ck 157 q = true := ck157_0
set_option maxRecDepth 100000 in
theorem ck158_0 : ∀ q ∈ k158_0, ck 158 q = true := by decide +kernel
theorem ck158 : ∀ q ∈ k158, ck 158 q = true := ck158_0
set_option maxRecDepth 100000 in
theorem ck159_0 : ∀ q ∈ k159_0, ck 159 q = true := by decide +kernel
theorem ck159 : ∀ q ∈ k159, ck 159 q = true := ck159_0
set_option maxRecDepth 100000 in
theorem ck160_0 : ∀ q ∈ k160_0, ck 160 q = true := by decide +kernel
theorem ck160 : ∀ q ∈ k160, ck 160 q = true := ck160_0
set_option maxRecDepth 100000 in
theorem ck161_0 : ∀ q ∈ k161_0, ck 161 q = true := by decide +kernel
theorem ck161 : ∀ q ∈ k161, ck 161 q = true := ck161_0
set_option maxRecDepth 100000 in
theorem ck162_0 : ∀ q ∈ k162_0, ck 162 q = true := by decide +kernel
set_option maxRecDepth 100000 in
theorem ck162_1 : ∀ q ∈ k162_1, ck 162 q = true := by decide +kernel
theorem ck162 : ∀ q ∈ k162, ck 162 q = true := List.forall_mem_append.mpr ⟨ck162_0, ck162_1⟩
