/-! THE CHECKS, place by place -/
set_option maxRecDepth 100000 in
theorem ck0_0 : ∀ q ∈ k0_0, ck 0 q = true := by decide +kernel
theorem ck0 : ∀ q ∈ k0, ck 0 q = true := ck0_0
set_option maxRecDepth 100000 in
theorem ck1_0 : ∀ q ∈ k1_0, ck 1 q = true := by decide +kernel
theorem ck1 : ∀ q ∈ k1, ck 1 q = true := ck1_0
set_option maxRecDepth 100000 in
theorem ck2_0 : ∀ q ∈ k2_0, ck 2 q = true := by decide +kernel
theorem ck2 : ∀ q ∈ k2, ck 2 q = true := ck2_0
set_option maxRecDepth 100000 in
theorem ck3_0 : ∀ q ∈ k3_0, ck 3 q = true := by decide +kernel
theorem ck3 : ∀ q ∈ k3, ck 3 q = true := ck3_0
set_option maxRecDepth 100000 in
theorem ck4_0 : ∀ q ∈ k4_0, ck 4 q = true := by decide +kernel
theorem ck4 : ∀ q ∈ k4, ck 4 q = true := ck4_0
set_option maxRecDepth 100000 in
theorem ck5_0 : ∀ q ∈ k5_0, ck 5 q = true := by decide +kernel
theorem ck5 : ∀ q ∈ k5, ck 5 q = true := ck5_0
set_option maxRecDepth 100000 in
theorem ck6_0 : ∀ q ∈ k6_0, ck 6 q = true := by decide +kernel
theorem ck6 : ∀ q ∈ k6, ck 6 q = true := ck6_0
set_option maxRecDepth 100000 in
theorem ck7_0 : ∀ q ∈ k7_0, ck 7 q = true := by decide +kernel
theorem ck7 : ∀ q ∈ k7, ck 7 q = true := ck7_0
set_option maxRecDepth 100000 in
theorem ck8_0 : ∀ q ∈ k8_0, ck 8 q = true := by decide +kernel
theorem ck8 : ∀ q ∈ k8, ck 8 q = true := ck8_0
set_option maxRecDepth 100000 in
theorem ck9_0 : ∀ q ∈ k9_0, ck 9 q = true := by decide +kernel
theorem ck9 : ∀ q ∈ k9, ck 9 q = true := ck9_0
set_option maxRecDepth 100000 in
theorem ck10_0 : ∀ q ∈ k10_0, ck 10 q = true := by decide +kernel
theorem ck10 : ∀ q ∈ k10, ck 10 q = true := ck10_0
set_option maxRecDepth 100000 in
theorem ck11_0 : ∀ q ∈ k11_0, ck 11 q = true := by decide +kernel
set_option maxRecDepth 100000 in
theorem ck11_1 : ∀ q ∈ k11_1, ck 11 q = true := by decide +kernel
theorem ck11 : ∀ q ∈ k11, ck 11 q = true := List.forall_mem_append.mpr ⟨ck11_0, ck11_1⟩
set_option maxRecDepth 100000 in
theorem ck12_0 : ∀ q ∈ k12_0, ck 12 q = true := by decide +kernel
set_option maxRecDepth 100000 in
theorem ck12_1 : ∀ q ∈ k12_1, ck 12 q = true := by decide +kernel
set_option maxRecDepth 100000 in
theorem ck12_2 : ∀ q ∈ k12_2, ck 12 q = true := by decide +kernel
theorem ck12 : ∀ q ∈ k12, ck 12 q = true := List.forall_mem_append.mpr ⟨ck12_0, List.forall_mem_append.mpr ⟨ck12_1, ck12_2⟩⟩
set_option maxRecDepth 100000 in
theorem ck13_0 : ∀ q ∈ k13_0, ck 13 q = true := by decide +kernel
set_option maxRecDepth 100000 in
theorem ck13_1 : ∀ q ∈ k13_1, ck 13 q = true := by decide +kernel
theorem ck13 : ∀ q ∈ k13, ck 13 q = true := List.forall_mem_append.mpr ⟨ck13_0, ck13_1⟩
set_option maxRecDepth 100000 in
theorem ck14_0 : ∀ q ∈ k14_0, ck 14 q = true := by decide +kernel
theorem ck14 : ∀ q ∈ k14, ck 14 q = true := ck14_0
set_option maxRecDepth 100000 in
theorem ck15_0 : ∀ q ∈ k15_0, ck 15 q = true := by decide +kernel
set_option maxRecDepth 100000 in
theorem ck15_1 : ∀ q ∈ k15_1, ck 15 q = true := by decide +kernel
set_option maxRecDepth 100000 in
theorem ck15_2 : ∀ q ∈ k15_2, ck 15 q = true := by decide +kernel
theorem ck15 : ∀ q ∈ k15, ck 15 q = true := List.forall_mem_append.mpr ⟨ck15_0, List.forall_mem_append.mpr ⟨ck15_1, ck15_2⟩⟩
set_option maxRecDepth 100000 in
theorem ck16_0 : ∀ q ∈ k16_0, ck 16 q = true := by decide +kernel
theorem ck16 : ∀ q ∈ k16, ck 16 q = true := ck16_0
set_option maxRecDepth 100000 in
theorem ck17_0 : ∀ q ∈ k17_0, ck 17 q = true := by decide +kernel
theorem ck17 : ∀ q ∈ k17, ck 17 q = true := ck17_0
set_option maxRecDepth 100000 in
theorem ck18_0 : ∀ q ∈ k18_0, ck 18 q = true := by decide +kernel
set_option maxRecDepth 100000 in
theorem ck18_1 : ∀ q ∈ k18_1, ck 18 q = true := by decide +kernel
theorem ck18 : ∀ q ∈ k18, ck 18 q = true := List.forall_mem_append.mpr ⟨ck18_0, ck18_1⟩
set_option maxRecDepth 100000 in
theorem ck19_0 : ∀ q ∈ k19_0, ck 19 q = true := by decide +kernel
theorem ck19 : ∀ q ∈ k19, ck 19 q = true := ck19_0
set_option maxRecDepth 100000 in
theorem ck20_0 : ∀ q ∈ k20_0, ck 20 q = true := by decide +kernel
theorem ck20 : ∀ q ∈ k20, ck 20 q = true := ck20_0
set_option maxRecDepth 100000 in
theorem ck21_0 : ∀ q ∈ k21_0, ck 21 q = true := by decide +kernel
set_option maxRecDepth 100000 in
theorem ck21_1 : ∀ q ∈ k21_1, ck 21 q = true := by decide +kernel
set_option maxRecDepth 100000 in
theorem ck21_2 : ∀ q ∈ k21_2, ck 21 q = true := by decide +kernel
theorem ck21 : ∀ q ∈ k21, ck 21 q = true := List.forall_mem_append.mpr ⟨ck21_0, List.forall_mem_append.mpr ⟨ck21_1, ck21_2⟩⟩
set_option maxRecDepth 100000 in
theorem ck22_0 : ∀ q ∈ k22_0, ck 22 q = true := by decide +kernel
theorem ck22 : ∀ q ∈ k22, ck 22 q = true := ck22_0
set_option maxRecDepth 100000 in
theorem ck23_0 : ∀ q ∈ k23_0, ck 23 q = true := by decide +kernel
theorem ck23 : ∀ q ∈ k23, ck 23 q = true := ck23_0
set_option maxRecDepth 100000 in
theorem ck24_0 : ∀ q ∈ k24_0, ck 24 q = true := by decide +kernel
set_option maxRecDepth 100000 in
theorem ck24_1 : ∀ q ∈ k24_1, ck 24 q = true := by decide +kernel
set_option maxRecDepth 100000 in
theorem ck24_2 : ∀ q ∈ k24_2, ck 24 q = true := by decide +kernel
theorem ck24 : ∀ q ∈ k24, ck 24 q = true := List.forall_mem_append.mpr ⟨ck24_0, List.forall_mem_append.mpr ⟨ck24_1, ck24_2⟩⟩
set_option maxRecDepth 100000 in
theorem ck25_0 : ∀ q ∈ k25_0, ck 25 q = true := by decide +kernel
set_option maxRecDepth 100000 in
theorem ck25_1 : ∀ q ∈ k25_1, ck 25 q = true := by decide +kernel
theorem ck25 : ∀ q ∈ k25, ck 25 q = true := List.forall_mem_append.mpr ⟨ck25_0, ck25_1⟩
set_option maxRecDepth 100000 in
theorem ck26_0 : ∀ q ∈ k26_0, ck 26 q = true := by decide +kernel
theorem ck26 : ∀ q ∈ k26, ck 26 q = true := ck26_0
set_option maxRecDepth 100000 in
theorem ck27_0 : ∀ q ∈ k27_0, ck 27 q = true := by decide +kernel
set_option maxRecDepth 100000 in
theorem ck27_1 : ∀ q ∈ k27_1, ck 27 q = true := by decide +kernel
theorem ck27 : ∀ q ∈ k27, ck 27 q = true := List.forall_mem_append.mpr ⟨ck27_0, ck27_1⟩
set_option maxRecDepth 100000 in
theorem ck28_0 : ∀ q ∈ k28_0, ck 28 q = true := by decide +kernel
set_option maxRecDepth 100000 in
theorem ck28_1 : ∀ q ∈ k28_1, ck 28 q = true := by decide +kernel
set_option maxRecDepth 100000 in
theorem ck28_2 : ∀ q ∈ k28_2, ck 28 q = true := by decide +kernel
theorem ck28 : ∀ q ∈ k28, ck 28 q = true := List.forall_mem_append.mpr ⟨ck28_0, List.forall_mem_append.mpr ⟨ck28_1, ck28_2⟩⟩
set_option maxRecDepth 100000 in
theorem ck29_0 : ∀ q ∈ k29_0, ck 29 q = true := by decide +kernel
theorem ck29 : ∀ q ∈ k29, ck 29 q = true := ck29_0
set_option maxRecDepth 100000 in
theorem ck30_0 : ∀ q ∈ k30_0, ck 30 q = true := by decide +kernel
set_option maxRecDepth 100000 in
theorem ck30_1 : ∀ q ∈ k30_1, ck 30 q = true := by decide +kernel
theorem ck30 : ∀ q ∈ k30, ck 30 q = true := List.forall_mem_append.mpr ⟨ck30_0, ck30_1⟩
set_option maxRecDepth 100000 in
theorem ck31_0 : ∀ q ∈ k31_0, ck 31 q = true := by decide +kernel
theorem ck31 : ∀ q ∈ k31, ck 31 q = true := ck31_0
set_option maxRecDepth 100000 in
theorem ck32_0 : ∀ q ∈ k32_0, ck 32 q = true := by decide +kernel
theorem ck32 : ∀ q ∈ k32, ck 32 q = true := ck32_0
set_option maxRecDepth 100000 in
theorem ck33_0 : ∀ q ∈ k33_0, ck 33 q = true := by decide +kernel
set_option maxRecDepth 100000 in
theorem ck33_1 : ∀ q ∈ k33_1, ck 33 q = true := by decide +kernel
theorem ck33 : ∀ q ∈ k33, ck 33 q = true := List.forall_mem_append.mpr ⟨ck33_0, ck33_1⟩
set_option maxRecDepth 100000 in
theorem ck34_0 : ∀ q ∈ k34_0, ck 34 q = true := by decide +kernel
theorem ck34 : ∀ q ∈ k34, ck 34 q = true := ck34_0
set_option maxRecDepth 100000 in
theorem ck35_0 : ∀ q ∈ k35_0, ck 35 q = true := by decide +kernel
theorem ck35 : ∀ q ∈ k35, ck 35 q = true := ck35_0
set_option maxRecDepth 100000 in
theorem ck36_0 : ∀ q ∈ k36_0, ck 36 q = true := by decide +kernel
theorem ck36 : ∀ q ∈ k36, ck 36 q = true := ck36_0
set_option maxRecDepth 100000 in
theorem ck37_0 : ∀ q ∈ k37_0, ck 37 q = true := by decide +kernel
theorem ck37 : ∀ q ∈ k37, ck 37 q = true := ck37_0
set_option maxRecDepth 100000 in
theorem ck38_0 : ∀ q ∈ k38_0, ck 38 q = true := by decide +kernel
set_option maxRecDepth 100000 in
theorem ck38_1 : ∀ q ∈ k38_1, ck 38 q = true := by decide +kernel
set_option maxRecDepth 100000 in
theorem ck38_2 : ∀ q ∈ k38_2, ck 38 q = true := by decide +kernel
theorem ck38 : ∀ q ∈ k38, ck 38 q = true := List.forall_mem_append.mpr ⟨ck38_0, List.forall_mem_append.mpr ⟨ck38_1, ck38_2⟩⟩
set_option maxRecDepth 100000 in
theorem ck39_0 : ∀ q ∈ k39_0, ck 39 q = true := by decide +kernel
set_option maxRecDepth 100000 in
theorem ck39_1 : ∀ q ∈ k39_1, ck 39 q = true := by decide +kernel
theorem ck39 : ∀ q ∈ k39, ck 39 q = true := List.forall_mem_append.mpr ⟨ck39_0, ck39_1⟩
set_option maxRecDepth 100000 in
theorem ck40_0 : ∀ q ∈ k40_0, ck 40 q = true := by decide +kernel
set_option maxRecDepth 100000 in
theorem ck40_1 : ∀ q ∈ k40_1, ck 40 q = true := by decide +kernel
set_option maxRecDepth 100000 in
theorem ck40_2 : ∀ q ∈ k40_2, ck 40 q = true := by decide +kernel
theorem ck40 : ∀ q ∈ k40, ck 40 q = true := List.forall_mem_append.mpr ⟨ck40_0, List.forall_mem_append.mpr ⟨ck40_1, ck40_2⟩⟩
set_option maxRecDepth 100000 in
theorem ck41_0 : ∀ q ∈ k41_0, ck 41 q = true := by decide +kernel
theorem ck41 : ∀ q ∈ k41, ck 41 q = true := ck41_0
set_option maxRecDepth 100000 in
theorem ck42_0 : ∀ q ∈ k42_0, ck 42 q = true := by decide +kernel
set_option maxRecDepth 100000 in
theorem ck42_1 : ∀ q ∈ k42_1, ck 42 q = true := by decide +kernel
set_option maxRecDepth 100000 in
theorem ck42_2 : ∀ q ∈ k42_2, ck 42 q = true := by decide +kernel
theorem ck42 : ∀ q ∈ k42, ck 42 q = true := List.forall_mem_append.mpr ⟨ck42_0, List.forall_mem_append.mpr ⟨ck42_1, ck42_2⟩⟩
set_option maxRecDepth 100000 in
theorem ck43_0 : ∀ q ∈ k43_0, ck 43 q = true := by decide +kernel
theorem ck43 : ∀ q ∈ k43, ck 43 q = true := ck43_0
set_option maxRecDepth 100000 in
theorem ck44_0 : ∀ q ∈ k44_0, ck 44 q = true := by decide +kernel
theorem ck44 : ∀ q ∈ k44, ck 44 q = true := ck44_0
set_option maxRecDepth 100000 in
theorem ck45_0 : ∀ q ∈ k45_0, ck 45 q = true := by decide +kernel
theorem ck45 : ∀ q ∈ k45, ck 45 q = true := ck45_0
set_option maxRecDepth 100000 in
theorem ck46_0 : ∀ q ∈ k46_0, ck 46 q = true := by decide +kernel
theorem ck46 : ∀ q ∈ k46, ck 46 q = true := ck46_0
set_option maxRecDepth 100000 in
theorem ck47_0 : ∀ q ∈ k47_0, ck 47 q = true := by decide +kernel
theorem ck47 : ∀ q ∈ k47, ck 47 q = true := ck47_0
set_option maxRecDepth 100000 in
theorem ck48_0 : ∀ q ∈ k48_0, ck 48 q = true := by decide +kernel
theorem ck48 : ∀ q ∈ k48, ck 48 q = true := ck48_0
set_option maxRecDepth 100000 in
theorem ck49_0 : ∀ q ∈ k49_0, ck 49 q = true := by decide +kernel
theorem ck49 : ∀ q ∈ k49, ck 49 q = true := ck49_0
set_option maxRecDepth 100000 in
theorem ck50_0 : ∀ q ∈ k50_0, ck 50 q = true := by decide +kernel
theorem ck50 : ∀ q ∈ k50, ck 50 q = true := ck50_0
set_option maxRecDepth 100000 in
theorem ck51_0 : ∀ q ∈ k51_0, ck 51 q = true := by decide +kernel
theorem ck51 : ∀ q ∈ k51, ck 51 q = true := ck51_0
set_option maxRecDepth 100000 in
theorem ck52_0 : ∀ q ∈ k52_0, ck 52 q = true := by decide +kernel
theorem ck52 : ∀ q ∈ k52, ck 52 q = true := ck52_0
set_option maxRecDepth 100000 in
theorem ck53_0 : ∀ q ∈ k53_0, ck 53 q = true := by decide +kernel
set_option maxRecDepth 100000 in
theorem ck53_1 : ∀ q ∈ k53_1, ck 53 q = true := by decide +kernel
theorem ck53 : ∀ q ∈ k53, ck 53 q = true := List.forall_mem_append.mpr ⟨ck53_0, ck53_1⟩
set_option maxRecDepth 100000 in
theorem ck54_0 : ∀ q ∈ k54_0, ck 54 q = true := by decide +kernel
theorem ck54 : ∀ q ∈ k54, ck 54 q = true := ck54_0
set_option maxRecDepth 100000 in
theorem ck55_0 : ∀ q ∈ k55_0, ck 55 q = true := by decide +kernel
set_option maxRecDepth 100000 in
theorem ck55_1 : ∀ q ∈ k55_1, ck 55 q = true := by decide +kernel
theorem ck55 : ∀ q ∈ k55, ck 55 q = true := List.forall_mem_append.mpr ⟨ck55_0, ck55_1⟩
set_option maxRecDepth 100000 in
theorem ck56_0 : ∀ q ∈ k56_0, ck 56 q = true := by decide +kernel
set_option maxRecDepth 100000 in
theorem ck56_1 : ∀ q ∈ k56_1, ck 56 q = true := by decide +kernel
theorem ck56 : ∀ q ∈ k56, ck 56 q = true := List.forall_mem_append.mpr ⟨ck56_0, ck56_1⟩
set_option maxRecDepth 100000 in
theorem ck57_0 : ∀ q ∈ k57_0, ck 57 q = true := by decide +kernel
theorem ck57 : ∀ q ∈ k57, ck 57 q = true := ck57_0
set_option maxRecDepth 100000 in
theorem ck58_0 : ∀ q ∈ k58_0, ck 58 q = true := by decide +kernel
theorem ck58 : ∀ q ∈ k58, ck 58 q = true := ck58_0
set_option maxRecDepth 100000 in
theorem ck59_0 : ∀ q ∈ k59_0, ck 59 q = true := by decide +kernel
theorem ck59 : ∀ q ∈ k59, ck 59 q = true := ck59_0
set_option maxRecDepth 100000 in
theorem ck60_0 : ∀ q ∈ k60_0, ck 60 q = true := by decide +kernel
theorem ck60 : ∀ q ∈ k60, ck 60 q = true := ck60_0
set_option maxRecDepth 100000 in
theorem ck61_0 : ∀ q ∈ k61_0, ck 61 q = true := by decide +kernel
theorem ck61 : ∀ q ∈ k61, ck 61 q = true := ck61_0
set_option maxRecDepth 100000 in
theorem ck62_0 : ∀ q ∈ k62_0, ck 62 q = true := by decide +kernel
set_option maxRecDepth 100000 in
theorem ck62_1 : ∀ q ∈ k62_1, ck 62 q = true := by decide +kernel
theorem ck62 : ∀ q ∈ k62, ck 62 q = true := List.forall_mem_append.mpr ⟨ck62_0, ck62_1⟩
set_option maxRecDepth 100000 in
theorem ck63_0 : ∀ q ∈ k63_0, ck 63 q = true := by decide +kernel
theorem ck63 : ∀ q ∈ k63, ck 63 q = true := ck63_0
set_option maxRecDepth 100000 in
theorem ck64_0 : ∀ q ∈ k64_0, ck 64 q = true := by decide +kernel
theorem ck64 : ∀ q ∈ k64, ck 64 q = true := ck64_0
set_option maxRecDepth 100000 in
theorem ck65_0 : ∀ q ∈ k65_0, ck 65 q = true := by decide +kernel
set_option maxRecDepth 100000 in
theorem ck65_1 : ∀ q ∈ k65_1, ck 65 q = true := by decide +kernel
set_option maxRecDepth 100000 in
theorem ck65_2 : ∀ q ∈ k65_2, ck 65 q = true := by decide +kernel
theorem ck65 : ∀ q ∈ k65, ck 65 q = true := List.forall_mem_append.mpr ⟨ck65_0, List.forall_mem_append.mpr ⟨ck65_1, ck65_2⟩⟩
set_option maxRecDepth 100000 in
theorem ck66_0 : ∀ q ∈ k66_0, ck 66 q = true := by decide +kernel
theorem ck66 : ∀ q ∈ k66, ck 66 q = true := ck66_0
set_option maxRecDepth 100000 in
theorem ck67_0 : ∀ q ∈ k67_0, ck 67 q = true := by decide +kernel
theorem ck67 : ∀ q ∈ k67, ck 67 q = true := ck67_0
set_option maxRecDepth 100000 in
theorem ck68_0 : ∀ q ∈ k68_0, ck 68 q = true := by decide +kernel
theorem ck68 : ∀ q ∈ k68, ck 68 q = true := ck68_0
set_option maxRecDepth 100000 in
theorem ck69_0 : ∀ q ∈ k69_0, ck 69 q = true := by decide +kernel
theorem ck69 : ∀ q ∈ k69, ck 69 q = true := ck69_0
set_option maxRecDepth 100000 in
theorem ck70_0 : ∀ q ∈ k70_0, ck 70 q = true := by decide +kernel
theorem ck70 : ∀ q ∈ k70, ck 70 q = true := ck70_0
set_option maxRecDepth 100000 in
theorem ck71_0 : ∀ q ∈ k71_0, ck 71 q = true := by decide +kernel
theorem ck71 : ∀ q ∈ k71, ck 71 q = true := ck71_0
set_option maxRecDepth 100000 in
theorem ck72_0 : ∀ q ∈ k72_0, ck 72 q = true := by decide +kernel
theorem ck72 : ∀ q ∈ k72, ck 72 q = true := ck72_0
set_option maxRecDepth 100000 in
theorem ck73_0 : ∀ q ∈ k73_0, ck 73 q = true := by decide +kernel
theorem ck73 : ∀ q ∈ k73, ck 73 q = true := ck73_0
set_option maxRecDepth 100000 in
theorem ck74_0 : ∀ q ∈ k74_0, ck 74 q = true := by decide +kernel
set_option maxRecDepth 100000 in
theorem ck74_1 : ∀ q ∈ k74_1, ck 74 q = true := by decide +kernel
theorem ck74 : ∀ q ∈ k74, ck 74 q = true := List.forall_mem_append.mpr ⟨ck74_0, ck74_1⟩
set_option maxRecDepth 100000 in
theorem ck75_0 : ∀ q ∈ k75_0, ck 75 q = true := by decide +kernel
set_option maxRecDepth 100000 in
theorem ck75_1 : ∀ q ∈ k75_1, ck 75 q = true := by decide +kernel
set_option maxRecDepth 100000 in
theorem ck75_2 : ∀ q ∈ k75_2, ck 75 q = true := by decide +kernel
theorem ck75 : ∀ q ∈ k75, ck 75 q = true := List.forall_mem_append.mpr ⟨ck75_0, List.forall_mem_append.mpr ⟨ck75_1, ck75_2⟩⟩
set_option maxRecDepth 100000 in
theorem ck76_0 : ∀ q ∈ k76_0, ck 76 q = true := by decide +kernel
set_option maxRecDepth 100000 in
theorem ck76_1 : ∀ q ∈ k76_1, ck 76 q = true := by decide +kernel
theorem ck76 : ∀ q ∈ k76, ck 76 q = true := List.forall_mem_append.mpr ⟨ck76_0, ck76_1⟩
set_option maxRecDepth 100000 in
theorem ck77_0 : ∀ q ∈ k77_0, ck 77 q = true := by decide +kernel
theorem ck77 : ∀ q ∈ k77, ck 77 q = true := ck77_0
set_option maxRecDepth 100000 in
theorem ck78_0 : ∀ q ∈ k78_0, ck 78 q = true := by decide +kernel
set_option maxRecDepth 100000 in
theorem ck78_1 : ∀ q ∈ k78_1, ck 78 q = true := by decide +kernel
set_option maxRecDepth 100000 in
theorem ck78_2 : ∀ q ∈ k78_2, ck 78 q = true := by decide +kernel
theorem ck78 : ∀ q ∈ k78, ck 78 q = true := List.forall_mem_append.mpr ⟨ck78_0, List.forall_mem_append.mpr ⟨ck78_1, ck78_2⟩⟩
set_option maxRecDepth 100000 in
theorem ck79_0 : ∀ q ∈ k79_0, ck 79 q = true := by decide +kernel
set_option maxRecDepth 100000 in
theorem ck79_1 : ∀ q ∈ k79_1, ck 79 q = true := by decide +kernel
theorem ck79 : ∀ q ∈ k79, ck 79 q = true := List.forall_mem_append.mpr ⟨ck79_0, ck79_1⟩
set_option maxRecDepth 100000 in
theorem ck80_0 : ∀ q ∈ k80_0, ck 80 q = true := by decide +kernel
set_option maxRecDepth 100000 in
theorem ck80_1 : ∀ q ∈ k80_1, ck 80 q = true := by decide +kernel
set_option maxRecDepth 100000 in
theorem ck80_2 : ∀ q ∈ k80_2, ck 80 q = true := by decide +kernel
set_option maxRecDepth 100000 in
theorem ck80_3 : ∀ q ∈ k80_3, ck 80 q = true := by decide +kernel
theorem ck80 : ∀ q ∈ k80, ck 80 q = true := List.forall_mem_append.mpr ⟨ck80_0, List.forall_mem_append.mpr ⟨ck80_1, List.forall_mem_append.mpr ⟨ck80_2, ck80_3⟩⟩⟩
set_option maxRecDepth 100000 in
theorem ck81_0 : ∀ q ∈ k81_0, ck 81 q = true := by decide +kernel
set_option maxRecDepth 100000 in
theorem ck81_1 : ∀ q ∈ k81_1, ck 81 q = true := by decide +kernel
set_option maxRecDepth 100000 in
theorem ck81_2 : ∀ q ∈ k81_2, ck 81 q = true := by decide +kernel
theorem ck81 : ∀ q ∈ k81, ck 81 q = true := List.forall_mem_append.mpr ⟨ck81_0, List.forall_mem_append.mpr ⟨ck81_1, ck81_2⟩⟩
