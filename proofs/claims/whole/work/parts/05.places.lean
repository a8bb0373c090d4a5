/-! the tables, place by place; and the printed bytes decode to them -/
set_option maxRecDepth 100000 in
theorem t0_0 : ∀ q ∈ k0_0, lk q.1 (cdt 0) = some q.2 := by decide +kernel
set_option maxRecDepth 100000 in
theorem t1_0 : ∀ q ∈ k1_0, lk q.1 (cdt 1) = some q.2 := by decide +kernel
set_option maxRecDepth 100000 in
theorem t2_0 : ∀ q ∈ k2_0, lk q.1 (cdt 2) = some q.2 := by decide +kernel
set_option maxRecDepth 100000 in
theorem t3_0 : ∀ q ∈ k3_0, lk q.1 (cdt 3) = some q.2 := by decide +kernel
set_option maxRecDepth 100000 in
theorem t4_0 : ∀ q ∈ k4_0, lk q.1 (cdt 4) = some q.2 := by decide +kernel
set_option maxRecDepth 100000 in
theorem t5_0 : ∀ q ∈ k5_0, lk q.1 (cdt 5) = some q.2 := by decide +kernel
set_option maxRecDepth 100000 in
theorem t6_0 : ∀ q ∈ k6_0, lk q.1 (cdt 6) = some q.2 := by decide +kernel
set_option maxRecDepth 100000 in
theorem t7_0 : ∀ q ∈ k7_0, lk q.1 (cdt 7) = some q.2 := by decide +kernel
set_option maxRecDepth 100000 in
theorem t8_0 : ∀ q ∈ k8_0, lk q.1 (cdt 8) = some q.2 := by decide +kernel
set_option maxRecDepth 100000 in
theorem t9_0 : ∀ q ∈ k9_0, lk q.1 (cdt 9) = some q.2 := by decide +kernel
set_option maxRecDepth 100000 in
theorem t10_0 : ∀ q ∈ k10_0, lk q.1 (cdt 10) = some q.2 := by decide +kernel
set_option maxRecDepth 100000 in
theorem t11_0 : ∀ q ∈ k11_0, lk q.1 (cdt 11) = some q.2 := by decide +kernel
set_option maxRecDepth 100000 in
theorem t11_1 : ∀ q ∈ k11_1, lk q.1 (cdt 11) = some q.2 := by decide +kernel
set_option maxRecDepth 100000 in
theorem t12_0 : ∀ q ∈ k12_0, lk q.1 (cdt 12) = some q.2 := by decide +kernel
set_option maxRecDepth 100000 in
theorem t12_1 : ∀ q ∈ k12_1, lk q.1 (cdt 12) = some q.2 := by decide +kernel
set_option maxRecDepth 100000 in
theorem t12_2 : ∀ q ∈ k12_2, lk q.1 (cdt 12) = some q.2 := by decide +kernel
set_option maxRecDepth 100000 in
theorem t13_0 : ∀ q ∈ k13_0, lk q.1 (cdt 13) = some q.2 := by decide +kernel
set_option maxRecDepth 100000 in
theorem t13_1 : ∀ q ∈ k13_1, lk q.1 (cdt 13) = some q.2 := by decide +kernel
set_option maxRecDepth 100000 in
theorem t14_0 : ∀ q ∈ k14_0, lk q.1 (cdt 14) = some q.2 := by decide +kernel
set_option maxRecDepth 100000 in
theorem t15_0 : ∀ q ∈ k15_0, lk q.1 (cdt 15) = some q.2 := by decide +kernel
set_option maxRecDepth 100000 in
theorem t15_1 : ∀ q ∈ k15_1, lk q.1 (cdt 15) = some q.2 := by decide +kernel
set_option maxRecDepth 100000 in
theorem t15_2 : ∀ q ∈ k15_2, lk q.1 (cdt 15) = some q.2 := by decide +kernel
set_option maxRecDepth 100000 in
theorem t16_0 : ∀ q ∈ k16_0, lk q.1 (cdt 16) = some q.2 := by decide +kernel
set_option maxRecDepth 100000 in
theorem t17_0 : ∀ q ∈ k17_0, lk q.1 (cdt 17) = some q.2 := by decide +kernel
set_option maxRecDepth 100000 in
theorem t18_0 : ∀ q ∈ k18_0, lk q.1 (cdt 18) = some q.2 := by decide +kernel
set_option maxRecDepth 100000 in
theorem t18_1 : ∀ q ∈ k18_1, lk q.1 (cdt 18) = some q.2 := by decide +kernel
set_option maxRecDepth 100000 in
theorem t19_0 : ∀ q ∈ k19_0, lk q.1 (cdt 19) = some q.2 := by decide +kernel
set_option maxRecDepth 100000 in
theorem t20_0 : ∀ q ∈ k20_0, lk q.1 (cdt 20) = some q.2 := by decide +kernel
set_option maxRecDepth 100000 in
theorem t21_0 : ∀ q ∈ k21_0, lk q.1 (cdt 21) = some q.2 := by decide +kernel
set_option maxRecDepth 100000 in
theorem t21_1 : ∀ q ∈ k21_1, lk q.1 (cdt 21) = some q.2 := by decide +kernel
set_option maxRecDepth 100000 in
theorem t21_2 : ∀ q ∈ k21_2, lk q.1 (cdt 21) = some q.2 := by decide +kernel
set_option maxRecDepth 100000 in
theorem t22_0 : ∀ q ∈ k22_0, lk q.1 (cdt 22) = some q.2 := by decide +kernel
set_option maxRecDepth 100000 in
theorem t23_0 : ∀ q ∈ k23_0, lk q.1 (cdt 23) = some q.2 := by decide +kernel
set_option maxRecDepth 100000 in
theorem t24_0 : ∀ q ∈ k24_0, lk q.1 (cdt 24) = some q.2 := by decide +kernel
set_option maxRecDepth 100000 in
theorem t24_1 : ∀ q ∈ k24_1, lk q.1 (cdt 24) = some q.2 := by decide +kernel
set_option maxRecDepth 100000 in
theorem t24_2 : ∀ q ∈ k24_2, lk q.1 (cdt 24) = some q.2 := by decide +kernel
set_option maxRecDepth 100000 in
theorem t25_0 : ∀ q ∈ k25_0, lk q.1 (cdt 25) = some q.2 := by decide +kernel
set_option maxRecDepth 100000 in
theorem t25_1 : ∀ q ∈ k25_1, lk q.1 (cdt 25) = some q.2 := by decide +kernel
set_option maxRecDepth 100000 in
theorem t26_0 : ∀ q ∈ k26_0, lk q.1 (cdt 26) = some q.2 := by decide +kernel
set_option maxRecDepth 100000 in
theorem t27_0 : ∀ q ∈ k27_0, lk q.1 (cdt 27) = some q.2 := by decide +kernel
set_option maxRecDepth 100000 in
theorem t27_1 : ∀ q ∈ k27_1, lk q.1 (cdt 27) = some q.2 := by decide +kernel
set_option maxRecDepth 100000 in
theorem t28_0 : ∀ q ∈ k28_0, lk q.1 (cdt 28) = some q.2 := by decide +kernel
set_option maxRecDepth 100000 in
theorem t28_1 : ∀ q ∈ k28_1, lk q.1 (cdt 28) = some q.2 := by decide +kernel
set_option maxRecDepth 100000 in
theorem t28_2 : ∀ q ∈ k28_2, lk q.1 (cdt 28) = some q.2 := by decide +kernel
set_option maxRecDepth 100000 in
theorem t29_0 : ∀ q ∈ k29_0, lk q.1 (cdt 29) = some q.2 := by decide +kernel
set_option maxRecDepth 100000 in
theorem t30_0 : ∀ q ∈ k30_0, lk q.1 (cdt 30) = some q.2 := by decide +kernel
set_option maxRecDepth 100000 in
theorem t30_1 : ∀ q ∈ k30_1, lk q.1 (cdt 30) = some q.2 := by decide +kernel
set_option maxRecDepth 100000 in
theorem t31_0 : ∀ q ∈ k31_0, lk q.1 (cdt 31) = some q.2 := by decide +kernel
set_option maxRecDepth 100000 in
theorem t32_0 : ∀ q ∈ k32_0, lk q.1 (cdt 32) = some q.2 := by decide +kernel
set_option maxRecDepth 100000 in
theorem t33_0 : ∀ q ∈ k33_0, lk q.1 (cdt 33) = some q.2 := by decide +kernel
set_option maxRecDepth 100000 in
theorem t33_1 : ∀ q ∈ k33_1, lk q.1 (cdt 33) = some q.2 := by decide +kernel
set_option maxRecDepth 100000 in
theorem t34_0 : ∀ q ∈ k34_0, lk q.1 (cdt 34) = some q.2 := by decide +kernel
set_option maxRecDepth 100000 in
theorem t35_0 : ∀ q ∈ k35_0, lk q.1 (cdt 35) = some q.2 := by decide +kernel
set_option maxRecDepth 100000 in
theorem t36_0 : ∀ q ∈ k36_0, lk q.1 (cdt 36) = some q.2 := by decide +kernel
set_option maxRecDepth 100000 in
theorem t37_0 : ∀ q ∈ k37_0, lk q.1 (cdt 37) = some q.2 := by decide +kernel
set_option maxRecDepth 100000 in
theorem t38_0 : ∀ q ∈ k38_0, lk q.1 (cdt 38) = some q.2 := by decide +kernel
set_option maxRecDepth 100000 in
theorem t38_1 : ∀ q ∈ k38_1, lk q.1 (cdt 38) = some q.2 := by decide +kernel
set_option maxRecDepth 100000 in
theorem t38_2 : ∀ q ∈ k38_2, lk q.1 (cdt 38) = some q.2 := by decide +kernel
set_option maxRecDepth 100000 in
theorem t39_0 : ∀ q ∈ k39_0, lk q.1 (cdt 39) = some q.2 := by decide +kernel
set_option maxRecDepth 100000 in
theorem t39_1 : ∀ q ∈ k39_1, lk q.1 (cdt 39) = some q.2 := by decide +kernel
set_option maxRecDepth 100000 in
theorem t40_0 : ∀ q ∈ k40_0, lk q.1 (cdt 40) = some q.2 := by decide +kernel
set_option maxRecDepth 100000 in
theorem t40_1 : ∀ q ∈ k40_1, lk q.1 (cdt 40) = some q.2 := by decide +kernel
set_option maxRecDepth 100000 in
theorem t40_2 : ∀ q ∈ k40_2, lk q.1 (cdt 40) = some q.2 := by decide +kernel
set_option maxRecDepth 100000 in
theorem t41_0 : ∀ q ∈ k41_0, lk q.1 (cdt 41) = some q.2 := by decide +kernel
set_option maxRecDepth 100000 in
theorem t42_0 : ∀ q ∈ k42_0, lk q.1 (cdt 42) = some q.2 := by decide +kernel
set_option maxRecDepth 100000 in
theorem t42_1 : ∀ q ∈ k42_1, lk q.1 (cdt 42) = some q.2 := by decide +kernel
set_option maxRecDepth 100000 in
theorem t42_2 : ∀ q ∈ k42_2, lk q.1 (cdt 42) = some q.2 := by decide +kernel
set_option maxRecDepth 100000 in
theorem t43_0 : ∀ q ∈ k43_0, lk q.1 (cdt 43) = some q.2 := by decide +kernel
set_option maxRecDepth 100000 in
theorem t44_0 : ∀ q ∈ k44_0, lk q.1 (cdt 44) = some q.2 := by decide +kernel
set_option maxRecDepth 100000 in
theorem t45_0 : ∀ q ∈ k45_0, lk q.1 (cdt 45) = some q.2 := by decide +kernel
set_option maxRecDepth 100000 in
theorem t46_0 : ∀ q ∈ k46_0, lk q.1 (cdt 46) = some q.2 := by decide +kernel
set_option maxRecDepth 100000 in
theorem t47_0 : ∀ q ∈ k47_0, lk q.1 (cdt 47) = some q.2 := by decide +kernel
set_option maxRecDepth 100000 in
theorem t48_0 : ∀ q ∈ k48_0, lk q.1 (cdt 48) = some q.2 := by decide +kernel
set_option maxRecDepth 100000 in
theorem t49_0 : ∀ q ∈ k49_0, lk q.1 (cdt 49) = some q.2 := by decide +kernel
set_option maxRecDepth 100000 in
theorem t50_0 : ∀ q ∈ k50_0, lk q.1 (cdt 50) = some q.2 := by decide +kernel
set_option maxRecDepth 100000 in
theorem t51_0 : ∀ q ∈ k51_0, lk q.1 (cdt 51) = some q.2 := by decide +kernel
set_option maxRecDepth 100000 in
theorem t52_0 : ∀ q ∈ k52_0, lk q.1 (cdt 52) = some q.2 := by decide +kernel
set_option maxRecDepth 100000 in
theorem t53_0 : ∀ q ∈ k53_0, lk q.1 (cdt 53) = some q.2 := by decide +kernel
set_option maxRecDepth 100000 in
theorem t53_1 : ∀ q ∈ k53_1, lk q.1 (cdt 53) = some q.2 := by decide +kernel
set_option maxRecDepth 100000 in
theorem t54_0 : ∀ q ∈ k54_0, lk q.1 (cdt 54) = some q.2 := by decide +kernel
set_option maxRecDepth 100000 in
theorem t55_0 : ∀ q ∈ k55_0, lk q.1 (cdt 55) = some q.2 := by decide +kernel
set_option maxRecDepth 100000 in
theorem t55_1 : ∀ q ∈ k55_1, lk q.1 (cdt 55) = some q.2 := by decide +kernel
set_option maxRecDepth 100000 in
theorem t56_0 : ∀ q ∈ k56_0, lk q.1 (cdt 56) = some q.2 := by decide +kernel
set_option maxRecDepth 100000 in
theorem t56_1 : ∀ q ∈ k56_1, lk q.1 (cdt 56) = some q.2 := by decide +kernel
set_option maxRecDepth 100000 in
theorem t57_0 : ∀ q ∈ k57_0, lk q.1 (cdt 57) = some q.2 := by decide +kernel
set_option maxRecDepth 100000 in
theorem t58_0 : ∀ q ∈ k58_0, lk q.1 (cdt 58) = some q.2 := by decide +kernel
set_option maxRecDepth 100000 in
theorem t59_0 : ∀ q ∈ k59_0, lk q.1 (cdt 59) = some q.2 := by decide +kernel
set_option maxRecDepth 100000 in
theorem t60_0 : ∀ q ∈ k60_0, lk q.1 (cdt 60) = some q.2 := by decide +kernel
set_option maxRecDepth 100000 in
theorem t61_0 : ∀ q ∈ k61_0, lk q.1 (cdt 61) = some q.2 := by decide +kernel
set_option maxRecDepth 100000 in
theorem t62_0 : ∀ q ∈ k62_0, lk q.1 (cdt 62) = some q.2 := by decide +kernel
set_option maxRecDepth 100000 in
theorem t62_1 : ∀ q ∈ k62_1, lk q.1 (cdt 62) = some q.2 := by decide +kernel
set_option maxRecDepth 100000 in
theorem t63_0 : ∀ q ∈ k63_0, lk q.1 (cdt 63) = some q.2 := by decide +kernel
set_option maxRecDepth 100000 in
theorem t64_0 : ∀ q ∈ k64_0, lk q.1 (cdt 64) = some q.2 := by decide +kernel
set_option maxRecDepth 100000 in
theorem t65_0 : ∀ q ∈ k65_0, lk q.1 (cdt 65) = some q.2 := by decide +kernel
set_option maxRecDepth 100000 in
theorem t65_1 : ∀ q ∈ k65_1, lk q.1 (cdt 65) = some q.2 := by decide +kernel
set_option maxRecDepth 100000 in
theorem t65_2 : ∀ q ∈ k65_2, lk q.1 (cdt 65) = some q.2 := by decide +kernel
set_option maxRecDepth 100000 in
theorem t66_0 : ∀ q ∈ k66_0, lk q.1 (cdt 66) = some q.2 := by decide +kernel
set_option maxRecDepth 100000 in
theorem t67_0 : ∀ q ∈ k67_0, lk q.1 (cdt 67) = some q.2 := by decide +kernel
set_option maxRecDepth 100000 in
theorem t68_0 : ∀ q ∈ k68_0, lk q.1 (cdt 68) = some q.2 := by decide +kernel
set_option maxRecDepth 100000 in
theorem t69_0 : ∀ q ∈ k69_0, lk q.1 (cdt 69) = some q.2 := by decide +kernel
set_option maxRecDepth 100000 in
theorem t70_0 : ∀ q ∈ k70_0, lk q.1 (cdt 70) = some q.2 := by decide +kernel
set_option maxRecDepth 100000 in
theorem t71_0 : ∀ q ∈ k71_0, lk q.1 (cdt 71) = some q.2 := by decide +kernel
set_option maxRecDepth 100000 in
theorem t72_0 : ∀ q ∈ k72_0, lk q.1 (cdt 72) = some q.2 := by decide +kernel
set_option maxRecDepth 100000 in
theorem t73_0 : ∀ q ∈ k73_0, lk q.1 (cdt 73) = some q.2 := by decide +kernel
set_option maxRecDepth 100000 in
theorem t74_0 : ∀ q ∈ k74_0, lk q.1 (cdt 74) = some q.2 := by decide +kernel
set_option maxRecDepth 100000 in
theorem t74_1 : ∀ q ∈ k74_1, lk q.1 (cdt 74) = some q.2 := by decide +kernel
set_option maxRecDepth 100000 in
theorem t75_0 : ∀ q ∈ k75_0, lk q.1 (cdt 75) = some q.2 := by decide +kernel
set_option maxRecDepth 100000 in
theorem t75_1 : ∀ q ∈ k75_1, lk q.1 (cdt 75) = some q.2 := by decide +kernel
set_option maxRecDepth 100000 in
theorem t75_2 : ∀ q ∈ k75_2, lk q.1 (cdt 75) = some q.2 := by decide +kernel
set_option maxRecDepth 100000 in
theorem t76_0 : ∀ q ∈ k76_0, lk q.1 (cdt 76) = some q.2 := by decide +kernel
set_option maxRecDepth 100000 in
theorem t76_1 : ∀ q ∈ k76_1, lk q.1 (cdt 76) = some q.2 := by decide +kernel
set_option maxRecDepth 100000 in
theorem t77_0 : ∀ q ∈ k77_0, lk q.1 (cdt 77) = some q.2 := by decide +kernel
set_option maxRecDepth 100000 in
theorem t78_0 : ∀ q ∈ k78_0, lk q.1 (cdt 78) = some q.2 := by decide +kernel
set_option maxRecDepth 100000 in
theorem t78_1 : ∀ q ∈ k78_1, lk q.1 (cdt 78) = some q.2 := by decide +kernel
set_option maxRecDepth 100000 in
theorem t78_2 : ∀ q ∈ k78_2, lk q.1 (cdt 78) = some q.2 := by decide +kernel
set_option maxRecDepth 100000 in
theorem t79_0 : ∀ q ∈ k79_0, lk q.1 (cdt 79) = some q.2 := by decide +kernel
set_option maxRecDepth 100000 in
theorem t79_1 : ∀ q ∈ k79_1, lk q.1 (cdt 79) = some q.2 := by decide +kernel
set_option maxRecDepth 100000 in
theorem t80_0 : ∀ q ∈ k80_0, lk q.1 (cdt 80) = some q.2 := by decide +kernel
set_option maxRecDepth 100000 in
theorem t80_1 : ∀ q ∈ k80_1, lk q.1 (cdt 80) = some q.2 := by decide +kernel
set_option maxRecDepth 100000 in
theorem t80_2 : ∀ q ∈ k80_2, lk q.1 (cdt 80) = some q.2 := by decide +kernel
set_option maxRecDepth 100000 in
theorem t80_3 : ∀ q ∈ k80_3, lk q.1 (cdt 80) = some q.2 := by decide +kernel
set_option maxRecDepth 100000 in
theorem t81_0 : ∀ q ∈ k81_0, lk q.1 (cdt 81) = some q.2 := by decide +kernel
set_option maxRecDepth 100000 in
theorem t81_1 : ∀ q ∈ k81_1, lk q.1 (cdt 81) = some q.2 := by decide +kernel
set_option maxRecDepth 100000 in
theorem t81_2 : ∀ q ∈ k81_2, lk q.1 (cdt 81) = some q.2 := by decide +kernel
set_option maxRecDepth 100000 in
theorem t82_0 : ∀ q ∈ k82_0, lk q.1 (cdt 82) = some q.2 := by decide +kernel
set_option maxRecDepth 100000 in
theorem t83_0 : ∀ q ∈ k83_0, lk q.1 (cdt 83) = some q.2 := by decide +kernel
set_option maxRecDepth 100000 in
theorem t83_1 : ∀ q ∈ k83_1, lk q.1 (cdt 83) = some q.2 := by decide +kernel
set_option maxRecDepth 100000 in
theorem t84_0 : ∀ q ∈ k84_0, lk q.1 (cdt 84) = some q.2 := by decide +kernel
set_option maxRecDepth 100000 in
theorem t85_0 : ∀ q ∈ k85_0, lk q.1 (cdt 85) = some q.2 := by decide +kernel
set_option maxRecDepth 100000 in
theorem t86_0 : ∀ q ∈ k86_0, lk q.1 (cdt 86) = some q.2 := by decide +kernel
set_option maxRecDepth 100000 in
theorem t87_0 : ∀ q ∈ k87_0, lk q.1 (cdt 87) = some q.2 := by decide +kernel
set_option maxRecDepth 100000 in
theorem t88_0 : ∀ q ∈ k88_0, lk q.1 (cdt 88) = some q.2 := by decide +kernel
set_option maxRecDepth 100000 in
theorem t89_0 : ∀ q ∈ k89_0, lk q.1 (cdt 89) = some q.2 := by decide +kernel
set_option maxRecDepth 100000 in
theorem t89_1 : ∀ q ∈ k89_1, lk q.1 (cdt 89) = some q.2 := by decide +kernel
set_option maxRecDepth 100000 in
theorem t89_2 : ∀ q ∈ k89_2, lk q.1 (cdt 89) = some q.2 := by decide +kernel
set_option maxRecDepth 100000 in
theorem t90_0 : ∀ q ∈ k90_0, lk q.1 (cdt 90) = some q.2 := by decide +kernel
set_option maxRecDepth 100000 in
theorem t90_1 : ∀ q ∈ k90_1, lk q.1 (cdt 90) = some q.2 := by decide +kernel
set_option maxRecDepth 100000 in
theorem t91_0 : ∀ q ∈ k91_0, lk q.1 (cdt 91) = some q.2 := by decide +kernel
set_option maxRecDepth 100000 in
theorem t91_1 : ∀ q ∈ k91_1, lk q.1 (cdt 91) = some q.2 := by decide +kernel
set_option maxRecDepth 100000 in
theorem t91_2 : ∀ q ∈ k91_2, lk q.1 (cdt 91) = some q.2 := by decide +kernel
set_option maxRecDepth 100000 in
theorem t91_3 : ∀ q ∈ k91_3, lk q.1 (cdt 91) = some q.2 := by decide +kernel
set_option maxRecDepth 100000 in
theorem t92_0 : ∀ q ∈ k92_0, lk q.1 (cdt 92) = some q.2 := by decide +kernel
set_option maxRecDepth 100000 in
theorem t92_1 : ∀ q ∈ k92_1, lk q.1 (cdt 92) = some q.2 := by decide +kernel
set_option maxRecDepth 100000 in
theorem t92_2 : ∀ q ∈ k92_2, lk q.1 (cdt 92) = some q.2 := by decide +kernel
set_option maxRecDepth 100000 in
theorem t93_0 : ∀ q ∈ k93_0, lk q.1 (cdt 93) = some q.2 := by decide +kernel
set_option maxRecDepth 100000 in
theorem t93_1 : ∀ q ∈ k93_1, lk q.1 (cdt 93) = some q.2 := by decide +kernel
set_option maxRecDepth 100000 in
theorem t94_0 : ∀ q ∈ k94_0, lk q.1 (cdt 94) = some q.2 := by decide +kernel
set_option maxRecDepth 100000 in
theorem t95_0 : ∀ q ∈ k95_0, lk q.1 (cdt 95) = some q.2 := by decide +kernel
set_option maxRecDepth 100000 in
theorem t96_0 : ∀ q ∈ k96_0, lk q.1 (cdt 96) = some q.2 := by decide +kernel
set_option maxRecDepth 100000 in
theorem t97_0 : ∀ q ∈ k97_0, lk q.1 (cdt 97) = some q.2 := by decide +kernel
set_option maxRecDepth 100000 in
theorem t97_1 : ∀ q ∈ k97_1, lk q.1 (cdt 97) = some q.2 := by decide +kernel
set_option maxRecDepth 100000 in
theorem t98_0 : ∀ q ∈ k98_0, lk q.1 (cdt 98) = some q.2 := by decide +kernel
set_option maxRecDepth 100000 in
theorem t99_0 : ∀ q ∈ k99_0, lk q.1 (cdt 99) = some q.2 := by decide +kernel
set_option maxRecDepth 100000 in
theorem t99_1 : ∀ q ∈ k99_1, lk q.1 (cdt 99) = some q.2 := by decide +kernel
set_option maxRecDepth 100000 in
theorem t100_0 : ∀ q ∈ k100_0, lk q.1 (cdt 100) = some q.2 := by decide +kernel
set_option maxRecDepth 100000 in
theorem t100_1 : ∀ q ∈ k100_1, lk q.1 (cdt 100) = some q.2 := by decide +kernel
set_option maxRecDepth 100000 in
theorem t101_0 : ∀ q ∈ k101_0, lk q.1 (cdt 101) = some q.2 := by decide +kernel
set_option maxRecDepth 100000 in
theorem t101_1 : ∀ q ∈ k101_1, lk q.1 (cdt 101) = some q.2 := by decide +kernel
set_option maxRecDepth 100000 in
theorem t102_0 : ∀ q ∈ k102_0, lk q.1 (cdt 102) = some q.2 := by decide +kernel
set_option maxRecDepth 100000 in
theorem t102_1 : ∀ q ∈ k102_1, lk q.1 (cdt 102) = some q.2 := by decide +kernel
set_option maxRecDepth 100000 in
theorem t103_0 : ∀ q ∈ k103_0, lk q.1 (cdt 103) = some q.2 := by decide +kernel
set_option maxRecDepth 100000 in
theorem t103_1 : ∀ q ∈ k103_1, lk q.1 (cdt 103) = some q.2 := by decide +kernel
set_option maxRecDepth 100000 in
theorem t103_2 : ∀ q ∈ k103_2, lk q.1 (cdt 103) = some q.2 := by decide +kernel
set_option maxRecDepth 100000 in
theorem t104_0 : ∀ q ∈ k104_0, lk q.1 (cdt 104) = some q.2 := by decide +kernel
set_option maxRecDepth 100000 in
theorem t105_0 : ∀ q ∈ k105_0, lk q.1 (cdt 105) = some q.2 := by decide +kernel
set_option maxRecDepth 100000 in
theorem t106_0 : ∀ q ∈ k106_0, lk q.1 (cdt 106) = some q.2 := by decide +kernel
set_option maxRecDepth 100000 in
theorem t107_0 : ∀ q ∈ k107_0, lk q.1 (cdt 107) = some q.2 := by decide +kernel
set_option maxRecDepth 100000 in
theorem t107_1 : ∀ q ∈ k107_1, lk q.1 (cdt 107) = some q.2 := by decide +kernel
set_option maxRecDepth 100000 in
theorem t107_2 : ∀ q ∈ k107_2, lk q.1 (cdt 107) = some q.2 := by decide +kernel
set_option maxRecDepth 100000 in
theorem t108_0 : ∀ q ∈ k108_0, lk q.1 (cdt 108) = some q.2 := by decide +kernel
set_option maxRecDepth 100000 in
theorem t108_1 : ∀ q ∈ k108_1, lk q.1 (cdt 108) = some q.2 := by decide +kernel
set_option maxRecDepth 100000 in
theorem t109_0 : ∀ q ∈ k109_0, lk q.1 (cdt 109) = some q.2 := by decide +kernel
set_option maxRecDepth 100000 in
theorem t110_0 : ∀ q ∈ k110_0, lk q.1 (cdt 110) = some q.2 := by decide +kernel
set_option maxRecDepth 100000 in
theorem t111_0 : ∀ q ∈ k111_0, lk q.1 (cdt 111) = some q.2 := by decide +kernel
set_option maxRecDepth 100000 in
theorem t111_1 : ∀ q ∈ k111_1, lk q.1 (cdt 111) = some q.2 := by decide +kernel
set_option maxRecDepth 100000 in
theorem t112_0 : ∀ q ∈ k112_0, lk q.1 (cdt 112) = some q.2 := by decide +kernel
set_option maxRecDepth 100000 in
theorem t112_1 : ∀ q ∈ k112_1, lk q.1 (cdt 112) = some q.2 := by decide +kernel
set_option maxRecDepth 100000 in
theorem t113_0 : ∀ q ∈ k113_0, lk q.1 (cdt 113) = some q.2 := by decide +kernel
set_option maxRecDepth 100000 in
theorem t113_1 : ∀ q ∈ k113_1, lk q.1 (cdt 113) = some q.2 := by decide +kernel
set_option maxRecDepth 100000 in
theorem t114_0 : ∀ q ∈ k114_0, lk q.1 (cdt 114) = some q.2 := by decide +kernel
set_option maxRecDepth 100000 in
theorem t115_0 : ∀ q ∈ k115_0, lk q.1 (cdt 115) = some q.2 := by decide +kernel
set_option maxRecDepth 100000 in
theorem t116_0 : ∀ q ∈ k116_0, lk q.1 (cdt 116) = some q.2 := by decide +kernel
set_option maxRecDepth 100000 in
theorem t117_0 : ∀ q ∈ k117_0, lk q.1 (cdt 117) = some q.2 := by decide +kernel
set_option maxRecDepth 100000 in
theorem t118_0 : ∀ q ∈ k118_0, lk q.1 (cdt 118) = some q.2 := by decide +kernel
set_option maxRecDepth 100000 in
theorem t118_1 : ∀ q ∈ k118_1, lk q.1 (cdt 118) = some q.2 := by decide +kernel
set_option maxRecDepth 100000 in
theorem t118_2 : ∀ q ∈ k118_2, lk q.1 (cdt 118) = some q.2 := by decide +kernel
set_option maxRecDepth 100000 in
theorem t119_0 : ∀ q ∈ k119_0, lk q.1 (cdt 119) = some q.2 := by decide +kernel
set_option maxRecDepth 100000 in
theorem t119_1 : ∀ q ∈ k119_1, lk q.1 (cdt 119) = some q.2 := by decide +kernel
set_option maxRecDepth 100000 in
theorem t120_0 : ∀ q ∈ k120_0, lk q.1 (cdt 120) = some q.2 := by decide +kernel
set_option maxRecDepth 100000 in
theorem t121_0 : ∀ q ∈ k121_0, lk q.1 (cdt 121) = some q.2 := by decide +kernel
set_option maxRecDepth 100000 in
theorem t121_1 : ∀ q ∈ k121_1, lk q.1 (cdt 121) = some q.2 := by decide +kernel
set_option maxRecDepth 100000 in
theorem t122_0 : ∀ q ∈ k122_0, lk q.1 (cdt 122) = some q.2 := by decide +kernel
set_option maxRecDepth 100000 in
theorem t122_1 : ∀ q ∈ k122_1, lk q.1 (cdt 122) = some q.2 := by decide +kernel
set_option maxRecDepth 100000 in
theorem t123_0 : ∀ q ∈ k123_0, lk q.1 (cdt 123) = some q.2 := by decide +kernel
set_option maxRecDepth 100000 in
theorem t124_0 : ∀ q ∈ k124_0, lk q.1 (cdt 124) = some q.2 := by decide +kernel
set_option maxRecDepth 100000 in
theorem t125_0 : ∀ q ∈ k125_0, lk q.1 (cdt 125) = some q.2 := by decide +kernel
set_option maxRecDepth 100000 in
theorem t126_0 : ∀ q ∈ k126_0, lk q.1 (cdt 126) = some q.2 := by decide +kernel
set_option maxRecDepth 100000 in
theorem t127_0 : ∀ q ∈ k127_0, lk q.1 (cdt 127) = some q.2 := by decide +kernel
set_option maxRecDepth 100000 in
theorem t127_1 : ∀ q ∈ k127_1, lk q.1 (cdt 127) = some q.2 := by decide +kernel
set_option maxRecDepth 100000 in
theorem t128_0 : ∀ q ∈ k128_0, lk q.1 (cdt 128) = some q.2 := by decide +kernel
set_option maxRecDepth 100000 in
theorem t128_1 : ∀ q ∈ k128_1, lk q.1 (cdt 128) = some q.2 := by decide +kernel
set_option maxRecDepth 100000 in
theorem t129_0 : ∀ q ∈ k129_0, lk q.1 (cdt 129) = some q.2 := by decide +kernel
set_option maxRecDepth 100000 in
theorem t130_0 : ∀ q ∈ k130_0, lk q.1 (cdt 130) = some q.2 := by decide +kernel
set_option maxRecDepth 100000 in
theorem t131_0 : ∀ q ∈ k131_0, lk q.1 (cdt 131) = some q.2 := by decide +kernel
set_option maxRecDepth 100000 in
theorem t132_0 : ∀ q ∈ k132_0, lk q.1 (cdt 132) = some q.2 := by decide +kernel
set_option maxRecDepth 100000 in
theorem t132_1 : ∀ q ∈ k132_1, lk q.1 (cdt 132) = some q.2 := by decide +kernel
set_option maxRecDepth 100000 in
theorem t133_0 : ∀ q ∈ k133_0, lk q.1 (cdt 133) = some q.2 := by decide +kernel
set_option maxRecDepth 100000 in
theorem t133_1 : ∀ q ∈ k133_1, lk q.1 (cdt 133) = some q.2 := by decide +kernel
set_option maxRecDepth 100000 in
theorem t134_0 : ∀ q ∈ k134_0, lk q.1 (cdt 134) = some q.2 := by decide +kernel
set_option maxRecDepth 100000 in
theorem t135_0 : ∀ q ∈ k135_0, lk q.1 (cdt 135) = some q.2 := by decide +kernel
set_option maxRecDepth 100000 in
theorem t135_1 : ∀ q ∈ k135_1, lk q.1 (cdt 135) = some q.2 := by decide +kernel
set_option maxRecDepth 100000 in
theorem t136_0 : ∀ q ∈ k136_0, lk q.1 (cdt 136) = some q.2 := by decide +kernel
set_option maxRecDepth 100000 in
theorem t137_0 : ∀ q ∈ k137_0, lk q.1 (cdt 137) = some q.2 := by decide +kernel
set_option maxRecDepth 100000 in
theorem t138_0 : ∀ q ∈ k138_0, lk q.1 (cdt 138) = some q.2 := by decide +kernel
set_option maxRecDepth 100000 in
theorem t139_0 : ∀ q ∈ k139_0, lk q.1 (cdt 139) = some q.2 := by decide +kernel
set_option maxRecDepth 100000 in
theorem t140_0 : ∀ q ∈ k140_0, lk q.1 (cdt 140) = some q.2 := by decide +kernel
set_option maxRecDepth 100000 in
theorem t141_0 : ∀ q ∈ k141_0, lk q.1 (cdt 141) = some q.2 := by decide +kernel
set_option maxRecDepth 100000 in
theorem t142_0 : ∀ q ∈ k142_0, lk q.1 (cdt 142) = some q.2 := by decide +kernel
set_option maxRecDepth 100000 in
theorem t142_1 : ∀ q ∈ k142_1, lk q.1 (cdt 142) = some q.2 := by decide +kernel
set_option maxRecDepth 100000 in
theorem t143_0 : ∀ q ∈ k143_0, lk q.1 (cdt 143) = some q.2 := by decide +kernel
set_option maxRecDepth 100000 in
theorem t143_1 : ∀ q ∈ k143_1, lk q.1 (cdt 143) = some q.2 := by decide +kernel
set_option maxRecDepth 100000 in
theorem t144_0 : ∀ q ∈ k144_0, lk q.1 (cdt 144) = some q.2 := by decide +kernel
set_option maxRecDepth 100000 in
theorem t145_0 : ∀ q ∈ k145_0, lk q.1 (cdt 145) = some q.2 := by decide +kernel
set_option maxRecDepth 100000 in
theorem t146_0 : ∀ q ∈ k146_0, lk q.1 (cdt 146) = some q.2 := by decide +kernel
set_option maxRecDepth 100000 in
theorem t147_0 : ∀ q ∈ k147_0, lk q.1 (cdt 147) = some q.2 := by decide +kernel
set_option maxRecDepth 100000 in
theorem t148_0 : ∀ q ∈ k148_0, lk q.1 (cdt 148) = some q.2 := by decide +kernel
set_option maxRecDepth 100000 in
theorem t148_1 : ∀ q ∈ k148_1, lk q.1 (cdt 148) = some q.2 := by decide +kernel
set_option maxRecDepth 100000 in
theorem t149_0 : ∀ q ∈ k149_0, lk q.1 (cdt 149) = some q.2 := by decide +kernel
set_option maxRecDepth 100000 in
theorem t150_0 : ∀ q ∈ k150_0, lk q.1 (cdt 150) = some q.2 := by decide +kernel
set_option maxRecDepth 100000 in
theorem t151_0 : ∀ q ∈ k151_0, lk q.1 (cdt 151) = some q.2 := by decide +kernel
set_option maxRecDepth 100000 in
theorem t151_1 : ∀ q ∈ k151_1, lk q.1 (cdt 151) = some q.2 := by decide +kernel
set_option maxRecDepth 100000 in
theorem t152_0 : ∀ q ∈ k152_0, lk q.1 (cdt 152) = some q.2 := by decide +kernel
set_option maxRecDepth 100000 in
theorem t152_1 : ∀ q ∈ k152_1, lk q.1 (cdt 152) = some q.2 := by decide +kernel
set_option maxRecDepth 100000 in
theorem t153_0 : ∀ q ∈ k153_0, lk q.1 (cdt 153) = some q.2 := by decide +kernel
set_option maxRecDepth 100000 in
theorem t153_1 : ∀ q ∈ k153_1, lk q.1 (cdt 153) = some q.2 := by decide +kernel
set_option maxRecDepth 100000 in
theorem t154_0 : ∀ q ∈ k154_0, lk q.1 (cdt 154) = some q.2 := by decide +kernel
set_option maxRecDepth 100000 in
theorem t154_1 : ∀ q ∈ k154_1, lk q.1 (cdt 154) = some q.2 := by decide +kernel
set_option maxRecDepth 100000 in
theorem t155_0 : ∀ q ∈ k155_0, lk q.1 (cdt 155) = some q.2 := by decide +kernel
set_option maxRecDepth 100000 in
theorem t155_1 : ∀ q ∈ k155_1, lk q.1 (cdt 155) = some q.2 := by decide +kernel
set_option maxRecDepth 100000 in
theorem t155_2 : ∀ q ∈ k155_2, lk q.1 (cdt 155) = some q.2 := by decide +kernel
set_option maxRecDepth 100000 in
theorem t156_0 : ∀ q ∈ k156_0, lk q.1 (cdt 156) = some q.2 := by decide +kernel
set_option maxRecDepth 100000 in
theorem t157_0 : ∀ q ∈ k157_0, lk q.1 (cdt 157) = some q.2 := by decide +kernel
set_option maxRecDepth 100000 in
theorem t158_0 : ∀ q ∈ k158_0, lk q.1 (cdt 158) = some q.2 := by decide +kernel
set_option maxRecDepth 100000 in
theorem t159_0 : ∀ q ∈ k159_0, lk q.1 (cdt 159) = some q.2 := by decide +kernel
set_option maxRecDepth 100000 in
theorem t160_0 : ∀ q ∈ k160_0, lk q.1 (cdt 160) = some q.2 := by decide +kernel
set_option maxRecDepth 100000 in
theorem t161_0 : ∀ q ∈ k161_0, lk q.1 (cdt 161) = some q.2 := by decide +kernel
set_option maxRecDepth 100000 in
theorem t162_0 : ∀ q ∈ k162_0, lk q.1 (cdt 162) = some q.2 := by decide +kernel
set_option maxRecDepth 100000 in
theorem t162_1 : ∀ q ∈ k162_1, lk q.1 (cdt 162) = some q.2 := by decide +kernel
set_option maxRecDepth 100000 in
theorem t163_0 : ∀ q ∈ k163_0, lk q.1 (cdt 163) = some q.2 := by decide +kernel
set_option maxRecDepth 100000 in
theorem t163_1 : ∀ q ∈ k163_1, lk q.1 (cdt 163) = some q.2 := by decide +kernel
set_option maxRecDepth 100000 in
theorem t164_0 : ∀ q ∈ k164_0, lk q.1 (cdt 164) = some q.2 := by decide +kernel
set_option maxRecDepth 100000 in
theorem t164_1 : ∀ q ∈ k164_1, lk q.1 (cdt 164) = some q.2 := by decide +kernel
set_option maxRecDepth 100000 in
theorem t164_2 : ∀ q ∈ k164_2, lk q.1 (cdt 164) = some q.2 := by decide +kernel
set_option maxRecDepth 100000 in
theorem t164_3 : ∀ q ∈ k164_3, lk q.1 (cdt 164) = some q.2 := by decide +kernel
set_option maxRecDepth 100000 in
theorem t165_0 : ∀ q ∈ k165_0, lk q.1 (cdt 165) = some q.2 := by decide +kernel
set_option maxRecDepth 100000 in
theorem t166_0 : ∀ q ∈ k166_0, lk q.1 (cdt 166) = some q.2 := by decide +kernel
set_option maxRecDepth 100000 in
theorem t167_0 : ∀ q ∈ k167_0, lk q.1 (cdt 167) = some q.2 := by decide +kernel
set_option maxRecDepth 100000 in
theorem t168_0 : ∀ q ∈ k168_0, lk q.1 (cdt 168) = some q.2 := by decide +kernel
set_option maxRecDepth 100000 in
theorem t169_0 : ∀ q ∈ k169_0, lk q.1 (cdt 169) = some q.2 := by decide +kernel
set_option maxRecDepth 100000 in
theorem t170_0 : ∀ q ∈ k170_0, lk q.1 (cdt 170) = some q.2 := by decide +kernel
set_option maxRecDepth 100000 in
theorem t171_0 : ∀ q ∈ k171_0, lk q.1 (cdt 171) = some q.2 := by decide +kernel
set_option maxRecDepth 100000 in
theorem t172_0 : ∀ q ∈ k172_0, lk q.1 (cdt 172) = some q.2 := by decide +kernel
set_option maxRecDepth 100000 in
theorem t173_0 : ∀ q ∈ k173_0, lk q.1 (cdt 173) = some q.2 := by decide +kernel
set_option maxRecDepth 100000 in
theorem t174_0 : ∀ q ∈ k174_0, lk q.1 (cdt 174) = some q.2 := by decide +kernel
set_option maxRecDepth 100000 in
theorem t175_0 : ∀ q ∈ k175_0, lk q.1 (cdt 175) = some q.2 := by decide +kernel
set_option maxRecDepth 100000 in
theorem t176_0 : ∀ q ∈ k176_0, lk q.1 (cdt 176) = some q.2 := by decide +kernel
set_option maxRecDepth 100000 in
theorem t177_0 : ∀ q ∈ k177_0, lk q.1 (cdt 177) = some q.2 := by decide +kernel
set_option maxRecDepth 100000 in
theorem t178_0 : ∀ q ∈ k178_0, lk q.1 (cdt 178) = some q.2 := by decide +kernel
set_option maxRecDepth 100000 in
theorem t178_1 : ∀ q ∈ k178_1, lk q.1 (cdt 178) = some q.2 := by decide +kernel
set_option maxRecDepth 100000 in
theorem t178_2 : ∀ q ∈ k178_2, lk q.1 (cdt 178) = some q.2 := by decide +kernel
set_option maxRecDepth 100000 in
theorem t178_3 : ∀ q ∈ k178_3, lk q.1 (cdt 178) = some q.2 := by decide +kernel
set_option maxRecDepth 100000 in
theorem t178_4 : ∀ q ∈ k178_4, lk q.1 (cdt 178) = some q.2 := by decide +kernel
set_option maxRecDepth 100000 in
theorem t179_0 : ∀ q ∈ k179_0, lk q.1 (cdt 179) = some q.2 := by decide +kernel
set_option maxRecDepth 100000 in
theorem t180_0 : ∀ q ∈ k180_0, lk q.1 (cdt 180) = some q.2 := by decide +kernel
set_option maxRecDepth 100000 in
theorem t181_0 : ∀ q ∈ k181_0, lk q.1 (cdt 181) = some q.2 := by decide +kernel
set_option maxRecDepth 100000 in
theorem t182_0 : ∀ q ∈ k182_0, lk q.1 (cdt 182) = some q.2 := by decide +kernel
set_option maxRecDepth 100000 in
theorem t182_1 : ∀ q ∈ k182_1, lk q.1 (cdt 182) = some q.2 := by decide +kernel
set_option maxRecDepth 100000 in
theorem t182_2 : ∀ q ∈ k182_2, lk q.1 (cdt 182) = some q.2 := by decide +kernel
set_option maxRecDepth 100000 in
theorem t183_0 : ∀ q ∈ k183_0, lk q.1 (cdt 183) = some q.2 := by decide +kernel
set_option maxRecDepth 100000 in
theorem t184_0 : ∀ q ∈ k184_0, lk q.1 (cdt 184) = some q.2 := by decide +kernel
set_option maxRecDepth 100000 in
theorem t185_0 : ∀ q ∈ k185_0, lk q.1 (cdt 185) = some q.2 := by decide +kernel
set_option maxRecDepth 100000 in
theorem t185_1 : ∀ q ∈ k185_1, lk q.1 (cdt 185) = some q.2 := by decide +kernel
set_option maxRecDepth 100000 in
theorem t185_2 : ∀ q ∈ k185_2, lk q.1 (cdt 185) = some q.2 := by decide +kernel
set_option maxRecDepth 100000 in
theorem t186_0 : ∀ q ∈ k186_0, lk q.1 (cdt 186) = some q.2 := by decide +kernel
set_option maxRecDepth 100000 in
theorem t187_0 : ∀ q ∈ k187_0, lk q.1 (cdt 187) = some q.2 := by decide +kernel
set_option maxRecDepth 100000 in
theorem t188_0 : ∀ q ∈ k188_0, lk q.1 (cdt 188) = some q.2 := by decide +kernel
set_option maxRecDepth 100000 in
theorem t189_0 : ∀ q ∈ k189_0, lk q.1 (cdt 189) = some q.2 := by decide +kernel
set_option maxRecDepth 100000 in
theorem t190_0 : ∀ q ∈ k190_0, lk q.1 (cdt 190) = some q.2 := by decide +kernel
set_option maxRecDepth 100000 in
theorem t191_0 : ∀ q ∈ k191_0, lk q.1 (cdt 191) = some q.2 := by decide +kernel
set_option maxRecDepth 100000 in
theorem t191_1 : ∀ q ∈ k191_1, lk q.1 (cdt 191) = some q.2 := by decide +kernel
set_option maxRecDepth 100000 in
theorem t192_0 : ∀ q ∈ k192_0, lk q.1 (cdt 192) = some q.2 := by decide +kernel
set_option maxRecDepth 100000 in
theorem t193_0 : ∀ q ∈ k193_0, lk q.1 (cdt 193) = some q.2 := by decide +kernel
set_option maxRecDepth 100000 in
theorem t194_0 : ∀ q ∈ k194_0, lk q.1 (cdt 194) = some q.2 := by decide +kernel
set_option maxRecDepth 100000 in
theorem t195_0 : ∀ q ∈ k195_0, lk q.1 (cdt 195) = some q.2 := by decide +kernel
set_option maxRecDepth 100000 in
theorem t195_1 : ∀ q ∈ k195_1, lk q.1 (cdt 195) = some q.2 := by decide +kernel
set_option maxRecDepth 100000 in
theorem t196_0 : ∀ q ∈ k196_0, lk q.1 (cdt 196) = some q.2 := by decide +kernel
set_option maxRecDepth 100000 in
theorem t196_1 : ∀ q ∈ k196_1, lk q.1 (cdt 196) = some q.2 := by decide +kernel
set_option maxRecDepth 100000 in
theorem t196_2 : ∀ q ∈ k196_2, lk q.1 (cdt 196) = some q.2 := by decide +kernel
set_option maxRecDepth 100000 in
theorem t197_0 : ∀ q ∈ k197_0, lk q.1 (cdt 197) = some q.2 := by decide +kernel
set_option maxRecDepth 100000 in
theorem t198_0 : ∀ q ∈ k198_0, lk q.1 (cdt 198) = some q.2 := by decide +kernel
set_option maxRecDepth 100000 in
theorem t199_0 : ∀ q ∈ k199_0, lk q.1 (cdt 199) = some q.2 := by decide +kernel
set_option maxRecDepth 100000 in
theorem t200_0 : ∀ q ∈ k200_0, lk q.1 (cdt 200) = some q.2 := by decide +kernel
set_option maxRecDepth 100000 in
theorem t200_1 : ∀ q ∈ k200_1, lk q.1 (cdt 200) = some q.2 := by decide +kernel
set_option maxRecDepth 100000 in
theorem t200_2 : ∀ q ∈ k200_2, lk q.1 (cdt 200) = some q.2 := by decide +kernel
set_option maxRecDepth 100000 in
theorem t200_3 : ∀ q ∈ k200_3, lk q.1 (cdt 200) = some q.2 := by decide +kernel
set_option maxRecDepth 100000 in
theorem t200_4 : ∀ q ∈ k200_4, lk q.1 (cdt 200) = some q.2 := by decide +kernel
set_option maxRecDepth 100000 in
theorem t200_5 : ∀ q ∈ k200_5, lk q.1 (cdt 200) = some q.2 := by decide +kernel
set_option maxRecDepth 100000 in
theorem t200_6 : ∀ q ∈ k200_6, lk q.1 (cdt 200) = some q.2 := by decide +kernel
set_option maxRecDepth 100000 in
theorem t200_7 : ∀ q ∈ k200_7, lk q.1 (cdt 200) = some q.2 := by decide +kernel
set_option maxRecDepth 100000 in
theorem t201_0 : ∀ q ∈ k201_0, lk q.1 (cdt 201) = some q.2 := by decide +kernel
set_option maxRecDepth 100000 in
theorem t201_1 : ∀ q ∈ k201_1, lk q.1 (cdt 201) = some q.2 := by decide +kernel
set_option maxRecDepth 100000 in
theorem t201_2 : ∀ q ∈ k201_2, lk q.1 (cdt 201) = some q.2 := by decide +kernel
set_option maxRecDepth 100000 in
theorem t202_0 : ∀ q ∈ k202_0, lk q.1 (cdt 202) = some q.2 := by decide +kernel
set_option maxRecDepth 100000 in
theorem t202_1 : ∀ q ∈ k202_1, lk q.1 (cdt 202) = some q.2 := by decide +kernel
set_option maxRecDepth 100000 in
theorem t202_2 : ∀ q ∈ k202_2, lk q.1 (cdt 202) = some q.2 := by decide +kernel
set_option maxRecDepth 100000 in
theorem t203_0 : ∀ q ∈ k203_0, lk q.1 (cdt 203) = some q.2 := by decide +kernel
set_option maxRecDepth 100000 in
theorem t204_0 : ∀ q ∈ k204_0, lk q.1 (cdt 204) = some q.2 := by decide +kernel
set_option maxRecDepth 100000 in
theorem t204_1 : ∀ q ∈ k204_1, lk q.1 (cdt 204) = some q.2 := by decide +kernel
set_option maxRecDepth 100000 in
theorem t204_2 : ∀ q ∈ k204_2, lk q.1 (cdt 204) = some q.2 := by decide +kernel
set_option maxRecDepth 100000 in
theorem t204_3 : ∀ q ∈ k204_3, lk q.1 (cdt 204) = some q.2 := by decide +kernel
set_option maxRecDepth 100000 in
theorem t205_0 : ∀ q ∈ k205_0, lk q.1 (cdt 205) = some q.2 := by decide +kernel
set_option maxRecDepth 100000 in
theorem t205_1 : ∀ q ∈ k205_1, lk q.1 (cdt 205) = some q.2 := by decide +kernel
set_option maxRecDepth 100000 in
theorem t206_0 : ∀ q ∈ k206_0, lk q.1 (cdt 206) = some q.2 := by decide +kernel
set_option maxRecDepth 100000 in
theorem t207_0 : ∀ q ∈ k207_0, lk q.1 (cdt 207) = some q.2 := by decide +kernel
set_option maxRecDepth 100000 in
theorem t208_0 : ∀ q ∈ k208_0, lk q.1 (cdt 208) = some q.2 := by decide +kernel
set_option maxRecDepth 100000 in
theorem t209_0 : ∀ q ∈ k209_0, lk q.1 (cdt 209) = some q.2 := by decide +kernel
set_option maxRecDepth 100000 in
theorem t210_0 : ∀ q ∈ k210_0, lk q.1 (cdt 210) = some q.2 := by decide +kernel
set_option maxRecDepth 100000 in
theorem t211_0 : ∀ q ∈ k211_0, lk q.1 (cdt 211) = some q.2 := by decide +kernel
set_option maxRecDepth 100000 in
theorem t212_0 : ∀ q ∈ k212_0, lk q.1 (cdt 212) = some q.2 := by decide +kernel
set_option maxRecDepth 100000 in
theorem t213_0 : ∀ q ∈ k213_0, lk q.1 (cdt 213) = some q.2 := by decide +kernel
set_option maxRecDepth 100000 in
theorem t213_1 : ∀ q ∈ k213_1, lk q.1 (cdt 213) = some q.2 := by decide +kernel
set_option maxRecDepth 100000 in
theorem t214_0 : ∀ q ∈ k214_0, lk q.1 (cdt 214) = some q.2 := by decide +kernel
set_option maxRecDepth 100000 in
theorem t214_1 : ∀ q ∈ k214_1, lk q.1 (cdt 214) = some q.2 := by decide +kernel
set_option maxRecDepth 100000 in
theorem t215_0 : ∀ q ∈ k215_0, lk q.1 (cdt 215) = some q.2 := by decide +kernel
set_option maxRecDepth 100000 in
theorem t216_0 : ∀ q ∈ k216_0, lk q.1 (cdt 216) = some q.2 := by decide +kernel
set_option maxRecDepth 100000 in
theorem t217_0 : ∀ q ∈ k217_0, lk q.1 (cdt 217) = some q.2 := by decide +kernel
set_option maxRecDepth 100000 in
theorem t217_1 : ∀ q ∈ k217_1, lk q.1 (cdt 217) = some q.2 := by decide +kernel
set_option maxRecDepth 100000 in
theorem t218_0 : ∀ q ∈ k218_0, lk q.1 (cdt 218) = some q.2 := by decide +kernel
set_option maxRecDepth 100000 in
theorem t219_0 : ∀ q ∈ k219_0, lk q.1 (cdt 219) = some q.2 := by decide +kernel
set_option maxRecDepth 100000 in
theorem t219_1 : ∀ q ∈ k219_1, lk q.1 (cdt 219) = some q.2 := by decide +kernel
set_option maxRecDepth 100000 in
theorem t219_2 : ∀ q ∈ k219_2, lk q.1 (cdt 219) = some q.2 := by decide +kernel
set_option maxRecDepth 100000 in
theorem t220_0 : ∀ q ∈ k220_0, lk q.1 (cdt 220) = some q.2 := by decide +kernel
set_option maxRecDepth 100000 in
theorem t220_1 : ∀ q ∈ k220_1, lk q.1 (cdt 220) = some q.2 := by decide +kernel
set_option maxRecDepth 100000 in
theorem t221_0 : ∀ q ∈ k221_0, lk q.1 (cdt 221) = some q.2 := by decide +kernel
set_option maxRecDepth 100000 in
theorem t222_0 : ∀ q ∈ k222_0, lk q.1 (cdt 222) = some q.2 := by decide +kernel
set_option maxRecDepth 100000 in
theorem t222_1 : ∀ q ∈ k222_1, lk q.1 (cdt 222) = some q.2 := by decide +kernel
set_option maxRecDepth 100000 in
theorem t223_0 : ∀ q ∈ k223_0, lk q.1 (cdt 223) = some q.2 := by decide +kernel
set_option maxRecDepth 100000 in
theorem t224_0 : ∀ q ∈ k224_0, lk q.1 (cdt 224) = some q.2 := by decide +kernel
set_option maxRecDepth 100000 in
theorem t224_1 : ∀ q ∈ k224_1, lk q.1 (cdt 224) = some q.2 := by decide +kernel
set_option maxRecDepth 100000 in
theorem t225_0 : ∀ q ∈ k225_0, lk q.1 (cdt 225) = some q.2 := by decide +kernel
set_option maxRecDepth 100000 in
theorem t225_1 : ∀ q ∈ k225_1, lk q.1 (cdt 225) = some q.2 := by decide +kernel
set_option maxRecDepth 100000 in
theorem t226_0 : ∀ q ∈ k226_0, lk q.1 (cdt 226) = some q.2 := by decide +kernel
set_option maxRecDepth 100000 in
theorem t227_0 : ∀ q ∈ k227_0, lk q.1 (cdt 227) = some q.2 := by decide +kernel
set_option maxRecDepth 100000 in
theorem t227_1 : ∀ q ∈ k227_1, lk q.1 (cdt 227) = some q.2 := by decide +kernel
set_option maxRecDepth 100000 in
theorem t227_2 : ∀ q ∈ k227_2, lk q.1 (cdt 227) = some q.2 := by decide +kernel
set_option maxRecDepth 100000 in
theorem t228_0 : ∀ q ∈ k228_0, lk q.1 (cdt 228) = some q.2 := by decide +kernel
set_option maxRecDepth 100000 in
theorem t228_1 : ∀ q ∈ k228_1, lk q.1 (cdt 228) = some q.2 := by decide +kernel
set_option maxRecDepth 100000 in
theorem t229_0 : ∀ q ∈ k229_0, lk q.1 (cdt 229) = some q.2 := by decide +kernel
set_option maxRecDepth 100000 in
theorem t229_1 : ∀ q ∈ k229_1, lk q.1 (cdt 229) = some q.2 := by decide +kernel
set_option maxRecDepth 100000 in
theorem t230_0 : ∀ q ∈ k230_0, lk q.1 (cdt 230) = some q.2 := by decide +kernel
set_option maxRecDepth 100000 in
theorem t230_1 : ∀ q ∈ k230_1, lk q.1 (cdt 230) = some q.2 := by decide +kernel
set_option maxRecDepth 100000 in
theorem t231_0 : ∀ q ∈ k231_0, lk q.1 (cdt 231) = some q.2 := by decide +kernel
set_option maxRecDepth 100000 in
theorem t231_1 : ∀ q ∈ k231_1, lk q.1 (cdt 231) = some q.2 := by decide +kernel
set_option maxRecDepth 100000 in
theorem t232_0 : ∀ q ∈ k232_0, lk q.1 (cdt 232) = some q.2 := by decide +kernel
set_option maxRecDepth 100000 in
theorem t233_0 : ∀ q ∈ k233_0, lk q.1 (cdt 233) = some q.2 := by decide +kernel
set_option maxRecDepth 100000 in
theorem t234_0 : ∀ q ∈ k234_0, lk q.1 (cdt 234) = some q.2 := by decide +kernel
set_option maxRecDepth 100000 in
theorem t235_0 : ∀ q ∈ k235_0, lk q.1 (cdt 235) = some q.2 := by decide +kernel
set_option maxRecDepth 100000 in
theorem t236_0 : ∀ q ∈ k236_0, lk q.1 (cdt 236) = some q.2 := by decide +kernel
set_option maxRecDepth 100000 in
theorem t237_0 : ∀ q ∈ k237_0, lk q.1 (cdt 237) = some q.2 := by decide +kernel
set_option maxRecDepth 100000 in
theorem t238_0 : ∀ q ∈ k238_0, lk q.1 (cdt 238) = some q.2 := by decide +kernel
set_option maxRecDepth 100000 in
theorem t239_0 : ∀ q ∈ k239_0, lk q.1 (cdt 239) = some q.2 := by decide +kernel
set_option maxRecDepth 100000 in
theorem t240_0 : ∀ q ∈ k240_0, lk q.1 (cdt 240) = some q.2 := by decide +kernel
set_option maxRecDepth 100000 in
theorem t241_0 : ∀ q ∈ k241_0, lk q.1 (cdt 241) = some q.2 := by decide +kernel
set_option maxRecDepth 100000 in
theorem t241_1 : ∀ q ∈ k241_1, lk q.1 (cdt 241) = some q.2 := by decide +kernel
set_option maxRecDepth 100000 in
theorem t242_0 : ∀ q ∈ k242_0, lk q.1 (cdt 242) = some q.2 := by decide +kernel
set_option maxRecDepth 100000 in
theorem t242_1 : ∀ q ∈ k242_1, lk q.1 (cdt 242) = some q.2 := by decide +kernel
set_option maxRecDepth 100000 in
theorem t243_0 : ∀ q ∈ k243_0, lk q.1 (cdt 243) = some q.2 := by decide +kernel
set_option maxRecDepth 100000 in
theorem t243_1 : ∀ q ∈ k243_1, lk q.1 (cdt 243) = some q.2 := by decide +kernel
set_option maxRecDepth 100000 in
theorem t244_0 : ∀ q ∈ k244_0, lk q.1 (cdt 244) = some q.2 := by decide +kernel
set_option maxRecDepth 100000 in
theorem t244_1 : ∀ q ∈ k244_1, lk q.1 (cdt 244) = some q.2 := by decide +kernel
set_option maxRecDepth 100000 in
theorem t244_2 : ∀ q ∈ k244_2, lk q.1 (cdt 244) = some q.2 := by decide +kernel
set_option maxRecDepth 100000 in
theorem t245_0 : ∀ q ∈ k245_0, lk q.1 (cdt 245) = some q.2 := by decide +kernel
set_option maxRecDepth 100000 in
theorem t246_0 : ∀ q ∈ k246_0, lk q.1 (cdt 246) = some q.2 := by decide +kernel
set_option maxRecDepth 100000 in
theorem t247_0 : ∀ q ∈ k247_0, lk q.1 (cdt 247) = some q.2 := by decide +kernel
set_option maxRecDepth 100000 in
theorem t247_1 : ∀ q ∈ k247_1, lk q.1 (cdt 247) = some q.2 := by decide +kernel
set_option maxRecDepth 100000 in
theorem t248_0 : ∀ q ∈ k248_0, lk q.1 (cdt 248) = some q.2 := by decide +kernel
set_option maxRecDepth 100000 in
theorem t249_0 : ∀ q ∈ k249_0, lk q.1 (cdt 249) = some q.2 := by decide +kernel
set_option maxRecDepth 100000 in
theorem t249_1 : ∀ q ∈ k249_1, lk q.1 (cdt 249) = some q.2 := by decide +kernel
set_option maxRecDepth 100000 in
theorem t250_0 : ∀ q ∈ k250_0, lk q.1 (cdt 250) = some q.2 := by decide +kernel
set_option maxRecDepth 100000 in
theorem t251_0 : ∀ q ∈ k251_0, lk q.1 (cdt 251) = some q.2 := by decide +kernel
set_option maxRecDepth 100000 in
theorem t252_0 : ∀ q ∈ k252_0, lk q.1 (cdt 252) = some q.2 := by decide +kernel
set_option maxRecDepth 100000 in
theorem t252_1 : ∀ q ∈ k252_1, lk q.1 (cdt 252) = some q.2 := by decide +kernel
set_option maxRecDepth 100000 in
theorem t253_0 : ∀ q ∈ k253_0, lk q.1 (cdt 253) = some q.2 := by decide +kernel
set_option maxRecDepth 100000 in
theorem t253_1 : ∀ q ∈ k253_1, lk q.1 (cdt 253) = some q.2 := by decide +kernel
set_option maxRecDepth 100000 in
theorem t254_0 : ∀ q ∈ k254_0, lk q.1 (cdt 254) = some q.2 := by decide +kernel
set_option maxRecDepth 100000 in
theorem t254_1 : ∀ q ∈ k254_1, lk q.1 (cdt 254) = some q.2 := by decide +kernel
set_option maxRecDepth 100000 in
theorem t255_0 : ∀ q ∈ k255_0, lk q.1 (cdt 255) = some q.2 := by decide +kernel
set_option maxRecDepth 100000 in
theorem t255_1 : ∀ q ∈ k255_1, lk q.1 (cdt 255) = some q.2 := by decide +kernel
set_option maxRecDepth 100000 in
theorem t256_0 : ∀ q ∈ k256_0, lk q.1 (cdt 256) = some q.2 := by decide +kernel
set_option maxRecDepth 100000 in
theorem t257_0 : ∀ q ∈ k257_0, lk q.1 (cdt 257) = some q.2 := by decide +kernel
set_option maxRecDepth 100000 in
theorem t258_0 : ∀ q ∈ k258_0, lk q.1 (cdt 258) = some q.2 := by decide +kernel
set_option maxRecDepth 100000 in
theorem t259_0 : ∀ q ∈ k259_0, lk q.1 (cdt 259) = some q.2 := by decide +kernel
set_option maxRecDepth 100000 in
theorem t260_0 : ∀ q ∈ k260_0, lk q.1 (cdt 260) = some q.2 := by decide +kernel
set_option maxRecDepth 100000 in
theorem t261_0 : ∀ q ∈ k261_0, lk q.1 (cdt 261) = some q.2 := by decide +kernel
set_option maxRecDepth 100000 in
theorem t261_1 : ∀ q ∈ k261_1, lk q.1 (cdt 261) = some q.2 := by decide +kernel
set_option maxRecDepth 100000 in
theorem t261_2 : ∀ q ∈ k261_2, lk q.1 (cdt 261) = some q.2 := by decide +kernel
set_option maxRecDepth 100000 in
theorem t262_0 : ∀ q ∈ k262_0, lk q.1 (cdt 262) = some q.2 := by decide +kernel
set_option maxRecDepth 100000 in
theorem t263_0 : ∀ q ∈ k263_0, lk q.1 (cdt 263) = some q.2 := by decide +kernel
set_option maxRecDepth 100000 in
theorem t263_1 : ∀ q ∈ k263_1, lk q.1 (cdt 263) = some q.2 := by decide +kernel
set_option maxRecDepth 100000 in
theorem t264_0 : ∀ q ∈ k264_0, lk q.1 (cdt 264) = some q.2 := by decide +kernel
set_option maxRecDepth 100000 in
theorem t265_0 : ∀ q ∈ k265_0, lk q.1 (cdt 265) = some q.2 := by decide +kernel
set_option maxRecDepth 100000 in
theorem t266_0 : ∀ q ∈ k266_0, lk q.1 (cdt 266) = some q.2 := by decide +kernel
set_option maxRecDepth 100000 in
theorem t267_0 : ∀ q ∈ k267_0, lk q.1 (cdt 267) = some q.2 := by decide +kernel
set_option maxRecDepth 100000 in
theorem t268_0 : ∀ q ∈ k268_0, lk q.1 (cdt 268) = some q.2 := by decide +kernel
set_option maxRecDepth 100000 in
theorem t268_1 : ∀ q ∈ k268_1, lk q.1 (cdt 268) = some q.2 := by decide +kernel
set_option maxRecDepth 100000 in
theorem t268_2 : ∀ q ∈ k268_2, lk q.1 (cdt 268) = some q.2 := by decide +kernel
set_option maxRecDepth 100000 in
theorem t268_3 : ∀ q ∈ k268_3, lk q.1 (cdt 268) = some q.2 := by decide +kernel
set_option maxRecDepth 100000 in
theorem t269_0 : ∀ q ∈ k269_0, lk q.1 (cdt 269) = some q.2 := by decide +kernel
set_option maxRecDepth 100000 in
theorem t270_0 : ∀ q ∈ k270_0, lk q.1 (cdt 270) = some q.2 := by decide +kernel
set_option maxRecDepth 100000 in
theorem t271_0 : ∀ q ∈ k271_0, lk q.1 (cdt 271) = some q.2 := by decide +kernel
set_option maxRecDepth 100000 in
theorem t271_1 : ∀ q ∈ k271_1, lk q.1 (cdt 271) = some q.2 := by decide +kernel
set_option maxRecDepth 100000 in
theorem t272_0 : ∀ q ∈ k272_0, lk q.1 (cdt 272) = some q.2 := by decide +kernel
set_option maxRecDepth 100000 in
theorem t272_1 : ∀ q ∈ k272_1, lk q.1 (cdt 272) = some q.2 := by decide +kernel
set_option maxRecDepth 100000 in
theorem t272_2 : ∀ q ∈ k272_2, lk q.1 (cdt 272) = some q.2 := by decide +kernel
set_option maxRecDepth 100000 in
theorem t273_0 : ∀ q ∈ k273_0, lk q.1 (cdt 273) = some q.2 := by decide +kernel
set_option maxRecDepth 100000 in
theorem t274_0 : ∀ q ∈ k274_0, lk q.1 (cdt 274) = some q.2 := by decide +kernel
set_option maxRecDepth 100000 in
theorem t275_0 : ∀ q ∈ k275_0, lk q.1 (cdt 275) = some q.2 := by decide +kernel
set_option maxRecDepth 100000 in
theorem t276_0 : ∀ q ∈ k276_0, lk q.1 (cdt 276) = some q.2 := by decide +kernel
set_option maxRecDepth 100000 in
theorem t276_1 : ∀ q ∈ k276_1, lk q.1 (cdt 276) = some q.2 := by decide +kernel
set_option maxRecDepth 100000 in
theorem t276_2 : ∀ q ∈ k276_2, lk q.1 (cdt 276) = some q.2 := by decide +kernel
set_option maxRecDepth 100000 in
theorem t277_0 : ∀ q ∈ k277_0, lk q.1 (cdt 277) = some q.2 := by decide +kernel
set_option maxRecDepth 100000 in
theorem t277_1 : ∀ q ∈ k277_1, lk q.1 (cdt 277) = some q.2 := by decide +kernel
set_option maxRecDepth 100000 in
theorem t277_2 : ∀ q ∈ k277_2, lk q.1 (cdt 277) = some q.2 := by decide +kernel
set_option maxRecDepth 100000 in
theorem t277_3 : ∀ q ∈ k277_3, lk q.1 (cdt 277) = some q.2 := by decide +kernel
set_option maxRecDepth 100000 in
theorem t278_0 : ∀ q ∈ k278_0, lk q.1 (cdt 278) = some q.2 := by decide +kernel
set_option maxRecDepth 100000 in
theorem t278_1 : ∀ q ∈ k278_1, lk q.1 (cdt 278) = some q.2 := by decide +kernel
set_option maxRecDepth 100000 in
theorem t279_0 : ∀ q ∈ k279_0, lk q.1 (cdt 279) = some q.2 := by decide +kernel
set_option maxRecDepth 100000 in
theorem t280_0 : ∀ q ∈ k280_0, lk q.1 (cdt 280) = some q.2 := by decide +kernel
set_option maxRecDepth 100000 in
theorem t280_1 : ∀ q ∈ k280_1, lk q.1 (cdt 280) = some q.2 := by decide +kernel
set_option maxRecDepth 100000 in
theorem t281_0 : ∀ q ∈ k281_0, lk q.1 (cdt 281) = some q.2 := by decide +kernel
set_option maxRecDepth 100000 in
theorem t282_0 : ∀ q ∈ k282_0, lk q.1 (cdt 282) = some q.2 := by decide +kernel
set_option maxRecDepth 100000 in
theorem t283_0 : ∀ q ∈ k283_0, lk q.1 (cdt 283) = some q.2 := by decide +kernel
set_option maxRecDepth 100000 in
theorem t283_1 : ∀ q ∈ k283_1, lk q.1 (cdt 283) = some q.2 := by decide +kernel
set_option maxRecDepth 100000 in
theorem t283_2 : ∀ q ∈ k283_2, lk q.1 (cdt 283) = some q.2 := by decide +kernel
set_option maxRecDepth 100000 in
theorem t284_0 : ∀ q ∈ k284_0, lk q.1 (cdt 284) = some q.2 := by decide +kernel
set_option maxRecDepth 100000 in
theorem t285_0 : ∀ q ∈ k285_0, lk q.1 (cdt 285) = some q.2 := by decide +kernel
set_option maxRecDepth 100000 in
theorem t286_0 : ∀ q ∈ k286_0, lk q.1 (cdt 286) = some q.2 := by decide +kernel
set_option maxRecDepth 100000 in
theorem t286_1 : ∀ q ∈ k286_1, lk q.1 (cdt 286) = some q.2 := by decide +kernel
set_option maxRecDepth 100000 in
theorem t287_0 : ∀ q ∈ k287_0, lk q.1 (cdt 287) = some q.2 := by decide +kernel
set_option maxRecDepth 100000 in
theorem t287_1 : ∀ q ∈ k287_1, lk q.1 (cdt 287) = some q.2 := by decide +kernel
set_option maxRecDepth 100000 in
theorem t288_0 : ∀ q ∈ k288_0, lk q.1 (cdt 288) = some q.2 := by decide +kernel
set_option maxRecDepth 100000 in
theorem t289_0 : ∀ q ∈ k289_0, lk q.1 (cdt 289) = some q.2 := by decide +kernel
set_option maxRecDepth 100000 in
theorem t289_1 : ∀ q ∈ k289_1, lk q.1 (cdt 289) = some q.2 := by decide +kernel
set_option maxRecDepth 100000 in
theorem t289_2 : ∀ q ∈ k289_2, lk q.1 (cdt 289) = some q.2 := by decide +kernel
set_option maxRecDepth 100000 in
theorem t290_0 : ∀ q ∈ k290_0, lk q.1 (cdt 290) = some q.2 := by decide +kernel
set_option maxRecDepth 100000 in
theorem t290_1 : ∀ q ∈ k290_1, lk q.1 (cdt 290) = some q.2 := by decide +kernel
set_option maxRecDepth 100000 in
theorem t291_0 : ∀ q ∈ k291_0, lk q.1 (cdt 291) = some q.2 := by decide +kernel
set_option maxRecDepth 100000 in
theorem t292_0 : ∀ q ∈ k292_0, lk q.1 (cdt 292) = some q.2 := by decide +kernel
set_option maxRecDepth 100000 in
theorem t293_0 : ∀ q ∈ k293_0, lk q.1 (cdt 293) = some q.2 := by decide +kernel
set_option maxRecDepth 100000 in
theorem t293_1 : ∀ q ∈ k293_1, lk q.1 (cdt 293) = some q.2 := by decide +kernel
set_option maxRecDepth 100000 in
theorem t293_2 : ∀ q ∈ k293_2, lk q.1 (cdt 293) = some q.2 := by decide +kernel
set_option maxRecDepth 100000 in
theorem t294_0 : ∀ q ∈ k294_0, lk q.1 (cdt 294) = some q.2 := by decide +kernel
set_option maxRecDepth 100000 in
theorem t294_1 : ∀ q ∈ k294_1, lk q.1 (cdt 294) = some q.2 := by decide +kernel
set_option maxRecDepth 100000 in
theorem t294_2 : ∀ q ∈ k294_2, lk q.1 (cdt 294) = some q.2 := by decide +kernel
set_option maxRecDepth 100000 in
theorem t295_0 : ∀ q ∈ k295_0, lk q.1 (cdt 295) = some q.2 := by decide +kernel
set_option maxRecDepth 100000 in
theorem t296_0 : ∀ q ∈ k296_0, lk q.1 (cdt 296) = some q.2 := by decide +kernel
set_option maxRecDepth 100000 in
theorem t297_0 : ∀ q ∈ k297_0, lk q.1 (cdt 297) = some q.2 := by decide +kernel
set_option maxRecDepth 100000 in
theorem t298_0 : ∀ q ∈ k298_0, lk q.1 (cdt 298) = some q.2 := by decide +kernel
set_option maxRecDepth 100000 in
theorem t299_0 : ∀ q ∈ k299_0, lk q.1 (cdt 299) = some q.2 := by decide +kernel
set_option maxRecDepth 100000 in
theorem t299_1 : ∀ q ∈ k299_1, lk q.1 (cdt 299) = some q.2 := by decide +kernel
set_option maxRecDepth 100000 in
theorem t300_0 : ∀ q ∈ k300_0, lk q.1 (cdt 300) = some q.2 := by decide +kernel
set_option maxRecDepth 100000 in
theorem t300_1 : ∀ q ∈ k300_1, lk q.1 (cdt 300) = some q.2 := by decide +kernel
set_option maxRecDepth 100000 in
theorem t301_0 : ∀ q ∈ k301_0, lk q.1 (cdt 301) = some q.2 := by decide +kernel
set_option maxRecDepth 100000 in
theorem t301_1 : ∀ q ∈ k301_1, lk q.1 (cdt 301) = some q.2 := by decide +kernel
set_option maxRecDepth 100000 in
theorem t302_0 : ∀ q ∈ k302_0, lk q.1 (cdt 302) = some q.2 := by decide +kernel
set_option maxRecDepth 100000 in
theorem t302_1 : ∀ q ∈ k302_1, lk q.1 (cdt 302) = some q.2 := by decide +kernel
set_option maxRecDepth 100000 in
theorem t303_0 : ∀ q ∈ k303_0, lk q.1 (cdt 303) = some q.2 := by decide +kernel
set_option maxRecDepth 100000 in
theorem t303_1 : ∀ q ∈ k303_1, lk q.1 (cdt 303) = some q.2 := by decide +kernel
set_option maxRecDepth 100000 in
theorem t304_0 : ∀ q ∈ k304_0, lk q.1 (cdt 304) = some q.2 := by decide +kernel
set_option maxRecDepth 100000 in
theorem t304_1 : ∀ q ∈ k304_1, lk q.1 (cdt 304) = some q.2 := by decide +kernel
set_option maxRecDepth 100000 in
theorem t305_0 : ∀ q ∈ k305_0, lk q.1 (cdt 305) = some q.2 := by decide +kernel
set_option maxRecDepth 100000 in
theorem t305_1 : ∀ q ∈ k305_1, lk q.1 (cdt 305) = some q.2 := by decide +kernel
set_option maxRecDepth 100000 in
theorem t306_0 : ∀ q ∈ k306_0, lk q.1 (cdt 306) = some q.2 := by decide +kernel
set_option maxRecDepth 100000 in
theorem t306_1 : ∀ q ∈ k306_1, lk q.1 (cdt 306) = some q.2 := by decide +kernel
set_option maxRecDepth 100000 in
theorem t307_0 : ∀ q ∈ k307_0, lk q.1 (cdt 307) = some q.2 := by decide +kernel
set_option maxRecDepth 100000 in
theorem t308_0 : ∀ q ∈ k308_0, lk q.1 (cdt 308) = some q.2 := by decide +kernel
set_option maxRecDepth 100000 in
theorem t308_1 : ∀ q ∈ k308_1, lk q.1 (cdt 308) = some q.2 := by decide +kernel
set_option maxRecDepth 100000 in
theorem t309_0 : ∀ q ∈ k309_0, lk q.1 (cdt 309) = some q.2 := by decide +kernel
set_option maxRecDepth 100000 in
theorem t309_1 : ∀ q ∈ k309_1, lk q.1 (cdt 309) = some q.2 := by decide +kernel
set_option maxRecDepth 100000 in
theorem t310_0 : ∀ q ∈ k310_0, lk q.1 (cdt 310) = some q.2 := by decide +kernel
set_option maxRecDepth 100000 in
theorem t311_0 : ∀ q ∈ k311_0, lk q.1 (cdt 311) = some q.2 := by decide +kernel
set_option maxRecDepth 100000 in
theorem t312_0 : ∀ q ∈ k312_0, lk q.1 (cdt 312) = some q.2 := by decide +kernel
set_option maxRecDepth 100000 in
theorem t313_0 : ∀ q ∈ k313_0, lk q.1 (cdt 313) = some q.2 := by decide +kernel
set_option maxRecDepth 100000 in
theorem t314_0 : ∀ q ∈ k314_0, lk q.1 (cdt 314) = some q.2 := by decide +kernel
set_option maxRecDepth 100000 in
theorem t315_0 : ∀ q ∈ k315_0, lk q.1 (cdt 315) = some q.2 := by decide +kernel
set_option maxRecDepth 100000 in
theorem t316_0 : ∀ q ∈ k316_0, lk q.1 (cdt 316) = some q.2 := by decide +kernel
set_option maxRecDepth 100000 in
theorem t317_0 : ∀ q ∈ k317_0, lk q.1 (cdt 317) = some q.2 := by decide +kernel
set_option maxRecDepth 100000 in
theorem t318_0 : ∀ q ∈ k318_0, lk q.1 (cdt 318) = some q.2 := by decide +kernel
set_option maxRecDepth 100000 in
theorem t319_0 : ∀ q ∈ k319_0, lk q.1 (cdt 319) = some q.2 := by decide +kernel
set_option maxRecDepth 100000 in
theorem t320_0 : ∀ q ∈ k320_0, lk q.1 (cdt 320) = some q.2 := by decide +kernel
set_option maxRecDepth 100000 in
theorem t321_0 : ∀ q ∈ k321_0, lk q.1 (cdt 321) = some q.2 := by decide +kernel
set_option maxRecDepth 100000 in
theorem t322_0 : ∀ q ∈ k322_0, lk q.1 (cdt 322) = some q.2 := by decide +kernel
set_option maxRecDepth 100000 in
theorem t323_0 : ∀ q ∈ k323_0, lk q.1 (cdt 323) = some q.2 := by decide +kernel
set_option maxRecDepth 100000 in
theorem t323_1 : ∀ q ∈ k323_1, lk q.1 (cdt 323) = some q.2 := by decide +kernel
set_option maxRecDepth 100000 in
theorem t323_2 : ∀ q ∈ k323_2, lk q.1 (cdt 323) = some q.2 := by decide +kernel
set_option maxRecDepth 100000 in
theorem t323_3 : ∀ q ∈ k323_3, lk q.1 (cdt 323) = some q.2 := by decide +kernel
set_option maxRecDepth 100000 in
theorem t323_4 : ∀ q ∈ k323_4, lk q.1 (cdt 323) = some q.2 := by decide +kernel
set_option maxRecDepth 100000 in
theorem t323_5 : ∀ q ∈ k323_5, lk q.1 (cdt 323) = some q.2 := by decide +kernel
set_option maxRecDepth 100000 in
theorem t323_6 : ∀ q ∈ k323_6, lk q.1 (cdt 323) = some q.2 := by decide +kernel
set_option maxRecDepth 100000 in
theorem t323_7 : ∀ q ∈ k323_7, lk q.1 (cdt 323) = some q.2 := by decide +kernel
set_option maxRecDepth 100000 in
theorem t323_8 : ∀ q ∈ k323_8, lk q.1 (cdt 323) = some q.2 := by decide +kernel
set_option maxRecDepth 100000 in
theorem t323_9 : ∀ q ∈ k323_9, lk q.1 (cdt 323) = some q.2 := by decide +kernel
set_option maxRecDepth 100000 in
theorem t323_10 : ∀ q ∈ k323_10, lk q.1 (cdt 323) = some q.2 := by decide +kernel
set_option maxRecDepth 100000 in
theorem t323_11 : ∀ q ∈ k323_11, lk q.1 (cdt 323) = some q.2 := by decide +kernel
set_option maxRecDepth 100000 in
theorem t323_12 : ∀ q ∈ k323_12, lk q.1 (cdt 323) = some q.2 := by decide +kernel
set_option maxRecDepth 100000 in
theorem t323_13 : ∀ q ∈ k323_13, lk q.1 (cdt 323) = some q.2 := by decide +kernel
set_option maxRecDepth 100000 in
theorem t323_14 : ∀ q ∈ k323_14, lk q.1 (cdt 323) = some q.2 := by decide +kernel
set_option maxRecDepth 100000 in
theorem t323_15 : ∀ q ∈ k323_15, lk q.1 (cdt 323) = some q.2 := by decide +kernel
set_option maxRecDepth 100000 in
theorem t323_16 : ∀ q ∈ k323_16, lk q.1 (cdt 323) = some q.2 := by decide +kernel
set_option maxRecDepth 100000 in
theorem t323_17 : ∀ q ∈ k323_17, lk q.1 (cdt 323) = some q.2 := by decide +kernel
set_option maxRecDepth 100000 in
theorem t323_18 : ∀ q ∈ k323_18, lk q.1 (cdt 323) = some q.2 := by decide +kernel
set_option maxRecDepth 100000 in
theorem t323_19 : ∀ q ∈ k323_19, lk q.1 (cdt 323) = some q.2 := by decide +kernel
set_option maxRecDepth 100000 in
theorem t323_20 : ∀ q ∈ k323_20, lk q.1 (cdt 323) = some q.2 := by decide +kernel
set_option maxRecDepth 100000 in
theorem t323_21 : ∀ q ∈ k323_21, lk q.1 (cdt 323) = some q.2 := by decide +kernel
set_option maxRecDepth 100000 in
theorem t323_22 : ∀ q ∈ k323_22, lk q.1 (cdt 323) = some q.2 := by decide +kernel
set_option maxRecDepth 100000 in
theorem t323_23 : ∀ q ∈ k323_23, lk q.1 (cdt 323) = some q.2 := by decide +kernel
set_option maxRecDepth 100000 in
theorem t323_24 : ∀ q ∈ k323_24, lk q.1 (cdt 323) = some q.2 := by decide +kernel
set_option maxRecDepth 100000 in
theorem t323_25 : ∀ q ∈ k323_25, lk q.1 (cdt 323) = some q.2 := by decide +kernel
set_option maxRecDepth 100000 in
theorem t323_26 : ∀ q ∈ k323_26, lk q.1 (cdt 323) = some q.2 := by decide +kernel
set_option maxRecDepth 100000 in
theorem t323_27 : ∀ q ∈ k323_27, lk q.1 (cdt 323) = some q.2 := by decide +kernel
set_option maxRecDepth 100000 in
theorem t323_28 : ∀ q ∈ k323_28, lk q.1 (cdt 323) = some q.2 := by decide +kernel
set_option maxRecDepth 100000 in
theorem t323_29 : ∀ q ∈ k323_29, lk q.1 (cdt 323) = some q.2 := by decide +kernel
set_option maxRecDepth 100000 in
theorem t323_30 : ∀ q ∈ k323_30, lk q.1 (cdt 323) = some q.2 := by decide +kernel
set_option maxRecDepth 100000 in
theorem t323_31 : ∀ q ∈ k323_31, lk q.1 (cdt 323) = some q.2 := by decide +kernel
set_option maxRecDepth 100000 in
theorem t323_32 : ∀ q ∈ k323_32, lk q.1 (cdt 323) = some q.2 := by decide +kernel
set_option maxRecDepth 100000 in
theorem t323_33 : ∀ q ∈ k323_33, lk q.1 (cdt 323) = some q.2 := by decide +kernel
set_option maxRecDepth 100000 in
theorem t323_34 : ∀ q ∈ k323_34, lk q.1 (cdt 323) = some q.2 := by decide +kernel
set_option maxRecDepth 100000 in
theorem t323_35 : ∀ q ∈ k323_35, lk q.1 (cdt 323) = some q.2 := by decide +kernel
set_option maxRecDepth 100000 in
theorem t323_36 : ∀ q ∈ k323_36, lk q.1 (cdt 323) = some q.2 := by decide +kernel
set_option maxRecDepth 100000 in
theorem t323_37 : ∀ q ∈ k323_37, lk q.1 (cdt 323) = some q.2 := by decide +kernel
set_option maxRecDepth 100000 in
theorem t323_38 : ∀ q ∈ k323_38, lk q.1 (cdt 323) = some q.2 := by decide +kernel
set_option maxRecDepth 100000 in
theorem t323_39 : ∀ q ∈ k323_39, lk q.1 (cdt 323) = some q.2 := by decide +kernel
set_option maxRecDepth 100000 in
theorem t323_40 : ∀ q ∈ k323_40, lk q.1 (cdt 323) = some q.2 := by decide +kernel
set_option maxRecDepth 100000 in
theorem t323_41 : ∀ q ∈ k323_41, lk q.1 (cdt 323) = some q.2 := by decide +kernel
set_option maxRecDepth 100000 in
theorem t323_42 : ∀ q ∈ k323_42, lk q.1 (cdt 323) = some q.2 := by decide +kernel
set_option maxRecDepth 100000 in
theorem t323_43 : ∀ q ∈ k323_43, lk q.1 (cdt 323) = some q.2 := by decide +kernel
set_option maxRecDepth 100000 in
theorem t323_44 : ∀ q ∈ k323_44, lk q.1 (cdt 323) = some q.2 := by decide +kernel
set_option maxRecDepth 100000 in
theorem t323_45 : ∀ q ∈ k323_45, lk q.1 (cdt 323) = some q.2 := by decide +kernel
set_option maxRecDepth 100000 in
theorem t323_46 : ∀ q ∈ k323_46, lk q.1 (cdt 323) = some q.2 := by decide +kernel
set_option maxRecDepth 100000 in
theorem t323_47 : ∀ q ∈ k323_47, lk q.1 (cdt 323) = some q.2 := by decide +kernel
set_option maxRecDepth 100000 in
theorem t323_48 : ∀ q ∈ k323_48, lk q.1 (cdt 323) = some q.2 := by decide +kernel
set_option maxRecDepth 100000 in
theorem t323_49 : ∀ q ∈ k323_49, lk q.1 (cdt 323) = some q.2 := by decide +kernel
set_option maxRecDepth 100000 in
theorem t323_50 : ∀ q ∈ k323_50, lk q.1 (cdt 323) = some q.2 := by decide +kernel
set_option maxRecDepth 100000 in
theorem t323_51 : ∀ q ∈ k323_51, lk q.1 (cdt 323) = some q.2 := by decide +kernel
set_option maxRecDepth 100000 in
theorem t323_52 : ∀ q ∈ k323_52, lk q.1 (cdt 323) = some q.2 := by decide +kernel
set_option maxRecDepth 100000 in
theorem t323_53 : ∀ q ∈ k323_53, lk q.1 (cdt 323) = some q.2 := by decide +kernel
set_option maxRecDepth 100000 in
theorem t323_54 : ∀ q ∈ k323_54, lk q.1 (cdt 323) = some q.2 := by decide +kernel
