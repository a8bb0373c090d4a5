/-! THE CHECKS, place by place: 3 -/
set_option maxRecDepth 100000 in
theorem ck244_0 : ∀ q ∈ k244_0, ck 244 q = true := by decide +kernel
set_option maxRecDepth 100000 in
theorem ck244_1 : ∀ q ∈ k244_1, ck 244 q = true := by decide +kernel
set_option maxRecDepth 100000 in
theorem ck244_2 : ∀ q ∈ k244_2, ck 244 q = true := by decide +kernel
theorem ck244 : ∀ q ∈ k244, ck 244 q = true := List.forall_mem_append.mpr ⟨ck244_0, List.forall_mem_append.mpr ⟨ck244_1, ck244_2⟩⟩
set_option maxRecDepth 100000 in
theorem ck245_0 : ∀ q ∈ k245_0, ck 245 q = true := by decide +kernel
theorem ck245 : ∀ q ∈ k245, ck 245 q = true := ck245_0
set_option maxRecDepth 100000 in
theorem ck246_0 : ∀ q ∈ k246_0, ck 246 q = true := by decide +kernel
theorem ck246 : ∀ q ∈ k246, ck 246 q = true := ck246_0
set_option maxRecDepth 100000 in
theorem ck247_0 : ∀ q ∈ k247_0, ck 247 q = true := by decide +kernel
set_option maxRecDepth 100000 in
theorem ck247_1 : ∀ q ∈ k247_1, ck 247 q = true := by decide +kernel
theorem ck247 : ∀ q ∈ k247, ck 247 q = true := List.forall_mem_append.mpr ⟨ck247_0, ck247_1⟩
set_option maxRecDepth 100000 in
theorem ck248_0 : ∀ q ∈ k248_0, ck 248 q = true := by decide +kernel
theorem ck248 : ∀ q ∈ k248, ck 248 q = true := ck248_0
set_option maxRecDepth 100000 in
theorem ck249_0 : ∀ q ∈ k249_0, ck 249 q = true := by decide +kernel
set_option maxRecDepth 100000 in
theorem ck249_1 : ∀ q ∈ k249_1, ck 249 q = true := by decide +kernel
theorem ck249 : ∀ q ∈ k249, ck 249 q = true := List.forall_mem_append.mpr ⟨ck249_0, ck249_1⟩
set_option maxRecDepth 100000 in
theorem ck250_0 : ∀ q ∈ k250_0, ck 250 q = true := by decide +kernel
theorem ck250 : ∀ q ∈ k250, ck 250 q = true := ck250_0
set_option maxRecDepth 100000 in
theorem ck251_0 : ∀ q ∈ k251_0, ck 251 q = true := by decide +kernel
theorem ck251 : ∀ q ∈ k251, ck 251 q = true := ck251_0
set_option maxRecDepth 100000 in
theorem ck252_0 : ∀ q ∈ k252_0, ck 252 q = true := by decide +kernel
set_option maxRecDepth 100000 in
theorem ck252_1 : ∀ q ∈ k252_1, ck 252 q = true := by decide +kernel
theorem ck252 : ∀ q ∈ k252, ck 252 q = true := List.forall_mem_append.mpr ⟨ck252_0, ck252_1⟩
set_option maxRecDepth 100000 in
theorem ck253_0 : ∀ q ∈ k253_0, ck 253 q = true := by decide +kernel
set_option maxRecDepth 100000 in
theorem ck253_1 : ∀ q ∈ k253_1, ck 253 q = true := by decide +kernel
theorem ck253 : ∀ q ∈ k253, ck 253 q = true := List.forall_mem_append.mpr ⟨ck253_0, ck253_1⟩
set_option maxRecDepth 100000 in
theorem ck254_0 : ∀ q ∈ k254_0, ck 254 q = true := by decide +kernel
set_option maxRecDepth 100000 in
theorem ck254_1 : ∀ q ∈ k254_1, ck 254 q = true := by decide +kernel
theorem ck254 : ∀ q ∈ k254, ck 254 q = true := List.forall_mem_append.mpr ⟨ck254_0, ck254_1⟩
set_option maxRecDepth 100000 in
theorem ck255_0 : ∀ q ∈ k255_0, ck 255 q = true := by decide +kernel
set_option maxRecDepth 100000 in
theorem ck255_1 : ∀ q ∈ k255_1, ck 255 q = true := by decide +kernel
theorem ck255 : ∀ q ∈ k255, ck 255 q = true := List.forall_mem_append.mpr ⟨ck255_0, ck255_1⟩
set_option maxRecDepth 100000 in
theorem ck256_0 : ∀ q ∈ k256_0, ck 256 q = true := by decide +kernel
theorem ck256 : ∀ q ∈ k256, ck 256 q = true := ck256_0
set_option maxRecDepth 100000 in
theorem ck257_0 : ∀ q ∈ k257_0, ck 257 q = true := by decide +kernel
theorem ck257 : ∀ q ∈ k257, ck 257 q = true := ck257_0
set_option maxRecDepth 100000 in
theorem ck258_0 : ∀ q ∈ k258_0, ck 258 q = true := by decide +kernel
theorem ck258 : ∀ q ∈ k258, ck 258 q = true := ck258_0
set_option maxRecDepth 100000 in
theorem ck259_0 : ∀ q ∈ k259_0, ck 259 q = true := by decide +kernel
theorem ck259 : ∀ q ∈ k259, ck 259 q = true := ck259_0
set_option maxRecDepth 100000 in
theorem ck260_0 : ∀ q ∈ k260_0, ck 260 q = true := by decide +kernel
theorem ck260 : ∀ q ∈ k260, ck 260 q = true := ck260_0
set_option maxRecDepth 100000 in
theorem ck261_0 : ∀ q ∈ k261_0, ck 261 q = true := by decide +kernel
set_option maxRecDepth 100000 in
theorem ck261_1 : ∀ q ∈ k261_1, ck 261 q = true := by decide +kernel
set_option maxRecDepth 100000 in
theorem ck261_2 : ∀ q ∈ k261_2, ck 261 q = true := by decide +kernel
theorem ck261 : ∀ q ∈ k261, ck 261 q = true := List.forall_mem_append.mpr ⟨ck261_0, List.forall_mem_append.mpr ⟨ck261_1, ck261_2⟩⟩
set_option maxRecDepth 100000 in
theorem ck262_0 : ∀ q ∈ k262_0, ck 262 q = true := by decide +kernel
theorem ck262 : ∀ q ∈ k262, ck 262 q = true := ck262_0
set_option maxRecDepth 100000 in
theorem ck263_0 : ∀ q ∈ k263_0, ck 263 q = true := by decide +kernel
set_option maxRecDepth 100000 in
theorem ck263_1 : ∀ q ∈ k263_1, ck 263 q = true := by decide +kernel
theorem ck263 : ∀ q ∈ k263, ck 263 q = true := List.forall_mem_append.mpr ⟨ck263_0, ck263_1⟩
set_option maxRecDepth 100000 in
theorem ck264_0 : ∀ q ∈ k264_0, ck 264 q = true := by decide +kernel
theorem ck264 : ∀ q ∈ k264, ck 264 q = true := ck264_0
set_option maxRecDepth 100000 in
theorem ck265_0 : ∀ q ∈ k265_0, ck 265 q = true := by decide +kernel
theorem ck265 : ∀ q ∈ k265, ck 265 q = true := ck265_0
set_option maxRecDepth 100000 in
theorem ck266_0 : ∀ q ∈ k266_0, ck 266 q = true := by decide +kernel
theorem ck266 : ∀ q ∈ k266, ck 266 q = true := ck266_0
set_option maxRecDepth 100000 in
theorem ck267_0 : ∀ q ∈ k267_0, ck 267 q = true := by decide +kernel
theorem ck267 : ∀ q ∈ k267, ck 267 q = true := ck267_0
set_option maxRecDepth 100000 in
theorem ck268_0 : ∀ q ∈ k268_0, ck 268 q = true := by decide +kernel
set_option maxRecDepth 100000 in
theorem ck268_1 : ∀ q ∈ k268_1, ck 268 q = true := by decide +kernel
set_option maxRecDepth 100000 in
theorem ck268_2 : ∀ q ∈ k268_2, ck 268 q = true := by decide +kernel
set_option maxRecDepth 100000 in
theorem ck268_3 : ∀ q ∈ k268_3, ck 268 q = true := by decide +kernel
theorem ck268 : ∀ q ∈ k268, ck 268 q = true := List.forall_mem_append.mpr ⟨ck268_0, List.forall_mem_append.mpr ⟨ck268_1, List.forall_mem_append.mpr ⟨ck268_2, ck268_3⟩⟩⟩
set_option maxRecDepth 100000 in
theorem ck269_0 : ∀ q ∈ k269_0, ck 269 q = true := by decide +kernel
theorem ck269 : ∀ q ∈ k269, ck 269 q = true := ck269_0
set_option maxRecDepth 100000 in
theorem ck270_0 : ∀ q ∈ k270_0, ck 270 q = true := by decide +kernel
theorem ck270 : ∀ q ∈ k270, ck 270 q = true := ck270_0
set_option maxRecDepth 100000 in
theorem ck271_0 : ∀ q ∈ k271_0, ck 271 q = true := by decide +kernel
set_option maxRecDepth 100000 in
theorem ck271_1 : ∀ q ∈ k271_1, ck 271 q = true := by decide +kernel
theorem ck271 : ∀ q ∈ k271, ck 271 q = true := List.forall_mem_append.mpr ⟨ck271_0, ck271_1⟩
set_option maxRecDepth 100000 in
theorem ck272_0 : ∀ q ∈ k272_0, ck 272 q = true := by decide +kernel
set_option maxRecDepth 100000 in
theorem ck272_1 : ∀ q ∈ k272_1, ck 272 q = true := by decide +kernel
set_option maxRecDepth 100000 in
theorem ck272_2 : ∀ q ∈ k272_2, ck 272 q = true := by decide +kernel
theorem ck272 : ∀ q ∈ k272, ck 272 q = true := List.forall_mem_append.mpr ⟨ck272_0, List.forall_mem_append.mpr ⟨ck272_1, ck272_2⟩⟩
set_option maxRecDepth 100000 in
theorem ck273_0 : ∀ q ∈ k273_0, ck 273 q = true := by decide +kernel
theorem ck273 : ∀ q ∈ k273, ck 273 q = true := ck273_0
set_option maxRecDepth 100000 in
theorem ck274_0 : ∀ q ∈ k274_0, ck 274 q = true := by decide +kernel
theorem ck274 : ∀ q ∈ k274, ck 274 q = true := ck274_0
set_option maxRecDepth 100000 in
theorem ck275_0 : ∀ q ∈ k275_0, ck 275 q = true := by decide +kernel
theorem ck275 : ∀ q ∈ k275, ck 275 q = true := ck275_0
set_option maxRecDepth 100000 in
theorem ck276_0 : ∀ q ∈ k276_0, ck 276 q = true := by decide +kernel
set_option maxRecDepth 100000 in
theorem ck276_1 : ∀ q ∈ k276_1, ck 276 q = true := by decide +kernel
set_option maxRecDepth 100000 in
theorem ck276_2 : ∀ q ∈ k276_2, ck 276 q = true := by decide +kernel
theorem ck276 : ∀ q ∈ k276, ck 276 q = true := List.forall_mem_append.mpr ⟨ck276_0, List.forall_mem_append.mpr ⟨ck276_1, ck276_2⟩⟩
set_option maxRecDepth 100000 in
theorem ck277_0 : ∀ q ∈ k277_0, ck 277 q = true := by decide +kernel
set_option maxRecDepth 100000 in
theorem ck277_1 : ∀ q ∈ k277_1, ck 277 q = true := by decide +kernel
set_option maxRecDepth 100000 in
theorem ck277_2 : ∀ q ∈ k277_2, ck 277 q = true := by decide +kernel
set_option maxRecDepth 100000 in
theorem ck277_3 : ∀ q ∈ k277_3, ck 277 q = true := by decide +kernel
theorem ck277 : ∀ q ∈ k277, ck 277 q = true := List.forall_mem_append.mpr ⟨ck277_0, List.forall_mem_append.mpr ⟨ck277_1, List.forall_mem_append.mpr ⟨ck277_2, ck277_3⟩⟩⟩
set_option maxRecDepth 100000 in
theorem ck278_0 : ∀ q ∈ k278_0, ck 278 q = true := by decide +kernel
set_option maxRecDepth 100000 in
theorem ck278_1 : ∀ q ∈ k278_1, ck 278 q = true := by decide +kernel
theorem ck278 : ∀ q ∈ k278, ck 278 q = true := List.forall_mem_append.mpr ⟨ck278_0, ck278_1⟩
set_option maxRecDepth 100000 in
theorem ck279_0 : ∀ q ∈ k279_0, ck 279 q = true := by decide +kernel
theorem ck279 : ∀ q ∈ k279, ck 279 q = true := ck279_0
set_option maxRecDepth 100000 in
theorem ck280_0 : ∀ q ∈ k280_0, ck 280 q = true := by decide +kernel
set_option maxRecDepth 100000 in
theorem ck280_1 : ∀ q ∈ k280_1, ck 280 q = true := by decide +kernel
theorem ck280 : ∀ q ∈ k280, ck 280 q = true := List.forall_mem_append.mpr ⟨ck280_0, ck280_1⟩
set_option maxRecDepth 100000 in
theorem ck281_0 : ∀ q ∈ k281_0, ck 281 q = true := by decide +kernel
theorem ck281 : ∀ q ∈ k281, ck 281 q = true := ck281_0
set_option maxRecDepth 100000 in
theorem ck282_0 : ∀ q ∈ k282_0, ck 282 q = true := by decide +kernel
theorem ck282 : ∀ q ∈ k282, ck 282 q = true := ck282_0
set_option maxRecDepth 100000 in
theorem ck283_0 : ∀ q ∈ k283_0, ck 283 q = true := by decide +kernel
set_option maxRecDepth 100000 in
theorem ck283_1 : ∀ q ∈ k283_1, ck 283 q = true := by decide +kernel
set_option maxRecDepth 100000 in
theorem ck283_2 : ∀ q ∈ k283_2, ck 283 q = true := by decide +kernel
theorem ck283 : ∀ q ∈ k283, ck 283 q = true := List.forall_mem_append.mpr ⟨ck283_0, List.forall_mem_append.mpr ⟨ck283_1, ck283_2⟩⟩
set_option maxRecDepth 100000 in
theorem ck284_0 : ∀ q ∈ k284_0, ck 284 q = true := by decide +kernel
theorem ck284 : ∀ q ∈ k284, ck 284 q = true := ck284_0
set_option maxRecDepth 100000 in
theorem ck285_0 : ∀ q ∈ k285_0, ck 285 q = true := by decide +kernel
theorem ck285 : ∀ q ∈ k285, ck 285 q = true := ck285_0
set_option maxRecDepth 100000 in
theorem ck286_0 : ∀ q ∈ k286_0, ck 286 q = true := by decide +kernel
set_option maxRecDepth 100000 in
theorem ck286_1 : ∀ q ∈ k286_1, ck 286 q = true := by decide +kernel
theorem ck286 : ∀ q ∈ k286, ck 286 q = true := List.forall_mem_append.mpr ⟨ck286_0, ck286_1⟩
set_option maxRecDepth 100000 in
theorem ck287_0 : ∀ q ∈ k287_0, ck 287 q = true := by decide +kernel
set_option maxRecDepth 100000 in
theorem ck287_1 : ∀ q ∈ k287_1, ck 287 q = true := by decide +kernel
theorem ck287 : ∀ q ∈ k287, ck 287 q = true := List.forall_mem_append.mpr ⟨ck287_0, ck287_1⟩
set_option maxRecDepth 100000 in
theorem ck288_0 : ∀ q ∈ k288_0, ck 288 q = true := by decide +kernel
theorem ck288 : ∀ q ∈ k288, ck 288 q = true := ck288_0
set_option maxRecDepth 100000 in
theorem ck289_0 : ∀ q ∈ k289_0, ck 289 q = true := by decide +kernel
set_option maxRecDepth 100000 in
theorem ck289_1 : ∀ q ∈ k289_1, ck 289 q = true := by decide +kernel
set_option maxRecDepth 100000 in
theorem ck289_2 : ∀ q ∈ k289_2, ck 289 q = true := by decide +kernel
theorem ck289 : ∀ q ∈ k289, ck 289 q = true := List.forall_mem_append.mpr ⟨ck289_0, List.forall_mem_append.mpr ⟨ck289_1, ck289_2⟩⟩
set_option maxRecDepth 100000 in
theorem ck290_0 : ∀ q ∈ k290_0, ck 290 q = true := by decide +kernel
set_option maxRecDepth 100000 in
theorem ck290_1 : ∀ q ∈ k290_1, ck 290 q = true := by decide +kernel
theorem ck290 : ∀ q ∈ k290, ck 290 q = true := List.forall_mem_append.mpr ⟨ck290_0, ck290_1⟩
set_option maxRecDepth 100000 in
theorem ck291_0 : ∀ q ∈ k291_0, ck 291 q = true := by decide +kernel
theorem ck291 : ∀ q ∈ k291, ck 291 q = true := ck291_0
set_option maxRecDepth 100000 in
theorem ck292_0 : ∀ q ∈ k292_0, ck 292 q = true := by decide +kernel
theorem ck292 : ∀ q ∈ k292, ck 292 q = true := ck292_0
set_option maxRecDepth 100000 in
theorem ck293_0 : ∀ q ∈ k293_0, ck 293 q = true := by decide +kernel
set_option maxRecDepth 100000 in
theorem ck293_1 : ∀ q ∈ k293_1, ck 293 q = true := by decide +kernel
set_option maxRecDepth 100000 in
theorem ck293_2 : ∀ q ∈ k293_2, ck 293 q = true := by decide +kernel
theorem ck293 : ∀ q ∈ k293, ck 293 q = true := List.forall_mem_append.mpr ⟨ck293_0, List.forall_mem_append.mpr ⟨ck293_1, ck293_2⟩⟩
set_option maxRecDepth 100000 in
theorem ck294_0 : ∀ q ∈ k294_0, ck 294 q = true := by decide +kernel
set_option maxRecDepth 100000 in
theorem ck294_1 : ∀ q ∈ k294_1, ck 294 q = true := by decide +kernel
set_option maxRecDepth 100000 in
theorem ck294_2 : ∀ q ∈ k294_2, ck 294 q = true := by decide +kernel
theorem ck294 : ∀ q ∈ k294, ck 294 q = true := List.forall_mem_append.mpr ⟨ck294_0, List.forall_mem_append.mpr ⟨ck294_1, ck294_2⟩⟩
set_option maxRecDepth 100000 in
theorem ck295_0 : ∀ q ∈ k295_0, ck 295 q = true := by decide +kernel
theorem ck295 : ∀ q ∈ k295, ck 295 q = true := ck295_0
set_option maxRecDepth 100000 in
theorem ck296_0 : ∀ q ∈ k296_0, ck 296 q = true := by decide +kernel
theorem ck296 : ∀ q ∈ k296, ck 296 q = true := ck296_0
set_option maxRecDepth 100000 in
theorem ck297_0 : ∀ q ∈ k297_0, ck 297 q = true := by decide +kernel
theorem ck297 : ∀ q ∈ k297, ck 297 q = true := ck297_0
set_option maxRecDepth 100000 in
theorem ck298_0 : ∀ q ∈ k298_0, ck 298 q = true := by decide +kernel
theorem ck298 : ∀ q ∈ k298, ck 298 q = true := ck298_0
set_option maxRecDepth 100000 in
theorem ck299_0 : ∀ q ∈ k299_0, ck 299 q = true := by decide +kernel
set_option maxRecDepth 100000 in
theorem ck299_1 : ∀ q ∈ k299_1, ck 299 q = true := by decide +kernel
theorem ck299 : ∀ q ∈ k299, ck 299 q = true := List.forall_mem_append.mpr ⟨ck299_0, ck299_1⟩
set_option maxRecDepth 100000 in
theorem ck300_0 : ∀ q ∈ k300_0, ck 300 q = true := by decide +kernel
set_option maxRecDepth 100000 in
theorem ck300_1 : ∀ q ∈ k300_1, ck 300 q = true := by decide +kernel
theorem ck300 : ∀ q ∈ k300, ck 300 q = true := List.forall_mem_append.mpr ⟨ck300_0, ck300_1⟩
set_option maxRecDepth 100000 in
theorem ck301_0 : ∀ q ∈ k301_0, ck 301 q = true := by decide +kernel
set_option maxRecDepth 100000 in
theorem ck301_1 : ∀ q ∈ k301_1, ck 301 q = true := by decide +kernel
theorem ck301 : ∀ q ∈ k301, ck 301 q = true := List.forall_mem_append.mpr ⟨ck301_0, ck301_1⟩
set_option maxRecDepth 100000 in
theorem ck302_0 : ∀ q ∈ k302_0, ck 302 q = true := by decide +kernel
set_option maxRecDepth 100000 in
theorem ck302_1 : ∀ q ∈ k302_1, ck 302 q = true := by decide +kernel
theorem ck302 : ∀ q ∈ k302, ck 302 q = true := List.forall_mem_append.mpr ⟨ck302_0, ck302_1⟩
set_option maxRecDepth 100000 in
theorem ck303_0 : ∀ q ∈ k303_0, ck 303 q = true := by decide +kernel
set_option maxRecDepth 100000 in
theorem ck303_1 : ∀ q ∈ k303_1, ck 303 q = true := by decide +kernel
theorem ck303 : ∀ q ∈ k303, ck 303 q = true := List.forall_mem_append.mpr ⟨ck303_0, ck303_1⟩
set_option maxRecDepth 100000 in
theorem ck304_0 : ∀ q ∈ k304_0, ck 304 q = true := by decide +kernel
set_option maxRecDepth 100000 in
theorem ck304_1 : ∀ q ∈ k304_1, ck 304 q = true := by decide +kernel
theorem ck304 : ∀ q ∈ k304, ck 304 q = true := List.forall_mem_append.mpr ⟨ck304_0, ck304_1⟩
set_option maxRecDepth 100000 in
theorem ck305_0 : ∀ q ∈ k305_0, ck 305 q = true := by decide +kernel
set_option maxRecDepth 100000 in
theorem ck305_1 : ∀ q ∈ k305_1, ck 305 q = true := by decide +kernel
theorem ck305 : ∀ q ∈ k305, ck 305 q = true := List.forall_mem_append.mpr ⟨ck305_0, ck305_1⟩
set_option maxRecDepth 100000 in
theorem ck306_0 : ∀ q ∈ k306_0, ck 306 q = true := by decide +kernel
set_option maxRecDepth 100000 in
theorem ck306_1 : ∀ q ∈ k306_1, ck 306 q = true := by decide +kernel
theorem ck306 : ∀ q ∈ k306, ck 306 q = true := List.forall_mem_append.mpr ⟨ck306_0, ck306_1⟩
set_option maxRecDepth 100000 in
theorem ck307_0 : ∀ q ∈ k307_0, ck 307 q = true := by decide +kernel
theorem ck307 : ∀ q ∈ k307, ck 307 q = true := ck307_0
set_option maxRecDepth 100000 in
theorem ck308_0 : ∀ q ∈ k308_0, ck 308 q = true := by decide +kernel
set_option maxRecDepth 100000 in
theorem ck308_1 : ∀ q ∈ k308_1, ck 308 q = true := by decide +kernel
theorem ck308 : ∀ q ∈ k308, ck 308 q = true := List.forall_mem_append.mpr ⟨ck308_0, ck308_1⟩
set_option maxRecDepth 100000 in
theorem ck309_0 : ∀ q ∈ k309_0, ck 309 q = true := by decide +kernel
set_option maxRecDepth 100000 in
theorem ck309_1 : ∀ q ∈ k309_1, ck 309 q = true := by decide +kernel
theorem ck309 : ∀ q ∈ k309, ck 309 q = true := List.forall_mem_append.mpr ⟨ck309_0, ck309_1⟩
set_option maxRecDepth 100000 in
theorem ck310_0 : ∀ q ∈ k310_0, ck 310 q = true := by decide +kernel
theorem ck310 : ∀ q ∈ k310, ck 310 q = true := ck310_0
set_option maxRecDepth 100000 in
theorem ck311_0 : ∀ q ∈ k311_0, ck 311 q = true := by decide +kernel
theorem ck311 : ∀ q ∈ k311, ck 311 q = true := ck311_0
set_option maxRecDepth 100000 in
theorem ck312_0 : ∀ q ∈ k312_0, ck 312 q = true := by decide +kernel
theorem ck312 : ∀ q ∈ k312, ck 312 q = true := ck312_0
set_option maxRecDepth 100000 in
theorem ck313_0 : ∀ q ∈ k313_0, ck 313 q = true := by decide +kernel
theorem ck313 : ∀ q ∈ k313, ck 313 q = true := ck313_0
set_option maxRecDepth 100000 in
theorem ck314_0 : ∀ q ∈ k314_0, ck 314 q = true := by decide +kernel
theorem ck314 : ∀ q ∈ k314, ck 314 q = true := ck314_0
set_option maxRecDepth 100000 in
theorem ck315_0 : ∀ q ∈ k315_0, ck 315 q = true := by decide +kernel
theorem ck315 : ∀ q ∈ k315, ck 315 q = true := ck315_0
set_option maxRecDepth 100000 in
theorem ck316_0 : ∀ q ∈ k316_0, ck 316 q = true := by decide +kernel
theorem ck316 : ∀ q ∈ k316, ck 316 q = true := ck316_0
set_option maxRecDepth 100000 in
theorem ck317_0 : ∀ q ∈ k317_0, ck 317 q = true := by decide +kernel
theorem ck317 : ∀ q ∈ k317, ck 317 q = true := ck317_0
set_option maxRecDepth 100000 in
theorem ck318_0 : ∀ q ∈ k318_0, ck 318 q = true := by decide +kernel
theorem ck318 : ∀ q ∈ k318, ck 318 q = true := ck318_0
set_option maxRecDepth 100000 in
theorem ck319_0 : ∀ q ∈ k319_0, ck 319 q = true := by decide +kernel
theorem ck319 : ∀ q ∈ k319, ck 319 q = true := ck319_0
set_option maxRecDepth 100000 in
theorem ck320_0 : ∀ q ∈ k320_0, ck 320 q = true := by decide +kernel
theorem ck320 : ∀ q ∈ k320, ck 320 q = true := ck320_0
set_option maxRecDepth 100000 in
theorem ck321_0 : ∀ q ∈ k321_0, ck 321 q = true := by decide +kernel
theorem ck321 : ∀ q ∈ k321, ck 321 q = true := ck321_0
set_option maxRecDepth 100000 in
theorem ck322_0 : ∀ q ∈ k322_0, ck 322 q = true := by decide +kernel
theorem ck322 : ∀ q ∈ k322, ck 322 q = true := ck322_0
set_option maxRecDepth 100000 in
theorem ck323_0 : ∀ q ∈ k323_0, ck 323 q = true := by decide +kernel
set_option maxRecDepth 100000 in
theorem ck323_1 : ∀ q ∈ k323_1, ck 323 q = true := by decide +kernel
set_option maxRecDepth 100000 in
theorem ck323_2 : ∀ q ∈ k323_2, ck 323 q = true := by decide +kernel
set_option maxRecDepth 100000 in
theorem ck323_3 : ∀ q ∈ k323_3, ck 323 q = true := by decide +kernel
set_option maxRecDepth 100000 in
theorem ck323_4 : ∀ q ∈ k323_4, ck 323 q = true := by decide +kernel
set_option maxRecDepth 100000 in
theorem ck323_5 : ∀ q ∈ k323_5, ck 323 q = true := by decide +kernel
set_option maxRecDepth 100000 in
theorem ck323_6 : ∀ q ∈ k323_6, ck 323 q = true := by decide +kernel
set_option maxRecDepth 100000 in
theorem ck323_7 : ∀ q ∈ k323_7, ck 323 q = true := by decide +kernel
set_option maxRecDepth 100000 in
theorem ck323_8 : ∀ q ∈ k323_8, ck 323 q = true := by decide +kernel
set_option maxRecDepth 100000 in
theorem ck323_9 : ∀ q ∈ k323_9, ck 323 q = true := by decide +kernel
set_option maxRecDepth 100000 in
theorem ck323_10 : ∀ q ∈ k323_10, ck 323 q = true := by decide +kernel
set_option maxRecDepth 100000 in
theorem ck323_11 : ∀ q ∈ k323_11, ck 323 q = true := by decide +kernel
set_option maxRecDepth 100000 in
theorem ck323_12 : ∀ q ∈ k323_12, ck 323 q = true := by decide +kernel
set_option maxRecDepth 100000 in
theorem ck323_13 : ∀ q ∈ k323_13, ck 323 q = true := by decide +kernel
set_option maxRecDepth 100000 in
theorem ck323_14 : ∀ q ∈ k323_14, ck 323 q = true := by decide +kernel
set_option maxRecDepth 100000 in
theorem ck323_15 : ∀ q ∈ k323_15, ck 323 q = true := by decide +kernel
set_option maxRecDepth 100000 in
theorem ck323_16 : ∀ q ∈ k323_16, ck 323 q = true := by decide +kernel
set_option maxRecDepth 100000 in
theorem ck323_17 : ∀ q ∈ k323_17, ck 323 q = true := by decide +kernel
set_option maxRecDepth 100000 in
theorem ck323_18 : ∀ q ∈ k323_18, ck 323 q = true := by decide +kernel
set_option maxRecDepth 100000 in
theorem ck323_19 : ∀ q ∈ k323_19, ck 323 q = true := by decide +kernel
set_option maxRecDepth 100000 in
theorem ck323_20 : ∀ q ∈ k323_20, ck 323 q = true := by decide +kernel
set_option maxRecDepth 100000 in
theorem ck323_21 : ∀ q ∈ k323_21, ck 323 q = true := by decide +kernel
set_option maxRecDepth 100000 in
theorem ck323_22 : ∀ q ∈ k323_22, ck 323 q = true := by decide +kernel
set_option maxRecDepth 100000 in
theorem ck323_23 : ∀ q ∈ k323_23, ck 323 q = true := by decide +kernel
set_option maxRecDepth 100000 in
theorem ck323_24 : ∀ q ∈ k323_24, ck 323 q = true := by decide +kernel
set_option maxRecDepth 100000 in
theorem ck323_25 : ∀ q ∈ k323_25, ck 323 q = true := by decide +kernel
set_option maxRecDepth 100000 in
theorem ck323_26 : ∀ q ∈ k323_26, ck 323 q = true := by decide +kernel
set_option maxRecDepth 100000 in
theorem ck323_27 : ∀ q ∈ k323_27, ck 323 q = true := by decide +kernel
set_option maxRecDepth 100000 in
theorem ck323_28 : ∀ q ∈ k323_28, ck 323 q = true := by decide +kernel
set_option maxRecDepth 100000 in
theorem ck323_29 : ∀ q ∈ k323_29, ck 323 q = true := by decide +kernel
set_option maxRecDepth 100000 in
theorem ck323_30 : ∀ q ∈ k323_30, ck 323 q = true := by decide +kernel
set_option maxRecDepth 100000 in
theorem ck323_31 : ∀ q ∈ k323_31, ck 323 q = true := by decide +kernel
set_option maxRecDepth 100000 in
theorem ck323_32 : ∀ q ∈ k323_32, ck 323 q = true := by decide +kernel
set_option maxRecDepth 100000 in
theorem ck323_33 : ∀ q ∈ k323_33, ck 323 q = true := by decide +kernel
set_option maxRecDepth 100000 in
theorem ck323_34 : ∀ q ∈ k323_34, ck 323 q = true := by decide +kernel
set_option maxRecDepth 100000 in
theorem ck323_35 : ∀ q ∈ k323_35, ck 323 q = true := by decide +kernel
set_option maxRecDepth 100000 in
theorem ck323_36 : ∀ q ∈ k323_36, ck 323 q = true := by decide +kernel
set_option maxRecDepth 100000 in
theorem ck323_37 : ∀ q ∈ k323_37, ck 323 q = true := by decide +kernel
set_option maxRecDepth 100000 in
theorem ck323_38 : ∀ q ∈ k323_38, ck 323 q = true := by decide +kernel
set_option maxRecDepth 100000 in
theorem ck323_39 : ∀ q ∈ k323_39, ck 323 q = true := by decide +kernel
set_option maxRecDepth 100000 in
theorem ck323_40 : ∀ q ∈ k323_40, ck 323 q = true := by decide +kernel
set_option maxRecDepth 100000 in
theorem ck323_41 : ∀ q ∈ k323_41, ck 323 q = true := by decide +kernel
set_option maxRecDepth 100000 in
theorem ck323_42 : ∀ q ∈ k323_42, ck 323 q = true := by decide +kernel
set_option maxRecDepth 100000 in
theorem ck323_43 : ∀ q ∈ k323_43, ck 323 q = true := by decide +kernel
set_option maxRecDepth 100000 in
theorem ck323_44 : ∀ q ∈ k323_44, ck 323 q = true := by decide +kernel
set_option maxRecDepth 100000 in
theorem ck323_45 : ∀ q ∈ k323_45, ck 323 q = true := by decide +kernel
set_option maxRecDepth 100000 in
theorem ck323_46 : ∀ q ∈ k323_46, ck 323 q = true := by decide +kernel
set_option maxRecDepth 100000 in
theorem ck323_47 : ∀ q ∈ k323_47, ck 323 q = true := by decide +kernel
set_option maxRecDepth 100000 in
theorem ck323_48 : ∀ q ∈ k323_48, ck 323 q = true := by decide +kernel
set_option maxRecDepth 100000 in
theorem ck323_49 : ∀ q ∈ k323_49, ck 323 q = true := by decide +kernel
set_option maxRecDepth 100000 in
theorem ck323_50 : ∀ q ∈ k323_50, ck 323 q = true := by decide +kernel
set_option maxRecDepth 100000 in
theorem ck323_51 : ∀ q ∈ k323_51, ck 323 q = true := by decide +kernel
set_option maxRecDepth 100000 in
theorem ck323_52 : ∀ q ∈ k323_52, ck 323 q = true := by decide +kernel
set_option maxRecDepth 100000 in
theorem ck323_53 : ∀ q ∈ k323_53, ck 323 q = true := by decide +kernel
set_option maxRecDepth 100000 in
theorem ck323_54 : ∀ q ∈ k323_54, ck 323 q = true := by decide +kernel
theorem ck323 : ∀ q ∈ k323, ck 323 q = true := List.forall_mem_append.mpr ⟨ck323_0, List.forall_mem_append.mpr ⟨ck323_1, List.forall_mem_append.mpr ⟨ck323_2, List.forall_mem_append.mpr ⟨ck323_3, List.forall_mem_append.mpr ⟨ck323_4, List.forall_mem_append.mpr ⟨ck323_5, List.forall_mem_append.mpr ⟨ck323_6, List.forall_mem_append.mpr ⟨ck323_7, List.forall_mem_append.mpr ⟨ck323_8, List.forall_mem_append.mpr ⟨ck323_9, List.forall_mem_append.mpr ⟨ck323_10, List.forall_mem_append.mpr ⟨ck323_11, List.forall_mem_append.mpr ⟨ck323_12, List.forall_mem_append.mpr ⟨ck323_13, List.forall_mem_append.mpr ⟨ck323_14, List.forall_mem_append.mpr ⟨ck323_15, List.forall_mem_append.mpr ⟨ck323_16, List.forall_mem_append.mpr ⟨ck323_17, List.forall_mem_append.mpr ⟨ck323_18, List.forall_mem_append.mpr ⟨ck323_19, List.forall_mem_append.mpr ⟨ck323_20, List.forall_mem_append.mpr ⟨ck323_21, List.forall_mem_append.mpr ⟨ck323_22, List.forall_mem_append.mpr ⟨ck323_23, List.forall_mem_append.mpr ⟨ck323_24, List.forall_mem_append.mpr ⟨ck323_25, List.forall_mem_append.mpr ⟨ck323_26, List.forall_mem_append.mpr ⟨ck323_27, List.forall_mem_append.mpr ⟨ck323_28, List.forall_mem_append.mpr ⟨ck323_29, List.forall_mem_append.mpr ⟨ck323_30, List.forall_mem_append.mpr ⟨ck323_31, List.forall_mem_append.mpr ⟨ck323_32, List.forall_mem_append.mpr ⟨ck323_33, List.forall_mem_append.mpr ⟨ck323_34, List.forall_mem_append.mpr ⟨ck323_35, List.forall_mem_append.mpr ⟨ck323_36, List.forall_mem_append.mpr ⟨ck323_37, List.forall_mem_append.mpr ⟨ck323_38, List.forall_mem_append.mpr ⟨ck323_39, List.forall_mem_append.mpr ⟨ck323_40, List.forall_mem_append.mpr ⟨ck323_41, List.forall_mem_append.mpr ⟨ck323_42, List.forall_mem_append.mpr ⟨ck323_43, List.forall_mem_append.mpr ⟨ck323_44, List.forall_mem_append.mpr ⟨ck323_45, List.forall_mem_append.mpr ⟨ck323_46, List.forall_mem_append.mpr ⟨ck323_47, List.forall_mem_append.mpr ⟨ck323_48, List.forall_mem_append.mpr ⟨ck323_49, List.forall_mem_append.mpr ⟨ck323_50, List.forall_mem_append.mpr ⟨ck323_51, List.forall_mem_append.mpr ⟨ck323_52, List.forall_mem_append.mpr ⟨ck323_53, ck323_54⟩⟩⟩⟩⟩⟩⟩⟩⟩⟩⟩⟩⟩⟩⟩⟩⟩⟩⟩⟩⟩⟩⟩⟩⟩⟩⟩⟩⟩⟩⟩⟩⟩⟩⟩⟩⟩⟩⟩⟩⟩⟩⟩⟩⟩⟩⟩⟩⟩⟩⟩⟩⟩⟩
def CKP (M : Nat) : Prop := ∀ q ∈ cdt M, ck M q = true
theorem fa_z : ∀ M, M < 0 → CKP M := fun _ h => absurd h (Nat.not_lt_zero _)
theorem fa_s {n : Nat} (h : ∀ M, M < n → CKP M) (h0 : CKP n) : ∀ M, M < n + 1 → CKP M := fun M hM => (Nat.lt_succ_iff_lt_or_eq.mp hM).elim (h M) (fun e => e ▸ h0)
theorem fa_12 : ∀ M, M < 12 → CKP M := fa_s (fa_s (fa_s (fa_s (fa_s (fa_s (fa_s (fa_s (fa_s (fa_s (fa_s (fa_s (fa_z) (show CKP 0 from ck0)) (show CKP 1 from ck1)) (show CKP 2 from ck2)) (show CKP 3 from ck3)) (show CKP 4 from ck4)) (show CKP 5 from ck5)) (show CKP 6 from ck6)) (show CKP 7 from ck7)) (show CKP 8 from ck8)) (show CKP 9 from ck9)) (show CKP 10 from ck10)) (show CKP 11 from ck11)
theorem fa_24 : ∀ M, M < 24 → CKP M := fa_s (fa_s (fa_s (fa_s (fa_s (fa_s (fa_s (fa_s (fa_s (fa_s (fa_s (fa_s (fa_12) (show CKP 12 from ck12)) (show CKP 13 from ck13)) (show CKP 14 from ck14)) (show CKP 15 from ck15)) (show CKP 16 from ck16)) (show CKP 17 from ck17)) (show CKP 18 from ck18)) (show CKP 19 from ck19)) (show CKP 20 from ck20)) (show CKP 21 from ck21)) (show CKP 22 from ck22)) (show CKP 23 from ck23)
theorem fa_36 : ∀ M, M < 36 → CKP M := fa_s (fa_s (fa_s (fa_s (fa_s (fa_s (fa_s (fa_s (fa_s (fa_s (fa_s (fa_s (fa_24) (show CKP 24 from ck24)) (show CKP 25 from ck25)) (show CKP 26 from ck26)) (show CKP 27 from ck27)) (show CKP 28 from ck28)) (show CKP 29 from ck29)) (show CKP 30 from ck30)) (show CKP 31 from ck31)) (show CKP 32 from ck32)) (show CKP 33 from ck33)) (show CKP 34 from ck34)) (show CKP 35 from ck35)
theorem fa_48 : ∀ M, M < 48 → CKP M := fa_s (fa_s (fa_s (fa_s (fa_s (fa_s (fa_s (fa_s (fa_s (fa_s (fa_s (fa_s (fa_36) (show CKP 36 from ck36)) (show CKP 37 from ck37)) (show CKP 38 from ck38)) (show CKP 39 from ck39)) (show CKP 40 from ck40)) (show CKP 41 from ck41)) (show CKP 42 from ck42)) (show CKP 43 from ck43)) (show CKP 44 from ck44)) (show CKP 45 from ck45)) (show CKP 46 from ck46)) (show CKP 47 from ck47)
theorem fa_60 : ∀ M, M < 60 → CKP M := fa_s (fa_s (fa_s (fa_s (fa_s (fa_s (fa_s (fa_s (fa_s (fa_s (fa_s (fa_s (fa_48) (show CKP 48 from ck48)) (show CKP 49 from ck49)) (show CKP 50 from ck50)) (show CKP 51 from ck51)) (show CKP 52 from ck52)) (show CKP 53 from ck53)) (show CKP 54 from ck54)) (show CKP 55 from ck55)) (show CKP 56 from ck56)) (show CKP 57 from ck57)) (show CKP 58 from ck58)) (show CKP 59 from ck59)
theorem fa_72 : ∀ M, M < 72 → CKP M := fa_s (fa_s (fa_s (fa_s (fa_s (fa_s (fa_s (fa_s (fa_s (fa_s (fa_s (fa_s (fa_60) (show CKP 60 from ck60)) (show CKP 61 from ck61)) (show CKP 62 from ck62)) (show CKP 63 from ck63)) (show CKP 64 from ck64)) (show CKP 65 from ck65)) (show CKP 66 from ck66)) (show CKP 67 from ck67)) (show CKP 68 from ck68)) (show CKP 69 from ck69)) (show CKP 70 from ck70)) (show CKP 71 from ck71)
theorem fa_84 : ∀ M, M < 84 → CKP M := fa_s (fa_s (fa_s (fa_s (fa_s (fa_s (fa_s (fa_s (fa_s (fa_s (fa_s (fa_s (fa_72) (show CKP 72 from ck72)) (show CKP 73 from ck73)) (show CKP 74 from ck74)) (show CKP 75 from ck75)) (show CKP 76 from ck76)) (show CKP 77 from ck77)) (show CKP 78 from ck78)) (show CKP 79 from ck79)) (show CKP 80 from ck80)) (show CKP 81 from ck81)) (show CKP 82 from ck82)) (show CKP 83 from ck83)
theorem fa_96 : ∀ M, M < 96 → CKP M := fa_s (fa_s (fa_s (fa_s (fa_s (fa_s (fa_s (fa_s (fa_s (fa_s (fa_s (fa_s (fa_84) (show CKP 84 from ck84)) (show CKP 85 from ck85)) (show CKP 86 from ck86)) (show CKP 87 from ck87)) (show CKP 88 from ck88)) (show CKP 89 from ck89)) (show CKP 90 from ck90)) (show CKP 91 from ck91)) (show CKP 92 from ck92)) (show CKP 93 from ck93)) (show CKP 94 from ck94)) (show CKP 95 from ck95)
theorem fa_108 : ∀ M, M < 108 → CKP M := fa_s (fa_s (fa_s (fa_s (fa_s (fa_s (fa_s (fa_s (fa_s (fa_s (fa_s (fa_s (fa_96) (show CKP 96 from ck96)) (show CKP 97 from ck97)) (show CKP 98 from ck98)) (show CKP 99 from ck99)) (show CKP 100 from ck100)) (show CKP 101 from ck101)) (show CKP 102 from ck102)) (show CKP 103 from ck103)) (show CKP 104 from ck104)) (show CKP 105 from ck105)) (show CKP 106 from ck106)) (show CKP 107 from ck107)
theorem fa_120 : ∀ M, M < 120 → CKP M := fa_s (fa_s (fa_s (fa_s (fa_s (fa_s (fa_s (fa_s (fa_s (fa_s (fa_s (fa_s (fa_108) (show CKP 108 from ck108)) (show CKP 109 from ck109)) (show CKP 110 from ck110)) (show CKP 111 from ck111)) (show CKP 112 from ck112)) (show CKP 113 from ck113)) (show CKP 114 from ck114)) (show CKP 115 from ck115)) (show CKP 116 from ck116)) (show CKP 117 from ck117)) (show CKP 118 from ck118)) (show CKP 119 from ck119)
theorem fa_132 : ∀ M, M < 132 → CKP M := fa_s (fa_s (fa_s (fa_s (fa_s (fa_s (fa_s (fa_s (fa_s (fa_s (fa_s (fa_s (fa_120) (show CKP 120 from ck120)) (show CKP 121 from ck121)) (show CKP 122 from ck122)) (show CKP 123 from ck123)) (show CKP 124 from ck124)) (show CKP 125 from ck125)) (show CKP 126 from ck126)) (show CKP 127 from ck127)) (show CKP 128 from ck128)) (show CKP 129 from ck129)) (show CKP 130 from ck130)) (show CKP 131 from ck131)
theorem fa_144 : ∀ M, M < 144 → CKP M := fa_s (fa_s (fa_s (fa_s (fa_s (fa_s (fa_s (fa_s (fa_s (fa_s (fa_s (fa_s (fa_132) (show CKP 132 from ck132)) (show CKP 133 from ck133)) (show CKP 134 from ck134)) (show CKP 135 from ck135)) (show CKP 136 from ck136)) (show CKP 137 from ck137)) (show CKP 138 from ck138)) (show CKP 139 from ck139)) (show CKP 140 from ck140)) (show CKP 141 from ck141)) (show CKP 142 from ck142)) (show CKP 143 from ck143)
theorem fa_156 : ∀ M, M < 156 → CKP M := fa_s (fa_s (fa_s (fa_s (fa_s (fa_s (fa_s (fa_s (fa_s (fa_s (fa_s (fa_s (fa_144) (show CKP 144 from ck144)) (show CKP 145 from ck145)) (show CKP 146 from ck146)) (show CKP 147 from ck147)) (show CKP 148 from ck148)) (show CKP 149 from ck149)) (show CKP 150 from ck150)) (show CKP 151 from ck151)) (show CKP 152 from ck152)) (show CKP 153 from ck153)) (show CKP 154 from ck154)) (show CKP 155 from ck155)
theorem fa_168 : ∀ M, M < 168 → CKP M := fa_s (fa_s (fa_s (fa_s (fa_s (fa_s (fa_s (fa_s (fa_s (fa_s (fa_s (fa_s (fa_156) (show CKP 156 from ck156)) (show CKP 157 from ck157)) (show CKP 158 from ck158)) (show CKP 159 from ck159)) (show CKP 160 from ck160)) (show CKP 161 from ck161)) (show CKP 162 from ck162)) (show CKP 163 from ck163)) (show CKP 164 from ck164)) (show CKP 165 from ck165)) (show CKP 166 from ck166)) (show CKP 167 from ck167)
theorem fa_180 : ∀ M, M < 180 → CKP M := fa_s (fa_s (fa_s (fa_s (fa_s (fa_s (fa_s (fa_s (fa_s (fa_s (fa_s (fa_s (fa_168) (show CKP 168 from ck168)) (show CKP 169 from ck169)) (show CKP 170 from ck170)) (show CKP 171 from ck171)) (show CKP 172 from ck172)) (show CKP 173 from ck173)) (show CKP 174 from ck174)) (show CKP 175 from ck175)) (show CKP 176 from ck176)) (show CKP 177 from ck177)) (show CKP 178 from ck178)) (show CKP 179 from ck179)
theorem fa_192 : ∀ M, M < 192 → CKP M := fa_s (fa_s (fa_s (fa_s (fa_s (fa_s (fa_s (fa_s (fa_s (fa_s (fa_s (fa_s (fa_180) (show CKP 180 from ck180)) (show CKP 181 from ck181)) (show CKP 182 from ck182)) (show CKP 183 from ck183)) (show CKP 184 from ck184)) (show CKP 185 from ck185)) (show CKP 186 from ck186)) (show CKP 187 from ck187)) (show CKP 188 from ck188)) (show CKP 189 from ck189)) (show CKP 190 from ck190)) (show CKP 191 from ck191)
theorem fa_204 : ∀ M, M < 204 → CKP M := fa_s (fa_s (fa_s (fa_s (fa_s (fa_s (fa_s (fa_s (fa_s (fa_s (fa_s (fa_s (fa_192) (show CKP 192 from ck192)) (show CKP 193 from ck193)) (show CKP 194 from ck194)) (show CKP 195 from ck195)) (show CKP 196 from ck196)) (show CKP 197 from ck197)) (show CKP 198 from ck198)) (show CKP 199 from ck199)) (show CKP 200 from ck200)) (show CKP 201 from ck201)) (show CKP 202 from ck202)) (show CKP 203 from ck203)
theorem fa_216 : ∀ M, M < 216 → CKP M := fa_s (fa_s (fa_s (fa_s (fa_s (fa_s (fa_s (fa_s (fa_s (fa_s (fa_s (fa_s (fa_204) (show CKP 204 from ck204)) (show CKP 205 from ck205)) (show CKP 206 from ck206)) (show CKP 207 from ck207)) (show CKP 208 from ck208)) (show CKP 209 from ck209)) (show CKP 210 from ck210)) (show CKP 211 from ck211)) (show CKP 212 from ck212)) (show CKP 213 from ck213)) (show CKP 214 from ck214)) (show CKP 215 from ck215)
theorem fa_228 : ∀ M, M < 228 → CKP M := fa_s (fa_s (fa_s (fa_s (fa_s (fa_s (fa_s (fa_s (fa_s (fa_s (fa_s (fa_s (fa_216) (show CKP 216 from ck216)) (show CKP 217 from ck217)) (show CKP 218 from ck218)) (show CKP 219 from ck219)) (show CKP 220 from ck220)) (show CKP 221 from ck221)) (show CKP 222 from ck222)) (show CKP 223 from ck223)) (show CKP 224 from ck224)) (show CKP 225 from ck225)) (show CKP 226 from ck226)) (show CKP 227 from ck227)
theorem fa_240 : ∀ M, M < 240 → CKP M := fa_s (fa_s (fa_s (fa_s (fa_s (fa_s (fa_s (fa_s (fa_s (fa_s (fa_s (fa_s (fa_228) (show CKP 228 from ck228)) (show CKP 229 from ck229)) (show CKP 230 from ck230)) (show CKP 231 from ck231)) (show CKP 232 from ck232)) (show CKP 233 from ck233)) (show CKP 234 from ck234)) (show CKP 235 from ck235)) (show CKP 236 from ck236)) (show CKP 237 from ck237)) (show CKP 238 from ck238)) (show CKP 239 from ck239)
theorem fa_252 : ∀ M, M < 252 → CKP M := fa_s (fa_s (fa_s (fa_s (fa_s (fa_s (fa_s (fa_s (fa_s (fa_s (fa_s (fa_s (fa_240) (show CKP 240 from ck240)) (show CKP 241 from ck241)) (show CKP 242 from ck242)) (show CKP 243 from ck243)) (show CKP 244 from ck244)) (show CKP 245 from ck245)) (show CKP 246 from ck246)) (show CKP 247 from ck247)) (show CKP 248 from ck248)) (show CKP 249 from ck249)) (show CKP 250 from ck250)) (show CKP 251 from ck251)
theorem fa_264 : ∀ M, M < 264 → CKP M := fa_s (fa_s (fa_s (fa_s (fa_s (fa_s (fa_s (fa_s (fa_s (fa_s (fa_s (fa_s (fa_252) (show CKP 252 from ck252)) (show CKP 253 from ck253)) (show CKP 254 from ck254)) (show CKP 255 from ck255)) (show CKP 256 from ck256)) (show CKP 257 from ck257)) (show CKP 258 from ck258)) (show CKP 259 from ck259)) (show CKP 260 from ck260)) (show CKP 261 from ck261)) (show CKP 262 from ck262)) (show CKP 263 from ck263)
theorem fa_276 : ∀ M, M < 276 → CKP M := fa_s (fa_s (fa_s (fa_s (fa_s (fa_s (fa_s (fa_s (fa_s (fa_s (fa_s (fa_s (fa_264) (show CKP 264 from ck264)) (show CKP 265 from ck265)) (show CKP 266 from ck266)) (show CKP 267 from ck267)) (show CKP 268 from ck268)) (show CKP 269 from ck269)) (show CKP 270 from ck270)) (show CKP 271 from ck271)) (show CKP 272 from ck272)) (show CKP 273 from ck273)) (show CKP 274 from ck274)) (show CKP 275 from ck275)
theorem fa_288 : ∀ M, M < 288 → CKP M := fa_s (fa_s (fa_s (fa_s (fa_s (fa_s (fa_s (fa_s (fa_s (fa_s (fa_s (fa_s (fa_276) (show CKP 276 from ck276)) (show CKP 277 from ck277)) (show CKP 278 from ck278)) (show CKP 279 from ck279)) (show CKP 280 from ck280)) (show CKP 281 from ck281)) (show CKP 282 from ck282)) (show CKP 283 from ck283)) (show CKP 284 from ck284)) (show CKP 285 from ck285)) (show CKP 286 from ck286)) (show CKP 287 from ck287)
theorem fa_300 : ∀ M, M < 300 → CKP M := fa_s (fa_s (fa_s (fa_s (fa_s (fa_s (fa_s (fa_s (fa_s (fa_s (fa_s (fa_s (fa_288) (show CKP 288 from ck288)) (show CKP 289 from ck289)) (show CKP 290 from ck290)) (show CKP 291 from ck291)) (show CKP 292 from ck292)) (show CKP 293 from ck293)) (show CKP 294 from ck294)) (show CKP 295 from ck295)) (show CKP 296 from ck296)) (show CKP 297 from ck297)) (show CKP 298 from ck298)) (show CKP 299 from ck299)
theorem fa_312 : ∀ M, M < 312 → CKP M := fa_s (fa_s (fa_s (fa_s (fa_s (fa_s (fa_s (fa_s (fa_s (fa_s (fa_s (fa_s (fa_300) (show CKP 300 from ck300)) (show CKP 301 from ck301)) (show CKP 302 from ck302)) (show CKP 303 from ck303)) (show CKP 304 from ck304)) (show CKP 305 from ck305)) (show CKP 306 from ck306)) (show CKP 307 from ck307)) (show CKP 308 from ck308)) (show CKP 309 from ck309)) (show CKP 310 from ck310)) (show CKP 311 from ck311)
theorem fa_324 : ∀ M, M < 324 → CKP M := fa_s (fa_s (fa_s (fa_s (fa_s (fa_s (fa_s (fa_s (fa_s (fa_s (fa_s (fa_s (fa_312) (show CKP 312 from ck312)) (show CKP 313 from ck313)) (show CKP 314 from ck314)) (show CKP 315 from ck315)) (show CKP 316 from ck316)) (show CKP 317 from ck317)) (show CKP 318 from ck318)) (show CKP 319 from ck319)) (show CKP 320 from ck320)) (show CKP 321 from ck321)) (show CKP 322 from ck322)) (show CKP 323 from ck323)
theorem ck_all (M : Nat) (h : M < 324) : ∀ q ∈ cdt M, ck M q = true := fa_324 M h
