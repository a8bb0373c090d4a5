/-! THE CHECKS, place by place: 2 -/
set_option maxRecDepth 100000 in
theorem ck163_0 : ∀ q ∈ k163_0, ck 163 q = true := by decide +kernel
set_option maxRecDepth 100000 in
theorem ck163_1 : ∀ q ∈ k163_1, ck 163 q = true := by decide +kernel
theorem ck163 : ∀ q ∈ k163, ck 163 q = true := List.forall_mem_append.mpr ⟨ck163_0, ck163_1⟩
set_option maxRecDepth 100000 in
theorem ck164_0 : ∀ q ∈ k164_0, ck 164 q = true := by decide +kernel
set_option maxRecDepth 100000 in
theorem ck164_1 : ∀ q ∈ k164_1, ck 164 q = true := by decide +kernel
set_option maxRecDepth 100000 in
theorem ck164_2 : ∀ q ∈ k164_2, ck 164 q = true := by decide +kernel
set_option maxRecDepth 100000 in
theorem ck164_3 : ∀ q ∈ k164_3, ck 164 q = true := by decide +kernel
theorem ck164 : ∀ q ∈ k164, ck 164 q = true := List.forall_mem_append.mpr ⟨ck164_0, List.forall_mem_append.mpr ⟨ck164_1, List.forall_mem_append.mpr ⟨ck164_2, ck164_3⟩⟩⟩
set_option maxRecDepth 100000 in
theorem ck165_0 : ∀ q ∈ k165_0, ck 165 q = true := by decide +kernel
theorem ck165 : ∀ q ∈ k165, ck 165 q = true := ck165_0
set_option maxRecDepth 100000 in
theorem ck166_0 : ∀ q ∈ k166_0, ck 166 q = true := by decide +kernel
theorem ck166 : ∀ q ∈ k166, ck 166 q = true := ck166_0
set_option maxRecDepth 100000 in
theorem ck167_0 : ∀ q ∈ k167_0, ck 167 q = true := by decide +kernel
theorem ck167 : ∀ q ∈ k167, ck 167 q = true := ck167_0
set_option maxRecDepth 100000 in
theorem ck168_0 : ∀ q ∈ k168_0, ck 168 q = true := by decide +kernel
theorem ck168 : ∀ q ∈ k168, ck 168 q = true := ck168_0
set_option maxRecDepth 100000 in
theorem ck169_0 : ∀ q ∈ k169_0, ck 169 q = true := by decide +kernel
theorem ck169 : ∀ q ∈ k169, ck 169 q = true := ck169_0
set_option maxRecDepth 100000 in
theorem ck170_0 : ∀ q ∈ k170_0, ck 170 q = true := by decide +kernel
theorem ck170 : ∀ q ∈ k170, ck 170 q = true := ck170_0
set_option maxRecDepth 100000 in
theorem ck171_0 : ∀ q ∈ k171_0, ck 171 q = true := by decide +kernel
theorem ck171 : ∀ q ∈ k171, ck 171 q = true := ck171_0
set_option maxRecDepth 100000 in
theorem ck172_0 : ∀ q ∈ k172_0, ck 172 q = true := by decide +kernel
theorem ck172 : ∀ q ∈ k172, ck 172 q = true := ck172_0
set_option maxRecDepth 100000 in
theorem ck173_0 : ∀ q ∈ k173_0, ck 173 q = true := by decide +kernel
theorem ck173 : ∀ q ∈ k173, ck 173 q = true := ck173_0
set_option maxRecDepth 100000 in
theorem ck174_0 : ∀ q ∈ k174_0, ck 174 q = true := by decide +kernel
theorem ck174 : ∀ q ∈ k174, ck 174 q = true := ck174_0
set_option maxRecDepth 100000 in
theorem ck175_0 : ∀ q ∈ k175_0, ck 175 q = true := by decide +kernel
theorem ck175 : ∀ q ∈ k175, ck 175 q = true := ck175_0
set_option maxRecDepth 100000 in
theorem ck176_0 : ∀ q ∈ k176_0, ck 176 q = true := by decide +kernel
theorem ck176 : ∀ q ∈ k176, ck 176 q = true := ck176_0
set_option maxRecDepth 100000 in
theorem ck177_0 : ∀ q ∈ k177_0, ck 177 q = true := by decide +kernel
theorem ck177 : ∀ q ∈ k177, ck 177 q = true := ck177_0
set_option maxRecDepth 100000 in
theorem ck178_0 : ∀ q ∈ k178_0, ck 178 q = true := by decide +kernel
set_option maxRecDepth 100000 in
theorem ck178_1 : ∀ q ∈ k178_1, ck 178 q = true := by decide +kernel
set_option maxRecDepth 100000 in
theorem ck178_2 : ∀ q ∈ k178_2, ck 178 q = true := by decide +kernel
set_option maxRecDepth 100000 in
theorem ck178_3 : ∀ q ∈ k178_3, ck 178 q = true := by decide +kernel
set_option maxRecDepth 100000 in
theorem ck178_4 : ∀ q ∈ k178_4, ck 178 q = true := by decide +kernel
theorem ck178 : ∀ q ∈ k178, ck 178 q = true := List.forall_mem_append.mpr ⟨ck178_0, List.forall_mem_append.mpr ⟨ck178_1, List.forall_mem_append.mpr ⟨ck178_2, List.forall_mem_append.mpr ⟨ck178_3, ck178_4⟩⟩⟩⟩
set_option maxRecDepth 100000 in
theorem ck179_0 : ∀ q ∈ k179_0, ck 179 q = true := by decide +kernel
theorem ck179 : ∀ q ∈ k179, ck 179 q = true := ck179_0
set_option maxRecDepth 100000 in
theorem ck180_0 : ∀ q ∈ k180_0, ck 180 q = true := by decide +kernel
theorem ck180 : ∀ q ∈ k180, ck 180 q = true := ck180_0
set_option maxRecDepth 100000 in
theorem ck181_0 : ∀ q ∈ k181_0, ck 181 q = true := by decide +kernel
theorem ck181 : ∀ q ∈ k181, ck 181 q = true := ck181_0
set_option maxRecDepth 100000 in
theorem ck182_0 : ∀ q ∈ k182_0, ck 182 q = true := by decide +kernel
set_option maxRecDepth 100000 in
theorem ck182_1 : ∀ q ∈ k182_1, ck 182 q = true := by decide +kernel
set_option maxRecDepth 100000 in
theorem ck182_2 : ∀ q ∈ k182_2, ck 182 q = true := by decide +kernel
theorem ck182 : ∀ q ∈ k182, ck 182 q = true := List.forall_mem_append.mpr ⟨ck182_0, List.forall_mem_append.mpr ⟨ck182_1, ck182_2⟩⟩
set_option maxRecDepth 100000 in
theorem ck183_0 : ∀ q ∈ k183_0, ck 183 q = true := by decide +kernel
theorem ck183 : ∀ q ∈ k183, ck 183 q = true := ck183_0
set_option maxRecDepth 100000 in
theorem ck184_0 : ∀ q ∈ k184_0, ck 184 q = true := by decide +kernel
theorem ck184 : ∀ q ∈ k184, ck 184 q = true := ck184_0
set_option maxRecDepth 100000 in
theorem ck185_0 : ∀ q ∈ k185_0, ck 185 q = true := by decide +kernel
set_option maxRecDepth 100000 in
theorem ck185_1 : ∀ q ∈ k185_1, ck 185 q = true := by decide +kernel
set_option maxRecDepth 100000 in
theorem ck185_2 : ∀ q ∈ k185_2, ck 185 q = true := by decide +kernel
theorem ck185 : ∀ q ∈ k185, ck 185 q = true := List.forall_mem_append.mpr ⟨ck185_0, List.forall_mem_append.mpr ⟨ck185_1, ck185_2⟩⟩
set_option maxRecDepth 100000 in
theorem ck186_0 : ∀ q ∈ k186_0, ck 186 q = true := by decide +kernel
theorem ck186 : ∀ q ∈ k186, ck 186 q = true := ck186_0
set_option maxRecDepth 100000 in
theorem ck187_0 : ∀ q ∈ k187_0, ck 187 q = true := by decide +kernel
theorem ck187 : ∀ q ∈ k187, ck 187 q = true := ck187_0
set_option maxRecDepth 100000 in
theorem ck188_0 : ∀ q ∈ k188_0, ck 188 q = true := by decide +kernel
theorem ck188 : ∀ q ∈ k188, ck 188 q = true := ck188_0
set_option maxRecDepth 100000 in
theorem ck189_0 : ∀ q ∈ k189_0, ck 189 q = true := by decide +kernel
theorem ck189 : ∀ q ∈ k189, ck 189 q = true := ck189_0
set_option maxRecDepth 100000 in
theorem ck190_0 : ∀ q ∈ k190_0, ck 190 q = true := by decide +kernel
theorem ck190 : ∀ q ∈ k190, ck 190 q = true := ck190_0
set_option maxRecDepth 100000 in
theorem ck191_0 : ∀ q ∈ k191_0, ck 191 q = true := by decide +kernel
set_option maxRecDepth 100000 in
theorem ck191_1 : ∀ q ∈ k191_1, ck 191 q = true := by decide +kernel
theorem ck191 : ∀ q ∈ k191, ck 191 q = true := List.forall_mem_append.mpr ⟨ck191_0, ck191_1⟩
set_option maxRecDepth 100000 in
theorem ck192_0 : ∀ q ∈ k192_0, ck 192 q = true := by decide +kernel
theorem ck192 : ∀ q ∈ k192, ck 192 q = true := ck192_0
set_option maxRecDepth 100000 in
theorem ck193_0 : ∀ q ∈ k193_0, ck 193 q = true := by decide +kernel
theorem ck193 : ∀ q ∈ k193, ck 193 q = true := ck193_0
set_option maxRecDepth 100000 in
theorem ck194_0 : ∀ q ∈ k194_0, ck 194 q = true := by decide +kernel
theorem ck194 : ∀ q ∈ k194, ck 194 q = true := ck194_0
set_option maxRecDepth 100000 in
theorem ck195_0 : ∀ q ∈ k195_0, ck 195 q = true := by decide +kernel
set_option maxRecDepth 100000 in
theorem ck195_1 : ∀ q ∈ k195_1, ck 195 q = true := by decide +kernel
theorem ck195 : ∀ q ∈ k195, ck 195 q = true := List.forall_mem_append.mpr ⟨ck195_0, ck195_1⟩
set_option maxRecDepth 100000 in
theorem ck196_0 : ∀ q ∈ k196_0, ck 196 q = true := by decide +kernel
set_option maxRecDepth 100000 in
theorem ck196_1 : ∀ q ∈ k196_1, ck 196 q = true := by decide +kernel
set_option maxRecDepth 100000 in
theorem ck196_2 : ∀ q ∈ k196_2, ck 196 q = true := by decide +kernel
theorem ck196 : ∀ q ∈ k196, ck 196 q = true := List.forall_mem_append.mpr ⟨ck196_0, List.forall_mem_append.mpr ⟨ck196_1, ck196_2⟩⟩
set_option maxRecDepth 100000 in
theorem ck197_0 : ∀ q ∈ k197_0, ck 197 q = true := by decide +kernel
theorem ck197 : ∀ q ∈ k197, ck 197 q = true := ck197_0
set_option maxRecDepth 100000 in
theorem ck198_0 : ∀ q ∈ k198_0, ck 198 q = true := by decide +kernel
theorem ck198 : ∀ q ∈ k198, ck 198 q = true := ck198_0
set_option maxRecDepth 100000 in
theorem ck199_0 : ∀ q ∈ k199_0, ck 199 q = true := by decide +kernel
theorem ck199 : ∀ q ∈ k199, ck 199 q = true := ck199_0
set_option maxRecDepth 100000 in
theorem ck200_0 : ∀ q ∈ k200_0, ck 200 q = true := by decide +kernel
set_option maxRecDepth 100000 in
theorem ck200_1 : ∀ q ∈ k200_1, ck 200 q = true := by decide +kernel
set_option maxRecDepth 100000 in
theorem ck200_2 : ∀ q ∈ k200_2, ck 200 q = true := by decide +kernel
set_option maxRecDepth 100000 in
theorem ck200_3 : ∀ q ∈ k200_3, ck 200 q = true := by decide +kernel
set_option maxRecDepth 100000 in
theorem ck200_4 : ∀ q ∈ k200_4, ck 200 q = true := by decide +kernel
set_option maxRecDepth 100000 in
theorem ck200_5 : ∀ q ∈ k200_5, ck 200 q = true := by decide +kernel
set_option maxRecDepth 100000 in
theorem ck200_6 : ∀ q ∈ k200_6, ck 200 q = true := by decide +kernel
set_option maxRecDepth 100000 in
theorem ck200_7 : ∀ q ∈ k200_7, ck 200 q = true := by decide +kernel
theorem ck200 : ∀ q ∈ k200, ck 200 q = true := List.forall_mem_append.mpr ⟨ck200_0, List.forall_mem_append.mpr ⟨ck200_1, List.forall_mem_append.mpr ⟨ck200_2, List.forall_mem_append.mpr ⟨ck200_3, List.forall_mem_append.mpr ⟨ck200_4, List.forall_mem_append.mpr ⟨ck200_5, List.forall_mem_append.mpr ⟨ck200_6, ck200_7⟩⟩⟩⟩⟩⟩⟩
set_option maxRecDepth 100000 in
theorem ck201_0 : ∀ q ∈ k201_0, ck 201 q = true := by decide +kernel
set_option maxRecDepth 100000 in
theorem ck201_1 : ∀ q ∈ k201_1, ck 201 q = true := by decide +kernel
set_option maxRecDepth 100000 in
theorem ck201_2 : ∀ q ∈ k201_2, ck 201 q = true := by decide +kernel
theorem ck201 : ∀ q ∈ k201, ck 201 q = true := List.forall_mem_append.mpr ⟨ck201_0, List.forall_mem_append.mpr ⟨ck201_1, ck201_2⟩⟩
set_option maxRecDepth 100000 in
theorem ck202_0 : ∀ q ∈ k202_0, ck 202 q = true := by decide +kernel
set_option maxRecDepth 100000 in
theorem ck202_1 : ∀ q ∈ k202_1, ck 202 q = true := by decide +kernel
set_option maxRecDepth 100000 in
theorem ck202_2 : ∀ q ∈ k202_2, ck 202 q = true := by decide +kernel
theorem ck202 : ∀ q ∈ k202, ck 202 q = true := List.forall_mem_append.mpr ⟨ck202_0, List.forall_mem_append.mpr ⟨ck202_1, ck202_2⟩⟩
set_option maxRecDepth 100000 in
theorem ck203_0 : ∀ q ∈ k203_0, ck 203 q = true := by decide +kernel
theorem ck203 : ∀ q ∈ k203, ck 203 q = true := ck203_0
set_option maxRecDepth 100000 in
theorem ck204_0 : ∀ q ∈ k204_0, ck 204 q = true := by decide +kernel
set_option maxRecDepth 100000 in
theorem ck204_1 : ∀ q ∈ k204_1, ck 204 q = true := by decide +kernel
set_option maxRecDepth 100000 in
theorem ck204_2 : ∀ q ∈ k204_2, ck 204 q = true := by decide +kernel
set_option maxRecDepth 100000 in
theorem ck204_3 : ∀ q ∈ k204_3, ck 204 q = true := by decide +kernel
theorem ck204 : ∀ q ∈ k204, ck 204 q = true := List.forall_mem_append.mpr ⟨ck204_0, List.forall_mem_append.mpr ⟨ck204_1, List.forall_mem_append.mpr ⟨ck204_2, ck204_3⟩⟩⟩
set_option maxRecDepth 100000 in
theorem ck205_0 : ∀ q ∈ k205_0, ck 205 q = true := by decide +kernel
set_option maxRecDepth 100000 in
theorem ck205_1 : ∀ q ∈ k205_1, ck 205 q = true := by decide +kernel
theorem ck205 : ∀ q ∈ k205, ck 205 q = true := List.forall_mem_append.mpr ⟨ck205_0, ck205_1⟩
set_option maxRecDepth 100000 in
theorem ck206_0 : ∀ q ∈ k206_0, ck 206 q = true := by decide +kernel
theorem ck206 : ∀ q ∈ k206, ck 206 q = true := ck206_0
set_option maxRecDepth 100000 in
theorem ck207_0 : ∀ q ∈ k207_0, ck 207 q = true := by decide +kernel
theorem ck207 : ∀ q ∈ k207, ck 207 q = true := ck207_0
set_option maxRecDepth 100000 in
theorem ck208_0 : ∀ q ∈ k208_0, ck 208 q = true := by decide +kernel
theorem ck208 : ∀ q ∈ k208, ck 208 q = true := ck208_0
set_option maxRecDepth 100000 in
theorem ck209_0 : ∀ q ∈ k209_0, ck 209 q = true := by decide +kernel
theorem ck209 : ∀ q ∈ k209, ck 209 q = true := ck209_0
set_option maxRecDepth 100000 in
theorem ck210_0 : ∀ q ∈ k210_0, ck 210 q = true := by decide +kernel
theorem ck210 : ∀ q ∈ k210, ck 210 q = true := ck210_0
set_option maxRecDepth 100000 in
theorem ck211_0 : ∀ q ∈ k211_0, ck 211 q = true := by decide +kernel
theorem ck211 : ∀ q ∈ k211, ck 211 q = true := ck211_0
set_option maxRecDepth 100000 in
theorem ck212_0 : ∀ q ∈ k212_0, ck 212 q = true := by decide +kernel
theorem ck212 : ∀ q ∈ k212, ck 212 q = true := ck212_0
set_option maxRecDepth 100000 in
theorem ck213_0 : ∀ q ∈ k213_0, ck 213 q = true := by decide +kernel
set_option maxRecDepth 100000 in
theorem ck213_1 : ∀ q ∈ k213_1, ck 213 q = true := by decide +kernel
theorem ck213 : ∀ q ∈ k213, ck 213 q = true := List.forall_mem_append.mpr ⟨ck213_0, ck213_1⟩
set_option maxRecDepth 100000 in
theorem ck214_0 : ∀ q ∈ k214_0, ck 214 q = true := by decide +kernel
set_option maxRecDepth 100000 in
theorem ck214_1 : ∀ q ∈ k214_1, ck 214 q = true := by decide +kernel
theorem ck214 : ∀ q ∈ k214, ck 214 q = true := List.forall_mem_append.mpr ⟨ck214_0, ck214_1⟩
set_option maxRecDepth 100000 in
theorem ck215_0 : ∀ q ∈ k215_0, ck 215 q = true := by decide +kernel
theorem ck215 : ∀ q ∈ k215, ck 215 q = true := ck215_0
set_option maxRecDepth 100000 in
theorem ck216_0 : ∀ q ∈ k216_0, ck 216 q = true := by decide +kernel
theorem ck216 : ∀ q ∈ k216, ck 216 q = true := ck216_0
set_option maxRecDepth 100000 in
theorem ck217_0 : ∀ q ∈ k217_0, ck 217 q = true := by decide +kernel
set_option maxRecDepth 100000 in
theorem ck217_1 : ∀ q ∈ k217_1, ck 217 q = true := by decide +kernel
theorem ck217 : ∀ q ∈ k217, ck 217 q = true := List.forall_mem_append.mpr ⟨ck217_0, ck217_1⟩
set_option maxRecDepth 100000 in
theorem ck218_0 : ∀ q ∈ k218_0, ck 218 q = true := by decide +kernel
theorem ck218 : ∀ q ∈ k218, ck 218 q = true := ck218_0
set_option maxRecDepth 100000 in
theorem ck219_0 : ∀ q ∈ k219_0, ck 219 q = true := by decide +kernel
set_option maxRecDepth 100000 in
theorem ck219_1 : ∀ q ∈ k219_1, ck 219 q = true := by decide +kernel
set_option maxRecDepth 100000 in
theorem ck219_2 : ∀ q ∈ k219_2, ck 219 q = true := by decide +kernel
theorem ck219 : ∀ q ∈ k219, ck 219 q = true := List.forall_mem_append.mpr ⟨ck219_0, List.forall_mem_append.mpr ⟨ck219_1, ck219_2⟩⟩
set_option maxRecDepth 100000 in
theorem ck220_0 : ∀ q ∈ k220_0, ck 220 q = true := by decide +kernel
set_option maxRecDepth 100000 in
theorem ck220_1 : ∀ q ∈ k220_1, ck 220 q = true := by decide +kernel
theorem ck220 : ∀ q ∈ k220, ck 220 q = true := List.forall_mem_append.mpr ⟨ck220_0, ck220_1⟩
set_option maxRecDepth 100000 in
theorem ck221_0 : ∀ q ∈ k221_0, ck 221 q = true := by decide +kernel
theorem ck221 : ∀ q ∈ k221, ck 221 q = true := ck221_0
set_option maxRecDepth 100000 in
theorem ck222_0 : ∀ q ∈ k222_0, ck 222 q = true := by decide +kernel
set_option maxRecDepth 100000 in
theorem ck222_1 : ∀ q ∈ k222_1, ck 222 q = true := by decide +kernel
theorem ck222 : ∀ q ∈ k222, ck 222 q = true := List.forall_mem_append.mpr ⟨ck222_0, ck222_1⟩
set_option maxRecDepth 100000 in
theorem ck223_0 : ∀ q ∈ k223_0, ck 223 q = true := by decide +kernel
theorem ck223 : ∀ q ∈ k223, ck 223 q = true := ck223_0
set_option maxRecDepth 100000 in
theorem ck224_0 : ∀ q ∈ k224_0, ck 224 q = true := by decide +kernel
set_option maxRecDepth 100000 in
theorem ck224_1 : ∀ q ∈ k224_1, ck 224 q = true := by decide +kernel
theorem ck224 : ∀ q ∈ k224, ck 224 q = true := List.forall_mem_append.mpr ⟨ck224_0, ck224_1⟩
set_option maxRecDepth 100000 in
theorem ck225_0 : ∀ q ∈ k225_0, ck 225 q = true := by decide +kernel
set_option maxRecDepth 100000 in
theorem ck225_1 : ∀ q ∈ k225_1, ck 225 q = true := by decide +kernel
theorem ck225 : ∀ q ∈ k225, ck 225 q = true := List.forall_mem_append.mpr ⟨ck225_0, ck225_1⟩
set_option maxRecDepth 100000 in
theorem ck226_0 : ∀ q ∈ k226_0, ck 226 q = true := by decide +kernel
theorem ck226 : ∀ q ∈ k226, ck 226 q = true := ck226_0
set_option maxRecDepth 100000 in
theorem ck227_0 : ∀ q ∈ k227_0, ck 227 q = true := by decide +kernel
set_option maxRecDepth 100000 in
theorem ck227_1 : ∀ q ∈ k227_1, ck 227 q = true := by decide +kernel
set_option maxRecDepth 100000 in
theorem ck227_2 : ∀ q ∈ k227_2, ck 227 q = true := by decide +kernel
theorem ck227 : ∀ q ∈ k227, ck 227 q = true := List.forall_mem_append.mpr ⟨ck227_0, List.forall_mem_append.mpr ⟨ck227_1, ck227_2⟩⟩
set_option maxRecDepth 100000 in
theorem ck228_0 : ∀ q ∈ k228_0, ck 228 q = true := by decide +kernel
set_option maxRecDepth 100000 in
theorem ck228_1 : ∀ q ∈ k228_1, ck 228 q = true := by decide +kernel
theorem ck228 : ∀ q ∈ k228, ck 228 q = true := List.forall_mem_append.mpr ⟨ck228_0, ck228_1⟩
set_option maxRecDepth 100000 in
theorem ck229_0 : ∀ q ∈ k229_0, ck 229 q = true := by decide +kernel
set_option maxRecDepth 100000 in
theorem ck229_1 : ∀ q ∈ k229_1, ck 229 q = true := by decide +kernel
theorem ck229 : ∀ q ∈ k229, ck 229 q = true := List.forall_mem_append.mpr ⟨ck229_0, ck229_1⟩
set_option maxRecDepth 100000 in
theorem ck230_0 : ∀ q ∈ k230_0, ck 230 q = true := by decide +kernel
set_option maxRecDepth 100000 in
theorem ck230_1 : ∀ q ∈ k230_1, ck 230 q = true := by decide +kernel
theorem ck230 : ∀ q ∈ k230, ck 230 q = true := List.forall_mem_append.mpr ⟨ck230_0, ck230_1⟩
set_option maxRecDepth 100000 in
theorem ck231_0 : ∀ q ∈ k231_0, ck 231 q = true := by decide +kernel
set_option maxRecDepth 100000 in
theorem ck231_1 : ∀ q ∈ k231_1, ck 231 q = true := by decide +kernel
theorem ck231 : ∀ q ∈ k231, ck 231 q = true := List.forall_mem_append.mpr ⟨ck231_0, ck231_1⟩
set_option maxRecDepth 100000 in
theorem ck232_0 : ∀ q ∈ k232_0, ck 232 q = true := by decide +kernel
theorem ck232 : ∀ q ∈ k232, ck 232 q = true := ck232_0
set_option maxRecDepth 100000 in
theorem ck233_0 : ∀ q ∈ k233_0, ck 233 q = true := by decide +kernel
theorem ck233 : ∀ q ∈ k233, ck 233 q = true := ck233_0
set_option maxRecDepth 100000 in
theorem ck234_0 : ∀ q ∈ k234_0, ck 234 q = true := by decide +kernel
theorem ck234 : ∀ q ∈ k234, ck 234 q = true := ck234_0
set_option maxRecDepth 100000 in
theorem ck235_0 : ∀ q ∈ k235_0, ck 235 q = true := by decide +kernel
theorem ck235 : ∀ q ∈ k235, ck 235 q = true := ck235_0
set_option maxRecDepth 100000 in
theorem ck236_0 : ∀ q ∈ k236_0, ck 236 q = true := by decide +kernel
theorem ck236 : ∀ q ∈ k236, ck 236 q = true := ck236_0
set_option maxRecDepth 100000 in
theorem ck237_0 : ∀ q ∈ k237_0, ck 237 q = true := by decide +kernel
theorem ck237 : ∀ q ∈ k237, ck 237 q = true := ck237_0
set_option maxRecDepth 100000 in
theorem ck238_0 : ∀ q ∈ k238_0, ck 238 q = true := by decide +kernel
theorem ck238 : ∀ q ∈ k238, ck 238 q = true := ck238_0
set_option maxRecDepth 100000 in
theorem ck239_0 : ∀ q ∈ k239_0, ck 239 q = true := by decide +kernel
theorem ck239 : ∀ q ∈ k239, ck 239 q = true := ck239_0
set_option maxRecDepth 100000 in
theorem ck240_0 : ∀ q ∈ k240_0, ck 240 q = true := by decide +kernel
theorem ck240 : ∀ q ∈ k240, ck 240 q = true := ck240_0
set_option maxRecDepth 100000 in
theorem ck241_0 : ∀ q ∈ k241_0, ck 241 q = true := by decide +kernel
set_option maxRecDepth 100000 in
theorem ck241_1 : ∀ q ∈ k241_1, ck 241 q = true := by decide +kernel
theorem ck241 : ∀ q ∈ k241, ck 241 q = true := List.forall_mem_append.mpr ⟨ck241_0, ck241_1⟩
set_option maxRecDepth 100000 in
theorem ck242_0 : ∀ q ∈ k242_0, ck 242 q = true := by decide +kernel
set_option maxRecDepth 100000 in
theorem ck242_1 : ∀ q ∈ k242_1, ck 242 q = true := by decide +kernel
theorem ck242 : ∀ q ∈ k242, ck 242 q = true := List.forall_mem_append.mpr ⟨ck242_0, ck242_1⟩
set_option maxRecDepth 100000 in
theorem ck243_0 : ∀ q ∈ k243_0, ck 243 q = true := by decide +kernel
set_option maxRecDepth 100000 in
theorem ck243_1 : ∀ q ∈ k243_1, ck 243 q = true := by decide +kernel
theorem ck243 : ∀ q ∈ k243, ck 243 q = true := List.forall_mem_append.mpr ⟨ck243_0, ck243_1⟩
