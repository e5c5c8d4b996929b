theorem pn {big : List Cond} : ∀ w ∈ ([] : List Cond), w ∈ big := fun _ h => absurd h List.not_mem_nil
theorem pc {big A rest : List Cond} (hA : ∀ w ∈ A, w ∈ big) (off len : Nat) (h : ∀ w ∈ rest, w ∈ big) : ∀ w ∈ wtake len (wdrop off A) rest, w ∈ big := fun w hw => (wtake_in len _ hw).elim (fun k => hA w (wdrop_in off A k)) (h w)
theorem goodIn_pw {big ws X : List Cond} (hm : ∀ w ∈ X, w ∈ big) (hX : ws = X) (h : ws.all goodWord = true) : GoodIn big ws := fun w hw => ⟨hm w (hX ▸ hw), good_of_word (List.all_eq_true.mp h w hw)⟩
theorem inp0 : ∀ w ∈ k2_sels lw_privs, w ∈ lw_tbl := fun _ h => List.mem_append_left _ (h)
theorem inp1 : ∀ w ∈ tables_1_1, w ∈ lw_tbl := fun _ h => List.mem_append_right _ (List.mem_append_left _ (h))
theorem inp2 : ∀ w ∈ tables_1_2, w ∈ lw_tbl := fun _ h => List.mem_append_right _ (List.mem_append_right _ (List.mem_append_left _ (h)))
theorem inp3 : ∀ w ∈ tables_1_3, w ∈ lw_tbl := fun _ h => List.mem_append_right _ (List.mem_append_right _ (List.mem_append_right _ (List.mem_append_left _ (h))))
theorem inp4 : ∀ w ∈ tables_1_4, w ∈ lw_tbl := fun _ h => List.mem_append_right _ (List.mem_append_right _ (List.mem_append_right _ (List.mem_append_right _ (List.mem_append_left _ (h)))))
theorem inp5 : ∀ w ∈ tables_1_5, w ∈ lw_tbl := fun _ h => List.mem_append_right _ (List.mem_append_right _ (List.mem_append_right _ (List.mem_append_right _ (List.mem_append_right _ (List.mem_append_left _ (h))))))
theorem inp6 : ∀ w ∈ tables_1_6, w ∈ lw_tbl := fun _ h => List.mem_append_right _ (List.mem_append_right _ (List.mem_append_right _ (List.mem_append_right _ (List.mem_append_right _ (List.mem_append_right _ (h))))))
set_option maxRecDepth 20000 in
theorem gt_wsL_law_r1 : GoodIn lw_tbl wsL_law_r1 := goodIn_pw (pc inp1 16 2 (pc inp1 1 1 (pc inp4 85 2 (pc inp1 12 1 (pc inp1 18 6 (pc inp1 99 1 (pc inp2 96 4 (pc inp1 24 2 (pc inp1 2 1 (pc inp2 100 1 (pc inp1 100 2 (pc inp1 3 1 pn)))))))))))) rfl (by decide +kernel)
set_option maxRecDepth 20000 in
theorem gt_wsL_law_r2 : GoodIn lw_tbl wsL_law_r2 := goodIn_pw (pc inp2 101 1 (pc inp1 132 2 (pc inp1 4 1 (pc inp2 102 1 (pc inp1 178 2 (pc inp1 5 1 (pc inp2 103 1 (pc inp1 198 2 (pc inp1 6 1 (pc inp2 104 1 (pc inp1 220 2 (pc inp1 7 1 (pc inp2 105 1 (pc inp1 236 2 (pc inp1 8 1 (pc inp2 106 1 (pc inp2 23 2 (pc inp1 9 1 pn)))))))))))))))))) rfl (by decide +kernel)
set_option maxRecDepth 20000 in
theorem gt_wsL_law_r3 : GoodIn lw_tbl wsL_law_r3 := goodIn_pw (pc inp2 107 1 (pc inp2 56 2 (pc inp1 10 1 (pc inp2 108 1 (pc inp2 79 2 (pc inp1 11 1 (pc inp2 109 1 (pc inp1 27 4 (pc inp1 33 1 (pc inp1 36 1 (pc inp1 40 1 (pc inp1 48 1 (pc inp1 55 1 (pc inp1 58 1 (pc inp1 60 1 (pc inp1 62 1 (pc inp1 64 1 (pc inp1 66 1 (pc inp1 68 1 pn))))))))))))))))))) rfl (by decide +kernel)
set_option maxRecDepth 20000 in
theorem gt_wsL_law_r4 : GoodIn lw_tbl wsL_law_r4 := goodIn_pw (pc inp1 70 1 (pc inp1 103 4 (pc inp1 108 1 (pc inp1 110 1 (pc inp1 112 5 (pc inp1 134 5 (pc inp1 140 1 (pc inp1 143 1 (pc inp1 147 1 (pc inp1 151 1 (pc inp1 156 1 (pc inp1 158 1 (pc inp1 160 1 pn))))))))))))) rfl (by decide +kernel)
set_option maxRecDepth 20000 in
theorem gt_wsL_law_r5 : GoodIn lw_tbl wsL_law_r5 := goodIn_pw (pc inp1 180 5 (pc inp1 187 3 (pc inp1 186 1 (pc inp1 200 5 (pc inp1 206 1 (pc inp1 208 1 (pc inp1 219 1 (pc inp1 210 1 (pc inp1 205 1 (pc inp1 222 4 (pc inp1 228 1 pn))))))))))) rfl (by decide +kernel)
set_option maxRecDepth 20000 in
theorem gt_wsL_law_r6 : GoodIn lw_tbl wsL_law_r6 := goodIn_pw (pc inp1 226 2 (pc inp1 238 2 (pc inp2 0 3 (pc inp2 4 1 (pc inp2 8 2 (pc inp2 6 2 (pc inp2 25 5 (pc inp2 32 1 (pc inp2 34 1 (pc inp2 36 1 (pc inp2 39 2 (pc inp2 37 1 (pc inp2 30 1 pn))))))))))))) rfl (by decide +kernel)
set_option maxRecDepth 20000 in
theorem gt_wsL_law_r7 : GoodIn lw_tbl wsL_law_r7 := goodIn_pw (pc inp2 38 1 (pc inp2 31 1 (pc inp2 58 5 (pc inp2 65 3 (pc inp2 64 1 (pc inp2 82 4 (pc inp2 87 2 (pc inp4 87 4 (pc inp4 94 3 pn))))))))) rfl (by decide +kernel)
set_option maxRecDepth 20000 in
theorem gt_wsL_law_r8 : GoodIn lw_tbl wsL_law_r8 := goodIn_pw (pc inp4 98 4 (pc inp4 103 1 (pc inp4 105 1 (pc inp4 109 1 (pc inp4 111 5 (pc inp4 117 3 (pc inp4 121 1 (pc inp4 124 1 (pc inp4 127 1 (pc inp4 129 3 (pc inp4 133 3 pn))))))))))) rfl (by decide +kernel)
set_option maxRecDepth 20000 in
theorem gt_wsL_law_r9 : GoodIn lw_tbl wsL_law_r9 := goodIn_pw (pc inp4 136 1 (pc inp4 91 1 (pc inp2 139 4 (pc inp2 146 2 (pc inp2 143 3 (pc inp4 230 5 (pc inp4 238 1 (pc inp4 104 1 (pc inp4 239 1 (pc inp4 235 3 (pc inp2 148 2 pn))))))))))) rfl (by decide +kernel)
set_option maxRecDepth 20000 in
theorem gt_wsL_law_r10 : GoodIn lw_tbl wsL_law_r10 := goodIn_pw (pc inp2 150 2 (pc inp1 111 1 (pc inp1 109 1 (pc inp2 63 1 (pc inp2 86 1 (pc inp1 43 1 (pc inp2 152 4 (pc inp2 160 2 (pc inp1 13 1 (pc inp2 162 5 (pc inp2 168 1 (pc inp2 167 1 (pc inp1 14 1 (pc inp2 156 2 pn)))))))))))))) rfl (by decide +kernel)
set_option maxRecDepth 20000 in
theorem gt_wsL_law_r11 : GoodIn lw_tbl wsL_law_r11 := goodIn_pw (pc inp2 158 2 (pc inp2 169 1 (pc inp2 171 1 (pc inp0 0 1 (pc inp2 172 2 (pc inp2 175 1 (pc inp0 1 1 (pc inp2 176 1 (pc inp1 31 1 (pc inp2 189 1 (pc inp2 191 1 (pc inp1 44 1 (pc inp2 209 1 (pc inp2 211 1 (pc inp1 51 1 (pc inp2 217 1 (pc inp2 219 1 (pc inp2 177 1 (pc inp2 179 1 (pc inp0 2 1 (pc inp2 180 2 pn))))))))))))))))))))) rfl (by decide +kernel)
set_option maxRecDepth 20000 in
theorem gt_wsL_law_r12 : GoodIn lw_tbl wsL_law_r12 := goodIn_pw (pc inp2 183 1 (pc inp0 3 1 (pc inp2 184 2 (pc inp2 187 1 (pc inp0 4 1 (pc inp2 188 1 (pc inp2 193 1 (pc inp2 195 1 (pc inp0 5 1 (pc inp2 196 2 (pc inp2 199 1 (pc inp0 6 1 (pc inp2 200 4 (pc inp2 205 4 (pc inp2 213 2 pn))))))))))))))) rfl (by decide +kernel)
set_option maxRecDepth 20000 in
theorem gt_wsL_law_r13 : GoodIn lw_tbl wsL_law_r13 := goodIn_pw (pc inp2 215 2 (pc inp2 221 13 (pc inp1 63 1 (pc inp1 65 1 (pc inp2 234 6 (pc inp3 0 1 pn)))))) rfl (by decide +kernel)
set_option maxRecDepth 20000 in
theorem gt_wsL_law_r14 : GoodIn lw_tbl wsL_law_r14 := goodIn_pw (pc inp3 1 1 (pc inp5 0 4 (pc inp4 106 1 (pc inp4 110 1 (pc inp4 116 1 (pc inp4 128 1 (pc inp4 132 1 (pc inp4 120 1 (pc inp4 93 1 (pc inp5 4 1 (pc inp5 6 1 (pc inp0 22 1 (pc inp5 7 2 (pc inp5 10 1 (pc inp0 23 1 (pc inp5 11 2 (pc inp5 14 1 (pc inp0 24 1 (pc inp5 15 1 pn))))))))))))))))))) rfl (by decide +kernel)
set_option maxRecDepth 20000 in
theorem gt_wsL_law_r15 : GoodIn lw_tbl wsL_law_r15 := goodIn_pw (pc inp5 16 1 (pc inp5 18 1 (pc inp0 25 1 (pc inp5 19 2 (pc inp5 22 1 (pc inp0 26 1 (pc inp5 23 1 (pc inp4 107 1 (pc inp5 24 1 (pc inp5 26 1 (pc inp0 27 1 (pc inp5 27 3 (pc inp4 108 1 (pc inp5 30 1 (pc inp5 32 1 (pc inp0 28 1 (pc inp5 33 2 (pc inp5 36 1 (pc inp0 29 1 (pc inp5 37 1 pn)))))))))))))))))))) rfl (by decide +kernel)
set_option maxRecDepth 20000 in
theorem gt_wsL_law_r16 : GoodIn lw_tbl wsL_law_r16 := goodIn_pw (pc inp5 38 1 (pc inp5 40 1 (pc inp0 30 1 (pc inp5 41 1 (pc inp4 92 1 (pc inp4 97 1 (pc inp3 2 4 (pc inp5 42 4 (pc inp3 6 4 (pc inp1 35 1 (pc inp1 38 1 (pc inp1 52 1 (pc inp1 139 1 (pc inp1 142 1 (pc inp1 190 1 pn))))))))))))))) rfl (by decide +kernel)
set_option maxRecDepth 20000 in
theorem gt_wsL_law_r17 : GoodIn lw_tbl wsL_law_r17 := goodIn_pw (pc inp3 10 4 (pc inp1 54 1 (pc inp3 14 8 (pc inp1 47 1 (pc inp5 46 5 (pc inp5 52 1 (pc inp0 31 1 (pc inp5 53 2 (pc inp5 56 1 pn))))))))) rfl (by decide +kernel)
set_option maxRecDepth 20000 in
theorem gt_wsL_law_r18 : GoodIn lw_tbl wsL_law_r18 := goodIn_pw (pc inp0 32 1 (pc inp5 57 1 (pc inp3 22 4 (pc inp3 30 1 (pc inp1 56 1 (pc inp1 59 1 (pc inp1 61 1 (pc inp1 146 1 (pc inp1 150 1 (pc inp1 155 1 (pc inp3 26 1 (pc inp3 28 1 (pc inp0 7 1 (pc inp3 29 1 (pc inp3 31 4 (pc inp5 58 3 pn)))))))))))))))) rfl (by decide +kernel)
set_option maxRecDepth 20000 in
theorem gt_wsL_law_r19 : GoodIn lw_tbl wsL_law_r19 := goodIn_pw (pc inp5 61 1 (pc inp5 66 1 (pc inp5 62 1 (pc inp5 64 1 (pc inp0 33 1 (pc inp5 65 1 (pc inp5 67 1 (pc inp5 69 1 (pc inp0 34 1 (pc inp5 70 1 (pc inp3 35 4 (pc inp1 67 1 (pc inp1 69 1 (pc inp1 71 1 (pc inp1 157 1 (pc inp1 159 1 (pc inp3 39 1 (pc inp3 41 1 (pc inp0 8 1 (pc inp3 42 1 (pc inp5 71 1 pn))))))))))))))))))))) rfl (by decide +kernel)
set_option maxRecDepth 20000 in
theorem gt_wsL_law_r20 : GoodIn lw_tbl wsL_law_r20 := goodIn_pw (pc inp5 72 4 (pc inp5 77 1 (pc inp0 35 1 (pc inp5 78 1 (pc inp3 43 5 (pc inp3 49 1 (pc inp0 9 1 (pc inp3 50 10 pn)))))))) rfl (by decide +kernel)
set_option maxRecDepth 20000 in
theorem gt_wsL_law_r21 : GoodIn lw_tbl wsL_law_r21 := goodIn_pw (pc inp3 60 9 (pc inp3 70 1 (pc inp3 69 1 (pc inp3 71 4 (pc inp3 76 9 pn))))) rfl (by decide +kernel)
set_option maxRecDepth 20000 in
theorem gt_wsL_law_r22 : GoodIn lw_tbl wsL_law_r22 := goodIn_pw (pc inp3 85 1 (pc inp5 79 7 (pc inp5 87 1 (pc inp0 36 1 (pc inp5 88 2 (pc inp5 91 1 (pc inp0 37 1 (pc inp5 92 2 (pc inp5 95 1 (pc inp0 38 1 (pc inp5 96 2 (pc inp5 99 1 (pc inp0 39 1 (pc inp5 100 2 pn)))))))))))))) rfl (by decide +kernel)
set_option maxRecDepth 20000 in
theorem gt_wsL_law_r23 : GoodIn lw_tbl wsL_law_r23 := goodIn_pw (pc inp5 103 1 (pc inp0 40 1 (pc inp5 104 2 (pc inp5 107 1 (pc inp0 41 1 (pc inp5 108 2 (pc inp3 86 8 (pc inp5 110 8 pn)))))))) rfl (by decide +kernel)
set_option maxRecDepth 20000 in
theorem gt_wsL_law_r24 : GoodIn lw_tbl wsL_law_r24 := goodIn_pw (pc inp3 94 4 (pc inp3 106 1 (pc inp3 98 8 (pc inp1 34 1 (pc inp3 107 5 (pc inp1 39 1 (pc inp5 118 4 pn))))))) rfl (by decide +kernel)
set_option maxRecDepth 20000 in
theorem gt_wsL_law_r25 : GoodIn lw_tbl wsL_law_r25 := goodIn_pw (pc inp5 130 1 (pc inp5 122 1 (pc inp5 124 1 (pc inp0 42 1 (pc inp5 125 2 (pc inp5 128 1 (pc inp0 43 1 (pc inp5 129 1 (pc inp5 131 1 (pc inp5 133 1 (pc inp0 44 1 (pc inp5 134 2 (pc inp5 137 1 (pc inp0 45 1 (pc inp5 138 1 (pc inp3 112 4 (pc inp5 139 3 pn))))))))))))))))) rfl (by decide +kernel)
set_option maxRecDepth 20000 in
theorem gt_wsL_law_r26 : GoodIn lw_tbl wsL_law_r26 := goodIn_pw (pc inp5 142 1 (pc inp3 116 4 (pc inp1 32 1 (pc inp5 143 4 (pc inp3 120 5 (pc inp3 126 1 (pc inp0 10 1 (pc inp3 127 2 (pc inp3 130 1 (pc inp0 11 1 (pc inp3 131 3 pn))))))))))) rfl (by decide +kernel)
set_option maxRecDepth 20000 in
theorem gt_wsL_law_r27 : GoodIn lw_tbl wsL_law_r27 := goodIn_pw (pc inp3 134 2 (pc inp5 147 6 (pc inp5 154 1 (pc inp0 46 1 (pc inp5 155 2 (pc inp5 158 1 (pc inp0 47 1 (pc inp5 159 1 (pc inp4 102 1 (pc inp5 160 4 (pc inp3 136 4 pn))))))))))) rfl (by decide +kernel)
set_option maxRecDepth 20000 in
theorem gt_wsL_law_r28 : GoodIn lw_tbl wsL_law_r28 := goodIn_pw (pc inp3 140 4 (pc inp5 164 4 (pc inp3 144 8 (pc inp1 152 1 (pc inp3 152 1 (pc inp3 154 1 (pc inp0 12 1 (pc inp3 155 1 (pc inp1 148 1 (pc inp3 156 2 pn)))))))))) rfl (by decide +kernel)
set_option maxRecDepth 20000 in
theorem gt_wsL_law_r29 : GoodIn lw_tbl wsL_law_r29 := goodIn_pw (pc inp5 168 5 (pc inp5 174 1 (pc inp0 48 1 (pc inp5 175 2 (pc inp5 178 1 (pc inp0 49 1 (pc inp5 179 1 (pc inp3 159 8 (pc inp1 144 1 (pc inp3 168 1 (pc inp3 167 1 (pc inp5 180 1 pn)))))))))))) rfl (by decide +kernel)
set_option maxRecDepth 20000 in
theorem gt_wsL_law_r30 : GoodIn lw_tbl wsL_law_r30 := goodIn_pw (pc inp5 181 4 (pc inp5 186 1 (pc inp0 50 1 (pc inp5 187 1 (pc inp3 169 4 (pc inp2 3 1 (pc inp2 5 1 (pc inp3 173 4 (pc inp1 49 1 (pc inp1 41 1 (pc inp3 177 2 (pc inp3 180 1 (pc inp0 13 1 (pc inp3 181 1 pn)))))))))))))) rfl (by decide +kernel)
set_option maxRecDepth 20000 in
theorem gt_wsL_law_r31 : GoodIn lw_tbl wsL_law_r31 := goodIn_pw (pc inp3 182 1 (pc inp3 184 1 (pc inp0 14 1 (pc inp3 185 3 (pc inp3 189 1 (pc inp0 15 1 (pc inp3 190 1 (pc inp5 188 4 (pc inp4 123 1 (pc inp4 122 1 (pc inp5 192 1 (pc inp5 194 1 (pc inp0 51 1 (pc inp5 195 6 pn)))))))))))))) rfl (by decide +kernel)
set_option maxRecDepth 20000 in
theorem gt_wsL_law_r32 : GoodIn lw_tbl wsL_law_r32 := goodIn_pw (pc inp5 201 1 (pc inp3 191 4 (pc inp2 33 1 (pc inp2 35 1 (pc inp3 195 4 (pc inp3 200 1 (pc inp3 199 1 (pc inp3 201 1 (pc inp3 203 1 (pc inp0 16 1 (pc inp3 204 2 (pc inp1 42 1 (pc inp1 37 1 (pc inp3 206 1 (pc inp3 208 1 (pc inp0 17 1 (pc inp3 209 1 pn))))))))))))))))) rfl (by decide +kernel)
set_option maxRecDepth 20000 in
theorem gt_wsL_law_r33 : GoodIn lw_tbl wsL_law_r33 := goodIn_pw (pc inp1 145 1 (pc inp1 149 1 (pc inp1 154 1 (pc inp1 141 1 (pc inp3 210 3 (pc inp5 202 5 (pc inp4 125 2 (pc inp5 207 1 (pc inp5 209 1 (pc inp0 52 1 (pc inp5 210 3 (pc inp5 214 1 (pc inp0 53 1 (pc inp5 215 2 pn)))))))))))))) rfl (by decide +kernel)
set_option maxRecDepth 20000 in
theorem gt_wsL_law_r34 : GoodIn lw_tbl wsL_law_r34 := goodIn_pw (pc inp5 218 1 (pc inp0 54 1 (pc inp5 219 1 (pc inp3 213 9 (pc inp3 223 1 (pc inp0 18 1 (pc inp3 224 1 (pc inp5 220 5 (pc inp5 226 1 (pc inp0 55 1 (pc inp5 227 1 (pc inp3 226 1 pn)))))))))))) rfl (by decide +kernel)
set_option maxRecDepth 20000 in
theorem gt_wsL_law_r35 : GoodIn lw_tbl wsL_law_r35 := goodIn_pw (pc inp3 227 8 (pc inp1 46 1 (pc inp1 53 1 (pc inp1 57 1 (pc inp5 228 5 (pc inp3 235 5 (pc inp5 233 3 pn))))))) rfl (by decide +kernel)
set_option maxRecDepth 20000 in
theorem gt_wsL_law_r36 : GoodIn lw_tbl wsL_law_r36 := goodIn_pw (pc inp5 236 2 (pc inp4 0 6 (pc inp5 238 2 (pc inp6 0 4 (pc inp4 6 8 (pc inp6 4 2 pn)))))) rfl (by decide +kernel)
set_option maxRecDepth 20000 in
theorem gt_wsL_law_r37 : GoodIn lw_tbl wsL_law_r37 := goodIn_pw (pc inp6 6 3 (pc inp4 14 8 (pc inp1 50 1 (pc inp4 22 1 (pc inp4 24 1 (pc inp0 19 1 (pc inp4 25 2 (pc inp6 9 5 (pc inp6 15 1 (pc inp0 56 1 pn)))))))))) rfl (by decide +kernel)
set_option maxRecDepth 20000 in
theorem gt_wsL_law_r38 : GoodIn lw_tbl wsL_law_r38 := goodIn_pw (pc inp6 16 2 (pc inp6 19 1 (pc inp0 57 1 (pc inp6 20 1 (pc inp4 28 8 (pc inp1 45 1 (pc inp4 36 3 (pc inp1 15 1 (pc inp4 39 5 (pc inp4 45 1 pn)))))))))) rfl (by decide +kernel)
set_option maxRecDepth 20000 in
theorem gt_wsL_law_r39 : GoodIn lw_tbl wsL_law_r39 := goodIn_pw (pc inp0 20 1 (pc inp4 46 1 (pc inp4 51 1 (pc inp4 47 1 (pc inp4 49 1 (pc inp0 21 1 (pc inp4 50 1 (pc inp6 21 8 (pc inp6 30 1 (pc inp0 58 1 (pc inp6 31 1 (pc inp4 52 6 pn)))))))))))) rfl (by decide +kernel)
set_option maxRecDepth 20000 in
theorem gt_wsL_law_r40 : GoodIn lw_tbl wsL_law_r40 := goodIn_pw (pc inp4 58 2 (pc inp6 32 4 (pc inp4 60 4 (pc inp6 36 4 (pc inp4 64 8 (pc inp1 153 1 (pc inp6 40 1 pn))))))) rfl (by decide +kernel)
set_option maxRecDepth 20000 in
theorem gt_wsL_law_r41 : GoodIn lw_tbl wsL_law_r41 := goodIn_pw (pc inp6 41 3 (pc inp4 72 4 (pc inp6 44 4 (pc inp4 76 4 (pc inp1 207 1 (pc inp1 209 1 (pc inp1 211 1 (pc inp4 80 1 (pc inp6 48 4 (pc inp4 81 1 pn)))))))))) rfl (by decide +kernel)
set_option maxRecDepth 20000 in
theorem gt_wsL_law_r42 : GoodIn lw_tbl wsL_law_r42 := goodIn_pw (pc inp4 82 3 (pc inp6 52 4 pn)) rfl (by decide +kernel)
set_option maxRecDepth 20000 in
theorem gt_wsX00 : GoodIn lw_tbl wsX00 := goodIn_pw (pc inp2 89 1 (pc inp2 91 1 (pc inp2 93 1 pn))) rfl (by decide +kernel)
set_option maxRecDepth 20000 in
theorem gt_wsX10 : GoodIn lw_tbl wsX10 := goodIn_pw (pc inp1 161 1 (pc inp1 163 1 (pc inp1 165 1 (pc inp1 167 1 (pc inp1 169 1 (pc inp1 171 1 (pc inp1 173 1 (pc inp1 175 1 pn)))))))) rfl (by decide +kernel)
set_option maxRecDepth 20000 in
theorem gt_wsX20 : GoodIn lw_tbl wsX20 := goodIn_pw (pc inp2 68 1 (pc inp2 70 1 (pc inp2 72 1 (pc inp2 74 1 (pc inp2 76 1 pn))))) rfl (by decide +kernel)
set_option maxRecDepth 20000 in
theorem gt_wsX30 : GoodIn lw_tbl wsX30 := goodIn_pw (pc inp1 191 1 (pc inp1 193 1 (pc inp1 195 1 pn))) rfl (by decide +kernel)
set_option maxRecDepth 20000 in
theorem gt_wsX40 : GoodIn lw_tbl wsX40 := goodIn_pw (pc inp1 212 1 (pc inp1 214 1 (pc inp1 216 1 pn))) rfl (by decide +kernel)
set_option maxRecDepth 20000 in
theorem gt_wsX50 : GoodIn lw_tbl wsX50 := goodIn_pw (pc inp1 72 1 (pc inp1 74 1 (pc inp1 76 1 (pc inp1 78 1 (pc inp1 80 1 (pc inp1 82 1 (pc inp1 84 1 (pc inp1 86 1 (pc inp1 88 1 (pc inp1 90 1 (pc inp1 92 1 (pc inp1 94 1 (pc inp1 96 1 pn))))))))))))) rfl (by decide +kernel)
set_option maxRecDepth 20000 in
theorem gt_wsX60 : GoodIn lw_tbl wsX60 := goodIn_pw (pc inp2 41 1 (pc inp2 43 1 (pc inp2 45 1 (pc inp2 47 1 (pc inp2 49 1 (pc inp2 51 1 (pc inp2 53 1 pn))))))) rfl (by decide +kernel)
set_option maxRecDepth 20000 in
theorem gt_wsX70 : GoodIn lw_tbl wsX70 := goodIn_pw (pc inp1 117 1 (pc inp1 119 1 (pc inp1 121 1 (pc inp1 123 1 (pc inp1 125 1 (pc inp1 127 1 (pc inp1 129 1 pn))))))) rfl (by decide +kernel)
set_option maxRecDepth 20000 in
theorem gt_wsX80 : GoodIn lw_tbl wsX80 := goodIn_pw (pc inp2 10 1 (pc inp2 12 1 (pc inp2 14 1 (pc inp2 16 1 (pc inp2 18 1 (pc inp2 20 1 pn)))))) rfl (by decide +kernel)
set_option maxRecDepth 20000 in
theorem gt_wsX90 : GoodIn lw_tbl wsX90 := goodIn_pw (pc inp1 229 1 (pc inp1 231 1 (pc inp1 233 1 pn))) rfl (by decide +kernel)
set_option maxRecDepth 20000 in
theorem gt_wsX100 : GoodIn lw_tbl wsX100 := goodIn_pw (pc inp2 110 1 (pc inp2 112 1 (pc inp2 114 1 (pc inp2 116 1 (pc inp2 118 1 (pc inp2 120 1 (pc inp2 122 1 (pc inp2 124 1 (pc inp2 126 1 (pc inp2 128 1 (pc inp2 130 1 (pc inp2 132 1 (pc inp2 134 1 (pc inp2 136 1 pn)))))))))))))) rfl (by decide +kernel)
set_option maxRecDepth 20000 in
theorem gt_wsX110 : GoodIn lw_tbl wsX110 := goodIn_pw (pc inp4 137 1 (pc inp4 139 1 (pc inp4 141 1 (pc inp4 143 1 (pc inp4 145 1 (pc inp4 147 1 (pc inp4 149 1 (pc inp4 151 1 (pc inp4 153 1 (pc inp4 155 1 (pc inp4 157 1 (pc inp4 159 1 (pc inp4 161 1 (pc inp4 163 1 (pc inp4 165 1 (pc inp4 167 1 (pc inp4 169 1 (pc inp4 171 1 (pc inp4 173 1 (pc inp4 175 1 (pc inp4 177 1 (pc inp4 179 1 (pc inp4 181 1 (pc inp4 183 1 (pc inp4 185 1 (pc inp4 187 1 (pc inp4 189 1 (pc inp4 191 1 (pc inp4 193 1 (pc inp4 195 1 (pc inp4 197 1 (pc inp4 199 1 (pc inp4 201 1 (pc inp4 203 1 (pc inp4 205 1 (pc inp4 207 1 (pc inp4 209 1 (pc inp4 211 1 (pc inp4 213 1 (pc inp4 215 1 (pc inp4 217 1 (pc inp4 219 1 (pc inp4 221 1 (pc inp4 223 1 (pc inp4 225 1 (pc inp4 227 1 pn)))))))))))))))))))))))))))))))))))))))))))))) rfl (by decide +kernel)
theorem gt_wsL_law : GoodIn lw_tbl wsL_law := (goodIn_app (goodIn_app (goodIn_app (goodIn_app (goodIn_app (goodIn_app (goodIn_app (goodIn_app (goodIn_app (goodIn_app (goodIn_app (goodIn_app (goodIn_app (goodIn_app gt_wsL_law_r1 (goodIn_app gt_wsL_law_r2 (goodIn_app gt_wsL_law_r3 (goodIn_app gt_wsL_law_r4 (goodIn_app gt_wsL_law_r5 (goodIn_app gt_wsL_law_r6 (goodIn_app gt_wsL_law_r7 (goodIn_app gt_wsL_law_r8 (goodIn_app gt_wsL_law_r9 (goodIn_app gt_wsL_law_r10 (goodIn_app gt_wsL_law_r11 (goodIn_app gt_wsL_law_r12 (goodIn_app gt_wsL_law_r13 (goodIn_app gt_wsL_law_r14 (goodIn_app gt_wsL_law_r15 (goodIn_app gt_wsL_law_r16 (goodIn_app gt_wsL_law_r17 (goodIn_app gt_wsL_law_r18 (goodIn_app gt_wsL_law_r19 (goodIn_app gt_wsL_law_r20 (goodIn_app gt_wsL_law_r21 (goodIn_app gt_wsL_law_r22 (goodIn_app gt_wsL_law_r23 (goodIn_app gt_wsL_law_r24 (goodIn_app gt_wsL_law_r25 (goodIn_app gt_wsL_law_r26 (goodIn_app gt_wsL_law_r27 (goodIn_app gt_wsL_law_r28 (goodIn_app gt_wsL_law_r29 (goodIn_app gt_wsL_law_r30 (goodIn_app gt_wsL_law_r31 (goodIn_app gt_wsL_law_r32 (goodIn_app gt_wsL_law_r33 (goodIn_app gt_wsL_law_r34 (goodIn_app gt_wsL_law_r35 (goodIn_app gt_wsL_law_r36 (goodIn_app gt_wsL_law_r37 (goodIn_app gt_wsL_law_r38 (goodIn_app gt_wsL_law_r39 (goodIn_app gt_wsL_law_r40 (goodIn_app gt_wsL_law_r41 gt_wsL_law_r42))))))))))))))))))))))))))))))))))))))))) gt_wsX100) gt_wsX110) gt_wsX50) gt_wsX70) gt_wsX10) gt_wsX30) gt_wsX40) gt_wsX90) gt_wsX80) gt_wsX60) gt_wsX20) gt_wsX00) (fun _ h => absurd h List.not_mem_nil))
theorem wsL_law_in : ∀ w ∈ wsL_law, w ∈ lw_tbl := fun w h => (gt_wsL_law w h).1
theorem inlX0 : ∀ w ∈ wsX00, w ∈ wsL_law := fun _ h => List.mem_append_left _ (List.mem_append_right _ h)
theorem inX0 : ∀ w ∈ wsX00, w ∈ lw_tbl := fun w h => wsL_law_in w (inlX0 w h)
theorem inlX1 : ∀ w ∈ wsX10, w ∈ wsL_law := fun _ h => List.mem_append_left _ (List.mem_append_left _ (List.mem_append_left _ (List.mem_append_left _ (List.mem_append_left _ (List.mem_append_left _ (List.mem_append_left _ (List.mem_append_left _ (List.mem_append_right _ h))))))))
theorem inX1 : ∀ w ∈ wsX10, w ∈ lw_tbl := fun w h => wsL_law_in w (inlX1 w h)
theorem inlX2 : ∀ w ∈ wsX20, w ∈ wsL_law := fun _ h => List.mem_append_left _ (List.mem_append_left _ (List.mem_append_right _ h))
theorem inX2 : ∀ w ∈ wsX20, w ∈ lw_tbl := fun w h => wsL_law_in w (inlX2 w h)
theorem inlX3 : ∀ w ∈ wsX30, w ∈ wsL_law := fun _ h => List.mem_append_left _ (List.mem_append_left _ (List.mem_append_left _ (List.mem_append_left _ (List.mem_append_left _ (List.mem_append_left _ (List.mem_append_left _ (List.mem_append_right _ h)))))))
theorem inX3 : ∀ w ∈ wsX30, w ∈ lw_tbl := fun w h => wsL_law_in w (inlX3 w h)
theorem inlX4 : ∀ w ∈ wsX40, w ∈ wsL_law := fun _ h => List.mem_append_left _ (List.mem_append_left _ (List.mem_append_left _ (List.mem_append_left _ (List.mem_append_left _ (List.mem_append_left _ (List.mem_append_right _ h))))))
theorem inX4 : ∀ w ∈ wsX40, w ∈ lw_tbl := fun w h => wsL_law_in w (inlX4 w h)
theorem inlX5 : ∀ w ∈ wsX50, w ∈ wsL_law := fun _ h => List.mem_append_left _ (List.mem_append_left _ (List.mem_append_left _ (List.mem_append_left _ (List.mem_append_left _ (List.mem_append_left _ (List.mem_append_left _ (List.mem_append_left _ (List.mem_append_left _ (List.mem_append_left _ (List.mem_append_right _ h))))))))))
theorem inX5 : ∀ w ∈ wsX50, w ∈ lw_tbl := fun w h => wsL_law_in w (inlX5 w h)
theorem inlX6 : ∀ w ∈ wsX60, w ∈ wsL_law := fun _ h => List.mem_append_left _ (List.mem_append_left _ (List.mem_append_left _ (List.mem_append_right _ h)))
theorem inX6 : ∀ w ∈ wsX60, w ∈ lw_tbl := fun w h => wsL_law_in w (inlX6 w h)
theorem inlX7 : ∀ w ∈ wsX70, w ∈ wsL_law := fun _ h => List.mem_append_left _ (List.mem_append_left _ (List.mem_append_left _ (List.mem_append_left _ (List.mem_append_left _ (List.mem_append_left _ (List.mem_append_left _ (List.mem_append_left _ (List.mem_append_left _ (List.mem_append_right _ h)))))))))
theorem inX7 : ∀ w ∈ wsX70, w ∈ lw_tbl := fun w h => wsL_law_in w (inlX7 w h)
theorem inlX8 : ∀ w ∈ wsX80, w ∈ wsL_law := fun _ h => List.mem_append_left _ (List.mem_append_left _ (List.mem_append_left _ (List.mem_append_left _ (List.mem_append_right _ h))))
theorem inX8 : ∀ w ∈ wsX80, w ∈ lw_tbl := fun w h => wsL_law_in w (inlX8 w h)
theorem inlX9 : ∀ w ∈ wsX90, w ∈ wsL_law := fun _ h => List.mem_append_left _ (List.mem_append_left _ (List.mem_append_left _ (List.mem_append_left _ (List.mem_append_left _ (List.mem_append_right _ h)))))
theorem inX9 : ∀ w ∈ wsX90, w ∈ lw_tbl := fun w h => wsL_law_in w (inlX9 w h)
theorem inlX10 : ∀ w ∈ wsX100, w ∈ wsL_law := fun _ h => List.mem_append_left _ (List.mem_append_left _ (List.mem_append_left _ (List.mem_append_left _ (List.mem_append_left _ (List.mem_append_left _ (List.mem_append_left _ (List.mem_append_left _ (List.mem_append_left _ (List.mem_append_left _ (List.mem_append_left _ (List.mem_append_left _ (List.mem_append_right _ h))))))))))))
theorem inX10 : ∀ w ∈ wsX100, w ∈ lw_tbl := fun w h => wsL_law_in w (inlX10 w h)
theorem inlX11 : ∀ w ∈ wsX110, w ∈ wsL_law := fun _ h => List.mem_append_left _ (List.mem_append_left _ (List.mem_append_left _ (List.mem_append_left _ (List.mem_append_left _ (List.mem_append_left _ (List.mem_append_left _ (List.mem_append_left _ (List.mem_append_left _ (List.mem_append_left _ (List.mem_append_left _ (List.mem_append_right _ h)))))))))))
theorem inX11 : ∀ w ∈ wsX110, w ∈ lw_tbl := fun w h => wsL_law_in w (inlX11 w h)
theorem inJ6 : ∀ w ∈ wsJ60, w ∈ lw_tbl := by decide +kernel
theorem inJ9 : ∀ w ∈ wsJ90, w ∈ lw_tbl := by decide +kernel
theorem inJ10 : ∀ w ∈ wsJ100, w ∈ lw_tbl := by decide +kernel
noncomputable def dlL_law_0 : List (Nat × Instr × Nat) := [(0, .new 7, 3), (3, .dup, 1), (4, .invokespecial 9, 3), (7, .astore_n 1, 1), (8, .new 10, 3), (11, .dup, 1), (12, .invokespecial 12, 3), (15, .astore_n 2, 1), (16, .iconst 0, 1), (17, .istore_n 3, 1), (18, .iload_n 3, 1), (19, .aload_n 0, 1), (20, .arraylength, 1), (21, .iconst 4, 1), (22, .isub, 1), (23, .if_icmp .gt 911, 3), (26, .aload_n 0, 1), (27, .iload_n 3, 1), (28, .iaload, 1), (29, .bipush 31, 2), (31, .iand, 1), (32, .tableswitch 896 0 29 #[136, 159, 172, 185, 208, 241, 274, 317, 350, 373, 396, 409, 432, 445, 478, 511, 534, 577, 610, 623, 666, 699, 742, 755, 768, 801, 814, 827, 850, 873], 136), (168, .aload_n 1, 1), (169, .aload_n 0, 1), (170, .iload_n 3, 1), (171, .iconst 1, 1), (172, .iadd, 1), (173, .iaload, 1), (174, .invokevirtual 13, 3), (177, .pop, 1), (178, .aload_n 2, 1)]
theorem dlL_law_0_ok : dlL_law_0.all (fun r => decide (decode cL_law r.1 = .ok r.2)) = true := by decide +kernel
theorem dL_law_0 : decode cL_law 0 = .ok (.new 7, 3) := dec_at dlL_law_0_ok 0 rfl
theorem dL_law_3 : decode cL_law 3 = .ok (.dup, 1) := dec_at dlL_law_0_ok 1 rfl
theorem dL_law_4 : decode cL_law 4 = .ok (.invokespecial 9, 3) := dec_at dlL_law_0_ok 2 rfl
theorem dL_law_7 : decode cL_law 7 = .ok (.astore_n 1, 1) := dec_at dlL_law_0_ok 3 rfl
theorem dL_law_8 : decode cL_law 8 = .ok (.new 10, 3) := dec_at dlL_law_0_ok 4 rfl
theorem dL_law_11 : decode cL_law 11 = .ok (.dup, 1) := dec_at dlL_law_0_ok 5 rfl
theorem dL_law_12 : decode cL_law 12 = .ok (.invokespecial 12, 3) := dec_at dlL_law_0_ok 6 rfl
theorem dL_law_15 : decode cL_law 15 = .ok (.astore_n 2, 1) := dec_at dlL_law_0_ok 7 rfl
theorem dL_law_16 : decode cL_law 16 = .ok (.iconst 0, 1) := dec_at dlL_law_0_ok 8 rfl
theorem dL_law_17 : decode cL_law 17 = .ok (.istore_n 3, 1) := dec_at dlL_law_0_ok 9 rfl
theorem dL_law_18 : decode cL_law 18 = .ok (.iload_n 3, 1) := dec_at dlL_law_0_ok 10 rfl
theorem dL_law_19 : decode cL_law 19 = .ok (.aload_n 0, 1) := dec_at dlL_law_0_ok 11 rfl
theorem dL_law_20 : decode cL_law 20 = .ok (.arraylength, 1) := dec_at dlL_law_0_ok 12 rfl
theorem dL_law_21 : decode cL_law 21 = .ok (.iconst 4, 1) := dec_at dlL_law_0_ok 13 rfl
theorem dL_law_22 : decode cL_law 22 = .ok (.isub, 1) := dec_at dlL_law_0_ok 14 rfl
theorem dL_law_23 : decode cL_law 23 = .ok (.if_icmp .gt 911, 3) := dec_at dlL_law_0_ok 15 rfl
theorem dL_law_26 : decode cL_law 26 = .ok (.aload_n 0, 1) := dec_at dlL_law_0_ok 16 rfl
theorem dL_law_27 : decode cL_law 27 = .ok (.iload_n 3, 1) := dec_at dlL_law_0_ok 17 rfl
theorem dL_law_28 : decode cL_law 28 = .ok (.iaload, 1) := dec_at dlL_law_0_ok 18 rfl
theorem dL_law_29 : decode cL_law 29 = .ok (.bipush 31, 2) := dec_at dlL_law_0_ok 19 rfl
theorem dL_law_31 : decode cL_law 31 = .ok (.iand, 1) := dec_at dlL_law_0_ok 20 rfl
theorem dL_law_32 : decode cL_law 32 = .ok (.tableswitch 896 0 29 #[136, 159, 172, 185, 208, 241, 274, 317, 350, 373, 396, 409, 432, 445, 478, 511, 534, 577, 610, 623, 666, 699, 742, 755, 768, 801, 814, 827, 850, 873], 136) := dec_at dlL_law_0_ok 21 rfl
theorem dL_law_168 : decode cL_law 168 = .ok (.aload_n 1, 1) := dec_at dlL_law_0_ok 22 rfl
theorem dL_law_169 : decode cL_law 169 = .ok (.aload_n 0, 1) := dec_at dlL_law_0_ok 23 rfl
theorem dL_law_170 : decode cL_law 170 = .ok (.iload_n 3, 1) := dec_at dlL_law_0_ok 24 rfl
theorem dL_law_171 : decode cL_law 171 = .ok (.iconst 1, 1) := dec_at dlL_law_0_ok 25 rfl
theorem dL_law_172 : decode cL_law 172 = .ok (.iadd, 1) := dec_at dlL_law_0_ok 26 rfl
theorem dL_law_173 : decode cL_law 173 = .ok (.iaload, 1) := dec_at dlL_law_0_ok 27 rfl
theorem dL_law_174 : decode cL_law 174 = .ok (.invokevirtual 13, 3) := dec_at dlL_law_0_ok 28 rfl
theorem dL_law_177 : decode cL_law 177 = .ok (.pop, 1) := dec_at dlL_law_0_ok 29 rfl
theorem dL_law_178 : decode cL_law 178 = .ok (.aload_n 2, 1) := dec_at dlL_law_0_ok 30 rfl
noncomputable def dlL_law_179 : List (Nat × Instr × Nat) := [(179, .aload_n 0, 1), (180, .iload_n 3, 1), (181, .iconst 1, 1), (182, .iadd, 1), (183, .iaload, 1), (184, .invokevirtual 17, 3), (187, .pop, 1), (188, .goto 740, 3), (191, .aload_n 1, 1), (192, .invokevirtual 18, 3), (195, .pop, 1), (196, .aload_n 2, 1), (197, .invokevirtual 22, 3), (200, .pop, 1), (201, .goto 727, 3), (204, .aload_n 1, 1), (205, .invokevirtual 23, 3), (208, .pop, 1), (209, .aload_n 2, 1), (210, .invokevirtual 26, 3), (213, .pop, 1), (214, .goto 714, 3), (217, .aload_n 1, 1), (218, .aload_n 0, 1), (219, .iload_n 3, 1), (220, .iconst 1, 1), (221, .iadd, 1), (222, .iaload, 1), (223, .invokevirtual 27, 3), (226, .pop, 1), (227, .aload_n 2, 1)]
theorem dlL_law_179_ok : dlL_law_179.all (fun r => decide (decode cL_law r.1 = .ok r.2)) = true := by decide +kernel
theorem dL_law_179 : decode cL_law 179 = .ok (.aload_n 0, 1) := dec_at dlL_law_179_ok 0 rfl
theorem dL_law_180 : decode cL_law 180 = .ok (.iload_n 3, 1) := dec_at dlL_law_179_ok 1 rfl
theorem dL_law_181 : decode cL_law 181 = .ok (.iconst 1, 1) := dec_at dlL_law_179_ok 2 rfl
theorem dL_law_182 : decode cL_law 182 = .ok (.iadd, 1) := dec_at dlL_law_179_ok 3 rfl
theorem dL_law_183 : decode cL_law 183 = .ok (.iaload, 1) := dec_at dlL_law_179_ok 4 rfl
theorem dL_law_184 : decode cL_law 184 = .ok (.invokevirtual 17, 3) := dec_at dlL_law_179_ok 5 rfl
theorem dL_law_187 : decode cL_law 187 = .ok (.pop, 1) := dec_at dlL_law_179_ok 6 rfl
theorem dL_law_188 : decode cL_law 188 = .ok (.goto 740, 3) := dec_at dlL_law_179_ok 7 rfl
theorem dL_law_191 : decode cL_law 191 = .ok (.aload_n 1, 1) := dec_at dlL_law_179_ok 8 rfl
theorem dL_law_192 : decode cL_law 192 = .ok (.invokevirtual 18, 3) := dec_at dlL_law_179_ok 9 rfl
theorem dL_law_195 : decode cL_law 195 = .ok (.pop, 1) := dec_at dlL_law_179_ok 10 rfl
theorem dL_law_196 : decode cL_law 196 = .ok (.aload_n 2, 1) := dec_at dlL_law_179_ok 11 rfl
theorem dL_law_197 : decode cL_law 197 = .ok (.invokevirtual 22, 3) := dec_at dlL_law_179_ok 12 rfl
theorem dL_law_200 : decode cL_law 200 = .ok (.pop, 1) := dec_at dlL_law_179_ok 13 rfl
theorem dL_law_201 : decode cL_law 201 = .ok (.goto 727, 3) := dec_at dlL_law_179_ok 14 rfl
theorem dL_law_204 : decode cL_law 204 = .ok (.aload_n 1, 1) := dec_at dlL_law_179_ok 15 rfl
theorem dL_law_205 : decode cL_law 205 = .ok (.invokevirtual 23, 3) := dec_at dlL_law_179_ok 16 rfl
theorem dL_law_208 : decode cL_law 208 = .ok (.pop, 1) := dec_at dlL_law_179_ok 17 rfl
theorem dL_law_209 : decode cL_law 209 = .ok (.aload_n 2, 1) := dec_at dlL_law_179_ok 18 rfl
theorem dL_law_210 : decode cL_law 210 = .ok (.invokevirtual 26, 3) := dec_at dlL_law_179_ok 19 rfl
theorem dL_law_213 : decode cL_law 213 = .ok (.pop, 1) := dec_at dlL_law_179_ok 20 rfl
theorem dL_law_214 : decode cL_law 214 = .ok (.goto 714, 3) := dec_at dlL_law_179_ok 21 rfl
theorem dL_law_217 : decode cL_law 217 = .ok (.aload_n 1, 1) := dec_at dlL_law_179_ok 22 rfl
theorem dL_law_218 : decode cL_law 218 = .ok (.aload_n 0, 1) := dec_at dlL_law_179_ok 23 rfl
theorem dL_law_219 : decode cL_law 219 = .ok (.iload_n 3, 1) := dec_at dlL_law_179_ok 24 rfl
theorem dL_law_220 : decode cL_law 220 = .ok (.iconst 1, 1) := dec_at dlL_law_179_ok 25 rfl
theorem dL_law_221 : decode cL_law 221 = .ok (.iadd, 1) := dec_at dlL_law_179_ok 26 rfl
theorem dL_law_222 : decode cL_law 222 = .ok (.iaload, 1) := dec_at dlL_law_179_ok 27 rfl
theorem dL_law_223 : decode cL_law 223 = .ok (.invokevirtual 27, 3) := dec_at dlL_law_179_ok 28 rfl
theorem dL_law_226 : decode cL_law 226 = .ok (.pop, 1) := dec_at dlL_law_179_ok 29 rfl
theorem dL_law_227 : decode cL_law 227 = .ok (.aload_n 2, 1) := dec_at dlL_law_179_ok 30 rfl
noncomputable def dlL_law_228 : List (Nat × Instr × Nat) := [(228, .aload_n 0, 1), (229, .iload_n 3, 1), (230, .iconst 1, 1), (231, .iadd, 1), (232, .iaload, 1), (233, .invokevirtual 30, 3), (236, .pop, 1), (237, .goto 691, 3), (240, .aload_n 1, 1), (241, .aload_n 0, 1), (242, .iload_n 3, 1), (243, .iconst 1, 1), (244, .iadd, 1), (245, .iaload, 1), (246, .aload_n 0, 1), (247, .iload_n 3, 1), (248, .iconst 2, 1), (249, .iadd, 1), (250, .iaload, 1), (251, .invokevirtual 31, 3), (254, .pop, 1), (255, .aload_n 2, 1), (256, .aload_n 0, 1), (257, .iload_n 3, 1), (258, .iconst 1, 1), (259, .iadd, 1), (260, .iaload, 1), (261, .aload_n 0, 1), (262, .iload_n 3, 1), (263, .iconst 2, 1), (264, .iadd, 1)]
theorem dlL_law_228_ok : dlL_law_228.all (fun r => decide (decode cL_law r.1 = .ok r.2)) = true := by decide +kernel
theorem dL_law_228 : decode cL_law 228 = .ok (.aload_n 0, 1) := dec_at dlL_law_228_ok 0 rfl
theorem dL_law_229 : decode cL_law 229 = .ok (.iload_n 3, 1) := dec_at dlL_law_228_ok 1 rfl
theorem dL_law_230 : decode cL_law 230 = .ok (.iconst 1, 1) := dec_at dlL_law_228_ok 2 rfl
theorem dL_law_231 : decode cL_law 231 = .ok (.iadd, 1) := dec_at dlL_law_228_ok 3 rfl
theorem dL_law_232 : decode cL_law 232 = .ok (.iaload, 1) := dec_at dlL_law_228_ok 4 rfl
theorem dL_law_233 : decode cL_law 233 = .ok (.invokevirtual 30, 3) := dec_at dlL_law_228_ok 5 rfl
theorem dL_law_236 : decode cL_law 236 = .ok (.pop, 1) := dec_at dlL_law_228_ok 6 rfl
theorem dL_law_237 : decode cL_law 237 = .ok (.goto 691, 3) := dec_at dlL_law_228_ok 7 rfl
theorem dL_law_240 : decode cL_law 240 = .ok (.aload_n 1, 1) := dec_at dlL_law_228_ok 8 rfl
theorem dL_law_241 : decode cL_law 241 = .ok (.aload_n 0, 1) := dec_at dlL_law_228_ok 9 rfl
theorem dL_law_242 : decode cL_law 242 = .ok (.iload_n 3, 1) := dec_at dlL_law_228_ok 10 rfl
theorem dL_law_243 : decode cL_law 243 = .ok (.iconst 1, 1) := dec_at dlL_law_228_ok 11 rfl
theorem dL_law_244 : decode cL_law 244 = .ok (.iadd, 1) := dec_at dlL_law_228_ok 12 rfl
theorem dL_law_245 : decode cL_law 245 = .ok (.iaload, 1) := dec_at dlL_law_228_ok 13 rfl
theorem dL_law_246 : decode cL_law 246 = .ok (.aload_n 0, 1) := dec_at dlL_law_228_ok 14 rfl
theorem dL_law_247 : decode cL_law 247 = .ok (.iload_n 3, 1) := dec_at dlL_law_228_ok 15 rfl
theorem dL_law_248 : decode cL_law 248 = .ok (.iconst 2, 1) := dec_at dlL_law_228_ok 16 rfl
theorem dL_law_249 : decode cL_law 249 = .ok (.iadd, 1) := dec_at dlL_law_228_ok 17 rfl
theorem dL_law_250 : decode cL_law 250 = .ok (.iaload, 1) := dec_at dlL_law_228_ok 18 rfl
theorem dL_law_251 : decode cL_law 251 = .ok (.invokevirtual 31, 3) := dec_at dlL_law_228_ok 19 rfl
theorem dL_law_254 : decode cL_law 254 = .ok (.pop, 1) := dec_at dlL_law_228_ok 20 rfl
theorem dL_law_255 : decode cL_law 255 = .ok (.aload_n 2, 1) := dec_at dlL_law_228_ok 21 rfl
theorem dL_law_256 : decode cL_law 256 = .ok (.aload_n 0, 1) := dec_at dlL_law_228_ok 22 rfl
theorem dL_law_257 : decode cL_law 257 = .ok (.iload_n 3, 1) := dec_at dlL_law_228_ok 23 rfl
theorem dL_law_258 : decode cL_law 258 = .ok (.iconst 1, 1) := dec_at dlL_law_228_ok 24 rfl
theorem dL_law_259 : decode cL_law 259 = .ok (.iadd, 1) := dec_at dlL_law_228_ok 25 rfl
theorem dL_law_260 : decode cL_law 260 = .ok (.iaload, 1) := dec_at dlL_law_228_ok 26 rfl
theorem dL_law_261 : decode cL_law 261 = .ok (.aload_n 0, 1) := dec_at dlL_law_228_ok 27 rfl
theorem dL_law_262 : decode cL_law 262 = .ok (.iload_n 3, 1) := dec_at dlL_law_228_ok 28 rfl
theorem dL_law_263 : decode cL_law 263 = .ok (.iconst 2, 1) := dec_at dlL_law_228_ok 29 rfl
theorem dL_law_264 : decode cL_law 264 = .ok (.iadd, 1) := dec_at dlL_law_228_ok 30 rfl
noncomputable def dlL_law_265 : List (Nat × Instr × Nat) := [(265, .iaload, 1), (266, .invokevirtual 35, 3), (269, .pop, 1), (270, .goto 658, 3), (273, .aload_n 1, 1), (274, .aload_n 0, 1), (275, .iload_n 3, 1), (276, .iconst 1, 1), (277, .iadd, 1), (278, .iaload, 1), (279, .aload_n 0, 1), (280, .iload_n 3, 1), (281, .iconst 2, 1), (282, .iadd, 1), (283, .iaload, 1), (284, .invokevirtual 36, 3), (287, .pop, 1), (288, .aload_n 2, 1), (289, .aload_n 0, 1), (290, .iload_n 3, 1), (291, .iconst 1, 1), (292, .iadd, 1), (293, .iaload, 1), (294, .aload_n 0, 1), (295, .iload_n 3, 1), (296, .iconst 2, 1), (297, .iadd, 1), (298, .iaload, 1), (299, .invokevirtual 39, 3), (302, .pop, 1), (303, .goto 625, 3)]
theorem dlL_law_265_ok : dlL_law_265.all (fun r => decide (decode cL_law r.1 = .ok r.2)) = true := by decide +kernel
theorem dL_law_265 : decode cL_law 265 = .ok (.iaload, 1) := dec_at dlL_law_265_ok 0 rfl
theorem dL_law_266 : decode cL_law 266 = .ok (.invokevirtual 35, 3) := dec_at dlL_law_265_ok 1 rfl
theorem dL_law_269 : decode cL_law 269 = .ok (.pop, 1) := dec_at dlL_law_265_ok 2 rfl
theorem dL_law_270 : decode cL_law 270 = .ok (.goto 658, 3) := dec_at dlL_law_265_ok 3 rfl
theorem dL_law_273 : decode cL_law 273 = .ok (.aload_n 1, 1) := dec_at dlL_law_265_ok 4 rfl
theorem dL_law_274 : decode cL_law 274 = .ok (.aload_n 0, 1) := dec_at dlL_law_265_ok 5 rfl
theorem dL_law_275 : decode cL_law 275 = .ok (.iload_n 3, 1) := dec_at dlL_law_265_ok 6 rfl
theorem dL_law_276 : decode cL_law 276 = .ok (.iconst 1, 1) := dec_at dlL_law_265_ok 7 rfl
theorem dL_law_277 : decode cL_law 277 = .ok (.iadd, 1) := dec_at dlL_law_265_ok 8 rfl
theorem dL_law_278 : decode cL_law 278 = .ok (.iaload, 1) := dec_at dlL_law_265_ok 9 rfl
theorem dL_law_279 : decode cL_law 279 = .ok (.aload_n 0, 1) := dec_at dlL_law_265_ok 10 rfl
theorem dL_law_280 : decode cL_law 280 = .ok (.iload_n 3, 1) := dec_at dlL_law_265_ok 11 rfl
theorem dL_law_281 : decode cL_law 281 = .ok (.iconst 2, 1) := dec_at dlL_law_265_ok 12 rfl
theorem dL_law_282 : decode cL_law 282 = .ok (.iadd, 1) := dec_at dlL_law_265_ok 13 rfl
theorem dL_law_283 : decode cL_law 283 = .ok (.iaload, 1) := dec_at dlL_law_265_ok 14 rfl
theorem dL_law_284 : decode cL_law 284 = .ok (.invokevirtual 36, 3) := dec_at dlL_law_265_ok 15 rfl
theorem dL_law_287 : decode cL_law 287 = .ok (.pop, 1) := dec_at dlL_law_265_ok 16 rfl
theorem dL_law_288 : decode cL_law 288 = .ok (.aload_n 2, 1) := dec_at dlL_law_265_ok 17 rfl
theorem dL_law_289 : decode cL_law 289 = .ok (.aload_n 0, 1) := dec_at dlL_law_265_ok 18 rfl
theorem dL_law_290 : decode cL_law 290 = .ok (.iload_n 3, 1) := dec_at dlL_law_265_ok 19 rfl
theorem dL_law_291 : decode cL_law 291 = .ok (.iconst 1, 1) := dec_at dlL_law_265_ok 20 rfl
theorem dL_law_292 : decode cL_law 292 = .ok (.iadd, 1) := dec_at dlL_law_265_ok 21 rfl
theorem dL_law_293 : decode cL_law 293 = .ok (.iaload, 1) := dec_at dlL_law_265_ok 22 rfl
theorem dL_law_294 : decode cL_law 294 = .ok (.aload_n 0, 1) := dec_at dlL_law_265_ok 23 rfl
theorem dL_law_295 : decode cL_law 295 = .ok (.iload_n 3, 1) := dec_at dlL_law_265_ok 24 rfl
theorem dL_law_296 : decode cL_law 296 = .ok (.iconst 2, 1) := dec_at dlL_law_265_ok 25 rfl
theorem dL_law_297 : decode cL_law 297 = .ok (.iadd, 1) := dec_at dlL_law_265_ok 26 rfl
theorem dL_law_298 : decode cL_law 298 = .ok (.iaload, 1) := dec_at dlL_law_265_ok 27 rfl
theorem dL_law_299 : decode cL_law 299 = .ok (.invokevirtual 39, 3) := dec_at dlL_law_265_ok 28 rfl
theorem dL_law_302 : decode cL_law 302 = .ok (.pop, 1) := dec_at dlL_law_265_ok 29 rfl
theorem dL_law_303 : decode cL_law 303 = .ok (.goto 625, 3) := dec_at dlL_law_265_ok 30 rfl
noncomputable def dlL_law_306 : List (Nat × Instr × Nat) := [(306, .aload_n 1, 1), (307, .aload_n 0, 1), (308, .iload_n 3, 1), (309, .iconst 1, 1), (310, .iadd, 1), (311, .iaload, 1), (312, .aload_n 0, 1), (313, .iload_n 3, 1), (314, .iconst 2, 1), (315, .iadd, 1), (316, .iaload, 1), (317, .aload_n 0, 1), (318, .iload_n 3, 1), (319, .iconst 3, 1), (320, .iadd, 1), (321, .iaload, 1), (322, .invokevirtual 40, 3), (325, .pop, 1), (326, .aload_n 2, 1), (327, .aload_n 0, 1), (328, .iload_n 3, 1), (329, .iconst 1, 1), (330, .iadd, 1), (331, .iaload, 1), (332, .aload_n 0, 1), (333, .iload_n 3, 1), (334, .iconst 2, 1), (335, .iadd, 1), (336, .iaload, 1), (337, .aload_n 0, 1), (338, .iload_n 3, 1)]
theorem dlL_law_306_ok : dlL_law_306.all (fun r => decide (decode cL_law r.1 = .ok r.2)) = true := by decide +kernel
theorem dL_law_306 : decode cL_law 306 = .ok (.aload_n 1, 1) := dec_at dlL_law_306_ok 0 rfl
theorem dL_law_307 : decode cL_law 307 = .ok (.aload_n 0, 1) := dec_at dlL_law_306_ok 1 rfl
theorem dL_law_308 : decode cL_law 308 = .ok (.iload_n 3, 1) := dec_at dlL_law_306_ok 2 rfl
theorem dL_law_309 : decode cL_law 309 = .ok (.iconst 1, 1) := dec_at dlL_law_306_ok 3 rfl
theorem dL_law_310 : decode cL_law 310 = .ok (.iadd, 1) := dec_at dlL_law_306_ok 4 rfl
theorem dL_law_311 : decode cL_law 311 = .ok (.iaload, 1) := dec_at dlL_law_306_ok 5 rfl
theorem dL_law_312 : decode cL_law 312 = .ok (.aload_n 0, 1) := dec_at dlL_law_306_ok 6 rfl
theorem dL_law_313 : decode cL_law 313 = .ok (.iload_n 3, 1) := dec_at dlL_law_306_ok 7 rfl
theorem dL_law_314 : decode cL_law 314 = .ok (.iconst 2, 1) := dec_at dlL_law_306_ok 8 rfl
theorem dL_law_315 : decode cL_law 315 = .ok (.iadd, 1) := dec_at dlL_law_306_ok 9 rfl
theorem dL_law_316 : decode cL_law 316 = .ok (.iaload, 1) := dec_at dlL_law_306_ok 10 rfl
theorem dL_law_317 : decode cL_law 317 = .ok (.aload_n 0, 1) := dec_at dlL_law_306_ok 11 rfl
theorem dL_law_318 : decode cL_law 318 = .ok (.iload_n 3, 1) := dec_at dlL_law_306_ok 12 rfl
theorem dL_law_319 : decode cL_law 319 = .ok (.iconst 3, 1) := dec_at dlL_law_306_ok 13 rfl
theorem dL_law_320 : decode cL_law 320 = .ok (.iadd, 1) := dec_at dlL_law_306_ok 14 rfl
theorem dL_law_321 : decode cL_law 321 = .ok (.iaload, 1) := dec_at dlL_law_306_ok 15 rfl
theorem dL_law_322 : decode cL_law 322 = .ok (.invokevirtual 40, 3) := dec_at dlL_law_306_ok 16 rfl
theorem dL_law_325 : decode cL_law 325 = .ok (.pop, 1) := dec_at dlL_law_306_ok 17 rfl
theorem dL_law_326 : decode cL_law 326 = .ok (.aload_n 2, 1) := dec_at dlL_law_306_ok 18 rfl
theorem dL_law_327 : decode cL_law 327 = .ok (.aload_n 0, 1) := dec_at dlL_law_306_ok 19 rfl
theorem dL_law_328 : decode cL_law 328 = .ok (.iload_n 3, 1) := dec_at dlL_law_306_ok 20 rfl
theorem dL_law_329 : decode cL_law 329 = .ok (.iconst 1, 1) := dec_at dlL_law_306_ok 21 rfl
theorem dL_law_330 : decode cL_law 330 = .ok (.iadd, 1) := dec_at dlL_law_306_ok 22 rfl
theorem dL_law_331 : decode cL_law 331 = .ok (.iaload, 1) := dec_at dlL_law_306_ok 23 rfl
theorem dL_law_332 : decode cL_law 332 = .ok (.aload_n 0, 1) := dec_at dlL_law_306_ok 24 rfl
theorem dL_law_333 : decode cL_law 333 = .ok (.iload_n 3, 1) := dec_at dlL_law_306_ok 25 rfl
theorem dL_law_334 : decode cL_law 334 = .ok (.iconst 2, 1) := dec_at dlL_law_306_ok 26 rfl
theorem dL_law_335 : decode cL_law 335 = .ok (.iadd, 1) := dec_at dlL_law_306_ok 27 rfl
theorem dL_law_336 : decode cL_law 336 = .ok (.iaload, 1) := dec_at dlL_law_306_ok 28 rfl
theorem dL_law_337 : decode cL_law 337 = .ok (.aload_n 0, 1) := dec_at dlL_law_306_ok 29 rfl
theorem dL_law_338 : decode cL_law 338 = .ok (.iload_n 3, 1) := dec_at dlL_law_306_ok 30 rfl
noncomputable def dlL_law_339 : List (Nat × Instr × Nat) := [(339, .iconst 3, 1), (340, .iadd, 1), (341, .iaload, 1), (342, .invokevirtual 44, 3), (345, .pop, 1), (346, .goto 582, 3), (349, .aload_n 1, 1), (350, .aload_n 0, 1), (351, .iload_n 3, 1), (352, .iconst 1, 1), (353, .iadd, 1), (354, .iaload, 1), (355, .aload_n 0, 1), (356, .iload_n 3, 1), (357, .iconst 2, 1), (358, .iadd, 1), (359, .iaload, 1), (360, .invokevirtual 45, 3), (363, .pop, 1), (364, .aload_n 2, 1), (365, .aload_n 0, 1), (366, .iload_n 3, 1), (367, .iconst 1, 1), (368, .iadd, 1), (369, .iaload, 1), (370, .aload_n 0, 1), (371, .iload_n 3, 1), (372, .iconst 2, 1), (373, .iadd, 1), (374, .iaload, 1), (375, .invokevirtual 48, 3)]
theorem dlL_law_339_ok : dlL_law_339.all (fun r => decide (decode cL_law r.1 = .ok r.2)) = true := by decide +kernel
theorem dL_law_339 : decode cL_law 339 = .ok (.iconst 3, 1) := dec_at dlL_law_339_ok 0 rfl
theorem dL_law_340 : decode cL_law 340 = .ok (.iadd, 1) := dec_at dlL_law_339_ok 1 rfl
theorem dL_law_341 : decode cL_law 341 = .ok (.iaload, 1) := dec_at dlL_law_339_ok 2 rfl
theorem dL_law_342 : decode cL_law 342 = .ok (.invokevirtual 44, 3) := dec_at dlL_law_339_ok 3 rfl
theorem dL_law_345 : decode cL_law 345 = .ok (.pop, 1) := dec_at dlL_law_339_ok 4 rfl
theorem dL_law_346 : decode cL_law 346 = .ok (.goto 582, 3) := dec_at dlL_law_339_ok 5 rfl
theorem dL_law_349 : decode cL_law 349 = .ok (.aload_n 1, 1) := dec_at dlL_law_339_ok 6 rfl
theorem dL_law_350 : decode cL_law 350 = .ok (.aload_n 0, 1) := dec_at dlL_law_339_ok 7 rfl
theorem dL_law_351 : decode cL_law 351 = .ok (.iload_n 3, 1) := dec_at dlL_law_339_ok 8 rfl
theorem dL_law_352 : decode cL_law 352 = .ok (.iconst 1, 1) := dec_at dlL_law_339_ok 9 rfl
theorem dL_law_353 : decode cL_law 353 = .ok (.iadd, 1) := dec_at dlL_law_339_ok 10 rfl
theorem dL_law_354 : decode cL_law 354 = .ok (.iaload, 1) := dec_at dlL_law_339_ok 11 rfl
theorem dL_law_355 : decode cL_law 355 = .ok (.aload_n 0, 1) := dec_at dlL_law_339_ok 12 rfl
theorem dL_law_356 : decode cL_law 356 = .ok (.iload_n 3, 1) := dec_at dlL_law_339_ok 13 rfl
theorem dL_law_357 : decode cL_law 357 = .ok (.iconst 2, 1) := dec_at dlL_law_339_ok 14 rfl
theorem dL_law_358 : decode cL_law 358 = .ok (.iadd, 1) := dec_at dlL_law_339_ok 15 rfl
theorem dL_law_359 : decode cL_law 359 = .ok (.iaload, 1) := dec_at dlL_law_339_ok 16 rfl
theorem dL_law_360 : decode cL_law 360 = .ok (.invokevirtual 45, 3) := dec_at dlL_law_339_ok 17 rfl
theorem dL_law_363 : decode cL_law 363 = .ok (.pop, 1) := dec_at dlL_law_339_ok 18 rfl
theorem dL_law_364 : decode cL_law 364 = .ok (.aload_n 2, 1) := dec_at dlL_law_339_ok 19 rfl
theorem dL_law_365 : decode cL_law 365 = .ok (.aload_n 0, 1) := dec_at dlL_law_339_ok 20 rfl
theorem dL_law_366 : decode cL_law 366 = .ok (.iload_n 3, 1) := dec_at dlL_law_339_ok 21 rfl
theorem dL_law_367 : decode cL_law 367 = .ok (.iconst 1, 1) := dec_at dlL_law_339_ok 22 rfl
theorem dL_law_368 : decode cL_law 368 = .ok (.iadd, 1) := dec_at dlL_law_339_ok 23 rfl
theorem dL_law_369 : decode cL_law 369 = .ok (.iaload, 1) := dec_at dlL_law_339_ok 24 rfl
theorem dL_law_370 : decode cL_law 370 = .ok (.aload_n 0, 1) := dec_at dlL_law_339_ok 25 rfl
theorem dL_law_371 : decode cL_law 371 = .ok (.iload_n 3, 1) := dec_at dlL_law_339_ok 26 rfl
theorem dL_law_372 : decode cL_law 372 = .ok (.iconst 2, 1) := dec_at dlL_law_339_ok 27 rfl
theorem dL_law_373 : decode cL_law 373 = .ok (.iadd, 1) := dec_at dlL_law_339_ok 28 rfl
theorem dL_law_374 : decode cL_law 374 = .ok (.iaload, 1) := dec_at dlL_law_339_ok 29 rfl
theorem dL_law_375 : decode cL_law 375 = .ok (.invokevirtual 48, 3) := dec_at dlL_law_339_ok 30 rfl
noncomputable def dlL_law_378 : List (Nat × Instr × Nat) := [(378, .pop, 1), (379, .goto 549, 3), (382, .aload_n 1, 1), (383, .aload_n 0, 1), (384, .iload_n 3, 1), (385, .iconst 1, 1), (386, .iadd, 1), (387, .iaload, 1), (388, .invokevirtual 49, 3), (391, .pop, 1), (392, .aload_n 2, 1), (393, .aload_n 0, 1), (394, .iload_n 3, 1), (395, .iconst 1, 1), (396, .iadd, 1), (397, .iaload, 1), (398, .invokevirtual 52, 3), (401, .pop, 1), (402, .goto 526, 3), (405, .aload_n 1, 1), (406, .aload_n 0, 1), (407, .iload_n 3, 1), (408, .iconst 1, 1), (409, .iadd, 1), (410, .iaload, 1), (411, .invokevirtual 53, 3), (414, .pop, 1), (415, .aload_n 2, 1), (416, .aload_n 0, 1), (417, .iload_n 3, 1), (418, .iconst 1, 1)]
theorem dlL_law_378_ok : dlL_law_378.all (fun r => decide (decode cL_law r.1 = .ok r.2)) = true := by decide +kernel
theorem dL_law_378 : decode cL_law 378 = .ok (.pop, 1) := dec_at dlL_law_378_ok 0 rfl
theorem dL_law_379 : decode cL_law 379 = .ok (.goto 549, 3) := dec_at dlL_law_378_ok 1 rfl
theorem dL_law_382 : decode cL_law 382 = .ok (.aload_n 1, 1) := dec_at dlL_law_378_ok 2 rfl
theorem dL_law_383 : decode cL_law 383 = .ok (.aload_n 0, 1) := dec_at dlL_law_378_ok 3 rfl
theorem dL_law_384 : decode cL_law 384 = .ok (.iload_n 3, 1) := dec_at dlL_law_378_ok 4 rfl
theorem dL_law_385 : decode cL_law 385 = .ok (.iconst 1, 1) := dec_at dlL_law_378_ok 5 rfl
theorem dL_law_386 : decode cL_law 386 = .ok (.iadd, 1) := dec_at dlL_law_378_ok 6 rfl
theorem dL_law_387 : decode cL_law 387 = .ok (.iaload, 1) := dec_at dlL_law_378_ok 7 rfl
theorem dL_law_388 : decode cL_law 388 = .ok (.invokevirtual 49, 3) := dec_at dlL_law_378_ok 8 rfl
theorem dL_law_391 : decode cL_law 391 = .ok (.pop, 1) := dec_at dlL_law_378_ok 9 rfl
theorem dL_law_392 : decode cL_law 392 = .ok (.aload_n 2, 1) := dec_at dlL_law_378_ok 10 rfl
theorem dL_law_393 : decode cL_law 393 = .ok (.aload_n 0, 1) := dec_at dlL_law_378_ok 11 rfl
theorem dL_law_394 : decode cL_law 394 = .ok (.iload_n 3, 1) := dec_at dlL_law_378_ok 12 rfl
theorem dL_law_395 : decode cL_law 395 = .ok (.iconst 1, 1) := dec_at dlL_law_378_ok 13 rfl
theorem dL_law_396 : decode cL_law 396 = .ok (.iadd, 1) := dec_at dlL_law_378_ok 14 rfl
theorem dL_law_397 : decode cL_law 397 = .ok (.iaload, 1) := dec_at dlL_law_378_ok 15 rfl
theorem dL_law_398 : decode cL_law 398 = .ok (.invokevirtual 52, 3) := dec_at dlL_law_378_ok 16 rfl
theorem dL_law_401 : decode cL_law 401 = .ok (.pop, 1) := dec_at dlL_law_378_ok 17 rfl
theorem dL_law_402 : decode cL_law 402 = .ok (.goto 526, 3) := dec_at dlL_law_378_ok 18 rfl
theorem dL_law_405 : decode cL_law 405 = .ok (.aload_n 1, 1) := dec_at dlL_law_378_ok 19 rfl
theorem dL_law_406 : decode cL_law 406 = .ok (.aload_n 0, 1) := dec_at dlL_law_378_ok 20 rfl
theorem dL_law_407 : decode cL_law 407 = .ok (.iload_n 3, 1) := dec_at dlL_law_378_ok 21 rfl
theorem dL_law_408 : decode cL_law 408 = .ok (.iconst 1, 1) := dec_at dlL_law_378_ok 22 rfl
theorem dL_law_409 : decode cL_law 409 = .ok (.iadd, 1) := dec_at dlL_law_378_ok 23 rfl
theorem dL_law_410 : decode cL_law 410 = .ok (.iaload, 1) := dec_at dlL_law_378_ok 24 rfl
theorem dL_law_411 : decode cL_law 411 = .ok (.invokevirtual 53, 3) := dec_at dlL_law_378_ok 25 rfl
theorem dL_law_414 : decode cL_law 414 = .ok (.pop, 1) := dec_at dlL_law_378_ok 26 rfl
theorem dL_law_415 : decode cL_law 415 = .ok (.aload_n 2, 1) := dec_at dlL_law_378_ok 27 rfl
theorem dL_law_416 : decode cL_law 416 = .ok (.aload_n 0, 1) := dec_at dlL_law_378_ok 28 rfl
theorem dL_law_417 : decode cL_law 417 = .ok (.iload_n 3, 1) := dec_at dlL_law_378_ok 29 rfl
theorem dL_law_418 : decode cL_law 418 = .ok (.iconst 1, 1) := dec_at dlL_law_378_ok 30 rfl
noncomputable def dlL_law_419 : List (Nat × Instr × Nat) := [(419, .iadd, 1), (420, .iaload, 1), (421, .invokevirtual 56, 3), (424, .pop, 1), (425, .goto 503, 3), (428, .aload_n 1, 1), (429, .invokevirtual 57, 3), (432, .pop, 1), (433, .aload_n 2, 1), (434, .invokevirtual 60, 3), (437, .pop, 1), (438, .goto 490, 3), (441, .aload_n 1, 1), (442, .aload_n 0, 1), (443, .iload_n 3, 1), (444, .iconst 1, 1), (445, .iadd, 1), (446, .iaload, 1), (447, .invokevirtual 61, 3), (450, .pop, 1), (451, .aload_n 2, 1), (452, .aload_n 0, 1), (453, .iload_n 3, 1), (454, .iconst 1, 1), (455, .iadd, 1), (456, .iaload, 1), (457, .invokevirtual 64, 3), (460, .pop, 1), (461, .goto 467, 3), (464, .aload_n 1, 1), (465, .invokevirtual 65, 3)]
theorem dlL_law_419_ok : dlL_law_419.all (fun r => decide (decode cL_law r.1 = .ok r.2)) = true := by decide +kernel
theorem dL_law_419 : decode cL_law 419 = .ok (.iadd, 1) := dec_at dlL_law_419_ok 0 rfl
theorem dL_law_420 : decode cL_law 420 = .ok (.iaload, 1) := dec_at dlL_law_419_ok 1 rfl
theorem dL_law_421 : decode cL_law 421 = .ok (.invokevirtual 56, 3) := dec_at dlL_law_419_ok 2 rfl
theorem dL_law_424 : decode cL_law 424 = .ok (.pop, 1) := dec_at dlL_law_419_ok 3 rfl
theorem dL_law_425 : decode cL_law 425 = .ok (.goto 503, 3) := dec_at dlL_law_419_ok 4 rfl
theorem dL_law_428 : decode cL_law 428 = .ok (.aload_n 1, 1) := dec_at dlL_law_419_ok 5 rfl
theorem dL_law_429 : decode cL_law 429 = .ok (.invokevirtual 57, 3) := dec_at dlL_law_419_ok 6 rfl
theorem dL_law_432 : decode cL_law 432 = .ok (.pop, 1) := dec_at dlL_law_419_ok 7 rfl
theorem dL_law_433 : decode cL_law 433 = .ok (.aload_n 2, 1) := dec_at dlL_law_419_ok 8 rfl
theorem dL_law_434 : decode cL_law 434 = .ok (.invokevirtual 60, 3) := dec_at dlL_law_419_ok 9 rfl
theorem dL_law_437 : decode cL_law 437 = .ok (.pop, 1) := dec_at dlL_law_419_ok 10 rfl
theorem dL_law_438 : decode cL_law 438 = .ok (.goto 490, 3) := dec_at dlL_law_419_ok 11 rfl
theorem dL_law_441 : decode cL_law 441 = .ok (.aload_n 1, 1) := dec_at dlL_law_419_ok 12 rfl
theorem dL_law_442 : decode cL_law 442 = .ok (.aload_n 0, 1) := dec_at dlL_law_419_ok 13 rfl
theorem dL_law_443 : decode cL_law 443 = .ok (.iload_n 3, 1) := dec_at dlL_law_419_ok 14 rfl
theorem dL_law_444 : decode cL_law 444 = .ok (.iconst 1, 1) := dec_at dlL_law_419_ok 15 rfl
theorem dL_law_445 : decode cL_law 445 = .ok (.iadd, 1) := dec_at dlL_law_419_ok 16 rfl
theorem dL_law_446 : decode cL_law 446 = .ok (.iaload, 1) := dec_at dlL_law_419_ok 17 rfl
theorem dL_law_447 : decode cL_law 447 = .ok (.invokevirtual 61, 3) := dec_at dlL_law_419_ok 18 rfl
theorem dL_law_450 : decode cL_law 450 = .ok (.pop, 1) := dec_at dlL_law_419_ok 19 rfl
theorem dL_law_451 : decode cL_law 451 = .ok (.aload_n 2, 1) := dec_at dlL_law_419_ok 20 rfl
theorem dL_law_452 : decode cL_law 452 = .ok (.aload_n 0, 1) := dec_at dlL_law_419_ok 21 rfl
theorem dL_law_453 : decode cL_law 453 = .ok (.iload_n 3, 1) := dec_at dlL_law_419_ok 22 rfl
theorem dL_law_454 : decode cL_law 454 = .ok (.iconst 1, 1) := dec_at dlL_law_419_ok 23 rfl
theorem dL_law_455 : decode cL_law 455 = .ok (.iadd, 1) := dec_at dlL_law_419_ok 24 rfl
theorem dL_law_456 : decode cL_law 456 = .ok (.iaload, 1) := dec_at dlL_law_419_ok 25 rfl
theorem dL_law_457 : decode cL_law 457 = .ok (.invokevirtual 64, 3) := dec_at dlL_law_419_ok 26 rfl
theorem dL_law_460 : decode cL_law 460 = .ok (.pop, 1) := dec_at dlL_law_419_ok 27 rfl
theorem dL_law_461 : decode cL_law 461 = .ok (.goto 467, 3) := dec_at dlL_law_419_ok 28 rfl
theorem dL_law_464 : decode cL_law 464 = .ok (.aload_n 1, 1) := dec_at dlL_law_419_ok 29 rfl
theorem dL_law_465 : decode cL_law 465 = .ok (.invokevirtual 65, 3) := dec_at dlL_law_419_ok 30 rfl
noncomputable def dlL_law_468 : List (Nat × Instr × Nat) := [(468, .pop, 1), (469, .aload_n 2, 1), (470, .invokevirtual 68, 3), (473, .pop, 1), (474, .goto 454, 3), (477, .aload_n 1, 1), (478, .aload_n 0, 1), (479, .iload_n 3, 1), (480, .iconst 1, 1), (481, .iadd, 1), (482, .iaload, 1), (483, .aload_n 0, 1), (484, .iload_n 3, 1), (485, .iconst 2, 1), (486, .iadd, 1), (487, .iaload, 1), (488, .invokevirtual 69, 3), (491, .pop, 1), (492, .aload_n 2, 1), (493, .aload_n 0, 1), (494, .iload_n 3, 1), (495, .iconst 1, 1), (496, .iadd, 1), (497, .iaload, 1), (498, .aload_n 0, 1), (499, .iload_n 3, 1), (500, .iconst 2, 1), (501, .iadd, 1), (502, .iaload, 1), (503, .invokevirtual 72, 3), (506, .pop, 1)]
theorem dlL_law_468_ok : dlL_law_468.all (fun r => decide (decode cL_law r.1 = .ok r.2)) = true := by decide +kernel
theorem dL_law_468 : decode cL_law 468 = .ok (.pop, 1) := dec_at dlL_law_468_ok 0 rfl
theorem dL_law_469 : decode cL_law 469 = .ok (.aload_n 2, 1) := dec_at dlL_law_468_ok 1 rfl
theorem dL_law_470 : decode cL_law 470 = .ok (.invokevirtual 68, 3) := dec_at dlL_law_468_ok 2 rfl
theorem dL_law_473 : decode cL_law 473 = .ok (.pop, 1) := dec_at dlL_law_468_ok 3 rfl
theorem dL_law_474 : decode cL_law 474 = .ok (.goto 454, 3) := dec_at dlL_law_468_ok 4 rfl
theorem dL_law_477 : decode cL_law 477 = .ok (.aload_n 1, 1) := dec_at dlL_law_468_ok 5 rfl
theorem dL_law_478 : decode cL_law 478 = .ok (.aload_n 0, 1) := dec_at dlL_law_468_ok 6 rfl
theorem dL_law_479 : decode cL_law 479 = .ok (.iload_n 3, 1) := dec_at dlL_law_468_ok 7 rfl
theorem dL_law_480 : decode cL_law 480 = .ok (.iconst 1, 1) := dec_at dlL_law_468_ok 8 rfl
theorem dL_law_481 : decode cL_law 481 = .ok (.iadd, 1) := dec_at dlL_law_468_ok 9 rfl
theorem dL_law_482 : decode cL_law 482 = .ok (.iaload, 1) := dec_at dlL_law_468_ok 10 rfl
theorem dL_law_483 : decode cL_law 483 = .ok (.aload_n 0, 1) := dec_at dlL_law_468_ok 11 rfl
theorem dL_law_484 : decode cL_law 484 = .ok (.iload_n 3, 1) := dec_at dlL_law_468_ok 12 rfl
theorem dL_law_485 : decode cL_law 485 = .ok (.iconst 2, 1) := dec_at dlL_law_468_ok 13 rfl
theorem dL_law_486 : decode cL_law 486 = .ok (.iadd, 1) := dec_at dlL_law_468_ok 14 rfl
theorem dL_law_487 : decode cL_law 487 = .ok (.iaload, 1) := dec_at dlL_law_468_ok 15 rfl
theorem dL_law_488 : decode cL_law 488 = .ok (.invokevirtual 69, 3) := dec_at dlL_law_468_ok 16 rfl
theorem dL_law_491 : decode cL_law 491 = .ok (.pop, 1) := dec_at dlL_law_468_ok 17 rfl
theorem dL_law_492 : decode cL_law 492 = .ok (.aload_n 2, 1) := dec_at dlL_law_468_ok 18 rfl
theorem dL_law_493 : decode cL_law 493 = .ok (.aload_n 0, 1) := dec_at dlL_law_468_ok 19 rfl
theorem dL_law_494 : decode cL_law 494 = .ok (.iload_n 3, 1) := dec_at dlL_law_468_ok 20 rfl
theorem dL_law_495 : decode cL_law 495 = .ok (.iconst 1, 1) := dec_at dlL_law_468_ok 21 rfl
theorem dL_law_496 : decode cL_law 496 = .ok (.iadd, 1) := dec_at dlL_law_468_ok 22 rfl
theorem dL_law_497 : decode cL_law 497 = .ok (.iaload, 1) := dec_at dlL_law_468_ok 23 rfl
theorem dL_law_498 : decode cL_law 498 = .ok (.aload_n 0, 1) := dec_at dlL_law_468_ok 24 rfl
theorem dL_law_499 : decode cL_law 499 = .ok (.iload_n 3, 1) := dec_at dlL_law_468_ok 25 rfl
theorem dL_law_500 : decode cL_law 500 = .ok (.iconst 2, 1) := dec_at dlL_law_468_ok 26 rfl
theorem dL_law_501 : decode cL_law 501 = .ok (.iadd, 1) := dec_at dlL_law_468_ok 27 rfl
theorem dL_law_502 : decode cL_law 502 = .ok (.iaload, 1) := dec_at dlL_law_468_ok 28 rfl
theorem dL_law_503 : decode cL_law 503 = .ok (.invokevirtual 72, 3) := dec_at dlL_law_468_ok 29 rfl
theorem dL_law_506 : decode cL_law 506 = .ok (.pop, 1) := dec_at dlL_law_468_ok 30 rfl
noncomputable def dlL_law_507 : List (Nat × Instr × Nat) := [(507, .goto 421, 3), (510, .aload_n 1, 1), (511, .aload_n 0, 1), (512, .iload_n 3, 1), (513, .iconst 1, 1), (514, .iadd, 1), (515, .iaload, 1), (516, .aload_n 0, 1), (517, .iload_n 3, 1), (518, .iconst 2, 1), (519, .iadd, 1), (520, .iaload, 1), (521, .invokevirtual 73, 3), (524, .pop, 1), (525, .aload_n 2, 1), (526, .aload_n 0, 1), (527, .iload_n 3, 1), (528, .iconst 1, 1), (529, .iadd, 1), (530, .iaload, 1), (531, .aload_n 0, 1), (532, .iload_n 3, 1), (533, .iconst 2, 1), (534, .iadd, 1), (535, .iaload, 1), (536, .invokevirtual 76, 3), (539, .pop, 1), (540, .goto 388, 3), (543, .aload_n 1, 1), (544, .aload_n 0, 1), (545, .iload_n 3, 1)]
theorem dlL_law_507_ok : dlL_law_507.all (fun r => decide (decode cL_law r.1 = .ok r.2)) = true := by decide +kernel
theorem dL_law_507 : decode cL_law 507 = .ok (.goto 421, 3) := dec_at dlL_law_507_ok 0 rfl
theorem dL_law_510 : decode cL_law 510 = .ok (.aload_n 1, 1) := dec_at dlL_law_507_ok 1 rfl
theorem dL_law_511 : decode cL_law 511 = .ok (.aload_n 0, 1) := dec_at dlL_law_507_ok 2 rfl
theorem dL_law_512 : decode cL_law 512 = .ok (.iload_n 3, 1) := dec_at dlL_law_507_ok 3 rfl
theorem dL_law_513 : decode cL_law 513 = .ok (.iconst 1, 1) := dec_at dlL_law_507_ok 4 rfl
theorem dL_law_514 : decode cL_law 514 = .ok (.iadd, 1) := dec_at dlL_law_507_ok 5 rfl
theorem dL_law_515 : decode cL_law 515 = .ok (.iaload, 1) := dec_at dlL_law_507_ok 6 rfl
theorem dL_law_516 : decode cL_law 516 = .ok (.aload_n 0, 1) := dec_at dlL_law_507_ok 7 rfl
theorem dL_law_517 : decode cL_law 517 = .ok (.iload_n 3, 1) := dec_at dlL_law_507_ok 8 rfl
theorem dL_law_518 : decode cL_law 518 = .ok (.iconst 2, 1) := dec_at dlL_law_507_ok 9 rfl
theorem dL_law_519 : decode cL_law 519 = .ok (.iadd, 1) := dec_at dlL_law_507_ok 10 rfl
theorem dL_law_520 : decode cL_law 520 = .ok (.iaload, 1) := dec_at dlL_law_507_ok 11 rfl
theorem dL_law_521 : decode cL_law 521 = .ok (.invokevirtual 73, 3) := dec_at dlL_law_507_ok 12 rfl
theorem dL_law_524 : decode cL_law 524 = .ok (.pop, 1) := dec_at dlL_law_507_ok 13 rfl
theorem dL_law_525 : decode cL_law 525 = .ok (.aload_n 2, 1) := dec_at dlL_law_507_ok 14 rfl
theorem dL_law_526 : decode cL_law 526 = .ok (.aload_n 0, 1) := dec_at dlL_law_507_ok 15 rfl
theorem dL_law_527 : decode cL_law 527 = .ok (.iload_n 3, 1) := dec_at dlL_law_507_ok 16 rfl
theorem dL_law_528 : decode cL_law 528 = .ok (.iconst 1, 1) := dec_at dlL_law_507_ok 17 rfl
theorem dL_law_529 : decode cL_law 529 = .ok (.iadd, 1) := dec_at dlL_law_507_ok 18 rfl
theorem dL_law_530 : decode cL_law 530 = .ok (.iaload, 1) := dec_at dlL_law_507_ok 19 rfl
theorem dL_law_531 : decode cL_law 531 = .ok (.aload_n 0, 1) := dec_at dlL_law_507_ok 20 rfl
theorem dL_law_532 : decode cL_law 532 = .ok (.iload_n 3, 1) := dec_at dlL_law_507_ok 21 rfl
theorem dL_law_533 : decode cL_law 533 = .ok (.iconst 2, 1) := dec_at dlL_law_507_ok 22 rfl
theorem dL_law_534 : decode cL_law 534 = .ok (.iadd, 1) := dec_at dlL_law_507_ok 23 rfl
theorem dL_law_535 : decode cL_law 535 = .ok (.iaload, 1) := dec_at dlL_law_507_ok 24 rfl
theorem dL_law_536 : decode cL_law 536 = .ok (.invokevirtual 76, 3) := dec_at dlL_law_507_ok 25 rfl
theorem dL_law_539 : decode cL_law 539 = .ok (.pop, 1) := dec_at dlL_law_507_ok 26 rfl
theorem dL_law_540 : decode cL_law 540 = .ok (.goto 388, 3) := dec_at dlL_law_507_ok 27 rfl
theorem dL_law_543 : decode cL_law 543 = .ok (.aload_n 1, 1) := dec_at dlL_law_507_ok 28 rfl
theorem dL_law_544 : decode cL_law 544 = .ok (.aload_n 0, 1) := dec_at dlL_law_507_ok 29 rfl
theorem dL_law_545 : decode cL_law 545 = .ok (.iload_n 3, 1) := dec_at dlL_law_507_ok 30 rfl
noncomputable def dlL_law_546 : List (Nat × Instr × Nat) := [(546, .iconst 1, 1), (547, .iadd, 1), (548, .iaload, 1), (549, .invokevirtual 77, 3), (552, .pop, 1), (553, .aload_n 2, 1), (554, .aload_n 0, 1), (555, .iload_n 3, 1), (556, .iconst 1, 1), (557, .iadd, 1), (558, .iaload, 1), (559, .invokevirtual 80, 3), (562, .pop, 1), (563, .goto 365, 3), (566, .aload_n 1, 1), (567, .aload_n 0, 1), (568, .iload_n 3, 1), (569, .iconst 1, 1), (570, .iadd, 1), (571, .iaload, 1), (572, .aload_n 0, 1), (573, .iload_n 3, 1), (574, .iconst 2, 1), (575, .iadd, 1), (576, .iaload, 1), (577, .aload_n 0, 1), (578, .iload_n 3, 1), (579, .iconst 3, 1), (580, .iadd, 1), (581, .iaload, 1), (582, .invokevirtual 81, 3)]
theorem dlL_law_546_ok : dlL_law_546.all (fun r => decide (decode cL_law r.1 = .ok r.2)) = true := by decide +kernel
theorem dL_law_546 : decode cL_law 546 = .ok (.iconst 1, 1) := dec_at dlL_law_546_ok 0 rfl
theorem dL_law_547 : decode cL_law 547 = .ok (.iadd, 1) := dec_at dlL_law_546_ok 1 rfl
theorem dL_law_548 : decode cL_law 548 = .ok (.iaload, 1) := dec_at dlL_law_546_ok 2 rfl
theorem dL_law_549 : decode cL_law 549 = .ok (.invokevirtual 77, 3) := dec_at dlL_law_546_ok 3 rfl
theorem dL_law_552 : decode cL_law 552 = .ok (.pop, 1) := dec_at dlL_law_546_ok 4 rfl
theorem dL_law_553 : decode cL_law 553 = .ok (.aload_n 2, 1) := dec_at dlL_law_546_ok 5 rfl
theorem dL_law_554 : decode cL_law 554 = .ok (.aload_n 0, 1) := dec_at dlL_law_546_ok 6 rfl
theorem dL_law_555 : decode cL_law 555 = .ok (.iload_n 3, 1) := dec_at dlL_law_546_ok 7 rfl
theorem dL_law_556 : decode cL_law 556 = .ok (.iconst 1, 1) := dec_at dlL_law_546_ok 8 rfl
theorem dL_law_557 : decode cL_law 557 = .ok (.iadd, 1) := dec_at dlL_law_546_ok 9 rfl
theorem dL_law_558 : decode cL_law 558 = .ok (.iaload, 1) := dec_at dlL_law_546_ok 10 rfl
theorem dL_law_559 : decode cL_law 559 = .ok (.invokevirtual 80, 3) := dec_at dlL_law_546_ok 11 rfl
theorem dL_law_562 : decode cL_law 562 = .ok (.pop, 1) := dec_at dlL_law_546_ok 12 rfl
theorem dL_law_563 : decode cL_law 563 = .ok (.goto 365, 3) := dec_at dlL_law_546_ok 13 rfl
theorem dL_law_566 : decode cL_law 566 = .ok (.aload_n 1, 1) := dec_at dlL_law_546_ok 14 rfl
theorem dL_law_567 : decode cL_law 567 = .ok (.aload_n 0, 1) := dec_at dlL_law_546_ok 15 rfl
theorem dL_law_568 : decode cL_law 568 = .ok (.iload_n 3, 1) := dec_at dlL_law_546_ok 16 rfl
theorem dL_law_569 : decode cL_law 569 = .ok (.iconst 1, 1) := dec_at dlL_law_546_ok 17 rfl
theorem dL_law_570 : decode cL_law 570 = .ok (.iadd, 1) := dec_at dlL_law_546_ok 18 rfl
theorem dL_law_571 : decode cL_law 571 = .ok (.iaload, 1) := dec_at dlL_law_546_ok 19 rfl
theorem dL_law_572 : decode cL_law 572 = .ok (.aload_n 0, 1) := dec_at dlL_law_546_ok 20 rfl
theorem dL_law_573 : decode cL_law 573 = .ok (.iload_n 3, 1) := dec_at dlL_law_546_ok 21 rfl
theorem dL_law_574 : decode cL_law 574 = .ok (.iconst 2, 1) := dec_at dlL_law_546_ok 22 rfl
theorem dL_law_575 : decode cL_law 575 = .ok (.iadd, 1) := dec_at dlL_law_546_ok 23 rfl
theorem dL_law_576 : decode cL_law 576 = .ok (.iaload, 1) := dec_at dlL_law_546_ok 24 rfl
theorem dL_law_577 : decode cL_law 577 = .ok (.aload_n 0, 1) := dec_at dlL_law_546_ok 25 rfl
theorem dL_law_578 : decode cL_law 578 = .ok (.iload_n 3, 1) := dec_at dlL_law_546_ok 26 rfl
theorem dL_law_579 : decode cL_law 579 = .ok (.iconst 3, 1) := dec_at dlL_law_546_ok 27 rfl
theorem dL_law_580 : decode cL_law 580 = .ok (.iadd, 1) := dec_at dlL_law_546_ok 28 rfl
theorem dL_law_581 : decode cL_law 581 = .ok (.iaload, 1) := dec_at dlL_law_546_ok 29 rfl
theorem dL_law_582 : decode cL_law 582 = .ok (.invokevirtual 81, 3) := dec_at dlL_law_546_ok 30 rfl
noncomputable def dlL_law_585 : List (Nat × Instr × Nat) := [(585, .pop, 1), (586, .aload_n 2, 1), (587, .aload_n 0, 1), (588, .iload_n 3, 1), (589, .iconst 1, 1), (590, .iadd, 1), (591, .iaload, 1), (592, .aload_n 0, 1), (593, .iload_n 3, 1), (594, .iconst 2, 1), (595, .iadd, 1), (596, .iaload, 1), (597, .aload_n 0, 1), (598, .iload_n 3, 1), (599, .iconst 3, 1), (600, .iadd, 1), (601, .iaload, 1), (602, .invokevirtual 84, 3), (605, .pop, 1), (606, .goto 322, 3), (609, .aload_n 1, 1), (610, .aload_n 0, 1), (611, .iload_n 3, 1), (612, .iconst 1, 1), (613, .iadd, 1), (614, .iaload, 1), (615, .aload_n 0, 1), (616, .iload_n 3, 1), (617, .iconst 2, 1), (618, .iadd, 1), (619, .iaload, 1)]
theorem dlL_law_585_ok : dlL_law_585.all (fun r => decide (decode cL_law r.1 = .ok r.2)) = true := by decide +kernel
theorem dL_law_585 : decode cL_law 585 = .ok (.pop, 1) := dec_at dlL_law_585_ok 0 rfl
theorem dL_law_586 : decode cL_law 586 = .ok (.aload_n 2, 1) := dec_at dlL_law_585_ok 1 rfl
theorem dL_law_587 : decode cL_law 587 = .ok (.aload_n 0, 1) := dec_at dlL_law_585_ok 2 rfl
theorem dL_law_588 : decode cL_law 588 = .ok (.iload_n 3, 1) := dec_at dlL_law_585_ok 3 rfl
theorem dL_law_589 : decode cL_law 589 = .ok (.iconst 1, 1) := dec_at dlL_law_585_ok 4 rfl
theorem dL_law_590 : decode cL_law 590 = .ok (.iadd, 1) := dec_at dlL_law_585_ok 5 rfl
theorem dL_law_591 : decode cL_law 591 = .ok (.iaload, 1) := dec_at dlL_law_585_ok 6 rfl
theorem dL_law_592 : decode cL_law 592 = .ok (.aload_n 0, 1) := dec_at dlL_law_585_ok 7 rfl
theorem dL_law_593 : decode cL_law 593 = .ok (.iload_n 3, 1) := dec_at dlL_law_585_ok 8 rfl
theorem dL_law_594 : decode cL_law 594 = .ok (.iconst 2, 1) := dec_at dlL_law_585_ok 9 rfl
theorem dL_law_595 : decode cL_law 595 = .ok (.iadd, 1) := dec_at dlL_law_585_ok 10 rfl
theorem dL_law_596 : decode cL_law 596 = .ok (.iaload, 1) := dec_at dlL_law_585_ok 11 rfl
theorem dL_law_597 : decode cL_law 597 = .ok (.aload_n 0, 1) := dec_at dlL_law_585_ok 12 rfl
theorem dL_law_598 : decode cL_law 598 = .ok (.iload_n 3, 1) := dec_at dlL_law_585_ok 13 rfl
theorem dL_law_599 : decode cL_law 599 = .ok (.iconst 3, 1) := dec_at dlL_law_585_ok 14 rfl
theorem dL_law_600 : decode cL_law 600 = .ok (.iadd, 1) := dec_at dlL_law_585_ok 15 rfl
theorem dL_law_601 : decode cL_law 601 = .ok (.iaload, 1) := dec_at dlL_law_585_ok 16 rfl
theorem dL_law_602 : decode cL_law 602 = .ok (.invokevirtual 84, 3) := dec_at dlL_law_585_ok 17 rfl
theorem dL_law_605 : decode cL_law 605 = .ok (.pop, 1) := dec_at dlL_law_585_ok 18 rfl
theorem dL_law_606 : decode cL_law 606 = .ok (.goto 322, 3) := dec_at dlL_law_585_ok 19 rfl
theorem dL_law_609 : decode cL_law 609 = .ok (.aload_n 1, 1) := dec_at dlL_law_585_ok 20 rfl
theorem dL_law_610 : decode cL_law 610 = .ok (.aload_n 0, 1) := dec_at dlL_law_585_ok 21 rfl
theorem dL_law_611 : decode cL_law 611 = .ok (.iload_n 3, 1) := dec_at dlL_law_585_ok 22 rfl
theorem dL_law_612 : decode cL_law 612 = .ok (.iconst 1, 1) := dec_at dlL_law_585_ok 23 rfl
theorem dL_law_613 : decode cL_law 613 = .ok (.iadd, 1) := dec_at dlL_law_585_ok 24 rfl
theorem dL_law_614 : decode cL_law 614 = .ok (.iaload, 1) := dec_at dlL_law_585_ok 25 rfl
theorem dL_law_615 : decode cL_law 615 = .ok (.aload_n 0, 1) := dec_at dlL_law_585_ok 26 rfl
theorem dL_law_616 : decode cL_law 616 = .ok (.iload_n 3, 1) := dec_at dlL_law_585_ok 27 rfl
theorem dL_law_617 : decode cL_law 617 = .ok (.iconst 2, 1) := dec_at dlL_law_585_ok 28 rfl
theorem dL_law_618 : decode cL_law 618 = .ok (.iadd, 1) := dec_at dlL_law_585_ok 29 rfl
theorem dL_law_619 : decode cL_law 619 = .ok (.iaload, 1) := dec_at dlL_law_585_ok 30 rfl
noncomputable def dlL_law_620 : List (Nat × Instr × Nat) := [(620, .invokevirtual 85, 3), (623, .pop, 1), (624, .aload_n 2, 1), (625, .aload_n 0, 1), (626, .iload_n 3, 1), (627, .iconst 1, 1), (628, .iadd, 1), (629, .iaload, 1), (630, .aload_n 0, 1), (631, .iload_n 3, 1), (632, .iconst 2, 1), (633, .iadd, 1), (634, .iaload, 1), (635, .invokevirtual 88, 3), (638, .pop, 1), (639, .goto 289, 3), (642, .aload_n 1, 1), (643, .invokevirtual 89, 3), (646, .pop, 1), (647, .aload_n 2, 1), (648, .invokevirtual 92, 3), (651, .pop, 1), (652, .goto 276, 3), (655, .aload_n 1, 1), (656, .aload_n 0, 1), (657, .iload_n 3, 1), (658, .iconst 1, 1), (659, .iadd, 1), (660, .iaload, 1), (661, .aload_n 0, 1), (662, .iload_n 3, 1)]
theorem dlL_law_620_ok : dlL_law_620.all (fun r => decide (decode cL_law r.1 = .ok r.2)) = true := by decide +kernel
theorem dL_law_620 : decode cL_law 620 = .ok (.invokevirtual 85, 3) := dec_at dlL_law_620_ok 0 rfl
theorem dL_law_623 : decode cL_law 623 = .ok (.pop, 1) := dec_at dlL_law_620_ok 1 rfl
theorem dL_law_624 : decode cL_law 624 = .ok (.aload_n 2, 1) := dec_at dlL_law_620_ok 2 rfl
theorem dL_law_625 : decode cL_law 625 = .ok (.aload_n 0, 1) := dec_at dlL_law_620_ok 3 rfl
theorem dL_law_626 : decode cL_law 626 = .ok (.iload_n 3, 1) := dec_at dlL_law_620_ok 4 rfl
theorem dL_law_627 : decode cL_law 627 = .ok (.iconst 1, 1) := dec_at dlL_law_620_ok 5 rfl
theorem dL_law_628 : decode cL_law 628 = .ok (.iadd, 1) := dec_at dlL_law_620_ok 6 rfl
theorem dL_law_629 : decode cL_law 629 = .ok (.iaload, 1) := dec_at dlL_law_620_ok 7 rfl
theorem dL_law_630 : decode cL_law 630 = .ok (.aload_n 0, 1) := dec_at dlL_law_620_ok 8 rfl
theorem dL_law_631 : decode cL_law 631 = .ok (.iload_n 3, 1) := dec_at dlL_law_620_ok 9 rfl
theorem dL_law_632 : decode cL_law 632 = .ok (.iconst 2, 1) := dec_at dlL_law_620_ok 10 rfl
theorem dL_law_633 : decode cL_law 633 = .ok (.iadd, 1) := dec_at dlL_law_620_ok 11 rfl
theorem dL_law_634 : decode cL_law 634 = .ok (.iaload, 1) := dec_at dlL_law_620_ok 12 rfl
theorem dL_law_635 : decode cL_law 635 = .ok (.invokevirtual 88, 3) := dec_at dlL_law_620_ok 13 rfl
theorem dL_law_638 : decode cL_law 638 = .ok (.pop, 1) := dec_at dlL_law_620_ok 14 rfl
theorem dL_law_639 : decode cL_law 639 = .ok (.goto 289, 3) := dec_at dlL_law_620_ok 15 rfl
theorem dL_law_642 : decode cL_law 642 = .ok (.aload_n 1, 1) := dec_at dlL_law_620_ok 16 rfl
theorem dL_law_643 : decode cL_law 643 = .ok (.invokevirtual 89, 3) := dec_at dlL_law_620_ok 17 rfl
theorem dL_law_646 : decode cL_law 646 = .ok (.pop, 1) := dec_at dlL_law_620_ok 18 rfl
theorem dL_law_647 : decode cL_law 647 = .ok (.aload_n 2, 1) := dec_at dlL_law_620_ok 19 rfl
theorem dL_law_648 : decode cL_law 648 = .ok (.invokevirtual 92, 3) := dec_at dlL_law_620_ok 20 rfl
theorem dL_law_651 : decode cL_law 651 = .ok (.pop, 1) := dec_at dlL_law_620_ok 21 rfl
theorem dL_law_652 : decode cL_law 652 = .ok (.goto 276, 3) := dec_at dlL_law_620_ok 22 rfl
theorem dL_law_655 : decode cL_law 655 = .ok (.aload_n 1, 1) := dec_at dlL_law_620_ok 23 rfl
theorem dL_law_656 : decode cL_law 656 = .ok (.aload_n 0, 1) := dec_at dlL_law_620_ok 24 rfl
theorem dL_law_657 : decode cL_law 657 = .ok (.iload_n 3, 1) := dec_at dlL_law_620_ok 25 rfl
theorem dL_law_658 : decode cL_law 658 = .ok (.iconst 1, 1) := dec_at dlL_law_620_ok 26 rfl
theorem dL_law_659 : decode cL_law 659 = .ok (.iadd, 1) := dec_at dlL_law_620_ok 27 rfl
theorem dL_law_660 : decode cL_law 660 = .ok (.iaload, 1) := dec_at dlL_law_620_ok 28 rfl
theorem dL_law_661 : decode cL_law 661 = .ok (.aload_n 0, 1) := dec_at dlL_law_620_ok 29 rfl
theorem dL_law_662 : decode cL_law 662 = .ok (.iload_n 3, 1) := dec_at dlL_law_620_ok 30 rfl
noncomputable def dlL_law_663 : List (Nat × Instr × Nat) := [(663, .iconst 2, 1), (664, .iadd, 1), (665, .iaload, 1), (666, .aload_n 0, 1), (667, .iload_n 3, 1), (668, .iconst 3, 1), (669, .iadd, 1), (670, .iaload, 1), (671, .invokevirtual 93, 3), (674, .pop, 1), (675, .aload_n 2, 1), (676, .aload_n 0, 1), (677, .iload_n 3, 1), (678, .iconst 1, 1), (679, .iadd, 1), (680, .iaload, 1), (681, .aload_n 0, 1), (682, .iload_n 3, 1), (683, .iconst 2, 1), (684, .iadd, 1), (685, .iaload, 1), (686, .aload_n 0, 1), (687, .iload_n 3, 1), (688, .iconst 3, 1), (689, .iadd, 1), (690, .iaload, 1), (691, .invokevirtual 96, 3), (694, .pop, 1), (695, .goto 233, 3), (698, .aload_n 1, 1), (699, .aload_n 0, 1)]
theorem dlL_law_663_ok : dlL_law_663.all (fun r => decide (decode cL_law r.1 = .ok r.2)) = true := by decide +kernel
theorem dL_law_663 : decode cL_law 663 = .ok (.iconst 2, 1) := dec_at dlL_law_663_ok 0 rfl
theorem dL_law_664 : decode cL_law 664 = .ok (.iadd, 1) := dec_at dlL_law_663_ok 1 rfl
theorem dL_law_665 : decode cL_law 665 = .ok (.iaload, 1) := dec_at dlL_law_663_ok 2 rfl
theorem dL_law_666 : decode cL_law 666 = .ok (.aload_n 0, 1) := dec_at dlL_law_663_ok 3 rfl
theorem dL_law_667 : decode cL_law 667 = .ok (.iload_n 3, 1) := dec_at dlL_law_663_ok 4 rfl
theorem dL_law_668 : decode cL_law 668 = .ok (.iconst 3, 1) := dec_at dlL_law_663_ok 5 rfl
theorem dL_law_669 : decode cL_law 669 = .ok (.iadd, 1) := dec_at dlL_law_663_ok 6 rfl
theorem dL_law_670 : decode cL_law 670 = .ok (.iaload, 1) := dec_at dlL_law_663_ok 7 rfl
theorem dL_law_671 : decode cL_law 671 = .ok (.invokevirtual 93, 3) := dec_at dlL_law_663_ok 8 rfl
theorem dL_law_674 : decode cL_law 674 = .ok (.pop, 1) := dec_at dlL_law_663_ok 9 rfl
theorem dL_law_675 : decode cL_law 675 = .ok (.aload_n 2, 1) := dec_at dlL_law_663_ok 10 rfl
theorem dL_law_676 : decode cL_law 676 = .ok (.aload_n 0, 1) := dec_at dlL_law_663_ok 11 rfl
theorem dL_law_677 : decode cL_law 677 = .ok (.iload_n 3, 1) := dec_at dlL_law_663_ok 12 rfl
theorem dL_law_678 : decode cL_law 678 = .ok (.iconst 1, 1) := dec_at dlL_law_663_ok 13 rfl
theorem dL_law_679 : decode cL_law 679 = .ok (.iadd, 1) := dec_at dlL_law_663_ok 14 rfl
theorem dL_law_680 : decode cL_law 680 = .ok (.iaload, 1) := dec_at dlL_law_663_ok 15 rfl
theorem dL_law_681 : decode cL_law 681 = .ok (.aload_n 0, 1) := dec_at dlL_law_663_ok 16 rfl
theorem dL_law_682 : decode cL_law 682 = .ok (.iload_n 3, 1) := dec_at dlL_law_663_ok 17 rfl
theorem dL_law_683 : decode cL_law 683 = .ok (.iconst 2, 1) := dec_at dlL_law_663_ok 18 rfl
theorem dL_law_684 : decode cL_law 684 = .ok (.iadd, 1) := dec_at dlL_law_663_ok 19 rfl
theorem dL_law_685 : decode cL_law 685 = .ok (.iaload, 1) := dec_at dlL_law_663_ok 20 rfl
theorem dL_law_686 : decode cL_law 686 = .ok (.aload_n 0, 1) := dec_at dlL_law_663_ok 21 rfl
theorem dL_law_687 : decode cL_law 687 = .ok (.iload_n 3, 1) := dec_at dlL_law_663_ok 22 rfl
theorem dL_law_688 : decode cL_law 688 = .ok (.iconst 3, 1) := dec_at dlL_law_663_ok 23 rfl
theorem dL_law_689 : decode cL_law 689 = .ok (.iadd, 1) := dec_at dlL_law_663_ok 24 rfl
theorem dL_law_690 : decode cL_law 690 = .ok (.iaload, 1) := dec_at dlL_law_663_ok 25 rfl
theorem dL_law_691 : decode cL_law 691 = .ok (.invokevirtual 96, 3) := dec_at dlL_law_663_ok 26 rfl
theorem dL_law_694 : decode cL_law 694 = .ok (.pop, 1) := dec_at dlL_law_663_ok 27 rfl
theorem dL_law_695 : decode cL_law 695 = .ok (.goto 233, 3) := dec_at dlL_law_663_ok 28 rfl
theorem dL_law_698 : decode cL_law 698 = .ok (.aload_n 1, 1) := dec_at dlL_law_663_ok 29 rfl
theorem dL_law_699 : decode cL_law 699 = .ok (.aload_n 0, 1) := dec_at dlL_law_663_ok 30 rfl
noncomputable def dlL_law_700 : List (Nat × Instr × Nat) := [(700, .iload_n 3, 1), (701, .iconst 1, 1), (702, .iadd, 1), (703, .iaload, 1), (704, .aload_n 0, 1), (705, .iload_n 3, 1), (706, .iconst 2, 1), (707, .iadd, 1), (708, .iaload, 1), (709, .invokevirtual 97, 3), (712, .pop, 1), (713, .aload_n 2, 1), (714, .aload_n 0, 1), (715, .iload_n 3, 1), (716, .iconst 1, 1), (717, .iadd, 1), (718, .iaload, 1), (719, .aload_n 0, 1), (720, .iload_n 3, 1), (721, .iconst 2, 1), (722, .iadd, 1), (723, .iaload, 1), (724, .invokevirtual 100, 3), (727, .pop, 1), (728, .goto 200, 3), (731, .aload_n 1, 1), (732, .aload_n 0, 1), (733, .iload_n 3, 1), (734, .iconst 1, 1), (735, .iadd, 1), (736, .iaload, 1)]
theorem dlL_law_700_ok : dlL_law_700.all (fun r => decide (decode cL_law r.1 = .ok r.2)) = true := by decide +kernel
theorem dL_law_700 : decode cL_law 700 = .ok (.iload_n 3, 1) := dec_at dlL_law_700_ok 0 rfl
theorem dL_law_701 : decode cL_law 701 = .ok (.iconst 1, 1) := dec_at dlL_law_700_ok 1 rfl
theorem dL_law_702 : decode cL_law 702 = .ok (.iadd, 1) := dec_at dlL_law_700_ok 2 rfl
theorem dL_law_703 : decode cL_law 703 = .ok (.iaload, 1) := dec_at dlL_law_700_ok 3 rfl
theorem dL_law_704 : decode cL_law 704 = .ok (.aload_n 0, 1) := dec_at dlL_law_700_ok 4 rfl
theorem dL_law_705 : decode cL_law 705 = .ok (.iload_n 3, 1) := dec_at dlL_law_700_ok 5 rfl
theorem dL_law_706 : decode cL_law 706 = .ok (.iconst 2, 1) := dec_at dlL_law_700_ok 6 rfl
theorem dL_law_707 : decode cL_law 707 = .ok (.iadd, 1) := dec_at dlL_law_700_ok 7 rfl
theorem dL_law_708 : decode cL_law 708 = .ok (.iaload, 1) := dec_at dlL_law_700_ok 8 rfl
theorem dL_law_709 : decode cL_law 709 = .ok (.invokevirtual 97, 3) := dec_at dlL_law_700_ok 9 rfl
theorem dL_law_712 : decode cL_law 712 = .ok (.pop, 1) := dec_at dlL_law_700_ok 10 rfl
theorem dL_law_713 : decode cL_law 713 = .ok (.aload_n 2, 1) := dec_at dlL_law_700_ok 11 rfl
theorem dL_law_714 : decode cL_law 714 = .ok (.aload_n 0, 1) := dec_at dlL_law_700_ok 12 rfl
theorem dL_law_715 : decode cL_law 715 = .ok (.iload_n 3, 1) := dec_at dlL_law_700_ok 13 rfl
theorem dL_law_716 : decode cL_law 716 = .ok (.iconst 1, 1) := dec_at dlL_law_700_ok 14 rfl
theorem dL_law_717 : decode cL_law 717 = .ok (.iadd, 1) := dec_at dlL_law_700_ok 15 rfl
theorem dL_law_718 : decode cL_law 718 = .ok (.iaload, 1) := dec_at dlL_law_700_ok 16 rfl
theorem dL_law_719 : decode cL_law 719 = .ok (.aload_n 0, 1) := dec_at dlL_law_700_ok 17 rfl
theorem dL_law_720 : decode cL_law 720 = .ok (.iload_n 3, 1) := dec_at dlL_law_700_ok 18 rfl
theorem dL_law_721 : decode cL_law 721 = .ok (.iconst 2, 1) := dec_at dlL_law_700_ok 19 rfl
theorem dL_law_722 : decode cL_law 722 = .ok (.iadd, 1) := dec_at dlL_law_700_ok 20 rfl
theorem dL_law_723 : decode cL_law 723 = .ok (.iaload, 1) := dec_at dlL_law_700_ok 21 rfl
theorem dL_law_724 : decode cL_law 724 = .ok (.invokevirtual 100, 3) := dec_at dlL_law_700_ok 22 rfl
theorem dL_law_727 : decode cL_law 727 = .ok (.pop, 1) := dec_at dlL_law_700_ok 23 rfl
theorem dL_law_728 : decode cL_law 728 = .ok (.goto 200, 3) := dec_at dlL_law_700_ok 24 rfl
theorem dL_law_731 : decode cL_law 731 = .ok (.aload_n 1, 1) := dec_at dlL_law_700_ok 25 rfl
theorem dL_law_732 : decode cL_law 732 = .ok (.aload_n 0, 1) := dec_at dlL_law_700_ok 26 rfl
theorem dL_law_733 : decode cL_law 733 = .ok (.iload_n 3, 1) := dec_at dlL_law_700_ok 27 rfl
theorem dL_law_734 : decode cL_law 734 = .ok (.iconst 1, 1) := dec_at dlL_law_700_ok 28 rfl
theorem dL_law_735 : decode cL_law 735 = .ok (.iadd, 1) := dec_at dlL_law_700_ok 29 rfl
theorem dL_law_736 : decode cL_law 736 = .ok (.iaload, 1) := dec_at dlL_law_700_ok 30 rfl
noncomputable def dlL_law_737 : List (Nat × Instr × Nat) := [(737, .aload_n 0, 1), (738, .iload_n 3, 1), (739, .iconst 2, 1), (740, .iadd, 1), (741, .iaload, 1), (742, .aload_n 0, 1), (743, .iload_n 3, 1), (744, .iconst 3, 1), (745, .iadd, 1), (746, .iaload, 1), (747, .invokevirtual 101, 3), (750, .pop, 1), (751, .aload_n 2, 1), (752, .aload_n 0, 1), (753, .iload_n 3, 1), (754, .iconst 1, 1), (755, .iadd, 1), (756, .iaload, 1), (757, .aload_n 0, 1), (758, .iload_n 3, 1), (759, .iconst 2, 1), (760, .iadd, 1), (761, .iaload, 1), (762, .aload_n 0, 1), (763, .iload_n 3, 1), (764, .iconst 3, 1), (765, .iadd, 1), (766, .iaload, 1), (767, .invokevirtual 104, 3), (770, .pop, 1), (771, .goto 157, 3)]
theorem dlL_law_737_ok : dlL_law_737.all (fun r => decide (decode cL_law r.1 = .ok r.2)) = true := by decide +kernel
theorem dL_law_737 : decode cL_law 737 = .ok (.aload_n 0, 1) := dec_at dlL_law_737_ok 0 rfl
theorem dL_law_738 : decode cL_law 738 = .ok (.iload_n 3, 1) := dec_at dlL_law_737_ok 1 rfl
theorem dL_law_739 : decode cL_law 739 = .ok (.iconst 2, 1) := dec_at dlL_law_737_ok 2 rfl
theorem dL_law_740 : decode cL_law 740 = .ok (.iadd, 1) := dec_at dlL_law_737_ok 3 rfl
theorem dL_law_741 : decode cL_law 741 = .ok (.iaload, 1) := dec_at dlL_law_737_ok 4 rfl
theorem dL_law_742 : decode cL_law 742 = .ok (.aload_n 0, 1) := dec_at dlL_law_737_ok 5 rfl
theorem dL_law_743 : decode cL_law 743 = .ok (.iload_n 3, 1) := dec_at dlL_law_737_ok 6 rfl
theorem dL_law_744 : decode cL_law 744 = .ok (.iconst 3, 1) := dec_at dlL_law_737_ok 7 rfl
theorem dL_law_745 : decode cL_law 745 = .ok (.iadd, 1) := dec_at dlL_law_737_ok 8 rfl
theorem dL_law_746 : decode cL_law 746 = .ok (.iaload, 1) := dec_at dlL_law_737_ok 9 rfl
theorem dL_law_747 : decode cL_law 747 = .ok (.invokevirtual 101, 3) := dec_at dlL_law_737_ok 10 rfl
theorem dL_law_750 : decode cL_law 750 = .ok (.pop, 1) := dec_at dlL_law_737_ok 11 rfl
theorem dL_law_751 : decode cL_law 751 = .ok (.aload_n 2, 1) := dec_at dlL_law_737_ok 12 rfl
theorem dL_law_752 : decode cL_law 752 = .ok (.aload_n 0, 1) := dec_at dlL_law_737_ok 13 rfl
theorem dL_law_753 : decode cL_law 753 = .ok (.iload_n 3, 1) := dec_at dlL_law_737_ok 14 rfl
theorem dL_law_754 : decode cL_law 754 = .ok (.iconst 1, 1) := dec_at dlL_law_737_ok 15 rfl
theorem dL_law_755 : decode cL_law 755 = .ok (.iadd, 1) := dec_at dlL_law_737_ok 16 rfl
theorem dL_law_756 : decode cL_law 756 = .ok (.iaload, 1) := dec_at dlL_law_737_ok 17 rfl
theorem dL_law_757 : decode cL_law 757 = .ok (.aload_n 0, 1) := dec_at dlL_law_737_ok 18 rfl
theorem dL_law_758 : decode cL_law 758 = .ok (.iload_n 3, 1) := dec_at dlL_law_737_ok 19 rfl
theorem dL_law_759 : decode cL_law 759 = .ok (.iconst 2, 1) := dec_at dlL_law_737_ok 20 rfl
theorem dL_law_760 : decode cL_law 760 = .ok (.iadd, 1) := dec_at dlL_law_737_ok 21 rfl
theorem dL_law_761 : decode cL_law 761 = .ok (.iaload, 1) := dec_at dlL_law_737_ok 22 rfl
theorem dL_law_762 : decode cL_law 762 = .ok (.aload_n 0, 1) := dec_at dlL_law_737_ok 23 rfl
theorem dL_law_763 : decode cL_law 763 = .ok (.iload_n 3, 1) := dec_at dlL_law_737_ok 24 rfl
theorem dL_law_764 : decode cL_law 764 = .ok (.iconst 3, 1) := dec_at dlL_law_737_ok 25 rfl
theorem dL_law_765 : decode cL_law 765 = .ok (.iadd, 1) := dec_at dlL_law_737_ok 26 rfl
theorem dL_law_766 : decode cL_law 766 = .ok (.iaload, 1) := dec_at dlL_law_737_ok 27 rfl
theorem dL_law_767 : decode cL_law 767 = .ok (.invokevirtual 104, 3) := dec_at dlL_law_737_ok 28 rfl
theorem dL_law_770 : decode cL_law 770 = .ok (.pop, 1) := dec_at dlL_law_737_ok 29 rfl
theorem dL_law_771 : decode cL_law 771 = .ok (.goto 157, 3) := dec_at dlL_law_737_ok 30 rfl
noncomputable def dlL_law_774 : List (Nat × Instr × Nat) := [(774, .aload_n 1, 1), (775, .invokevirtual 105, 3), (778, .pop, 1), (779, .aload_n 2, 1), (780, .invokevirtual 108, 3), (783, .pop, 1), (784, .goto 144, 3), (787, .aload_n 1, 1), (788, .invokevirtual 109, 3), (791, .pop, 1), (792, .aload_n 2, 1), (793, .invokevirtual 112, 3), (796, .pop, 1), (797, .goto 131, 3), (800, .aload_n 1, 1), (801, .aload_n 0, 1), (802, .iload_n 3, 1), (803, .iconst 1, 1), (804, .iadd, 1), (805, .iaload, 1), (806, .aload_n 0, 1), (807, .iload_n 3, 1), (808, .iconst 2, 1), (809, .iadd, 1), (810, .iaload, 1), (811, .invokevirtual 113, 3), (814, .pop, 1), (815, .aload_n 2, 1), (816, .aload_n 0, 1), (817, .iload_n 3, 1), (818, .iconst 1, 1)]
theorem dlL_law_774_ok : dlL_law_774.all (fun r => decide (decode cL_law r.1 = .ok r.2)) = true := by decide +kernel
theorem dL_law_774 : decode cL_law 774 = .ok (.aload_n 1, 1) := dec_at dlL_law_774_ok 0 rfl
theorem dL_law_775 : decode cL_law 775 = .ok (.invokevirtual 105, 3) := dec_at dlL_law_774_ok 1 rfl
theorem dL_law_778 : decode cL_law 778 = .ok (.pop, 1) := dec_at dlL_law_774_ok 2 rfl
theorem dL_law_779 : decode cL_law 779 = .ok (.aload_n 2, 1) := dec_at dlL_law_774_ok 3 rfl
theorem dL_law_780 : decode cL_law 780 = .ok (.invokevirtual 108, 3) := dec_at dlL_law_774_ok 4 rfl
theorem dL_law_783 : decode cL_law 783 = .ok (.pop, 1) := dec_at dlL_law_774_ok 5 rfl
theorem dL_law_784 : decode cL_law 784 = .ok (.goto 144, 3) := dec_at dlL_law_774_ok 6 rfl
theorem dL_law_787 : decode cL_law 787 = .ok (.aload_n 1, 1) := dec_at dlL_law_774_ok 7 rfl
theorem dL_law_788 : decode cL_law 788 = .ok (.invokevirtual 109, 3) := dec_at dlL_law_774_ok 8 rfl
theorem dL_law_791 : decode cL_law 791 = .ok (.pop, 1) := dec_at dlL_law_774_ok 9 rfl
theorem dL_law_792 : decode cL_law 792 = .ok (.aload_n 2, 1) := dec_at dlL_law_774_ok 10 rfl
theorem dL_law_793 : decode cL_law 793 = .ok (.invokevirtual 112, 3) := dec_at dlL_law_774_ok 11 rfl
theorem dL_law_796 : decode cL_law 796 = .ok (.pop, 1) := dec_at dlL_law_774_ok 12 rfl
theorem dL_law_797 : decode cL_law 797 = .ok (.goto 131, 3) := dec_at dlL_law_774_ok 13 rfl
theorem dL_law_800 : decode cL_law 800 = .ok (.aload_n 1, 1) := dec_at dlL_law_774_ok 14 rfl
theorem dL_law_801 : decode cL_law 801 = .ok (.aload_n 0, 1) := dec_at dlL_law_774_ok 15 rfl
theorem dL_law_802 : decode cL_law 802 = .ok (.iload_n 3, 1) := dec_at dlL_law_774_ok 16 rfl
theorem dL_law_803 : decode cL_law 803 = .ok (.iconst 1, 1) := dec_at dlL_law_774_ok 17 rfl
theorem dL_law_804 : decode cL_law 804 = .ok (.iadd, 1) := dec_at dlL_law_774_ok 18 rfl
theorem dL_law_805 : decode cL_law 805 = .ok (.iaload, 1) := dec_at dlL_law_774_ok 19 rfl
theorem dL_law_806 : decode cL_law 806 = .ok (.aload_n 0, 1) := dec_at dlL_law_774_ok 20 rfl
theorem dL_law_807 : decode cL_law 807 = .ok (.iload_n 3, 1) := dec_at dlL_law_774_ok 21 rfl
theorem dL_law_808 : decode cL_law 808 = .ok (.iconst 2, 1) := dec_at dlL_law_774_ok 22 rfl
theorem dL_law_809 : decode cL_law 809 = .ok (.iadd, 1) := dec_at dlL_law_774_ok 23 rfl
theorem dL_law_810 : decode cL_law 810 = .ok (.iaload, 1) := dec_at dlL_law_774_ok 24 rfl
theorem dL_law_811 : decode cL_law 811 = .ok (.invokevirtual 113, 3) := dec_at dlL_law_774_ok 25 rfl
theorem dL_law_814 : decode cL_law 814 = .ok (.pop, 1) := dec_at dlL_law_774_ok 26 rfl
theorem dL_law_815 : decode cL_law 815 = .ok (.aload_n 2, 1) := dec_at dlL_law_774_ok 27 rfl
theorem dL_law_816 : decode cL_law 816 = .ok (.aload_n 0, 1) := dec_at dlL_law_774_ok 28 rfl
theorem dL_law_817 : decode cL_law 817 = .ok (.iload_n 3, 1) := dec_at dlL_law_774_ok 29 rfl
theorem dL_law_818 : decode cL_law 818 = .ok (.iconst 1, 1) := dec_at dlL_law_774_ok 30 rfl
noncomputable def dlL_law_819 : List (Nat × Instr × Nat) := [(819, .iadd, 1), (820, .iaload, 1), (821, .aload_n 0, 1), (822, .iload_n 3, 1), (823, .iconst 2, 1), (824, .iadd, 1), (825, .iaload, 1), (826, .invokevirtual 116, 3), (829, .pop, 1), (830, .goto 98, 3), (833, .aload_n 1, 1), (834, .invokevirtual 117, 3), (837, .pop, 1), (838, .aload_n 2, 1), (839, .invokevirtual 120, 3), (842, .pop, 1), (843, .goto 85, 3), (846, .aload_n 1, 1), (847, .invokevirtual 121, 3), (850, .pop, 1), (851, .aload_n 2, 1), (852, .invokevirtual 124, 3), (855, .pop, 1), (856, .goto 72, 3), (859, .aload_n 1, 1), (860, .aload_n 0, 1), (861, .iload_n 3, 1), (862, .iconst 1, 1), (863, .iadd, 1), (864, .iaload, 1), (865, .invokevirtual 125, 3)]
theorem dlL_law_819_ok : dlL_law_819.all (fun r => decide (decode cL_law r.1 = .ok r.2)) = true := by decide +kernel
theorem dL_law_819 : decode cL_law 819 = .ok (.iadd, 1) := dec_at dlL_law_819_ok 0 rfl
theorem dL_law_820 : decode cL_law 820 = .ok (.iaload, 1) := dec_at dlL_law_819_ok 1 rfl
theorem dL_law_821 : decode cL_law 821 = .ok (.aload_n 0, 1) := dec_at dlL_law_819_ok 2 rfl
theorem dL_law_822 : decode cL_law 822 = .ok (.iload_n 3, 1) := dec_at dlL_law_819_ok 3 rfl
theorem dL_law_823 : decode cL_law 823 = .ok (.iconst 2, 1) := dec_at dlL_law_819_ok 4 rfl
theorem dL_law_824 : decode cL_law 824 = .ok (.iadd, 1) := dec_at dlL_law_819_ok 5 rfl
theorem dL_law_825 : decode cL_law 825 = .ok (.iaload, 1) := dec_at dlL_law_819_ok 6 rfl
theorem dL_law_826 : decode cL_law 826 = .ok (.invokevirtual 116, 3) := dec_at dlL_law_819_ok 7 rfl
theorem dL_law_829 : decode cL_law 829 = .ok (.pop, 1) := dec_at dlL_law_819_ok 8 rfl
theorem dL_law_830 : decode cL_law 830 = .ok (.goto 98, 3) := dec_at dlL_law_819_ok 9 rfl
theorem dL_law_833 : decode cL_law 833 = .ok (.aload_n 1, 1) := dec_at dlL_law_819_ok 10 rfl
theorem dL_law_834 : decode cL_law 834 = .ok (.invokevirtual 117, 3) := dec_at dlL_law_819_ok 11 rfl
theorem dL_law_837 : decode cL_law 837 = .ok (.pop, 1) := dec_at dlL_law_819_ok 12 rfl
theorem dL_law_838 : decode cL_law 838 = .ok (.aload_n 2, 1) := dec_at dlL_law_819_ok 13 rfl
theorem dL_law_839 : decode cL_law 839 = .ok (.invokevirtual 120, 3) := dec_at dlL_law_819_ok 14 rfl
theorem dL_law_842 : decode cL_law 842 = .ok (.pop, 1) := dec_at dlL_law_819_ok 15 rfl
theorem dL_law_843 : decode cL_law 843 = .ok (.goto 85, 3) := dec_at dlL_law_819_ok 16 rfl
theorem dL_law_846 : decode cL_law 846 = .ok (.aload_n 1, 1) := dec_at dlL_law_819_ok 17 rfl
theorem dL_law_847 : decode cL_law 847 = .ok (.invokevirtual 121, 3) := dec_at dlL_law_819_ok 18 rfl
theorem dL_law_850 : decode cL_law 850 = .ok (.pop, 1) := dec_at dlL_law_819_ok 19 rfl
theorem dL_law_851 : decode cL_law 851 = .ok (.aload_n 2, 1) := dec_at dlL_law_819_ok 20 rfl
theorem dL_law_852 : decode cL_law 852 = .ok (.invokevirtual 124, 3) := dec_at dlL_law_819_ok 21 rfl
theorem dL_law_855 : decode cL_law 855 = .ok (.pop, 1) := dec_at dlL_law_819_ok 22 rfl
theorem dL_law_856 : decode cL_law 856 = .ok (.goto 72, 3) := dec_at dlL_law_819_ok 23 rfl
theorem dL_law_859 : decode cL_law 859 = .ok (.aload_n 1, 1) := dec_at dlL_law_819_ok 24 rfl
theorem dL_law_860 : decode cL_law 860 = .ok (.aload_n 0, 1) := dec_at dlL_law_819_ok 25 rfl
theorem dL_law_861 : decode cL_law 861 = .ok (.iload_n 3, 1) := dec_at dlL_law_819_ok 26 rfl
theorem dL_law_862 : decode cL_law 862 = .ok (.iconst 1, 1) := dec_at dlL_law_819_ok 27 rfl
theorem dL_law_863 : decode cL_law 863 = .ok (.iadd, 1) := dec_at dlL_law_819_ok 28 rfl
theorem dL_law_864 : decode cL_law 864 = .ok (.iaload, 1) := dec_at dlL_law_819_ok 29 rfl
theorem dL_law_865 : decode cL_law 865 = .ok (.invokevirtual 125, 3) := dec_at dlL_law_819_ok 30 rfl
noncomputable def dlL_law_868 : List (Nat × Instr × Nat) := [(868, .aload_n 2, 1), (869, .aload_n 0, 1), (870, .iload_n 3, 1), (871, .iconst 1, 1), (872, .iadd, 1), (873, .iaload, 1), (874, .invokevirtual 128, 3), (877, .if_icmp .eq 51, 3), (880, .iconst 0, 1), (881, .ireturn, 1), (882, .aload_n 1, 1), (883, .aload_n 0, 1), (884, .iload_n 3, 1), (885, .iconst 1, 1), (886, .iadd, 1), (887, .iaload, 1), (888, .invokevirtual 129, 3), (891, .pop, 1), (892, .aload_n 2, 1), (893, .aload_n 0, 1), (894, .iload_n 3, 1), (895, .iconst 1, 1), (896, .iadd, 1), (897, .iaload, 1), (898, .invokevirtual 132, 3), (901, .pop, 1), (902, .goto 26, 3), (905, .aload_n 1, 1), (906, .aload_n 0, 1), (907, .iload_n 3, 1), (908, .iconst 1, 1)]
theorem dlL_law_868_ok : dlL_law_868.all (fun r => decide (decode cL_law r.1 = .ok r.2)) = true := by decide +kernel
theorem dL_law_868 : decode cL_law 868 = .ok (.aload_n 2, 1) := dec_at dlL_law_868_ok 0 rfl
theorem dL_law_869 : decode cL_law 869 = .ok (.aload_n 0, 1) := dec_at dlL_law_868_ok 1 rfl
theorem dL_law_870 : decode cL_law 870 = .ok (.iload_n 3, 1) := dec_at dlL_law_868_ok 2 rfl
theorem dL_law_871 : decode cL_law 871 = .ok (.iconst 1, 1) := dec_at dlL_law_868_ok 3 rfl
theorem dL_law_872 : decode cL_law 872 = .ok (.iadd, 1) := dec_at dlL_law_868_ok 4 rfl
theorem dL_law_873 : decode cL_law 873 = .ok (.iaload, 1) := dec_at dlL_law_868_ok 5 rfl
theorem dL_law_874 : decode cL_law 874 = .ok (.invokevirtual 128, 3) := dec_at dlL_law_868_ok 6 rfl
theorem dL_law_877 : decode cL_law 877 = .ok (.if_icmp .eq 51, 3) := dec_at dlL_law_868_ok 7 rfl
theorem dL_law_880 : decode cL_law 880 = .ok (.iconst 0, 1) := dec_at dlL_law_868_ok 8 rfl
theorem dL_law_881 : decode cL_law 881 = .ok (.ireturn, 1) := dec_at dlL_law_868_ok 9 rfl
theorem dL_law_882 : decode cL_law 882 = .ok (.aload_n 1, 1) := dec_at dlL_law_868_ok 10 rfl
theorem dL_law_883 : decode cL_law 883 = .ok (.aload_n 0, 1) := dec_at dlL_law_868_ok 11 rfl
theorem dL_law_884 : decode cL_law 884 = .ok (.iload_n 3, 1) := dec_at dlL_law_868_ok 12 rfl
theorem dL_law_885 : decode cL_law 885 = .ok (.iconst 1, 1) := dec_at dlL_law_868_ok 13 rfl
theorem dL_law_886 : decode cL_law 886 = .ok (.iadd, 1) := dec_at dlL_law_868_ok 14 rfl
theorem dL_law_887 : decode cL_law 887 = .ok (.iaload, 1) := dec_at dlL_law_868_ok 15 rfl
theorem dL_law_888 : decode cL_law 888 = .ok (.invokevirtual 129, 3) := dec_at dlL_law_868_ok 16 rfl
theorem dL_law_891 : decode cL_law 891 = .ok (.pop, 1) := dec_at dlL_law_868_ok 17 rfl
theorem dL_law_892 : decode cL_law 892 = .ok (.aload_n 2, 1) := dec_at dlL_law_868_ok 18 rfl
theorem dL_law_893 : decode cL_law 893 = .ok (.aload_n 0, 1) := dec_at dlL_law_868_ok 19 rfl
theorem dL_law_894 : decode cL_law 894 = .ok (.iload_n 3, 1) := dec_at dlL_law_868_ok 20 rfl
theorem dL_law_895 : decode cL_law 895 = .ok (.iconst 1, 1) := dec_at dlL_law_868_ok 21 rfl
theorem dL_law_896 : decode cL_law 896 = .ok (.iadd, 1) := dec_at dlL_law_868_ok 22 rfl
theorem dL_law_897 : decode cL_law 897 = .ok (.iaload, 1) := dec_at dlL_law_868_ok 23 rfl
theorem dL_law_898 : decode cL_law 898 = .ok (.invokevirtual 132, 3) := dec_at dlL_law_868_ok 24 rfl
theorem dL_law_901 : decode cL_law 901 = .ok (.pop, 1) := dec_at dlL_law_868_ok 25 rfl
theorem dL_law_902 : decode cL_law 902 = .ok (.goto 26, 3) := dec_at dlL_law_868_ok 26 rfl
theorem dL_law_905 : decode cL_law 905 = .ok (.aload_n 1, 1) := dec_at dlL_law_868_ok 27 rfl
theorem dL_law_906 : decode cL_law 906 = .ok (.aload_n 0, 1) := dec_at dlL_law_868_ok 28 rfl
theorem dL_law_907 : decode cL_law 907 = .ok (.iload_n 3, 1) := dec_at dlL_law_868_ok 29 rfl
theorem dL_law_908 : decode cL_law 908 = .ok (.iconst 1, 1) := dec_at dlL_law_868_ok 30 rfl
noncomputable def dlL_law_909 : List (Nat × Instr × Nat) := [(909, .iadd, 1), (910, .iaload, 1), (911, .invokevirtual 133, 3), (914, .pop, 1), (915, .aload_n 2, 1), (916, .aload_n 0, 1), (917, .iload_n 3, 1), (918, .iconst 1, 1), (919, .iadd, 1), (920, .iaload, 1), (921, .invokevirtual 136, 3), (924, .pop, 1), (925, .goto 3, 3), (928, .iinc 3 4, 3), (931, .goto (-913), 3), (934, .iconst 1, 1), (935, .ireturn, 1)]
theorem dlL_law_909_ok : dlL_law_909.all (fun r => decide (decode cL_law r.1 = .ok r.2)) = true := by decide +kernel
theorem dL_law_909 : decode cL_law 909 = .ok (.iadd, 1) := dec_at dlL_law_909_ok 0 rfl
theorem dL_law_910 : decode cL_law 910 = .ok (.iaload, 1) := dec_at dlL_law_909_ok 1 rfl
theorem dL_law_911 : decode cL_law 911 = .ok (.invokevirtual 133, 3) := dec_at dlL_law_909_ok 2 rfl
theorem dL_law_914 : decode cL_law 914 = .ok (.pop, 1) := dec_at dlL_law_909_ok 3 rfl
theorem dL_law_915 : decode cL_law 915 = .ok (.aload_n 2, 1) := dec_at dlL_law_909_ok 4 rfl
theorem dL_law_916 : decode cL_law 916 = .ok (.aload_n 0, 1) := dec_at dlL_law_909_ok 5 rfl
theorem dL_law_917 : decode cL_law 917 = .ok (.iload_n 3, 1) := dec_at dlL_law_909_ok 6 rfl
theorem dL_law_918 : decode cL_law 918 = .ok (.iconst 1, 1) := dec_at dlL_law_909_ok 7 rfl
theorem dL_law_919 : decode cL_law 919 = .ok (.iadd, 1) := dec_at dlL_law_909_ok 8 rfl
theorem dL_law_920 : decode cL_law 920 = .ok (.iaload, 1) := dec_at dlL_law_909_ok 9 rfl
theorem dL_law_921 : decode cL_law 921 = .ok (.invokevirtual 136, 3) := dec_at dlL_law_909_ok 10 rfl
theorem dL_law_924 : decode cL_law 924 = .ok (.pop, 1) := dec_at dlL_law_909_ok 11 rfl
theorem dL_law_925 : decode cL_law 925 = .ok (.goto 3, 3) := dec_at dlL_law_909_ok 12 rfl
theorem dL_law_928 : decode cL_law 928 = .ok (.iinc 3 4, 3) := dec_at dlL_law_909_ok 13 rfl
theorem dL_law_931 : decode cL_law 931 = .ok (.goto (-913), 3) := dec_at dlL_law_909_ok 14 rfl
theorem dL_law_934 : decode cL_law 934 = .ok (.iconst 1, 1) := dec_at dlL_law_909_ok 15 rfl
theorem dL_law_935 : decode cL_law 935 = .ok (.ireturn, 1) := dec_at dlL_law_909_ok 16 rfl
