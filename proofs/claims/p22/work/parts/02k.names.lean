theorem dL_change_84 : decode cL_change 84 = .ok (.iaload, 1) := by decide +kernel
theorem dL_change_85 : decode cL_change 85 = .ok (.bipush 20, 2) := by decide +kernel
theorem dL_change_87 : decode cL_change 87 = .ok (.if_icmp .ne 8, 3) := by decide +kernel
theorem dL_change_90 : decode cL_change 90 = .ok (.bipush 19, 2) := by decide +kernel
theorem dL_change_92 : decode cL_change 92 = .ok (.goto 6, 3) := by decide +kernel
theorem dL_change_95 : decode cL_change 95 = .ok (.aload_n 3, 1) := by decide +kernel
theorem dL_change_96 : decode cL_change 96 = .ok (.iconst 0, 1) := by decide +kernel
theorem dL_change_97 : decode cL_change 97 = .ok (.iaload, 1) := by decide +kernel
theorem dL_change_98 : decode cL_change 98 = .ok (.iastore, 1) := by decide +kernel
theorem dL_change_99 : decode cL_change 99 = .ok (.aload_n 2, 1) := by decide +kernel
theorem dL_change_100 : decode cL_change 100 = .ok (.iconst 3, 1) := by decide +kernel
theorem dL_change_101 : decode cL_change 101 = .ok (.aload_n 3, 1) := by decide +kernel
theorem dL_change_102 : decode cL_change 102 = .ok (.iconst 0, 1) := by decide +kernel
theorem dL_change_103 : decode cL_change 103 = .ok (.iaload, 1) := by decide +kernel
theorem dL_change_104 : decode cL_change 104 = .ok (.imul, 1) := by decide +kernel
theorem dL_change_105 : decode cL_change 105 = .ok (.iload 7, 2) := by decide +kernel
theorem dL_change_107 : decode cL_change 107 = .ok (.iastore, 1) := by decide +kernel
theorem dL_change_108 : decode cL_change 108 = .ok (.aload_n 2, 1) := by decide +kernel
theorem dL_change_109 : decode cL_change 109 = .ok (.iconst 3, 1) := by decide +kernel
theorem dL_change_110 : decode cL_change 110 = .ok (.aload_n 3, 1) := by decide +kernel
theorem dL_change_111 : decode cL_change 111 = .ok (.iconst 0, 1) := by decide +kernel
theorem dL_change_112 : decode cL_change 112 = .ok (.iaload, 1) := by decide +kernel
theorem dL_change_113 : decode cL_change 113 = .ok (.imul, 1) := by decide +kernel
theorem dL_change_114 : decode cL_change 114 = .ok (.iconst 1, 1) := by decide +kernel
theorem dL_change_115 : decode cL_change 115 = .ok (.iadd, 1) := by decide +kernel
theorem dL_change_116 : decode cL_change 116 = .ok (.aload_n 0, 1) := by decide +kernel
theorem dL_change_117 : decode cL_change 117 = .ok (.bipush 27, 2) := by decide +kernel
theorem dL_change_119 : decode cL_change 119 = .ok (.iload 4, 2) := by decide +kernel
theorem dL_change_121 : decode cL_change 121 = .ok (.imul, 1) := by decide +kernel
theorem dL_change_122 : decode cL_change 122 = .ok (.iload 6, 2) := by decide +kernel
theorem dL_change_124 : decode cL_change 124 = .ok (.iadd, 1) := by decide +kernel
theorem dL_change_125 : decode cL_change 125 = .ok (.iaload, 1) := by decide +kernel
theorem dL_change_126 : decode cL_change 126 = .ok (.iastore, 1) := by decide +kernel
theorem dL_change_127 : decode cL_change 127 = .ok (.aload_n 2, 1) := by decide +kernel
theorem dL_change_128 : decode cL_change 128 = .ok (.iconst 3, 1) := by decide +kernel
theorem dL_change_129 : decode cL_change 129 = .ok (.aload_n 3, 1) := by decide +kernel
theorem dL_change_130 : decode cL_change 130 = .ok (.iconst 0, 1) := by decide +kernel
theorem dL_change_131 : decode cL_change 131 = .ok (.iaload, 1) := by decide +kernel
theorem dL_change_132 : decode cL_change 132 = .ok (.imul, 1) := by decide +kernel
theorem dL_change_133 : decode cL_change 133 = .ok (.iconst 2, 1) := by decide +kernel
theorem dL_change_134 : decode cL_change 134 = .ok (.iadd, 1) := by decide +kernel
theorem dL_change_135 : decode cL_change 135 = .ok (.aload_n 0, 1) := by decide +kernel
theorem dL_change_136 : decode cL_change 136 = .ok (.bipush 27, 2) := by decide +kernel
theorem dL_change_138 : decode cL_change 138 = .ok (.iload 4, 2) := by decide +kernel
theorem dL_change_140 : decode cL_change 140 = .ok (.imul, 1) := by decide +kernel
theorem dL_change_141 : decode cL_change 141 = .ok (.bipush 9, 2) := by decide +kernel
theorem dL_change_143 : decode cL_change 143 = .ok (.iload 7, 2) := by decide +kernel
theorem dL_change_145 : decode cL_change 145 = .ok (.imul, 1) := by decide +kernel
theorem dL_change_146 : decode cL_change 146 = .ok (.iadd, 1) := by decide +kernel
theorem dL_change_147 : decode cL_change 147 = .ok (.iload 6, 2) := by decide +kernel
theorem dL_change_149 : decode cL_change 149 = .ok (.iadd, 1) := by decide +kernel
theorem dL_change_150 : decode cL_change 150 = .ok (.iaload, 1) := by decide +kernel
theorem dL_change_151 : decode cL_change 151 = .ok (.iastore, 1) := by decide +kernel
theorem dL_change_152 : decode cL_change 152 = .ok (.aload_n 3, 1) := by decide +kernel
theorem dL_change_153 : decode cL_change 153 = .ok (.iconst 0, 1) := by decide +kernel
theorem dL_change_154 : decode cL_change 154 = .ok (.dup2, 1) := by decide +kernel
theorem dL_change_155 : decode cL_change 155 = .ok (.iaload, 1) := by decide +kernel
theorem dL_change_156 : decode cL_change 156 = .ok (.iconst 1, 1) := by decide +kernel
theorem dL_change_157 : decode cL_change 157 = .ok (.iadd, 1) := by decide +kernel
theorem dL_change_158 : decode cL_change 158 = .ok (.iastore, 1) := by decide +kernel
theorem dL_change_159 : decode cL_change 159 = .ok (.iinc 7 1, 3) := by decide +kernel
theorem dL_change_162 : decode cL_change 162 = .ok (.goto (-154), 3) := by decide +kernel
theorem dL_change_165 : decode cL_change 165 = .ok (.aload_n 1, 1) := by decide +kernel
theorem dL_change_166 : decode cL_change 166 = .ok (.iload 4, 2) := by decide +kernel
theorem dL_change_168 : decode cL_change 168 = .ok (.dup2, 1) := by decide +kernel
theorem dL_change_169 : decode cL_change 169 = .ok (.iaload, 1) := by decide +kernel
theorem dL_change_170 : decode cL_change 170 = .ok (.iconst 1, 1) := by decide +kernel
theorem dL_change_171 : decode cL_change 171 = .ok (.iadd, 1) := by decide +kernel
theorem dL_change_172 : decode cL_change 172 = .ok (.iastore, 1) := by decide +kernel
theorem dL_change_173 : decode cL_change 173 = .ok (.aload_n 1, 1) := by decide +kernel
theorem dL_change_174 : decode cL_change 174 = .ok (.iconst 2, 1) := by decide +kernel
theorem dL_change_175 : decode cL_change 175 = .ok (.iconst 3, 1) := by decide +kernel
theorem dL_change_176 : decode cL_change 176 = .ok (.iload 4, 2) := by decide +kernel
theorem dL_change_178 : decode cL_change 178 = .ok (.imul, 1) := by decide +kernel
theorem dL_change_179 : decode cL_change 179 = .ok (.iadd, 1) := by decide +kernel
theorem dL_change_180 : decode cL_change 180 = .ok (.iload 5, 2) := by decide +kernel
theorem dL_change_182 : decode cL_change 182 = .ok (.iadd, 1) := by decide +kernel
theorem dL_change_183 : decode cL_change 183 = .ok (.aload_n 1, 1) := by decide +kernel
theorem dL_change_184 : decode cL_change 184 = .ok (.iload 4, 2) := by decide +kernel
theorem dL_change_186 : decode cL_change 186 = .ok (.iaload, 1) := by decide +kernel
theorem dL_change_187 : decode cL_change 187 = .ok (.iastore, 1) := by decide +kernel
theorem dL_change_188 : decode cL_change 188 = .ok (.return_, 1) := by decide +kernel
set_option maxRecDepth 20000 in
theorem ggL_isTold_L_told : GoodIn wsL_isTold wsL_told := goodIn_r _ [4, 5, 6, 3, 7, 8, 9, 10, 11, 12, 13] (by decide +kernel) (by decide +kernel)
set_option maxRecDepth 20000 in
theorem gL_isTold_L_told : GoodIn wsL_isTold (va_wsS RL 60 yL_told wsL_told) := goodIn_app (goodIn_of _ (by decide +kernel)) ggL_isTold_L_told
set_option maxRecDepth 20000 in
theorem ggL_isTold_X2_toldBy : GoodIn wsL_isTold wsX2_toldBy := goodIn_ca (goodIn_ca (goodIn_r _ [18, 19, 20, 17, 21, 22, 23, 24, 25, 26, 27, 28, 29, 30, 31, 32, 33, 34, 35, 36, 37, 38, 39, 40, 41, 42, 43, 44, 45, 46, 47, 48, 49, 50, 51, 52, 53, 54, 55, 56, 57, 58, 59, 60, 61, 62, 63, 64, 65, 66, 67, 68, 69, 70, 71, 72, 73, 74, 75, 76, 213, 214, 215, 216, 217, 218, 219, 220, 221, 222, 223, 224, 225] (by decide +kernel) (by decide +kernel)) (goodIn_sub (fun _ h => List.mem_cons_of_mem _ (List.mem_append_left _ (List.mem_append_right _ h))) (by decide +kernel))) (goodIn_sub (fun _ h => List.mem_cons_of_mem _ (List.mem_append_right _ h)) (by decide +kernel))
set_option maxRecDepth 20000 in
theorem gL_isTold_X2_toldBy : GoodIn wsL_isTold (wsV RL 64 RX2 yX2_toldBy wsX2_toldBy) := goodIn_app (goodIn_of _ (by decide +kernel)) ggL_isTold_X2_toldBy
set_option maxRecDepth 20000 in
theorem ggL_isTold_X2_toldByLooking : GoodIn wsL_isTold wsX2_toldByLooking := goodIn_ca (goodIn_ca (goodIn_r _ [80, 19, 20, 17, 21, 22, 23, 24, 25, 26, 27, 28, 29, 30, 31, 32, 33, 34, 35, 36, 37, 81, 82, 83, 84, 57, 58, 59, 60, 61, 62, 63, 85, 86, 87, 88, 74, 75, 76, 89, 90, 91, 92, 42, 47, 48, 49, 50, 51, 52, 93, 94, 95, 64, 65, 66, 67, 68, 69, 70, 71, 72, 73, 213, 214, 215, 216, 217, 218, 219, 220, 221, 222, 223, 224, 225] (by decide +kernel) (by decide +kernel)) (goodIn_sub (fun _ h => List.mem_cons_of_mem _ (List.mem_append_left _ (List.mem_append_right _ h))) (by decide +kernel))) (goodIn_sub (fun _ h => List.mem_cons_of_mem _ (List.mem_append_right _ h)) (by decide +kernel))
set_option maxRecDepth 20000 in
theorem gL_isTold_X2_toldByLooking : GoodIn wsL_isTold (wsV RL 67 RX2 yX2_toldByLooking wsX2_toldByLooking) := goodIn_app (goodIn_of _ (by decide +kernel)) ggL_isTold_X2_toldByLooking
set_option maxRecDepth 20000 in
theorem ggL_isTold_X2_toldForm : GoodIn wsL_isTold wsX2_toldForm := goodIn_ca (goodIn_ca (goodIn_r _ [99, 19, 20, 17, 21, 22, 23, 24, 25, 26, 27, 28, 29, 30, 31, 32, 33, 34, 35, 36, 37, 38, 39, 40, 41, 42, 43, 44, 45, 46, 47, 48, 49, 50, 51, 52, 53, 54, 55, 56, 57, 58, 59, 60, 61, 62, 63, 64, 65, 66, 67, 68, 69, 70, 71, 72, 73, 213, 214, 215, 216, 217, 218, 219, 220, 221, 222, 223, 224, 225] (by decide +kernel) (by decide +kernel)) (goodIn_sub (fun _ h => List.mem_cons_of_mem _ (List.mem_append_left _ (List.mem_append_right _ h))) (by decide +kernel))) (goodIn_sub (fun _ h => List.mem_cons_of_mem _ (List.mem_append_right _ h)) (by decide +kernel))
set_option maxRecDepth 20000 in
theorem gL_isTold_X2_toldForm : GoodIn wsL_isTold (wsV RL 70 RX2 yX2_toldForm wsX2_toldForm) := goodIn_app (goodIn_of _ (by decide +kernel)) ggL_isTold_X2_toldForm
set_option maxRecDepth 20000 in
theorem ggL_isTold_L_signTold : GoodIn wsL_isTold wsL_signTold := goodIn_ca (goodIn_ca (goodIn_r _ [102, 103, 104, 105, 106, 17, 107, 25, 26, 57, 108, 19, 20, 21, 22, 23, 24, 27, 28, 29, 30, 31, 32, 33, 34, 35, 36, 37, 38, 39, 40, 41, 42, 43, 44, 45, 46, 47, 48, 49, 50, 51, 52, 53, 54, 55, 56, 58, 59, 60, 61, 62, 63, 64, 65, 66, 67, 68, 69, 70, 71, 72, 73, 213, 214, 215, 216, 217, 218, 219, 220, 221, 222, 223, 224, 225] (by decide +kernel) (by decide +kernel)) (goodIn_sub (fun _ h => List.mem_cons_of_mem _ (List.mem_append_left _ (List.mem_append_right _ h))) (by decide +kernel))) (goodIn_sub (fun _ h => List.mem_cons_of_mem _ (List.mem_append_right _ h)) (by decide +kernel))
set_option maxRecDepth 20000 in
theorem gL_isTold_L_signTold : GoodIn wsL_isTold (va_wsS RL 73 yL_signTold wsL_signTold) := goodIn_app (goodIn_of _ (by decide +kernel)) ggL_isTold_L_signTold
set_option maxRecDepth 20000 in
theorem ggL_isTold_L_size : GoodIn wsL_isTold wsL_size := goodIn_r _ [111] (by decide +kernel) (by decide +kernel)
set_option maxRecDepth 20000 in
theorem gL_isTold_L_size : GoodIn wsL_isTold (va_wsS RL 23 yL_size wsL_size) := goodIn_app (goodIn_of _ (by decide +kernel)) ggL_isTold_L_size
set_option maxRecDepth 20000 in
theorem ggL_isTold_L_signAt : GoodIn wsL_isTold wsL_signAt := goodIn_r _ [114, 109, 110, 3, 111] (by decide +kernel) (by decide +kernel)
set_option maxRecDepth 20000 in
theorem gL_isTold_L_signAt : GoodIn wsL_isTold (va_wsS RL 27 yL_signAt wsL_signAt) := goodIn_app (goodIn_of _ (by decide +kernel)) ggL_isTold_L_signAt
set_option maxRecDepth 20000 in
theorem ggL_isTold_L_near : GoodIn wsL_isTold wsL_near := goodIn_r _ [117, 118, 119, 3, 120, 121, 109, 110, 111, 112, 113, 114] (by decide +kernel) (by decide +kernel)
set_option maxRecDepth 20000 in
theorem gL_isTold_L_near : GoodIn wsL_isTold (va_wsS RL 77 yL_near wsL_near) := goodIn_app (goodIn_of _ (by decide +kernel)) ggL_isTold_L_near
set_option maxRecDepth 20000 in
theorem ggL_isTold_X2_forms : GoodIn wsL_isTold wsX2_forms := goodIn_ca (goodIn_r _ [125, 22, 23, 17, 24, 25, 26, 27, 28, 29, 126, 127, 128, 129, 57, 58, 59, 60, 61, 62, 63, 213, 214, 215, 216, 217, 218, 219, 220, 221, 222] (by decide +kernel) (by decide +kernel)) (goodIn_sub (fun _ h => List.mem_cons_of_mem _ (List.mem_append_left _ (List.mem_append_right _ h))) (by decide +kernel))
set_option maxRecDepth 20000 in
theorem gL_isTold_X2_forms : GoodIn wsL_isTold (wsV RL 81 RX2 yX2_forms wsX2_forms) := goodIn_app (goodIn_of _ (by decide +kernel)) ggL_isTold_X2_forms
set_option maxRecDepth 20000 in
theorem ggL_isTold_X2_staleBy : GoodIn wsL_isTold wsX2_staleBy := goodIn_ca (goodIn_r _ [133, 134, 135, 22, 23, 17, 24, 25, 26, 27, 28, 29, 126, 127, 128, 129, 57, 58, 59, 60, 61, 62, 63, 213, 214, 215, 216, 217, 218, 219, 220, 221, 222] (by decide +kernel) (by decide +kernel)) (goodIn_sub (fun _ h => List.mem_cons_of_mem _ (List.mem_append_left _ (List.mem_append_right _ h))) (by decide +kernel))
set_option maxRecDepth 20000 in
theorem gL_isTold_X2_staleBy : GoodIn wsL_isTold (wsV RL 84 RX2 yX2_staleBy wsX2_staleBy) := goodIn_app (goodIn_of _ (by decide +kernel)) ggL_isTold_X2_staleBy
set_option maxRecDepth 20000 in
theorem ggL_isTold_X2_version : GoodIn wsL_isTold wsX2_version := goodIn_ca (goodIn_r _ [139, 134, 22, 23, 17, 24, 25, 26, 213, 214, 215, 216, 217, 218, 219, 220, 221, 222] (by decide +kernel) (by decide +kernel)) (goodIn_sub (fun _ h => List.mem_cons_of_mem _ (List.mem_append_left _ (List.mem_append_right _ h))) (by decide +kernel))
set_option maxRecDepth 20000 in
theorem gL_isTold_X2_version : GoodIn wsL_isTold (wsV RL 87 RX2 yX2_version wsX2_version) := goodIn_app (goodIn_of _ (by decide +kernel)) ggL_isTold_X2_version
set_option maxRecDepth 20000 in
theorem ggL_isTold_X2_missing : GoodIn wsL_isTold wsX2_missing := goodIn_ca (goodIn_r _ [143, 27, 28, 17, 29, 25, 26, 126, 127, 128, 129, 57, 58, 59, 60, 61, 62, 63, 213, 214, 215, 216, 217, 218, 219, 220, 221, 222] (by decide +kernel) (by decide +kernel)) (goodIn_sub (fun _ h => List.mem_cons_of_mem _ (List.mem_append_left _ (List.mem_append_right _ h))) (by decide +kernel))
set_option maxRecDepth 20000 in
theorem gL_isTold_X2_missing : GoodIn wsL_isTold (wsV RL 90 RX2 yX2_missing wsX2_missing) := goodIn_app (goodIn_of _ (by decide +kernel)) ggL_isTold_X2_missing
set_option maxRecDepth 20000 in
theorem ggL_isTold_X2_kindOf : GoodIn wsL_isTold wsX2_kindOf := goodIn_ca (goodIn_ca (goodIn_r _ [147, 27, 28, 17, 29, 25, 26, 33, 34, 35, 36, 37, 47, 48, 49, 50, 51, 52, 213, 214, 215, 216, 217, 218, 219, 220, 221, 222] (by decide +kernel) (by decide +kernel)) (goodIn_sub (fun _ h => List.mem_cons_of_mem _ (List.mem_append_left _ (List.mem_append_right _ h))) (by decide +kernel))) (goodIn_sub (fun _ h => List.mem_cons_of_mem _ (List.mem_append_right _ h)) (by decide +kernel))
set_option maxRecDepth 20000 in
theorem gL_isTold_X2_kindOf : GoodIn wsL_isTold (wsV RL 93 RX2 yX2_kindOf wsX2_kindOf) := goodIn_app (goodIn_of _ (by decide +kernel)) ggL_isTold_X2_kindOf
set_option maxRecDepth 20000 in
theorem ggL_isTold_L_kind : GoodIn wsL_isTold wsL_kind := goodIn_r _ [7] (by decide +kernel) (by decide +kernel)
set_option maxRecDepth 20000 in
theorem gL_isTold_L_kind : GoodIn wsL_isTold (va_wsS RL 15 yL_kind wsL_kind) := goodIn_app (goodIn_of _ (by decide +kernel)) ggL_isTold_L_kind
set_option maxRecDepth 20000 in
theorem ggL_isTold_X2_fits : GoodIn wsL_isTold wsX2_fits := goodIn_ca (goodIn_r _ [151, 57, 152, 153, 17, 154, 25, 26, 22, 23, 24, 27, 28, 29, 30, 31, 32, 58, 59, 60, 61, 62, 63, 64, 65, 66, 67, 68, 69, 70, 71, 72, 73, 213, 214, 215, 216, 217, 218, 219, 220, 221, 222, 223, 224, 225] (by decide +kernel) (by decide +kernel)) (goodIn_sub (fun _ h => List.mem_cons_of_mem _ (List.mem_append_left _ (List.mem_append_right _ h))) (by decide +kernel))
set_option maxRecDepth 20000 in
theorem gL_isTold_X2_fits : GoodIn wsL_isTold (wsV RL 96 RX2 yX2_fits wsX2_fits) := goodIn_app (goodIn_of _ (by decide +kernel)) ggL_isTold_X2_fits
set_option maxRecDepth 20000 in
theorem ggL_isTold_L_fits : GoodIn wsL_isTold wsL_fits := goodIn_r _ [10, 11, 12, 3, 13] (by decide +kernel) (by decide +kernel)
set_option maxRecDepth 20000 in
theorem gL_isTold_L_fits : GoodIn wsL_isTold (va_wsS RL 19 yL_fits wsL_fits) := goodIn_app (goodIn_of _ (by decide +kernel)) ggL_isTold_L_fits
set_option maxRecDepth 20000 in
theorem ggL_isTold_X2_pairs : GoodIn wsL_isTold wsX2_pairs := goodIn_r _ [158, 159, 160, 161, 162, 163, 164, 165, 213, 214, 215, 216, 217, 218, 219, 220, 221, 222, 226, 227, 228] (by decide +kernel) (by decide +kernel)
set_option maxRecDepth 20000 in
theorem gL_isTold_X2_pairs : GoodIn wsL_isTold (wsV RL 99 RX2 yX2_pairs wsX2_pairs) := goodIn_app (goodIn_of _ (by decide +kernel)) ggL_isTold_X2_pairs
set_option maxRecDepth 20000 in
theorem ggL_isTold_X2_draft : GoodIn wsL_isTold wsX2_draft := goodIn_r _ [169, 170, 213, 214, 215, 216, 217, 218, 219, 220, 221, 222] (by decide +kernel) (by decide +kernel)
set_option maxRecDepth 20000 in
theorem gL_isTold_X2_draft : GoodIn wsL_isTold (wsV RL 103 RX2 yX2_draft wsX2_draft) := goodIn_app (goodIn_of _ (by decide +kernel)) ggL_isTold_X2_draft
set_option maxRecDepth 20000 in
theorem ggL_isTold_X2_nearDistance : GoodIn wsL_isTold wsX2_nearDistance := goodIn_ca (goodIn_r _ [174, 57, 175, 152, 153, 17, 154, 25, 26, 22, 23, 24, 27, 28, 29, 30, 31, 32, 58, 59, 60, 61, 62, 63, 176, 177, 178, 179, 108, 159, 180, 181, 160, 161, 162, 163, 164, 165, 182, 183, 184, 185, 186, 187, 188, 189, 190, 191, 192, 193, 194, 195, 196, 197, 198, 199, 200, 201, 202, 203, 204, 205, 206, 207, 213, 214, 215, 216, 217, 218, 219, 220, 221, 222, 229, 230, 231, 223, 224, 225, 226, 227, 228] (by decide +kernel) (by decide +kernel)) (goodIn_sub (fun _ h => List.mem_cons_of_mem _ (List.mem_append_left _ (List.mem_append_right _ h))) (by decide +kernel))
set_option maxRecDepth 20000 in
theorem gL_isTold_X2_nearDistance : GoodIn wsL_isTold (wsV RL 106 RX2 yX2_nearDistance wsX2_nearDistance) := goodIn_app (goodIn_of _ (by decide +kernel)) ggL_isTold_X2_nearDistance
set_option maxRecDepth 20000 in
theorem ggL_isTold_L_distance : GoodIn wsL_isTold wsL_distance := goodIn_r _ [120, 121, 109, 110, 3, 111, 112, 113, 114] (by decide +kernel) (by decide +kernel)
set_option maxRecDepth 20000 in
theorem gL_isTold_L_distance : GoodIn wsL_isTold (va_wsS RL 31 yL_distance wsL_distance) := goodIn_app (goodIn_of _ (by decide +kernel)) ggL_isTold_L_distance
set_option maxRecDepth 20000 in
theorem ggL_isTold_X2_nearSign : GoodIn wsL_isTold wsX2_nearSign := goodIn_ca (goodIn_r _ [211, 25, 26, 57, 212, 108, 152, 153, 17, 154, 22, 23, 24, 27, 28, 29, 30, 31, 32, 58, 59, 60, 61, 62, 63, 176, 177, 178, 179, 159, 180, 181, 175, 160, 161, 162, 163, 164, 165, 182, 183, 184, 185, 186, 187, 188, 189, 190, 191, 192, 193, 194, 195, 196, 197, 198, 199, 200, 201, 202, 203, 204, 205, 206, 207, 213, 214, 215, 216, 217, 218, 219, 220, 221, 222, 229, 230, 231, 223, 224, 225, 226, 227, 228] (by decide +kernel) (by decide +kernel)) (goodIn_sub (fun _ h => List.mem_cons_of_mem _ (List.mem_append_left _ (List.mem_append_right _ h))) (by decide +kernel))
set_option maxRecDepth 20000 in
theorem gL_isTold_X2_nearSign : GoodIn wsL_isTold (wsV RL 109 RX2 yX2_nearSign wsX2_nearSign) := goodIn_app (goodIn_of _ (by decide +kernel)) ggL_isTold_X2_nearSign
theorem dL_isTold_0 : decode cL_isTold 0 = .ok (.iload 7, 2) := by decide +kernel
theorem dL_isTold_2 : decode cL_isTold 2 = .ok (.iconst 2, 1) := by decide +kernel
theorem dL_isTold_3 : decode cL_isTold 3 = .ok (.irem, 1) := by decide +kernel
theorem dL_isTold_4 : decode cL_isTold 4 = .ok (.istore 8, 2) := by decide +kernel
theorem dL_isTold_6 : decode cL_isTold 6 = .ok (.iload 7, 2) := by decide +kernel
theorem dL_isTold_8 : decode cL_isTold 8 = .ok (.iconst 2, 1) := by decide +kernel
theorem dL_isTold_9 : decode cL_isTold 9 = .ok (.idiv, 1) := by decide +kernel
theorem dL_isTold_10 : decode cL_isTold 10 = .ok (.iconst 3, 1) := by decide +kernel
theorem dL_isTold_11 : decode cL_isTold 11 = .ok (.irem, 1) := by decide +kernel
theorem dL_isTold_12 : decode cL_isTold 12 = .ok (.istore 9, 2) := by decide +kernel
theorem dL_isTold_14 : decode cL_isTold 14 = .ok (.iload 7, 2) := by decide +kernel
theorem dL_isTold_16 : decode cL_isTold 16 = .ok (.bipush 6, 2) := by decide +kernel
theorem dL_isTold_18 : decode cL_isTold 18 = .ok (.idiv, 1) := by decide +kernel
theorem dL_isTold_19 : decode cL_isTold 19 = .ok (.bipush 7, 2) := by decide +kernel
theorem dL_isTold_21 : decode cL_isTold 21 = .ok (.irem, 1) := by decide +kernel
theorem dL_isTold_22 : decode cL_isTold 22 = .ok (.istore 10, 2) := by decide +kernel
theorem dL_isTold_24 : decode cL_isTold 24 = .ok (.iload 7, 2) := by decide +kernel
theorem dL_isTold_26 : decode cL_isTold 26 = .ok (.bipush 42, 2) := by decide +kernel
theorem dL_isTold_28 : decode cL_isTold 28 = .ok (.idiv, 1) := by decide +kernel
theorem dL_isTold_29 : decode cL_isTold 29 = .ok (.iconst 3, 1) := by decide +kernel
theorem dL_isTold_30 : decode cL_isTold 30 = .ok (.irem, 1) := by decide +kernel
theorem dL_isTold_31 : decode cL_isTold 31 = .ok (.istore 11, 2) := by decide +kernel
theorem dL_isTold_33 : decode cL_isTold 33 = .ok (.iload 7, 2) := by decide +kernel
theorem dL_isTold_35 : decode cL_isTold 35 = .ok (.bipush 126, 2) := by decide +kernel
theorem dL_isTold_37 : decode cL_isTold 37 = .ok (.idiv, 1) := by decide +kernel
theorem dL_isTold_38 : decode cL_isTold 38 = .ok (.iconst 3, 1) := by decide +kernel
theorem dL_isTold_39 : decode cL_isTold 39 = .ok (.irem, 1) := by decide +kernel
theorem dL_isTold_40 : decode cL_isTold 40 = .ok (.istore 12, 2) := by decide +kernel
theorem dL_isTold_42 : decode cL_isTold 42 = .ok (.aload_n 1, 1) := by decide +kernel
theorem dL_isTold_43 : decode cL_isTold 43 = .ok (.aload_n 2, 1) := by decide +kernel
theorem dL_isTold_44 : decode cL_isTold 44 = .ok (.aload 5, 2) := by decide +kernel
theorem dL_isTold_46 : decode cL_isTold 46 = .ok (.iload 8, 2) := by decide +kernel
theorem dL_isTold_48 : decode cL_isTold 48 = .ok (.iload 9, 2) := by decide +kernel
theorem dL_isTold_50 : decode cL_isTold 50 = .ok (.iload 10, 2) := by decide +kernel
theorem dL_isTold_52 : decode cL_isTold 52 = .ok (.iload 11, 2) := by decide +kernel
theorem dL_isTold_54 : decode cL_isTold 54 = .ok (.invokestatic 60, 3) := by decide +kernel
theorem dL_isTold_57 : decode cL_isTold 57 = .ok (.istore 13, 2) := by decide +kernel
theorem dL_isTold_59 : decode cL_isTold 59 = .ok (.iload 13, 2) := by decide +kernel
theorem dL_isTold_61 : decode cL_isTold 61 = .ok (.ifCond .ge 7, 3) := by decide +kernel
theorem dL_isTold_64 : decode cL_isTold 64 = .ok (.iconst 0, 1) := by decide +kernel
theorem dL_isTold_65 : decode cL_isTold 65 = .ok (.goto 13, 3) := by decide +kernel
theorem dL_isTold_68 : decode cL_isTold 68 = .ok (.aload_n 1, 1) := by decide +kernel
theorem dL_isTold_69 : decode cL_isTold 69 = .ok (.bipush 27, 2) := by decide +kernel
theorem dL_isTold_71 : decode cL_isTold 71 = .ok (.iload 8, 2) := by decide +kernel
theorem dL_isTold_73 : decode cL_isTold 73 = .ok (.imul, 1) := by decide +kernel
theorem dL_isTold_74 : decode cL_isTold 74 = .ok (.iload 13, 2) := by decide +kernel
theorem dL_isTold_76 : decode cL_isTold 76 = .ok (.iadd, 1) := by decide +kernel
theorem dL_isTold_77 : decode cL_isTold 77 = .ok (.iaload, 1) := by decide +kernel
theorem dL_isTold_78 : decode cL_isTold 78 = .ok (.istore 14, 2) := by decide +kernel
theorem dL_isTold_80 : decode cL_isTold 80 = .ok (.aload_n 0, 1) := by decide +kernel
theorem dL_isTold_81 : decode cL_isTold 81 = .ok (.iload 8, 2) := by decide +kernel
theorem dL_isTold_83 : decode cL_isTold 83 = .ok (.iload 9, 2) := by decide +kernel
theorem dL_isTold_85 : decode cL_isTold 85 = .ok (.iload 10, 2) := by decide +kernel
theorem dL_isTold_87 : decode cL_isTold 87 = .ok (.iload 11, 2) := by decide +kernel
theorem dL_isTold_89 : decode cL_isTold 89 = .ok (.invokevirtual 64, 3) := by decide +kernel
theorem dL_isTold_92 : decode cL_isTold 92 = .ok (.iload 13, 2) := by decide +kernel
theorem dL_isTold_94 : decode cL_isTold 94 = .ok (.ifCond .ge 7, 3) := by decide +kernel
theorem dL_isTold_97 : decode cL_isTold 97 = .ok (.iconst (-1), 1) := by decide +kernel
theorem dL_isTold_98 : decode cL_isTold 98 = .ok (.goto 8, 3) := by decide +kernel
theorem dL_isTold_101 : decode cL_isTold 101 = .ok (.iload 13, 2) := by decide +kernel
theorem dL_isTold_103 : decode cL_isTold 103 = .ok (.bipush 9, 2) := by decide +kernel
theorem dL_isTold_105 : decode cL_isTold 105 = .ok (.idiv, 1) := by decide +kernel
theorem dL_isTold_106 : decode cL_isTold 106 = .ok (.if_icmp .ne 65, 3) := by decide +kernel
theorem dL_isTold_109 : decode cL_isTold 109 = .ok (.aload_n 0, 1) := by decide +kernel
theorem dL_isTold_110 : decode cL_isTold 110 = .ok (.iload 8, 2) := by decide +kernel
theorem dL_isTold_112 : decode cL_isTold 112 = .ok (.iload 9, 2) := by decide +kernel
theorem dL_isTold_114 : decode cL_isTold 114 = .ok (.iload 10, 2) := by decide +kernel
theorem dL_isTold_116 : decode cL_isTold 116 = .ok (.iload 11, 2) := by decide +kernel
theorem dL_isTold_118 : decode cL_isTold 118 = .ok (.invokevirtual 67, 3) := by decide +kernel
theorem dL_isTold_121 : decode cL_isTold 121 = .ok (.iload 13, 2) := by decide +kernel
theorem dL_isTold_123 : decode cL_isTold 123 = .ok (.ifCond .ge 7, 3) := by decide +kernel
theorem dL_isTold_126 : decode cL_isTold 126 = .ok (.iconst (-1), 1) := by decide +kernel
theorem dL_isTold_127 : decode cL_isTold 127 = .ok (.goto 8, 3) := by decide +kernel
theorem dL_isTold_130 : decode cL_isTold 130 = .ok (.iload 13, 2) := by decide +kernel
theorem dL_isTold_132 : decode cL_isTold 132 = .ok (.bipush 9, 2) := by decide +kernel
theorem dL_isTold_134 : decode cL_isTold 134 = .ok (.idiv, 1) := by decide +kernel
theorem dL_isTold_135 : decode cL_isTold 135 = .ok (.if_icmp .ne 36, 3) := by decide +kernel
theorem dL_isTold_138 : decode cL_isTold 138 = .ok (.aload_n 0, 1) := by decide +kernel
theorem dL_isTold_139 : decode cL_isTold 139 = .ok (.iload 8, 2) := by decide +kernel
theorem dL_isTold_141 : decode cL_isTold 141 = .ok (.iload 9, 2) := by decide +kernel
theorem dL_isTold_143 : decode cL_isTold 143 = .ok (.iload 10, 2) := by decide +kernel
theorem dL_isTold_145 : decode cL_isTold 145 = .ok (.iload 11, 2) := by decide +kernel
theorem dL_isTold_147 : decode cL_isTold 147 = .ok (.invokevirtual 70, 3) := by decide +kernel
theorem dL_isTold_150 : decode cL_isTold 150 = .ok (.iload 13, 2) := by decide +kernel
theorem dL_isTold_152 : decode cL_isTold 152 = .ok (.ifCond .ge 7, 3) := by decide +kernel
theorem dL_isTold_155 : decode cL_isTold 155 = .ok (.iconst (-1), 1) := by decide +kernel
theorem dL_isTold_156 : decode cL_isTold 156 = .ok (.goto 8, 3) := by decide +kernel
theorem dL_isTold_159 : decode cL_isTold 159 = .ok (.iload 13, 2) := by decide +kernel
theorem dL_isTold_161 : decode cL_isTold 161 = .ok (.bipush 9, 2) := by decide +kernel
theorem dL_isTold_163 : decode cL_isTold 163 = .ok (.irem, 1) := by decide +kernel
theorem dL_isTold_164 : decode cL_isTold 164 = .ok (.if_icmp .ne 7, 3) := by decide +kernel
theorem dL_isTold_167 : decode cL_isTold 167 = .ok (.iconst 1, 1) := by decide +kernel
theorem dL_isTold_168 : decode cL_isTold 168 = .ok (.goto 4, 3) := by decide +kernel
theorem dL_isTold_171 : decode cL_isTold 171 = .ok (.iconst 0, 1) := by decide +kernel
theorem dL_isTold_172 : decode cL_isTold 172 = .ok (.istore 15, 2) := by decide +kernel
theorem dL_isTold_174 : decode cL_isTold 174 = .ok (.iconst 0, 1) := by decide +kernel
theorem dL_isTold_175 : decode cL_isTold 175 = .ok (.istore 16, 2) := by decide +kernel
theorem dL_isTold_177 : decode cL_isTold 177 = .ok (.iload 16, 2) := by decide +kernel
theorem dL_isTold_179 : decode cL_isTold 179 = .ok (.iconst 5, 1) := by decide +kernel
theorem dL_isTold_180 : decode cL_isTold 180 = .ok (.if_icmp .ge 60, 3) := by decide +kernel
theorem dL_isTold_183 : decode cL_isTold 183 = .ok (.iload 15, 2) := by decide +kernel
theorem dL_isTold_185 : decode cL_isTold 185 = .ok (.ifCond .eq 55, 3) := by decide +kernel
theorem dL_isTold_188 : decode cL_isTold 188 = .ok (.aload_n 0, 1) := by decide +kernel
theorem dL_isTold_189 : decode cL_isTold 189 = .ok (.iload 8, 2) := by decide +kernel
theorem dL_isTold_191 : decode cL_isTold 191 = .ok (.iload 9, 2) := by decide +kernel
theorem dL_isTold_193 : decode cL_isTold 193 = .ok (.iload 10, 2) := by decide +kernel
theorem dL_isTold_195 : decode cL_isTold 195 = .ok (.iload 11, 2) := by decide +kernel
theorem dL_isTold_197 : decode cL_isTold 197 = .ok (.iload 16, 2) := by decide +kernel
theorem dL_isTold_199 : decode cL_isTold 199 = .ok (.invokestatic 73, 3) := by decide +kernel
theorem dL_isTold_202 : decode cL_isTold 202 = .ok (.iload 16, 2) := by decide +kernel
theorem dL_isTold_204 : decode cL_isTold 204 = .ok (.iload 14, 2) := by decide +kernel
theorem dL_isTold_206 : decode cL_isTold 206 = .ok (.invokestatic 23, 3) := by decide +kernel
theorem dL_isTold_209 : decode cL_isTold 209 = .ok (.if_icmp .ge 13, 3) := by decide +kernel
theorem dL_isTold_212 : decode cL_isTold 212 = .ok (.iload 14, 2) := by decide +kernel
theorem dL_isTold_214 : decode cL_isTold 214 = .ok (.iload 16, 2) := by decide +kernel
theorem dL_isTold_216 : decode cL_isTold 216 = .ok (.invokestatic 27, 3) := by decide +kernel
theorem dL_isTold_219 : decode cL_isTold 219 = .ok (.goto 5, 3) := by decide +kernel
theorem dL_isTold_222 : decode cL_isTold 222 = .ok (.bipush (-5), 2) := by decide +kernel
theorem dL_isTold_224 : decode cL_isTold 224 = .ok (.if_icmp .ne 7, 3) := by decide +kernel
theorem dL_isTold_227 : decode cL_isTold 227 = .ok (.iconst 1, 1) := by decide +kernel
theorem dL_isTold_228 : decode cL_isTold 228 = .ok (.goto 4, 3) := by decide +kernel
theorem dL_isTold_231 : decode cL_isTold 231 = .ok (.iconst 0, 1) := by decide +kernel
theorem dL_isTold_232 : decode cL_isTold 232 = .ok (.istore 15, 2) := by decide +kernel
theorem dL_isTold_234 : decode cL_isTold 234 = .ok (.iinc 16 1, 3) := by decide +kernel
theorem dL_isTold_237 : decode cL_isTold 237 = .ok (.goto (-60), 3) := by decide +kernel
theorem dL_isTold_240 : decode cL_isTold 240 = .ok (.iconst 0, 1) := by decide +kernel
theorem dL_isTold_241 : decode cL_isTold 241 = .ok (.istore 16, 2) := by decide +kernel
theorem dL_isTold_243 : decode cL_isTold 243 = .ok (.iconst 0, 1) := by decide +kernel
theorem dL_isTold_244 : decode cL_isTold 244 = .ok (.istore 17, 2) := by decide +kernel
theorem dL_isTold_246 : decode cL_isTold 246 = .ok (.iconst 0, 1) := by decide +kernel
theorem dL_isTold_247 : decode cL_isTold 247 = .ok (.istore 18, 2) := by decide +kernel
theorem dL_isTold_249 : decode cL_isTold 249 = .ok (.iload 18, 2) := by decide +kernel
theorem dL_isTold_251 : decode cL_isTold 251 = .ok (.bipush 9, 2) := by decide +kernel
theorem dL_isTold_253 : decode cL_isTold 253 = .ok (.if_icmp .ge 38, 3) := by decide +kernel
theorem dL_isTold_256 : decode cL_isTold 256 = .ok (.iload 16, 2) := by decide +kernel
theorem dL_isTold_258 : decode cL_isTold 258 = .ok (.aload_n 1, 1) := by decide +kernel
theorem dL_isTold_259 : decode cL_isTold 259 = .ok (.bipush 27, 2) := by decide +kernel
theorem dL_isTold_261 : decode cL_isTold 261 = .ok (.iload 8, 2) := by decide +kernel
theorem dL_isTold_263 : decode cL_isTold 263 = .ok (.imul, 1) := by decide +kernel
theorem dL_isTold_264 : decode cL_isTold 264 = .ok (.bipush 9, 2) := by decide +kernel
theorem dL_isTold_266 : decode cL_isTold 266 = .ok (.iload 9, 2) := by decide +kernel
theorem dL_isTold_268 : decode cL_isTold 268 = .ok (.imul, 1) := by decide +kernel
theorem dL_isTold_269 : decode cL_isTold 269 = .ok (.iadd, 1) := by decide +kernel
theorem dL_isTold_270 : decode cL_isTold 270 = .ok (.iload 18, 2) := by decide +kernel
theorem dL_isTold_272 : decode cL_isTold 272 = .ok (.iadd, 1) := by decide +kernel
theorem dL_isTold_273 : decode cL_isTold 273 = .ok (.iaload, 1) := by decide +kernel
theorem dL_isTold_274 : decode cL_isTold 274 = .ok (.ifCond .le 7, 3) := by decide +kernel
theorem dL_isTold_277 : decode cL_isTold 277 = .ok (.iconst 1, 1) := by decide +kernel
theorem dL_isTold_278 : decode cL_isTold 278 = .ok (.goto 4, 3) := by decide +kernel
theorem dL_isTold_281 : decode cL_isTold 281 = .ok (.iconst 0, 1) := by decide +kernel
theorem dL_isTold_282 : decode cL_isTold 282 = .ok (.iadd, 1) := by decide +kernel
theorem dL_isTold_283 : decode cL_isTold 283 = .ok (.istore 16, 2) := by decide +kernel
theorem dL_isTold_285 : decode cL_isTold 285 = .ok (.iinc 18 1, 3) := by decide +kernel
theorem dL_isTold_288 : decode cL_isTold 288 = .ok (.goto (-39), 3) := by decide +kernel
theorem dL_isTold_291 : decode cL_isTold 291 = .ok (.iconst 0, 1) := by decide +kernel
theorem dL_isTold_292 : decode cL_isTold 292 = .ok (.istore 18, 2) := by decide +kernel
theorem dL_isTold_294 : decode cL_isTold 294 = .ok (.iload 18, 2) := by decide +kernel
theorem dL_isTold_296 : decode cL_isTold 296 = .ok (.iconst 2, 1) := by decide +kernel
theorem dL_isTold_297 : decode cL_isTold 297 = .ok (.if_icmp .ge 103, 3) := by decide +kernel
theorem dL_isTold_300 : decode cL_isTold 300 = .ok (.iconst 0, 1) := by decide +kernel
theorem dL_isTold_301 : decode cL_isTold 301 = .ok (.istore 19, 2) := by decide +kernel
theorem dL_isTold_303 : decode cL_isTold 303 = .ok (.iconst 0, 1) := by decide +kernel
theorem dL_isTold_304 : decode cL_isTold 304 = .ok (.istore 20, 2) := by decide +kernel
theorem dL_isTold_306 : decode cL_isTold 306 = .ok (.iconst 0, 1) := by decide +kernel
theorem dL_isTold_307 : decode cL_isTold 307 = .ok (.istore 21, 2) := by decide +kernel
theorem dL_isTold_309 : decode cL_isTold 309 = .ok (.iload 21, 2) := by decide +kernel
theorem dL_isTold_311 : decode cL_isTold 311 = .ok (.bipush 9, 2) := by decide +kernel
theorem dL_isTold_313 : decode cL_isTold 313 = .ok (.if_icmp .ge 61, 3) := by decide +kernel
theorem dL_isTold_316 : decode cL_isTold 316 = .ok (.iload 19, 2) := by decide +kernel
theorem dL_isTold_318 : decode cL_isTold 318 = .ok (.aload_n 1, 1) := by decide +kernel
theorem dL_isTold_319 : decode cL_isTold 319 = .ok (.bipush 27, 2) := by decide +kernel
theorem dL_isTold_321 : decode cL_isTold 321 = .ok (.iload 18, 2) := by decide +kernel
theorem dL_isTold_323 : decode cL_isTold 323 = .ok (.imul, 1) := by decide +kernel
theorem dL_isTold_324 : decode cL_isTold 324 = .ok (.iload 21, 2) := by decide +kernel
theorem dL_isTold_326 : decode cL_isTold 326 = .ok (.iadd, 1) := by decide +kernel
theorem dL_isTold_327 : decode cL_isTold 327 = .ok (.iaload, 1) := by decide +kernel
theorem dL_isTold_328 : decode cL_isTold 328 = .ok (.ifCond .le 7, 3) := by decide +kernel
theorem dL_isTold_331 : decode cL_isTold 331 = .ok (.iconst 1, 1) := by decide +kernel
theorem dL_isTold_332 : decode cL_isTold 332 = .ok (.goto 4, 3) := by decide +kernel
theorem dL_isTold_335 : decode cL_isTold 335 = .ok (.iconst 0, 1) := by decide +kernel
theorem dL_isTold_336 : decode cL_isTold 336 = .ok (.iadd, 1) := by decide +kernel
theorem dL_isTold_337 : decode cL_isTold 337 = .ok (.istore 19, 2) := by decide +kernel
theorem dL_isTold_339 : decode cL_isTold 339 = .ok (.iload 20, 2) := by decide +kernel
theorem dL_isTold_341 : decode cL_isTold 341 = .ok (.aload_n 1, 1) := by decide +kernel
theorem dL_isTold_342 : decode cL_isTold 342 = .ok (.bipush 27, 2) := by decide +kernel
theorem dL_isTold_344 : decode cL_isTold 344 = .ok (.iload 18, 2) := by decide +kernel
theorem dL_isTold_346 : decode cL_isTold 346 = .ok (.imul, 1) := by decide +kernel
theorem dL_isTold_347 : decode cL_isTold 347 = .ok (.bipush 9, 2) := by decide +kernel
theorem dL_isTold_349 : decode cL_isTold 349 = .ok (.iload 9, 2) := by decide +kernel
theorem dL_isTold_351 : decode cL_isTold 351 = .ok (.imul, 1) := by decide +kernel
theorem dL_isTold_352 : decode cL_isTold 352 = .ok (.iadd, 1) := by decide +kernel
theorem dL_isTold_353 : decode cL_isTold 353 = .ok (.iload 21, 2) := by decide +kernel
theorem dL_isTold_355 : decode cL_isTold 355 = .ok (.iadd, 1) := by decide +kernel
theorem dL_isTold_356 : decode cL_isTold 356 = .ok (.iaload, 1) := by decide +kernel
theorem dL_isTold_357 : decode cL_isTold 357 = .ok (.ifCond .le 7, 3) := by decide +kernel
theorem dL_isTold_360 : decode cL_isTold 360 = .ok (.iconst 1, 1) := by decide +kernel
theorem dL_isTold_361 : decode cL_isTold 361 = .ok (.goto 4, 3) := by decide +kernel
theorem dL_isTold_364 : decode cL_isTold 364 = .ok (.iconst 0, 1) := by decide +kernel
theorem dL_isTold_365 : decode cL_isTold 365 = .ok (.iadd, 1) := by decide +kernel
theorem dL_isTold_366 : decode cL_isTold 366 = .ok (.istore 20, 2) := by decide +kernel
theorem dL_isTold_368 : decode cL_isTold 368 = .ok (.iinc 21 1, 3) := by decide +kernel
theorem dL_isTold_371 : decode cL_isTold 371 = .ok (.goto (-62), 3) := by decide +kernel
theorem dL_isTold_374 : decode cL_isTold 374 = .ok (.iload 17, 2) := by decide +kernel
theorem dL_isTold_376 : decode cL_isTold 376 = .ok (.iload 19, 2) := by decide +kernel
theorem dL_isTold_378 : decode cL_isTold 378 = .ok (.ifCond .le 12, 3) := by decide +kernel
theorem dL_isTold_381 : decode cL_isTold 381 = .ok (.iload 20, 2) := by decide +kernel
theorem dL_isTold_383 : decode cL_isTold 383 = .ok (.ifCond .ne 7, 3) := by decide +kernel
theorem dL_isTold_386 : decode cL_isTold 386 = .ok (.iconst 1, 1) := by decide +kernel
theorem dL_isTold_387 : decode cL_isTold 387 = .ok (.goto 4, 3) := by decide +kernel
theorem dL_isTold_390 : decode cL_isTold 390 = .ok (.iconst 0, 1) := by decide +kernel
theorem dL_isTold_391 : decode cL_isTold 391 = .ok (.iadd, 1) := by decide +kernel
theorem dL_isTold_392 : decode cL_isTold 392 = .ok (.istore 17, 2) := by decide +kernel
theorem dL_isTold_394 : decode cL_isTold 394 = .ok (.iinc 18 1, 3) := by decide +kernel
theorem dL_isTold_397 : decode cL_isTold 397 = .ok (.goto (-103), 3) := by decide +kernel
theorem dL_isTold_400 : decode cL_isTold 400 = .ok (.aload_n 1, 1) := by decide +kernel
theorem dL_isTold_401 : decode cL_isTold 401 = .ok (.aload 4, 2) := by decide +kernel
theorem dL_isTold_403 : decode cL_isTold 403 = .ok (.aload 6, 2) := by decide +kernel
theorem dL_isTold_405 : decode cL_isTold 405 = .ok (.iload 8, 2) := by decide +kernel
theorem dL_isTold_407 : decode cL_isTold 407 = .ok (.iload 9, 2) := by decide +kernel
theorem dL_isTold_409 : decode cL_isTold 409 = .ok (.iconst 3, 1) := by decide +kernel
theorem dL_isTold_410 : decode cL_isTold 410 = .ok (.iload 12, 2) := by decide +kernel
theorem dL_isTold_412 : decode cL_isTold 412 = .ok (.imul, 1) := by decide +kernel
theorem dL_isTold_413 : decode cL_isTold 413 = .ok (.iload 11, 2) := by decide +kernel
theorem dL_isTold_415 : decode cL_isTold 415 = .ok (.iadd, 1) := by decide +kernel
theorem dL_isTold_416 : decode cL_isTold 416 = .ok (.invokestatic 77, 3) := by decide +kernel
theorem dL_isTold_419 : decode cL_isTold 419 = .ok (.istore 18, 2) := by decide +kernel
theorem dL_isTold_421 : decode cL_isTold 421 = .ok (.iload 18, 2) := by decide +kernel
theorem dL_isTold_423 : decode cL_isTold 423 = .ok (.ifCond .ge 7, 3) := by decide +kernel
theorem dL_isTold_426 : decode cL_isTold 426 = .ok (.iconst 0, 1) := by decide +kernel
theorem dL_isTold_427 : decode cL_isTold 427 = .ok (.goto 12, 3) := by decide +kernel
theorem dL_isTold_430 : decode cL_isTold 430 = .ok (.aload 4, 2) := by decide +kernel
theorem dL_isTold_432 : decode cL_isTold 432 = .ok (.iconst 3, 1) := by decide +kernel
theorem dL_isTold_433 : decode cL_isTold 433 = .ok (.iload 18, 2) := by decide +kernel
theorem dL_isTold_435 : decode cL_isTold 435 = .ok (.imul, 1) := by decide +kernel
theorem dL_isTold_436 : decode cL_isTold 436 = .ok (.iconst 2, 1) := by decide +kernel
theorem dL_isTold_437 : decode cL_isTold 437 = .ok (.iadd, 1) := by decide +kernel
theorem dL_isTold_438 : decode cL_isTold 438 = .ok (.iaload, 1) := by decide +kernel
theorem dL_isTold_439 : decode cL_isTold 439 = .ok (.istore 19, 2) := by decide +kernel
theorem dL_isTold_441 : decode cL_isTold 441 = .ok (.iload 15, 2) := by decide +kernel
theorem dL_isTold_443 : decode cL_isTold 443 = .ok (.ifCond .eq 153, 3) := by decide +kernel
theorem dL_isTold_446 : decode cL_isTold 446 = .ok (.aload_n 0, 1) := by decide +kernel
theorem dL_isTold_447 : decode cL_isTold 447 = .ok (.iload 8, 2) := by decide +kernel
theorem dL_isTold_449 : decode cL_isTold 449 = .ok (.iload 9, 2) := by decide +kernel
theorem dL_isTold_451 : decode cL_isTold 451 = .ok (.invokevirtual 81, 3) := by decide +kernel
theorem dL_isTold_454 : decode cL_isTold 454 = .ok (.iload 16, 2) := by decide +kernel
theorem dL_isTold_456 : decode cL_isTold 456 = .ok (.if_icmp .ne 140, 3) := by decide +kernel
theorem dL_isTold_459 : decode cL_isTold 459 = .ok (.aload_n 0, 1) := by decide +kernel
theorem dL_isTold_460 : decode cL_isTold 460 = .ok (.iload 8, 2) := by decide +kernel
theorem dL_isTold_462 : decode cL_isTold 462 = .ok (.iload 9, 2) := by decide +kernel
theorem dL_isTold_464 : decode cL_isTold 464 = .ok (.invokevirtual 84, 3) := by decide +kernel
theorem dL_isTold_467 : decode cL_isTold 467 = .ok (.iload 16, 2) := by decide +kernel
theorem dL_isTold_469 : decode cL_isTold 469 = .ok (.ifCond .ne 7, 3) := by decide +kernel
theorem dL_isTold_472 : decode cL_isTold 472 = .ok (.iconst (-1), 1) := by decide +kernel
theorem dL_isTold_473 : decode cL_isTold 473 = .ok (.goto 19, 3) := by decide +kernel
theorem dL_isTold_476 : decode cL_isTold 476 = .ok (.aload_n 3, 1) := by decide +kernel
theorem dL_isTold_477 : decode cL_isTold 477 = .ok (.iload 8, 2) := by decide +kernel
theorem dL_isTold_479 : decode cL_isTold 479 = .ok (.iaload, 1) := by decide +kernel
theorem dL_isTold_480 : decode cL_isTold 480 = .ok (.aload_n 3, 1) := by decide +kernel
theorem dL_isTold_481 : decode cL_isTold 481 = .ok (.iconst 2, 1) := by decide +kernel
theorem dL_isTold_482 : decode cL_isTold 482 = .ok (.iconst 3, 1) := by decide +kernel
theorem dL_isTold_483 : decode cL_isTold 483 = .ok (.iload 8, 2) := by decide +kernel
theorem dL_isTold_485 : decode cL_isTold 485 = .ok (.imul, 1) := by decide +kernel
theorem dL_isTold_486 : decode cL_isTold 486 = .ok (.iadd, 1) := by decide +kernel
theorem dL_isTold_487 : decode cL_isTold 487 = .ok (.iload 9, 2) := by decide +kernel
theorem dL_isTold_489 : decode cL_isTold 489 = .ok (.iadd, 1) := by decide +kernel
theorem dL_isTold_490 : decode cL_isTold 490 = .ok (.iaload, 1) := by decide +kernel
theorem dL_isTold_491 : decode cL_isTold 491 = .ok (.isub, 1) := by decide +kernel
theorem dL_isTold_492 : decode cL_isTold 492 = .ok (.if_icmp .ne 104, 3) := by decide +kernel
theorem dL_isTold_495 : decode cL_isTold 495 = .ok (.aload_n 0, 1) := by decide +kernel
theorem dL_isTold_496 : decode cL_isTold 496 = .ok (.iload 8, 2) := by decide +kernel
theorem dL_isTold_498 : decode cL_isTold 498 = .ok (.invokevirtual 87, 3) := by decide +kernel
theorem dL_isTold_501 : decode cL_isTold 501 = .ok (.aload_n 3, 1) := by decide +kernel
theorem dL_isTold_502 : decode cL_isTold 502 = .ok (.iload 8, 2) := by decide +kernel
theorem dL_isTold_504 : decode cL_isTold 504 = .ok (.iaload, 1) := by decide +kernel
theorem dL_isTold_505 : decode cL_isTold 505 = .ok (.if_icmp .ne 91, 3) := by decide +kernel
theorem dL_isTold_508 : decode cL_isTold 508 = .ok (.aload_n 0, 1) := by decide +kernel
theorem dL_isTold_509 : decode cL_isTold 509 = .ok (.iload 9, 2) := by decide +kernel
theorem dL_isTold_511 : decode cL_isTold 511 = .ok (.invokevirtual 90, 3) := by decide +kernel
theorem dL_isTold_514 : decode cL_isTold 514 = .ok (.iload 17, 2) := by decide +kernel
theorem dL_isTold_516 : decode cL_isTold 516 = .ok (.if_icmp .ne 80, 3) := by decide +kernel
theorem dL_isTold_519 : decode cL_isTold 519 = .ok (.aload_n 0, 1) := by decide +kernel
theorem dL_isTold_520 : decode cL_isTold 520 = .ok (.iload 9, 2) := by decide +kernel
theorem dL_isTold_522 : decode cL_isTold 522 = .ok (.iload 10, 2) := by decide +kernel
theorem dL_isTold_524 : decode cL_isTold 524 = .ok (.invokevirtual 93, 3) := by decide +kernel
theorem dL_isTold_527 : decode cL_isTold 527 = .ok (.aload 5, 2) := by decide +kernel
theorem dL_isTold_529 : decode cL_isTold 529 = .ok (.iload 9, 2) := by decide +kernel
theorem dL_isTold_531 : decode cL_isTold 531 = .ok (.iload 10, 2) := by decide +kernel
theorem dL_isTold_533 : decode cL_isTold 533 = .ok (.invokestatic 15, 3) := by decide +kernel
theorem dL_isTold_536 : decode cL_isTold 536 = .ok (.if_icmp .ne 60, 3) := by decide +kernel
theorem dL_isTold_539 : decode cL_isTold 539 = .ok (.aload_n 0, 1) := by decide +kernel
theorem dL_isTold_540 : decode cL_isTold 540 = .ok (.iload 8, 2) := by decide +kernel
theorem dL_isTold_542 : decode cL_isTold 542 = .ok (.iload 9, 2) := by decide +kernel
theorem dL_isTold_544 : decode cL_isTold 544 = .ok (.iload 12, 2) := by decide +kernel
theorem dL_isTold_546 : decode cL_isTold 546 = .ok (.iload 11, 2) := by decide +kernel
theorem dL_isTold_548 : decode cL_isTold 548 = .ok (.invokevirtual 96, 3) := by decide +kernel
theorem dL_isTold_551 : decode cL_isTold 551 = .ok (.aload_n 1, 1) := by decide +kernel
theorem dL_isTold_552 : decode cL_isTold 552 = .ok (.aload_n 2, 1) := by decide +kernel
theorem dL_isTold_553 : decode cL_isTold 553 = .ok (.iload 8, 2) := by decide +kernel
theorem dL_isTold_555 : decode cL_isTold 555 = .ok (.iload 9, 2) := by decide +kernel
theorem dL_isTold_557 : decode cL_isTold 557 = .ok (.iconst 3, 1) := by decide +kernel
theorem dL_isTold_558 : decode cL_isTold 558 = .ok (.iload 12, 2) := by decide +kernel
theorem dL_isTold_560 : decode cL_isTold 560 = .ok (.imul, 1) := by decide +kernel
theorem dL_isTold_561 : decode cL_isTold 561 = .ok (.iload 11, 2) := by decide +kernel
theorem dL_isTold_563 : decode cL_isTold 563 = .ok (.iadd, 1) := by decide +kernel
theorem dL_isTold_564 : decode cL_isTold 564 = .ok (.invokestatic 19, 3) := by decide +kernel
theorem dL_isTold_567 : decode cL_isTold 567 = .ok (.if_icmp .ne 29, 3) := by decide +kernel
theorem dL_isTold_570 : decode cL_isTold 570 = .ok (.aload_n 0, 1) := by decide +kernel
theorem dL_isTold_571 : decode cL_isTold 571 = .ok (.invokevirtual 99, 3) := by decide +kernel
theorem dL_isTold_574 : decode cL_isTold 574 = .ok (.aload 6, 2) := by decide +kernel
theorem dL_isTold_576 : decode cL_isTold 576 = .ok (.iconst 0, 1) := by decide +kernel
theorem dL_isTold_577 : decode cL_isTold 577 = .ok (.iaload, 1) := by decide +kernel
theorem dL_isTold_578 : decode cL_isTold 578 = .ok (.if_icmp .ne 18, 3) := by decide +kernel
theorem dL_isTold_581 : decode cL_isTold 581 = .ok (.aload_n 0, 1) := by decide +kernel
theorem dL_isTold_582 : decode cL_isTold 582 = .ok (.invokevirtual 103, 3) := by decide +kernel
theorem dL_isTold_585 : decode cL_isTold 585 = .ok (.aload 6, 2) := by decide +kernel
theorem dL_isTold_587 : decode cL_isTold 587 = .ok (.iconst 1, 1) := by decide +kernel
theorem dL_isTold_588 : decode cL_isTold 588 = .ok (.iaload, 1) := by decide +kernel
theorem dL_isTold_589 : decode cL_isTold 589 = .ok (.if_icmp .ne 7, 3) := by decide +kernel
theorem dL_isTold_592 : decode cL_isTold 592 = .ok (.iconst 1, 1) := by decide +kernel
theorem dL_isTold_593 : decode cL_isTold 593 = .ok (.goto 4, 3) := by decide +kernel
theorem dL_isTold_596 : decode cL_isTold 596 = .ok (.iconst 0, 1) := by decide +kernel
theorem dL_isTold_597 : decode cL_isTold 597 = .ok (.istore 15, 2) := by decide +kernel
theorem dL_isTold_599 : decode cL_isTold 599 = .ok (.iload 15, 2) := by decide +kernel
theorem dL_isTold_601 : decode cL_isTold 601 = .ok (.ifCond .eq 58, 3) := by decide +kernel
theorem dL_isTold_604 : decode cL_isTold 604 = .ok (.aload_n 0, 1) := by decide +kernel
theorem dL_isTold_605 : decode cL_isTold 605 = .ok (.iload 8, 2) := by decide +kernel
theorem dL_isTold_607 : decode cL_isTold 607 = .ok (.iload 9, 2) := by decide +kernel
theorem dL_isTold_609 : decode cL_isTold 609 = .ok (.iload 12, 2) := by decide +kernel
theorem dL_isTold_611 : decode cL_isTold 611 = .ok (.iload 11, 2) := by decide +kernel
theorem dL_isTold_613 : decode cL_isTold 613 = .ok (.invokevirtual 106, 3) := by decide +kernel
theorem dL_isTold_616 : decode cL_isTold 616 = .ok (.iload 18, 2) := by decide +kernel
theorem dL_isTold_618 : decode cL_isTold 618 = .ok (.ifCond .ge 7, 3) := by decide +kernel
theorem dL_isTold_621 : decode cL_isTold 621 = .ok (.iconst (-1), 1) := by decide +kernel
theorem dL_isTold_622 : decode cL_isTold 622 = .ok (.goto 30, 3) := by decide +kernel
theorem dL_isTold_625 : decode cL_isTold 625 = .ok (.aload 4, 2) := by decide +kernel
theorem dL_isTold_627 : decode cL_isTold 627 = .ok (.iconst 3, 1) := by decide +kernel
theorem dL_isTold_628 : decode cL_isTold 628 = .ok (.iload 18, 2) := by decide +kernel
theorem dL_isTold_630 : decode cL_isTold 630 = .ok (.imul, 1) := by decide +kernel
theorem dL_isTold_631 : decode cL_isTold 631 = .ok (.iconst 1, 1) := by decide +kernel
theorem dL_isTold_632 : decode cL_isTold 632 = .ok (.iadd, 1) := by decide +kernel
theorem dL_isTold_633 : decode cL_isTold 633 = .ok (.iaload, 1) := by decide +kernel
theorem dL_isTold_634 : decode cL_isTold 634 = .ok (.aload_n 1, 1) := by decide +kernel
theorem dL_isTold_635 : decode cL_isTold 635 = .ok (.bipush 27, 2) := by decide +kernel
theorem dL_isTold_637 : decode cL_isTold 637 = .ok (.iload 8, 2) := by decide +kernel
theorem dL_isTold_639 : decode cL_isTold 639 = .ok (.imul, 1) := by decide +kernel
theorem dL_isTold_640 : decode cL_isTold 640 = .ok (.iconst 3, 1) := by decide +kernel
theorem dL_isTold_641 : decode cL_isTold 641 = .ok (.iload 12, 2) := by decide +kernel
theorem dL_isTold_643 : decode cL_isTold 643 = .ok (.imul, 1) := by decide +kernel
theorem dL_isTold_644 : decode cL_isTold 644 = .ok (.iadd, 1) := by decide +kernel
theorem dL_isTold_645 : decode cL_isTold 645 = .ok (.iload 11, 2) := by decide +kernel
theorem dL_isTold_647 : decode cL_isTold 647 = .ok (.iadd, 1) := by decide +kernel
theorem dL_isTold_648 : decode cL_isTold 648 = .ok (.iaload, 1) := by decide +kernel
theorem dL_isTold_649 : decode cL_isTold 649 = .ok (.invokestatic 31, 3) := by decide +kernel
theorem dL_isTold_652 : decode cL_isTold 652 = .ok (.if_icmp .ne 7, 3) := by decide +kernel
theorem dL_isTold_655 : decode cL_isTold 655 = .ok (.iconst 1, 1) := by decide +kernel
theorem dL_isTold_656 : decode cL_isTold 656 = .ok (.goto 4, 3) := by decide +kernel
theorem dL_isTold_659 : decode cL_isTold 659 = .ok (.iconst 0, 1) := by decide +kernel
theorem dL_isTold_660 : decode cL_isTold 660 = .ok (.istore 15, 2) := by decide +kernel
theorem dL_isTold_662 : decode cL_isTold 662 = .ok (.iconst 0, 1) := by decide +kernel
theorem dL_isTold_663 : decode cL_isTold 663 = .ok (.istore 20, 2) := by decide +kernel
theorem dL_isTold_665 : decode cL_isTold 665 = .ok (.iload 20, 2) := by decide +kernel
theorem dL_isTold_667 : decode cL_isTold 667 = .ok (.iconst 5, 1) := by decide +kernel
theorem dL_isTold_668 : decode cL_isTold 668 = .ok (.if_icmp .ge 59, 3) := by decide +kernel
theorem dL_isTold_671 : decode cL_isTold 671 = .ok (.iload 15, 2) := by decide +kernel
theorem dL_isTold_673 : decode cL_isTold 673 = .ok (.ifCond .eq 54, 3) := by decide +kernel
theorem dL_isTold_676 : decode cL_isTold 676 = .ok (.aload_n 0, 1) := by decide +kernel
theorem dL_isTold_677 : decode cL_isTold 677 = .ok (.iload 8, 2) := by decide +kernel
theorem dL_isTold_679 : decode cL_isTold 679 = .ok (.iload 9, 2) := by decide +kernel
theorem dL_isTold_681 : decode cL_isTold 681 = .ok (.iload 12, 2) := by decide +kernel
theorem dL_isTold_683 : decode cL_isTold 683 = .ok (.iload 11, 2) := by decide +kernel
theorem dL_isTold_685 : decode cL_isTold 685 = .ok (.iload 20, 2) := by decide +kernel
theorem dL_isTold_687 : decode cL_isTold 687 = .ok (.invokevirtual 109, 3) := by decide +kernel
theorem dL_isTold_690 : decode cL_isTold 690 = .ok (.iload 20, 2) := by decide +kernel
theorem dL_isTold_692 : decode cL_isTold 692 = .ok (.iload 19, 2) := by decide +kernel
theorem dL_isTold_694 : decode cL_isTold 694 = .ok (.invokestatic 23, 3) := by decide +kernel
theorem dL_isTold_697 : decode cL_isTold 697 = .ok (.if_icmp .ge 13, 3) := by decide +kernel
theorem dL_isTold_700 : decode cL_isTold 700 = .ok (.iload 19, 2) := by decide +kernel
theorem dL_isTold_702 : decode cL_isTold 702 = .ok (.iload 20, 2) := by decide +kernel
theorem dL_isTold_704 : decode cL_isTold 704 = .ok (.invokestatic 27, 3) := by decide +kernel
theorem dL_isTold_707 : decode cL_isTold 707 = .ok (.goto 4, 3) := by decide +kernel
theorem dL_isTold_710 : decode cL_isTold 710 = .ok (.iconst 0, 1) := by decide +kernel
theorem dL_isTold_711 : decode cL_isTold 711 = .ok (.if_icmp .ne 7, 3) := by decide +kernel
theorem dL_isTold_714 : decode cL_isTold 714 = .ok (.iconst 1, 1) := by decide +kernel
theorem dL_isTold_715 : decode cL_isTold 715 = .ok (.goto 4, 3) := by decide +kernel
theorem dL_isTold_718 : decode cL_isTold 718 = .ok (.iconst 0, 1) := by decide +kernel
theorem dL_isTold_719 : decode cL_isTold 719 = .ok (.istore 15, 2) := by decide +kernel
theorem dL_isTold_721 : decode cL_isTold 721 = .ok (.iinc 20 1, 3) := by decide +kernel
theorem dL_isTold_724 : decode cL_isTold 724 = .ok (.goto (-59), 3) := by decide +kernel
theorem dL_isTold_727 : decode cL_isTold 727 = .ok (.iload 15, 2) := by decide +kernel
theorem dL_isTold_729 : decode cL_isTold 729 = .ok (.ireturn, 1) := by decide +kernel
set_option maxRecDepth 20000 in
theorem ggL_acts_L_signed : GoodIn wsL_acts wsL_signed := goodIn_ca (goodIn_ca (goodIn_r _ [4, 5, 6, 7, 8, 9, 10, 11, 12, 13, 14, 15, 16, 17, 18, 19, 20, 21, 22, 214, 215, 216, 217, 218, 219, 220, 221, 222, 223] (by decide +kernel) (by decide +kernel)) (goodIn_sub (fun _ h => List.mem_cons_of_mem _ (List.mem_append_left _ (List.mem_append_left _ (List.mem_append_right _ h)))) (by decide +kernel))) (goodIn_sub (fun _ h => List.mem_cons_of_mem _ (List.mem_append_left _ (List.mem_append_right _ h))) (by decide +kernel))
set_option maxRecDepth 20000 in
theorem gL_acts_L_signed : GoodIn wsL_acts (va_wsS RL 112 yL_signed wsL_signed) := goodIn_app (goodIn_of _ (by decide +kernel)) ggL_acts_L_signed
set_option maxRecDepth 20000 in
theorem ggL_acts_L_set : GoodIn wsL_acts wsL_set := goodIn_ca (goodIn_ca (goodIn_r _ [25, 5, 26, 27, 28, 9, 29, 13, 14, 15, 16, 30, 31, 32, 33, 34, 35, 36, 37, 38, 39, 40, 41, 42, 43, 44, 45, 46, 47, 48, 49, 50, 51, 52, 53, 54, 55, 56, 57, 58, 59, 60, 61, 62, 63, 64, 65, 66, 67, 68, 69, 20, 21, 22, 70, 71, 72, 73, 74, 75, 76, 77, 78, 79, 80, 81, 82, 83, 84, 85, 86, 87, 88, 89, 90, 91, 92, 93, 94, 95, 96, 97, 98, 99, 100, 101, 102, 103, 104, 105, 106, 107, 108, 109, 110, 111, 112, 113, 114, 115, 116, 117, 118, 119, 120, 121, 122, 123, 124, 125, 126, 127, 128, 129, 130, 131, 132, 133, 134, 135, 136, 137, 138, 139, 140, 141, 142, 143, 144, 145, 146, 147, 148, 149, 150, 151, 152, 153, 154, 155, 156, 157, 158, 159, 160, 161, 162, 163, 164, 165, 166, 167, 168, 169, 170, 171, 172, 173, 174, 175, 176, 177, 214, 215, 216, 217, 218, 219, 220, 221, 222, 223, 224, 225, 226, 227, 228, 229, 230, 231, 232] (by decide +kernel) (by decide +kernel)) (goodIn_sub (fun _ h => List.mem_cons_of_mem _ (List.mem_append_left _ (List.mem_append_right _ h))) (by decide +kernel))) (goodIn_sub (fun _ h => List.mem_cons_of_mem _ (List.mem_append_right _ h)) (by decide +kernel))
set_option maxRecDepth 20000 in
theorem gL_acts_L_set : GoodIn wsL_acts (va_wsS RL 116 yL_set wsL_set) := goodIn_app (goodIn_of _ (by decide +kernel)) ggL_acts_L_set
set_option maxRecDepth 20000 in
theorem ggL_acts_L_change : GoodIn wsL_acts wsL_change := goodIn_r _ [180] (by decide +kernel) (by decide +kernel)
set_option maxRecDepth 20000 in
theorem gL_acts_L_change : GoodIn wsL_acts (va_wsS RL 119 yL_change wsL_change) := goodIn_app (goodIn_of _ (by decide +kernel)) ggL_acts_L_change
set_option maxRecDepth 20000 in
theorem ggL_acts_L_size : GoodIn wsL_acts wsL_size := goodIn_r _ [183] (by decide +kernel) (by decide +kernel)
set_option maxRecDepth 20000 in
theorem gL_acts_L_size : GoodIn wsL_acts (va_wsS RL 23 yL_size wsL_size) := goodIn_app (goodIn_of _ (by decide +kernel)) ggL_acts_L_size
set_option maxRecDepth 20000 in
theorem ggL_acts_L_removed : GoodIn wsL_acts wsL_removed := goodIn_ca (goodIn_ca (goodIn_r _ [186, 5, 187, 188, 189, 9, 190, 13, 14, 83, 191, 34, 35, 36, 37, 38, 39, 40, 41, 42, 43, 44, 45, 46, 47, 85, 86, 87, 88, 89, 90, 79, 80, 81, 82, 33, 84, 91, 92, 93, 94, 95, 96, 97, 98, 99, 100, 101, 74, 75, 102, 103, 104, 105, 106, 107, 108, 109, 110, 111, 112, 113, 114, 115, 116, 117, 118, 119, 120, 121, 122, 123, 124, 125, 126, 127, 128, 129, 130, 131, 132, 133, 134, 135, 64, 65, 66, 136, 137, 138, 139, 140, 141, 142, 143, 144, 145, 146, 147, 148, 149, 150, 151, 152, 153, 154, 61, 155, 156, 157, 158, 159, 160, 161, 162, 163, 164, 165, 166, 167, 50, 168, 169, 170, 171, 172, 173, 174, 175, 176, 177, 59, 60, 62, 63, 214, 215, 216, 217, 218, 219, 220, 221, 222, 223, 224, 225, 226, 227, 228, 229, 230, 231, 232] (by decide +kernel) (by decide +kernel)) (goodIn_sub (fun _ h => List.mem_cons_of_mem _ (List.mem_append_left _ (List.mem_append_right _ h))) (by decide +kernel))) (goodIn_sub (fun _ h => List.mem_cons_of_mem _ (List.mem_append_right _ h)) (by decide +kernel))
set_option maxRecDepth 20000 in
theorem gL_acts_L_removed : GoodIn wsL_acts (va_wsS RL 123 yL_removed wsL_removed) := goodIn_app (goodIn_of _ (by decide +kernel)) ggL_acts_L_removed
set_option maxRecDepth 20000 in
theorem ggL_acts_X2_setNumbers : GoodIn wsL_acts wsX2_setNumbers := goodIn_ca (goodIn_ca (goodIn_r _ [195, 196, 197, 42, 43, 9, 44, 37, 38, 198, 199, 200, 11, 12, 214, 215, 216, 217, 218, 219, 220, 221, 222, 223] (by decide +kernel) (by decide +kernel)) (goodIn_sub (fun _ h => List.mem_cons_of_mem _ (List.mem_append_right _ h)) (by decide +kernel))) (goodIn_sub (fun _ h => List.mem_cons_of_mem _ (List.mem_append_left _ (List.mem_append_left _ (List.mem_append_right _ h)))) (by decide +kernel))
set_option maxRecDepth 20000 in
theorem gL_acts_X2_setNumbers : GoodIn wsL_acts (wsV RL 127 RX2 yX2_setNumbers wsX2_setNumbers) := goodIn_app (goodIn_of _ (by decide +kernel)) ggL_acts_X2_setNumbers
set_option maxRecDepth 20000 in
theorem ggL_acts_L_fallen : GoodIn wsL_acts wsL_fallen := goodIn_ca (goodIn_ca (goodIn_r _ [203, 204, 205, 206, 207, 9, 208, 37, 38, 11, 12, 209, 42, 43, 44, 210, 211, 212, 213, 214, 215, 216, 217, 218, 219, 220, 221, 222, 223] (by decide +kernel) (by decide +kernel)) (goodIn_sub (fun _ h => List.mem_cons_of_mem _ (List.mem_append_right _ h)) (by decide +kernel))) (goodIn_sub (fun _ h => List.mem_cons_of_mem _ (List.mem_append_left _ (List.mem_append_left _ (List.mem_append_right _ h)))) (by decide +kernel))
set_option maxRecDepth 20000 in
theorem gL_acts_L_fallen : GoodIn wsL_acts (va_wsS RL 131 yL_fallen wsL_fallen) := goodIn_app (goodIn_of _ (by decide +kernel)) ggL_acts_L_fallen
theorem dL_acts_0 : decode cL_acts 0 = .ok (.iload 8, 2) := by decide +kernel
theorem dL_acts_2 : decode cL_acts 2 = .ok (.iconst 2, 1) := by decide +kernel
theorem dL_acts_3 : decode cL_acts 3 = .ok (.irem, 1) := by decide +kernel
theorem dL_acts_4 : decode cL_acts 4 = .ok (.istore 9, 2) := by decide +kernel
theorem dL_acts_6 : decode cL_acts 6 = .ok (.iload 8, 2) := by decide +kernel
theorem dL_acts_8 : decode cL_acts 8 = .ok (.iconst 2, 1) := by decide +kernel
theorem dL_acts_9 : decode cL_acts 9 = .ok (.idiv, 1) := by decide +kernel
theorem dL_acts_10 : decode cL_acts 10 = .ok (.iconst 3, 1) := by decide +kernel
theorem dL_acts_11 : decode cL_acts 11 = .ok (.irem, 1) := by decide +kernel
theorem dL_acts_12 : decode cL_acts 12 = .ok (.istore 10, 2) := by decide +kernel
theorem dL_acts_14 : decode cL_acts 14 = .ok (.iload 8, 2) := by decide +kernel
theorem dL_acts_16 : decode cL_acts 16 = .ok (.bipush 6, 2) := by decide +kernel
theorem dL_acts_18 : decode cL_acts 18 = .ok (.idiv, 1) := by decide +kernel
theorem dL_acts_19 : decode cL_acts 19 = .ok (.iconst 3, 1) := by decide +kernel
theorem dL_acts_20 : decode cL_acts 20 = .ok (.irem, 1) := by decide +kernel
theorem dL_acts_21 : decode cL_acts 21 = .ok (.ifCond .ne 8, 3) := by decide +kernel
theorem dL_acts_24 : decode cL_acts 24 = .ok (.bipush 6, 2) := by decide +kernel
theorem dL_acts_26 : decode cL_acts 26 = .ok (.goto 11, 3) := by decide +kernel
theorem dL_acts_29 : decode cL_acts 29 = .ok (.iload 8, 2) := by decide +kernel
theorem dL_acts_31 : decode cL_acts 31 = .ok (.bipush 18, 2) := by decide +kernel
theorem dL_acts_33 : decode cL_acts 33 = .ok (.idiv, 1) := by decide +kernel
theorem dL_acts_34 : decode cL_acts 34 = .ok (.bipush 9, 2) := by decide +kernel
theorem dL_acts_36 : decode cL_acts 36 = .ok (.irem, 1) := by decide +kernel
theorem dL_acts_37 : decode cL_acts 37 = .ok (.istore 11, 2) := by decide +kernel
theorem dL_acts_39 : decode cL_acts 39 = .ok (.bipush 27, 2) := by decide +kernel
theorem dL_acts_41 : decode cL_acts 41 = .ok (.iload 9, 2) := by decide +kernel
theorem dL_acts_43 : decode cL_acts 43 = .ok (.imul, 1) := by decide +kernel
theorem dL_acts_44 : decode cL_acts 44 = .ok (.bipush 9, 2) := by decide +kernel
theorem dL_acts_46 : decode cL_acts 46 = .ok (.iload 10, 2) := by decide +kernel
theorem dL_acts_48 : decode cL_acts 48 = .ok (.imul, 1) := by decide +kernel
theorem dL_acts_49 : decode cL_acts 49 = .ok (.iadd, 1) := by decide +kernel
theorem dL_acts_50 : decode cL_acts 50 = .ok (.iload 11, 2) := by decide +kernel
theorem dL_acts_52 : decode cL_acts 52 = .ok (.iadd, 1) := by decide +kernel
theorem dL_acts_53 : decode cL_acts 53 = .ok (.istore 12, 2) := by decide +kernel
theorem dL_acts_55 : decode cL_acts 55 = .ok (.iload 7, 2) := by decide +kernel
theorem dL_acts_57 : decode cL_acts 57 = .ok (.bipush 7, 2) := by decide +kernel
theorem dL_acts_59 : decode cL_acts 59 = .ok (.if_icmp .ge 82, 3) := by decide +kernel
theorem dL_acts_62 : decode cL_acts 62 = .ok (.aload 6, 2) := by decide +kernel
theorem dL_acts_64 : decode cL_acts 64 = .ok (.iconst 1, 1) := by decide +kernel
theorem dL_acts_65 : decode cL_acts 65 = .ok (.iaload, 1) := by decide +kernel
theorem dL_acts_66 : decode cL_acts 66 = .ok (.iconst 4, 1) := by decide +kernel
theorem dL_acts_67 : decode cL_acts 67 = .ok (.if_icmp .ge 74, 3) := by decide +kernel
theorem dL_acts_70 : decode cL_acts 70 = .ok (.iload 8, 2) := by decide +kernel
theorem dL_acts_72 : decode cL_acts 72 = .ok (.iconst 5, 1) := by decide +kernel
theorem dL_acts_73 : decode cL_acts 73 = .ok (.irem, 1) := by decide +kernel
theorem dL_acts_74 : decode cL_acts 74 = .ok (.ifCond .ne 15, 3) := by decide +kernel
theorem dL_acts_77 : decode cL_acts 77 = .ok (.bipush 101, 2) := by decide +kernel
theorem dL_acts_79 : decode cL_acts 79 = .ok (.iload 8, 2) := by decide +kernel
theorem dL_acts_81 : decode cL_acts 81 = .ok (.iconst 5, 1) := by decide +kernel
theorem dL_acts_82 : decode cL_acts 82 = .ok (.idiv, 1) := by decide +kernel
theorem dL_acts_83 : decode cL_acts 83 = .ok (.iconst 2, 1) := by decide +kernel
theorem dL_acts_84 : decode cL_acts 84 = .ok (.irem, 1) := by decide +kernel
theorem dL_acts_85 : decode cL_acts 85 = .ok (.iadd, 1) := by decide +kernel
theorem dL_acts_86 : decode cL_acts 86 = .ok (.goto 11, 3) := by decide +kernel
theorem dL_acts_89 : decode cL_acts 89 = .ok (.iconst 1, 1) := by decide +kernel
theorem dL_acts_90 : decode cL_acts 90 = .ok (.iload 8, 2) := by decide +kernel
theorem dL_acts_92 : decode cL_acts 92 = .ok (.iconst 5, 1) := by decide +kernel
theorem dL_acts_93 : decode cL_acts 93 = .ok (.idiv, 1) := by decide +kernel
theorem dL_acts_94 : decode cL_acts 94 = .ok (.iconst 3, 1) := by decide +kernel
theorem dL_acts_95 : decode cL_acts 95 = .ok (.irem, 1) := by decide +kernel
theorem dL_acts_96 : decode cL_acts 96 = .ok (.iadd, 1) := by decide +kernel
theorem dL_acts_97 : decode cL_acts 97 = .ok (.istore 13, 2) := by decide +kernel
theorem dL_acts_99 : decode cL_acts 99 = .ok (.aload 6, 2) := by decide +kernel
theorem dL_acts_101 : decode cL_acts 101 = .ok (.iconst 1, 1) := by decide +kernel
theorem dL_acts_102 : decode cL_acts 102 = .ok (.dup2, 1) := by decide +kernel
theorem dL_acts_103 : decode cL_acts 103 = .ok (.iaload, 1) := by decide +kernel
