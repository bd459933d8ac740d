/-! the law: both run, both answer alike, to the script's end -/
section partC6
variable {G : xG} {z i bc bs made S : Nat} {K J : xI} {P : xP} {post : Option Value → xH → Prop}
theorem Rel.mg2 {K' J' : xI} (q : Rel z (x_mg K' J) J' P made S) : Rel z (x_mg K' J') J' P made S := q.congr (fun _ ha => by rw [x_mg_out ha, x_mg_out ha])
set_option maxRecDepth 100000 in
set_option maxHeartbeats 4000000 in
theorem l_W_power (hL : g_L G ≤ 2560) (hi : i + 5 ≤ g_L G) (q : Rel z (x_mg K J) J P made S) (kk : ∀ z K J P made S, Rel z (x_mg K J) J P made S → xp G M_W_law 643 [(0, .ref 0), (1, .ref 1), (2, .ref 68), (3, .int (nI i))] [] (z, x_mg K J, P) bc bs post) : xp G M_W_law 116 [(0, .ref 0), (1, .ref 1), (2, .ref 68), (3, .int (nI i))] [] (z, x_mg K J, P) bc bs post := by
  have hb := q.1.2.2.1
  have hmd := q.1.2.2.2
  have hz := hmd.1
  have hm6 := q.1.2.1
  have i4 : x_mg K J 1 4 = nI made := q.2.1.1.1
  have j12 : J 68 12 = nI made := q.2.1.1.2.1
  have tB : x_at 0 z 1 := hb.1.1
  refine xp_aload_n d_W_law_116 rfl ?_
  refine xp_aload_n d_W_law_117 rfl ?_
  refine xp_iload_n d_W_law_118 rfl ?_
  refine xp_iconst (v := 1) d_W_law_119 (by decide) ?_
  refine xp_iadd d_W_law_120 ?_
  refine xq_sload (j := i + 1) d_W_law_121 (nI_add i 1) (by omega) (by omega) ?_
  refine xp_aload_n d_W_law_122 rfl ?_
  refine xp_iload_n d_W_law_123 rfl ?_
  refine xp_iconst (v := 2) d_W_law_124 (by decide) ?_
  refine xp_iadd d_W_law_125 ?_
  refine xq_sload (j := i + 2) d_W_law_126 (nI_add i 2) (by omega) (by omega) ?_
  refine xp_if_eq (tgt := 134) d_W_law_127 (by decide) (fun c0 => ?_) (fun c0 => ?_)
  · skip
    obtain ⟨e1, S1, q1, own⟩ := sim_power q (g_x G (i + 1)) 0 (by decide)
    obtain ⟨K1, eK⟩ : ∃ K1, k_pwI (x_mg K J) (g_x G (i + 1)) 0 = x_mg K1 J := ⟨_, x_mg_own own⟩
    rw [eK] at q1
    refine xp_iconst (v := 0) d_W_law_134 (by decide) ?_
    refine xq_V2r d_W_law_135 g_W_law_13 tB rfl rfl ?_
    refine c_B_power hb ?_
    refine ⟨_, rfl, ?_⟩
    rw [eK]
    refine xp_aload_n d_W_law_138 rfl ?_
    refine xp_aload_n d_W_law_139 rfl ?_
    refine xp_iload_n d_W_law_140 rfl ?_
    refine xp_iconst (v := 1) d_W_law_141 (by decide) ?_
    refine xp_iadd d_W_law_142 ?_
    refine xq_sload (j := i + 1) d_W_law_143 (nI_add i 1) (by omega) (by omega) ?_
    refine xp_aload_n d_W_law_144 rfl ?_
    refine xp_iload_n d_W_law_145 rfl ?_
    refine xp_iconst (v := 2) d_W_law_146 (by decide) ?_
    refine xp_iadd d_W_law_147 ?_
    refine xq_sload (j := i + 2) d_W_law_148 (nI_add i 2) (by omega) (by omega) ?_
    refine xp_if_eq (tgt := 156) d_W_law_149 (by decide) (fun _ => ?_) (fun h => absurd c0 h)
    refine xp_iconst (v := 0) d_W_law_156 (by decide) ?_
    refine xq_V2r d_W_law_157 g_W_law_17 (x_mA hz) rfl rfl ?_
    refine c_M_power hmd (by decide) q.sr.1 q.sr.2.1 q.sr.2.2.2 ?_
    refine ⟨_, rfl, ?_⟩
    refine xp_icmp_eq (tgt := 643) d_W_law_160 (by decide) (fun _ => ?_) (fun h => absurd e1 h)
    exact kk _ _ _ _ _ _ q1.mg2
  · skip
    obtain ⟨e1, S1, q1, own⟩ := sim_power q (g_x G (i + 1)) 1 (by decide)
    obtain ⟨K1, eK⟩ : ∃ K1, k_pwI (x_mg K J) (g_x G (i + 1)) 1 = x_mg K1 J := ⟨_, x_mg_own own⟩
    rw [eK] at q1
    refine xp_iconst (v := 1) d_W_law_130 (by decide) ?_
    refine xp_goto (tgt := 135) d_W_law_131 (by decide) ?_
    refine xq_V2r d_W_law_135 g_W_law_13 tB rfl rfl ?_
    refine c_B_power hb ?_
    refine ⟨_, rfl, ?_⟩
    rw [eK]
    refine xp_aload_n d_W_law_138 rfl ?_
    refine xp_aload_n d_W_law_139 rfl ?_
    refine xp_iload_n d_W_law_140 rfl ?_
    refine xp_iconst (v := 1) d_W_law_141 (by decide) ?_
    refine xp_iadd d_W_law_142 ?_
    refine xq_sload (j := i + 1) d_W_law_143 (nI_add i 1) (by omega) (by omega) ?_
    refine xp_aload_n d_W_law_144 rfl ?_
    refine xp_iload_n d_W_law_145 rfl ?_
    refine xp_iconst (v := 2) d_W_law_146 (by decide) ?_
    refine xp_iadd d_W_law_147 ?_
    refine xq_sload (j := i + 2) d_W_law_148 (nI_add i 2) (by omega) (by omega) ?_
    refine xp_if_eq (tgt := 156) d_W_law_149 (by decide) (fun h => absurd h c0) (fun _ => ?_)
    refine xp_iconst (v := 1) d_W_law_152 (by decide) ?_
    refine xp_goto (tgt := 157) d_W_law_153 (by decide) ?_
    refine xq_V2r d_W_law_157 g_W_law_17 (x_mA hz) rfl rfl ?_
    refine c_M_power hmd (by decide) q.sr.1 q.sr.2.1 q.sr.2.2.2 ?_
    refine ⟨_, rfl, ?_⟩
    refine xp_icmp_eq (tgt := 643) d_W_law_160 (by decide) (fun _ => ?_) (fun h => absurd e1 h)
    exact kk _ _ _ _ _ _ q1.mg2
set_option maxRecDepth 100000 in
set_option maxHeartbeats 4000000 in
theorem l_W_sense (hL : g_L G ≤ 2560) (hi : i + 5 ≤ g_L G) (q : Rel z (x_mg K J) J P made S) (kk : ∀ z K J P made S, Rel z (x_mg K J) J P made S → xp G M_W_law 643 [(0, .ref 0), (1, .ref 1), (2, .ref 68), (3, .int (nI i))] [] (z, x_mg K J, P) bc bs post) : xp G M_W_law 165 [(0, .ref 0), (1, .ref 1), (2, .ref 68), (3, .int (nI i))] [] (z, x_mg K J, P) bc bs post := by
  have hb := q.1.2.2.1
  have hmd := q.1.2.2.2
  have hz := hmd.1
  have hm6 := q.1.2.1
  have i4 : x_mg K J 1 4 = nI made := q.2.1.1.1
  have j12 : J 68 12 = nI made := q.2.1.1.2.1
  have tB : x_at 0 z 1 := hb.1.1
  obtain ⟨e1, q1⟩ := sim_sense q (g_x G (i + 1)) (g_x G (i + 2))
  obtain ⟨K1, eK⟩ : ∃ K1, k_snI (x_mg K J) (g_x G (i + 1)) (g_x G (i + 2)) = x_mg K1 J := ⟨_, x_mg_own (o_sn (g_x G (i + 1)) (g_x G (i + 2)))⟩
  rw [eK] at q1
  refine xp_aload_n d_W_law_165 rfl ?_
  refine xp_aload_n d_W_law_166 rfl ?_
  refine xp_iload_n d_W_law_167 rfl ?_
  refine xp_iconst (v := 1) d_W_law_168 (by decide) ?_
  refine xp_iadd d_W_law_169 ?_
  refine xq_sload (j := i + 1) d_W_law_170 (nI_add i 1) (by omega) (by omega) ?_
  refine xp_aload_n d_W_law_171 rfl ?_
  refine xp_iload_n d_W_law_172 rfl ?_
  refine xp_iconst (v := 2) d_W_law_173 (by decide) ?_
  refine xp_iadd d_W_law_174 ?_
  refine xq_sload (j := i + 2) d_W_law_175 (nI_add i 2) (by omega) (by omega) ?_
  refine xq_V2r d_W_law_176 g_W_law_18 tB rfl rfl ?_
  refine c_B_sense hb ?_
  refine ⟨_, rfl, ?_⟩
  rw [eK]
  refine xp_aload_n d_W_law_179 rfl ?_
  refine xp_aload_n d_W_law_180 rfl ?_
  refine xp_iload_n d_W_law_181 rfl ?_
  refine xp_iconst (v := 1) d_W_law_182 (by decide) ?_
  refine xp_iadd d_W_law_183 ?_
  refine xq_sload (j := i + 1) d_W_law_184 (nI_add i 1) (by omega) (by omega) ?_
  refine xp_aload_n d_W_law_185 rfl ?_
  refine xp_iload_n d_W_law_186 rfl ?_
  refine xp_iconst (v := 2) d_W_law_187 (by decide) ?_
  refine xp_iadd d_W_law_188 ?_
  refine xq_sload (j := i + 2) d_W_law_189 (nI_add i 2) (by omega) (by omega) ?_
  refine xq_V2r d_W_law_190 g_W_law_22 (x_mA hz) rfl rfl ?_
  refine c_M_sense hmd ?_
  refine ⟨_, rfl, ?_⟩
  refine xp_icmp_eq (tgt := 643) d_W_law_193 (by decide) (fun _ => ?_) (fun h => absurd e1 h)
  exact kk _ _ _ _ _ _ q1.mg2
set_option maxRecDepth 100000 in
set_option maxHeartbeats 4000000 in
theorem l_W_gains (hL : g_L G ≤ 2560) (hi : i + 5 ≤ g_L G) (q : Rel z (x_mg K J) J P made S) (kk : ∀ z K J P made S, Rel z (x_mg K J) J P made S → xp G M_W_law 643 [(0, .ref 0), (1, .ref 1), (2, .ref 68), (3, .int (nI i))] [] (z, x_mg K J, P) bc bs post) : xp G M_W_law 198 [(0, .ref 0), (1, .ref 1), (2, .ref 68), (3, .int (nI i))] [] (z, x_mg K J, P) bc bs post := by
  have hb := q.1.2.2.1
  have hmd := q.1.2.2.2
  have hz := hmd.1
  have hm6 := q.1.2.1
  have i4 : x_mg K J 1 4 = nI made := q.2.1.1.1
  have j12 : J 68 12 = nI made := q.2.1.1.2.1
  have tB : x_at 0 z 1 := hb.1.1
  obtain ⟨e1, q1⟩ := sim_gains q (g_x G (i + 1)) (g_x G (i + 2)) (g_x G (i + 3))
  obtain ⟨K1, eK⟩ : ∃ K1, k_gaI (x_mg K J) (g_x G (i + 1)) (g_x G (i + 2)) (g_x G (i + 3)) = x_mg K1 J := ⟨_, x_mg_own (o_ga (g_x G (i + 1)) (g_x G (i + 2)) (g_x G (i + 3)))⟩
  rw [eK] at q1
  refine xp_aload_n d_W_law_198 rfl ?_
  refine xp_aload_n d_W_law_199 rfl ?_
  refine xp_iload_n d_W_law_200 rfl ?_
  refine xp_iconst (v := 1) d_W_law_201 (by decide) ?_
  refine xp_iadd d_W_law_202 ?_
  refine xq_sload (j := i + 1) d_W_law_203 (nI_add i 1) (by omega) (by omega) ?_
  refine xp_aload_n d_W_law_204 rfl ?_
  refine xp_iload_n d_W_law_205 rfl ?_
  refine xp_iconst (v := 2) d_W_law_206 (by decide) ?_
  refine xp_iadd d_W_law_207 ?_
  refine xq_sload (j := i + 2) d_W_law_208 (nI_add i 2) (by omega) (by omega) ?_
  refine xp_aload_n d_W_law_209 rfl ?_
  refine xp_iload_n d_W_law_210 rfl ?_
  refine xp_iconst (v := 3) d_W_law_211 (by decide) ?_
  refine xp_iadd d_W_law_212 ?_
  refine xq_sload (j := i + 3) d_W_law_213 (nI_add i 3) (by omega) (by omega) ?_
  refine xq_V3r d_W_law_214 g_W_law_23 tB rfl rfl ?_
  refine c_B_gains hb ?_
  refine ⟨_, rfl, ?_⟩
  rw [eK]
  refine xp_aload_n d_W_law_217 rfl ?_
  refine xp_aload_n d_W_law_218 rfl ?_
  refine xp_iload_n d_W_law_219 rfl ?_
  refine xp_iconst (v := 1) d_W_law_220 (by decide) ?_
  refine xp_iadd d_W_law_221 ?_
  refine xq_sload (j := i + 1) d_W_law_222 (nI_add i 1) (by omega) (by omega) ?_
  refine xp_aload_n d_W_law_223 rfl ?_
  refine xp_iload_n d_W_law_224 rfl ?_
  refine xp_iconst (v := 2) d_W_law_225 (by decide) ?_
  refine xp_iadd d_W_law_226 ?_
  refine xq_sload (j := i + 2) d_W_law_227 (nI_add i 2) (by omega) (by omega) ?_
  refine xp_aload_n d_W_law_228 rfl ?_
  refine xp_iload_n d_W_law_229 rfl ?_
  refine xp_iconst (v := 3) d_W_law_230 (by decide) ?_
  refine xp_iadd d_W_law_231 ?_
  refine xq_sload (j := i + 3) d_W_law_232 (nI_add i 3) (by omega) (by omega) ?_
  refine xq_V3r d_W_law_233 g_W_law_27 (x_mA hz) rfl rfl ?_
  refine c_M_gains hmd ?_
  refine ⟨_, rfl, ?_⟩
  refine xp_icmp_eq (tgt := 643) d_W_law_236 (by decide) (fun _ => ?_) (fun h => absurd e1 h)
  exact kk _ _ _ _ _ _ q1.mg2
set_option maxRecDepth 100000 in
set_option maxHeartbeats 4000000 in
theorem l_W_request (hL : g_L G ≤ 2560) (hi : i + 5 ≤ g_L G) (q : Rel z (x_mg K J) J P made S) (kk : ∀ z K J P made S, Rel z (x_mg K J) J P made S → xp G M_W_law 643 [(0, .ref 0), (1, .ref 1), (2, .ref 68), (3, .int (nI i))] [] (z, x_mg K J, P) bc bs post) : xp G M_W_law 241 [(0, .ref 0), (1, .ref 1), (2, .ref 68), (3, .int (nI i))] [] (z, x_mg K J, P) (bc + 1) (bs + 11) post := by
  have hb := q.1.2.2.1
  have hmd := q.1.2.2.2
  have hz := hmd.1
  have hm6 := q.1.2.1
  have i4 : x_mg K J 1 4 = nI made := q.2.1.1.1
  have j12 : J 68 12 = nI made := q.2.1.1.2.1
  have tB : x_at 0 z 1 := hb.1.1
  obtain ⟨e1, made1, -, q1⟩ := sim_request q (g_x G (i + 1)) (g_x G (i + 2)) (g_x G (i + 3)) (g_x G (i + 4))
  obtain ⟨K1, eK⟩ : ∃ K1, k_rqI z (x_mg K J) (g_x G (i + 1)) (g_x G (i + 2)) (g_x G (i + 3)) (g_x G (i + 4)) = x_mg K1 J := ⟨_, x_mg_own (o_rq hz (g_x G (i + 1)) (g_x G (i + 2)) (g_x G (i + 3)) (g_x G (i + 4)))⟩
  rw [eK] at q1
  have hmd1 := q1.1.2.2.2
  have hz1 := hmd1.1
  refine xp_aload_n d_W_law_241 rfl ?_
  refine xp_aload_n d_W_law_242 rfl ?_
  refine xp_iload_n d_W_law_243 rfl ?_
  refine xp_iconst (v := 1) d_W_law_244 (by decide) ?_
  refine xp_iadd d_W_law_245 ?_
  refine xq_sload (j := i + 1) d_W_law_246 (nI_add i 1) (by omega) (by omega) ?_
  refine xp_aload_n d_W_law_247 rfl ?_
  refine xp_iload_n d_W_law_248 rfl ?_
  refine xp_iconst (v := 2) d_W_law_249 (by decide) ?_
  refine xp_iadd d_W_law_250 ?_
  refine xq_sload (j := i + 2) d_W_law_251 (nI_add i 2) (by omega) (by omega) ?_
  refine xp_aload_n d_W_law_252 rfl ?_
  refine xp_iload_n d_W_law_253 rfl ?_
  refine xp_iconst (v := 3) d_W_law_254 (by decide) ?_
  refine xp_iadd d_W_law_255 ?_
  refine xq_sload (j := i + 3) d_W_law_256 (nI_add i 3) (by omega) (by omega) ?_
  refine xp_aload_n d_W_law_257 rfl ?_
  refine xp_iload_n d_W_law_258 rfl ?_
  refine xp_iconst (v := 4) d_W_law_259 (by decide) ?_
  refine xp_iadd d_W_law_260 ?_
  refine xq_sload (j := i + 4) d_W_law_261 (nI_add i 4) (by omega) (by omega) ?_
  refine xq_V4rb (mc := 1) (ms := 11) d_W_law_262 g_W_law_28 tB rfl rfl ?_
  refine c_B_request hb hz hm6 i4 q.hQ ?_
  refine ⟨_, rfl, ?_⟩
  rw [eK]
  refine xp_aload_n d_W_law_265 rfl ?_
  refine xp_aload_n d_W_law_266 rfl ?_
  refine xp_iload_n d_W_law_267 rfl ?_
  refine xp_iconst (v := 1) d_W_law_268 (by decide) ?_
  refine xp_iadd d_W_law_269 ?_
  refine xq_sload (j := i + 1) d_W_law_270 (nI_add i 1) (by omega) (by omega) ?_
  refine xp_aload_n d_W_law_271 rfl ?_
  refine xp_iload_n d_W_law_272 rfl ?_
  refine xp_iconst (v := 2) d_W_law_273 (by decide) ?_
  refine xp_iadd d_W_law_274 ?_
  refine xq_sload (j := i + 2) d_W_law_275 (nI_add i 2) (by omega) (by omega) ?_
  refine xp_aload_n d_W_law_276 rfl ?_
  refine xp_iload_n d_W_law_277 rfl ?_
  refine xp_iconst (v := 3) d_W_law_278 (by decide) ?_
  refine xp_iadd d_W_law_279 ?_
  refine xq_sload (j := i + 3) d_W_law_280 (nI_add i 3) (by omega) (by omega) ?_
  refine xp_aload_n d_W_law_281 rfl ?_
  refine xp_iload_n d_W_law_282 rfl ?_
  refine xp_iconst (v := 4) d_W_law_283 (by decide) ?_
  refine xp_iadd d_W_law_284 ?_
  refine xq_sload (j := i + 4) d_W_law_285 (nI_add i 4) (by omega) (by omega) ?_
  refine xq_V4r d_W_law_286 g_W_law_32 (x_mA hz1) rfl rfl ?_
  refine c_M_request hmd1 j12 hm6 ?_
  refine ⟨_, rfl, ?_⟩
  refine xp_icmp_eq (tgt := 643) d_W_law_289 (by decide) (fun _ => ?_) (fun h => absurd e1 h)
  exact kk _ _ _ _ _ _ q1.mg2
set_option maxRecDepth 100000 in
set_option maxHeartbeats 4000000 in
theorem l_W_spoil (hL : g_L G ≤ 2560) (hi : i + 5 ≤ g_L G) (q : Rel z (x_mg K J) J P made S) (kk : ∀ z K J P made S, Rel z (x_mg K J) J P made S → xp G M_W_law 643 [(0, .ref 0), (1, .ref 1), (2, .ref 68), (3, .int (nI i))] [] (z, x_mg K J, P) bc bs post) : xp G M_W_law 294 [(0, .ref 0), (1, .ref 1), (2, .ref 68), (3, .int (nI i))] [] (z, x_mg K J, P) bc bs post := by
  have hb := q.1.2.2.1
  have hmd := q.1.2.2.2
  have hz := hmd.1
  have hm6 := q.1.2.1
  have i4 : x_mg K J 1 4 = nI made := q.2.1.1.1
  have j12 : J 68 12 = nI made := q.2.1.1.2.1
  have tB : x_at 0 z 1 := hb.1.1
  obtain ⟨e1, q1⟩ := sim_spoil q (g_x G (i + 1)) (g_x G (i + 2)) (g_x G (i + 3))
  obtain ⟨K1, eK⟩ : ∃ K1, k_soI (x_mg K J) (g_x G (i + 1)) (g_x G (i + 2)) (g_x G (i + 3)) = x_mg K1 J := ⟨_, x_mg_own (o_so (g_x G (i + 1)) (g_x G (i + 2)) (g_x G (i + 3)))⟩
  rw [eK] at q1
  refine xp_aload_n d_W_law_294 rfl ?_
  refine xp_aload_n d_W_law_295 rfl ?_
  refine xp_iload_n d_W_law_296 rfl ?_
  refine xp_iconst (v := 1) d_W_law_297 (by decide) ?_
  refine xp_iadd d_W_law_298 ?_
  refine xq_sload (j := i + 1) d_W_law_299 (nI_add i 1) (by omega) (by omega) ?_
  refine xp_aload_n d_W_law_300 rfl ?_
  refine xp_iload_n d_W_law_301 rfl ?_
  refine xp_iconst (v := 2) d_W_law_302 (by decide) ?_
  refine xp_iadd d_W_law_303 ?_
  refine xq_sload (j := i + 2) d_W_law_304 (nI_add i 2) (by omega) (by omega) ?_
  refine xp_aload_n d_W_law_305 rfl ?_
  refine xp_iload_n d_W_law_306 rfl ?_
  refine xp_iconst (v := 3) d_W_law_307 (by decide) ?_
  refine xp_iadd d_W_law_308 ?_
  refine xq_sload (j := i + 3) d_W_law_309 (nI_add i 3) (by omega) (by omega) ?_
  refine xq_V3r d_W_law_310 g_W_law_33 tB rfl rfl ?_
  refine c_B_spoil hb ?_
  refine ⟨_, rfl, ?_⟩
  rw [eK]
  refine xp_aload_n d_W_law_313 rfl ?_
  refine xp_aload_n d_W_law_314 rfl ?_
  refine xp_iload_n d_W_law_315 rfl ?_
  refine xp_iconst (v := 1) d_W_law_316 (by decide) ?_
  refine xp_iadd d_W_law_317 ?_
  refine xq_sload (j := i + 1) d_W_law_318 (nI_add i 1) (by omega) (by omega) ?_
  refine xp_aload_n d_W_law_319 rfl ?_
  refine xp_iload_n d_W_law_320 rfl ?_
  refine xp_iconst (v := 2) d_W_law_321 (by decide) ?_
  refine xp_iadd d_W_law_322 ?_
  refine xq_sload (j := i + 2) d_W_law_323 (nI_add i 2) (by omega) (by omega) ?_
  refine xp_aload_n d_W_law_324 rfl ?_
  refine xp_iload_n d_W_law_325 rfl ?_
  refine xp_iconst (v := 3) d_W_law_326 (by decide) ?_
  refine xp_iadd d_W_law_327 ?_
  refine xq_sload (j := i + 3) d_W_law_328 (nI_add i 3) (by omega) (by omega) ?_
  refine xq_V3r d_W_law_329 g_W_law_36 (x_mA hz) rfl rfl ?_
  refine c_M_spoil hmd ?_
  refine ⟨_, rfl, ?_⟩
  refine xp_icmp_eq (tgt := 643) d_W_law_332 (by decide) (fun _ => ?_) (fun h => absurd e1 h)
  exact kk _ _ _ _ _ _ q1.mg2
set_option maxRecDepth 100000 in
set_option maxHeartbeats 4000000 in
theorem l_W_step (hL : g_L G ≤ 2560) (hi : i + 5 ≤ g_L G) (q : Rel z (x_mg K J) J P made S) (kk : ∀ z K J P made S, Rel z (x_mg K J) J P made S → xp G M_W_law 643 [(0, .ref 0), (1, .ref 1), (2, .ref 68), (3, .int (nI i))] [] (z, x_mg K J, P) bc bs post) : xp G M_W_law 337 [(0, .ref 0), (1, .ref 1), (2, .ref 68), (3, .int (nI i))] [] (z, x_mg K J, P) bc bs post := by
  have hb := q.1.2.2.1
  have hmd := q.1.2.2.2
  have hz := hmd.1
  have hm6 := q.1.2.1
  have i4 : x_mg K J 1 4 = nI made := q.2.1.1.1
  have j12 : J 68 12 = nI made := q.2.1.1.2.1
  have tB : x_at 0 z 1 := hb.1.1
  obtain ⟨s, hs, es⟩ := q.s43
  obtain ⟨h, nx, hH⟩ := q.hH
  obtain ⟨S1, ⟨em2, hm2, hk2⟩, q1, own⟩ := sim_step q hs es (fun g => ⟨(hH g).2.1, (hH g).1⟩)
  obtain ⟨K1, eK⟩ : ∃ K1, k_stI (x_mg K J) P = x_mg K1 J := ⟨_, x_mg_own own⟩
  have e1 : k_stI (x_mg K J) P 1 11 = s_e (s_set (s_ma (s_b J) s h S made) S1) 68 39 := q1.2.1.1.2.2.2.2.2.2.2.2.1
  rw [eK] at q1 e1
  have hmd1 := q1.1.2.2.2
  refine xp_aload_n d_W_law_337 rfl ?_
  refine xq_V0r d_W_law_338 g_W_law_37 tB rfl rfl ?_
  refine c_B_step hb q.ok ?_
  refine ⟨_, rfl, ?_⟩
  rw [eK]
  refine xp_aload_n d_W_law_341 rfl ?_
  refine xq_V0r d_W_law_342 g_W_law_41 (x_mA hz) rfl rfl ?_
  refine c_M_step hmd1 hs es hH q.sr.1 q.sr.2.1 j12 hm6 q.hw q.hr q.room em2 hm2 hk2 ?_
  refine ⟨_, rfl, ?_⟩
  refine xp_icmp_eq (tgt := 643) d_W_law_345 (by decide) (fun _ => ?_) (fun h => absurd e1 h)
  exact kk _ _ _ _ _ _ q1.mg2
set_option maxRecDepth 100000 in
set_option maxHeartbeats 4000000 in
theorem l_W_holder (hL : g_L G ≤ 2560) (hi : i + 5 ≤ g_L G) (q : Rel z (x_mg K J) J P made S) (kk : ∀ z K J P made S, Rel z (x_mg K J) J P made S → xp G M_W_law 643 [(0, .ref 0), (1, .ref 1), (2, .ref 68), (3, .int (nI i))] [] (z, x_mg K J, P) bc bs post) : xp G M_W_law 350 [(0, .ref 0), (1, .ref 1), (2, .ref 68), (3, .int (nI i))] [] (z, x_mg K J, P) bc bs post := by
  have hb := q.1.2.2.1
  have hmd := q.1.2.2.2
  have hz := hmd.1
  have hm6 := q.1.2.1
  have i4 : x_mg K J 1 4 = nI made := q.2.1.1.1
  have j12 : J 68 12 = nI made := q.2.1.1.2.1
  have tB : x_at 0 z 1 := hb.1.1
  refine xp_aload_n d_W_law_350 rfl ?_
  refine xq_V0r d_W_law_351 g_W_law_42 tB rfl rfl ?_
  refine c_B_holder hb ?_
  refine ⟨_, rfl, ?_⟩
  refine xp_aload_n d_W_law_354 rfl ?_
  refine xq_V0r d_W_law_355 g_W_law_45 (x_mA hz) rfl rfl ?_
  refine c_M_holder hmd ?_
  refine ⟨_, rfl, ?_⟩
  refine xp_icmp_eq (tgt := 643) d_W_law_358 (by decide) (fun _ => ?_) (fun h => absurd (e_holder q) h)
  exact kk _ _ _ _ _ _ q
set_option maxRecDepth 100000 in
set_option maxHeartbeats 4000000 in
theorem l_W_phase (hL : g_L G ≤ 2560) (hi : i + 5 ≤ g_L G) (q : Rel z (x_mg K J) J P made S) (kk : ∀ z K J P made S, Rel z (x_mg K J) J P made S → xp G M_W_law 643 [(0, .ref 0), (1, .ref 1), (2, .ref 68), (3, .int (nI i))] [] (z, x_mg K J, P) bc bs post) : xp G M_W_law 363 [(0, .ref 0), (1, .ref 1), (2, .ref 68), (3, .int (nI i))] [] (z, x_mg K J, P) bc bs post := by
  have hb := q.1.2.2.1
  have hmd := q.1.2.2.2
  have hz := hmd.1
  have hm6 := q.1.2.1
  have i4 : x_mg K J 1 4 = nI made := q.2.1.1.1
  have j12 : J 68 12 = nI made := q.2.1.1.2.1
  have tB : x_at 0 z 1 := hb.1.1
  refine xp_aload_n d_W_law_363 rfl ?_
  refine xq_V0r d_W_law_364 g_W_law_46 tB rfl rfl ?_
  refine c_B_phase hb ?_
  refine ⟨_, rfl, ?_⟩
  refine xp_aload_n d_W_law_367 rfl ?_
  refine xq_V0r d_W_law_368 g_W_law_49 (x_mA hz) rfl rfl ?_
  refine c_M_phase hmd ?_
  refine ⟨_, rfl, ?_⟩
  refine xp_icmp_eq (tgt := 643) d_W_law_371 (by decide) (fun _ => ?_) (fun h => absurd (e_phase q) h)
  exact kk _ _ _ _ _ _ q
set_option maxRecDepth 100000 in
set_option maxHeartbeats 4000000 in
theorem l_W_node (hL : g_L G ≤ 2560) (hi : i + 5 ≤ g_L G) (q : Rel z (x_mg K J) J P made S) (kk : ∀ z K J P made S, Rel z (x_mg K J) J P made S → xp G M_W_law 643 [(0, .ref 0), (1, .ref 1), (2, .ref 68), (3, .int (nI i))] [] (z, x_mg K J, P) bc bs post) : xp G M_W_law 376 [(0, .ref 0), (1, .ref 1), (2, .ref 68), (3, .int (nI i))] [] (z, x_mg K J, P) bc bs post := by
  have hb := q.1.2.2.1
  have hmd := q.1.2.2.2
  have hz := hmd.1
  have hm6 := q.1.2.1
  have i4 : x_mg K J 1 4 = nI made := q.2.1.1.1
  have j12 : J 68 12 = nI made := q.2.1.1.2.1
  have tB : x_at 0 z 1 := hb.1.1
  refine xp_aload_n d_W_law_376 rfl ?_
  refine xp_aload_n d_W_law_377 rfl ?_
  refine xp_iload_n d_W_law_378 rfl ?_
  refine xp_iconst (v := 1) d_W_law_379 (by decide) ?_
  refine xp_iadd d_W_law_380 ?_
  refine xq_sload (j := i + 1) d_W_law_381 (nI_add i 1) (by omega) (by omega) ?_
  refine xp_aload_n d_W_law_382 rfl ?_
  refine xp_iload_n d_W_law_383 rfl ?_
  refine xp_iconst (v := 2) d_W_law_384 (by decide) ?_
  refine xp_iadd d_W_law_385 ?_
  refine xq_sload (j := i + 2) d_W_law_386 (nI_add i 2) (by omega) (by omega) ?_
  refine xq_V2r d_W_law_387 g_W_law_50 tB rfl rfl ?_
  refine c_B_node hb ?_
  refine ⟨_, rfl, ?_⟩
  refine xp_aload_n d_W_law_390 rfl ?_
  refine xp_aload_n d_W_law_391 rfl ?_
  refine xp_iload_n d_W_law_392 rfl ?_
  refine xp_iconst (v := 1) d_W_law_393 (by decide) ?_
  refine xp_iadd d_W_law_394 ?_
  refine xq_sload (j := i + 1) d_W_law_395 (nI_add i 1) (by omega) (by omega) ?_
  refine xp_aload_n d_W_law_396 rfl ?_
  refine xp_iload_n d_W_law_397 rfl ?_
  refine xp_iconst (v := 2) d_W_law_398 (by decide) ?_
  refine xp_iadd d_W_law_399 ?_
  refine xq_sload (j := i + 2) d_W_law_400 (nI_add i 2) (by omega) (by omega) ?_
  refine xq_V2r d_W_law_401 g_W_law_54 (x_mA hz) rfl rfl ?_
  refine c_M_node hmd j12 hm6 q.sr.1 q.sr.2.1 ?_
  refine ⟨_, rfl, ?_⟩
  refine xp_icmp_eq (tgt := 643) d_W_law_404 (by decide) (fun _ => ?_) (fun h => absurd (e_node q (g_x G (i + 1)) (g_x G (i + 2))) h)
  exact kk _ _ _ _ _ _ q
set_option maxRecDepth 100000 in
set_option maxHeartbeats 4000000 in
theorem l_W_value (hL : g_L G ≤ 2560) (hi : i + 5 ≤ g_L G) (q : Rel z (x_mg K J) J P made S) (kk : ∀ z K J P made S, Rel z (x_mg K J) J P made S → xp G M_W_law 643 [(0, .ref 0), (1, .ref 1), (2, .ref 68), (3, .int (nI i))] [] (z, x_mg K J, P) bc bs post) : xp G M_W_law 409 [(0, .ref 0), (1, .ref 1), (2, .ref 68), (3, .int (nI i))] [] (z, x_mg K J, P) bc bs post := by
  have hb := q.1.2.2.1
  have hmd := q.1.2.2.2
  have hz := hmd.1
  have hm6 := q.1.2.1
  have i4 : x_mg K J 1 4 = nI made := q.2.1.1.1
  have j12 : J 68 12 = nI made := q.2.1.1.2.1
  have tB : x_at 0 z 1 := hb.1.1
  refine xp_aload_n d_W_law_409 rfl ?_
  refine xp_aload_n d_W_law_410 rfl ?_
  refine xp_iload_n d_W_law_411 rfl ?_
  refine xp_iconst (v := 1) d_W_law_412 (by decide) ?_
  refine xp_iadd d_W_law_413 ?_
  refine xq_sload (j := i + 1) d_W_law_414 (nI_add i 1) (by omega) (by omega) ?_
  refine xp_aload_n d_W_law_415 rfl ?_
  refine xp_iload_n d_W_law_416 rfl ?_
  refine xp_iconst (v := 2) d_W_law_417 (by decide) ?_
  refine xp_iadd d_W_law_418 ?_
  refine xq_sload (j := i + 2) d_W_law_419 (nI_add i 2) (by omega) (by omega) ?_
  refine xq_V2r d_W_law_420 g_W_law_55 tB rfl rfl ?_
  refine c_B_value hb ?_
  refine ⟨_, rfl, ?_⟩
  refine xp_aload_n d_W_law_423 rfl ?_
  refine xp_aload_n d_W_law_424 rfl ?_
  refine xp_iload_n d_W_law_425 rfl ?_
  refine xp_iconst (v := 1) d_W_law_426 (by decide) ?_
  refine xp_iadd d_W_law_427 ?_
  refine xq_sload (j := i + 1) d_W_law_428 (nI_add i 1) (by omega) (by omega) ?_
  refine xp_aload_n d_W_law_429 rfl ?_
  refine xp_iload_n d_W_law_430 rfl ?_
  refine xp_iconst (v := 2) d_W_law_431 (by decide) ?_
  refine xp_iadd d_W_law_432 ?_
  refine xq_sload (j := i + 2) d_W_law_433 (nI_add i 2) (by omega) (by omega) ?_
  refine xq_V2r d_W_law_434 g_W_law_58 (x_mA hz) rfl rfl ?_
  refine c_M_value hmd ?_
  refine ⟨_, rfl, ?_⟩
  refine xp_icmp_eq (tgt := 643) d_W_law_437 (by decide) (fun _ => ?_) (fun h => absurd (e_value q (g_x G (i + 1)) (g_x G (i + 2))) h)
  exact kk _ _ _ _ _ _ q
set_option maxRecDepth 100000 in
set_option maxHeartbeats 4000000 in
theorem l_W_level (hL : g_L G ≤ 2560) (hi : i + 5 ≤ g_L G) (q : Rel z (x_mg K J) J P made S) (kk : ∀ z K J P made S, Rel z (x_mg K J) J P made S → xp G M_W_law 643 [(0, .ref 0), (1, .ref 1), (2, .ref 68), (3, .int (nI i))] [] (z, x_mg K J, P) bc bs post) : xp G M_W_law 442 [(0, .ref 0), (1, .ref 1), (2, .ref 68), (3, .int (nI i))] [] (z, x_mg K J, P) bc bs post := by
  have hb := q.1.2.2.1
  have hmd := q.1.2.2.2
  have hz := hmd.1
  have hm6 := q.1.2.1
  have i4 : x_mg K J 1 4 = nI made := q.2.1.1.1
  have j12 : J 68 12 = nI made := q.2.1.1.2.1
  have tB : x_at 0 z 1 := hb.1.1
  refine xp_aload_n d_W_law_442 rfl ?_
  refine xp_aload_n d_W_law_443 rfl ?_
  refine xp_iload_n d_W_law_444 rfl ?_
  refine xp_iconst (v := 1) d_W_law_445 (by decide) ?_
  refine xp_iadd d_W_law_446 ?_
  refine xq_sload (j := i + 1) d_W_law_447 (nI_add i 1) (by omega) (by omega) ?_
  refine xp_aload_n d_W_law_448 rfl ?_
  refine xp_iload_n d_W_law_449 rfl ?_
  refine xp_iconst (v := 2) d_W_law_450 (by decide) ?_
  refine xp_iadd d_W_law_451 ?_
  refine xq_sload (j := i + 2) d_W_law_452 (nI_add i 2) (by omega) (by omega) ?_
  refine xq_V2r d_W_law_453 g_W_law_59 tB rfl rfl ?_
  refine c_B_level hb ?_
  refine ⟨_, rfl, ?_⟩
  refine xp_aload_n d_W_law_456 rfl ?_
  refine xp_aload_n d_W_law_457 rfl ?_
  refine xp_iload_n d_W_law_458 rfl ?_
  refine xp_iconst (v := 1) d_W_law_459 (by decide) ?_
  refine xp_iadd d_W_law_460 ?_
  refine xq_sload (j := i + 1) d_W_law_461 (nI_add i 1) (by omega) (by omega) ?_
  refine xp_aload_n d_W_law_462 rfl ?_
  refine xp_iload_n d_W_law_463 rfl ?_
  refine xp_iconst (v := 2) d_W_law_464 (by decide) ?_
  refine xp_iadd d_W_law_465 ?_
  refine xq_sload (j := i + 2) d_W_law_466 (nI_add i 2) (by omega) (by omega) ?_
  refine xq_V2r d_W_law_467 g_W_law_62 (x_mA hz) rfl rfl ?_
  refine c_M_level hmd ?_
  refine ⟨_, rfl, ?_⟩
  refine xp_icmp_eq (tgt := 643) d_W_law_470 (by decide) (fun _ => ?_) (fun h => absurd (e_level q (g_x G (i + 1)) (g_x G (i + 2))) h)
  exact kk _ _ _ _ _ _ q
set_option maxRecDepth 100000 in
set_option maxHeartbeats 4000000 in
theorem l_W_set (hL : g_L G ≤ 2560) (hi : i + 5 ≤ g_L G) (q : Rel z (x_mg K J) J P made S) (kk : ∀ z K J P made S, Rel z (x_mg K J) J P made S → xp G M_W_law 643 [(0, .ref 0), (1, .ref 1), (2, .ref 68), (3, .int (nI i))] [] (z, x_mg K J, P) bc bs post) : xp G M_W_law 475 [(0, .ref 0), (1, .ref 1), (2, .ref 68), (3, .int (nI i))] [] (z, x_mg K J, P) bc bs post := by
  have hb := q.1.2.2.1
  have hmd := q.1.2.2.2
  have hz := hmd.1
  have hm6 := q.1.2.1
  have i4 : x_mg K J 1 4 = nI made := q.2.1.1.1
  have j12 : J 68 12 = nI made := q.2.1.1.2.1
  have tB : x_at 0 z 1 := hb.1.1
  refine xp_aload_n d_W_law_475 rfl ?_
  refine xp_aload_n d_W_law_476 rfl ?_
  refine xp_iload_n d_W_law_477 rfl ?_
  refine xp_iconst (v := 1) d_W_law_478 (by decide) ?_
  refine xp_iadd d_W_law_479 ?_
  refine xq_sload (j := i + 1) d_W_law_480 (nI_add i 1) (by omega) (by omega) ?_
  refine xp_aload_n d_W_law_481 rfl ?_
  refine xp_iload_n d_W_law_482 rfl ?_
  refine xp_iconst (v := 2) d_W_law_483 (by decide) ?_
  refine xp_iadd d_W_law_484 ?_
  refine xq_sload (j := i + 2) d_W_law_485 (nI_add i 2) (by omega) (by omega) ?_
  refine xq_V2r d_W_law_486 g_W_law_63 tB rfl rfl ?_
  refine c_B_set hb ?_
  refine ⟨_, rfl, ?_⟩
  refine xp_aload_n d_W_law_489 rfl ?_
  refine xp_aload_n d_W_law_490 rfl ?_
  refine xp_iload_n d_W_law_491 rfl ?_
  refine xp_iconst (v := 1) d_W_law_492 (by decide) ?_
  refine xp_iadd d_W_law_493 ?_
  refine xq_sload (j := i + 1) d_W_law_494 (nI_add i 1) (by omega) (by omega) ?_
  refine xp_aload_n d_W_law_495 rfl ?_
  refine xp_iload_n d_W_law_496 rfl ?_
  refine xp_iconst (v := 2) d_W_law_497 (by decide) ?_
  refine xp_iadd d_W_law_498 ?_
  refine xq_sload (j := i + 2) d_W_law_499 (nI_add i 2) (by omega) (by omega) ?_
  refine xq_V2r d_W_law_500 g_W_law_66 (x_mA hz) rfl rfl ?_
  refine c_M_set hmd ?_
  refine ⟨_, rfl, ?_⟩
  refine xp_icmp_eq (tgt := 643) d_W_law_503 (by decide) (fun _ => ?_) (fun h => absurd (e_set q (g_x G (i + 1)) (g_x G (i + 2))) h)
  exact kk _ _ _ _ _ _ q
set_option maxRecDepth 100000 in
set_option maxHeartbeats 4000000 in
theorem l_W_state (hL : g_L G ≤ 2560) (hi : i + 5 ≤ g_L G) (q : Rel z (x_mg K J) J P made S) (kk : ∀ z K J P made S, Rel z (x_mg K J) J P made S → xp G M_W_law 643 [(0, .ref 0), (1, .ref 1), (2, .ref 68), (3, .int (nI i))] [] (z, x_mg K J, P) bc bs post) : xp G M_W_law 508 [(0, .ref 0), (1, .ref 1), (2, .ref 68), (3, .int (nI i))] [] (z, x_mg K J, P) bc bs post := by
  have hb := q.1.2.2.1
  have hmd := q.1.2.2.2
  have hz := hmd.1
  have hm6 := q.1.2.1
  have i4 : x_mg K J 1 4 = nI made := q.2.1.1.1
  have j12 : J 68 12 = nI made := q.2.1.1.2.1
  have tB : x_at 0 z 1 := hb.1.1
  refine xp_aload_n d_W_law_508 rfl ?_
  refine xp_aload_n d_W_law_509 rfl ?_
  refine xp_iload_n d_W_law_510 rfl ?_
  refine xp_iconst (v := 1) d_W_law_511 (by decide) ?_
  refine xp_iadd d_W_law_512 ?_
  refine xq_sload (j := i + 1) d_W_law_513 (nI_add i 1) (by omega) (by omega) ?_
  refine xq_V1r d_W_law_514 g_W_law_67 tB rfl rfl ?_
  refine c_B_state hb i4 hm6 q.rq ?_
  refine ⟨_, rfl, ?_⟩
  refine xp_aload_n d_W_law_517 rfl ?_
  refine xp_aload_n d_W_law_518 rfl ?_
  refine xp_iload_n d_W_law_519 rfl ?_
  refine xp_iconst (v := 1) d_W_law_520 (by decide) ?_
  refine xp_iadd d_W_law_521 ?_
  refine xq_sload (j := i + 1) d_W_law_522 (nI_add i 1) (by omega) (by omega) ?_
  refine xq_V1r d_W_law_523 g_W_law_71 (x_mA hz) rfl rfl ?_
  refine c_M_state hmd j12 hm6 ?_
  refine ⟨_, rfl, ?_⟩
  refine xp_icmp_eq (tgt := 643) d_W_law_526 (by decide) (fun _ => ?_) (fun h => absurd (e_state q (g_x G (i + 1))) h)
  exact kk _ _ _ _ _ _ q
set_option maxRecDepth 100000 in
set_option maxHeartbeats 4000000 in
theorem l_W_answer (hL : g_L G ≤ 2560) (hi : i + 5 ≤ g_L G) (q : Rel z (x_mg K J) J P made S) (kk : ∀ z K J P made S, Rel z (x_mg K J) J P made S → xp G M_W_law 643 [(0, .ref 0), (1, .ref 1), (2, .ref 68), (3, .int (nI i))] [] (z, x_mg K J, P) bc bs post) : xp G M_W_law 531 [(0, .ref 0), (1, .ref 1), (2, .ref 68), (3, .int (nI i))] [] (z, x_mg K J, P) bc bs post := by
  have hb := q.1.2.2.1
  have hmd := q.1.2.2.2
  have hz := hmd.1
  have hm6 := q.1.2.1
  have i4 : x_mg K J 1 4 = nI made := q.2.1.1.1
  have j12 : J 68 12 = nI made := q.2.1.1.2.1
  have tB : x_at 0 z 1 := hb.1.1
  refine xp_aload_n d_W_law_531 rfl ?_
  refine xp_aload_n d_W_law_532 rfl ?_
  refine xp_iload_n d_W_law_533 rfl ?_
  refine xp_iconst (v := 1) d_W_law_534 (by decide) ?_
  refine xp_iadd d_W_law_535 ?_
  refine xq_sload (j := i + 1) d_W_law_536 (nI_add i 1) (by omega) (by omega) ?_
  refine xq_V1r d_W_law_537 g_W_law_72 tB rfl rfl ?_
  refine c_B_answer hb i4 hm6 q.rq ?_
  refine ⟨_, rfl, ?_⟩
  refine xp_aload_n d_W_law_540 rfl ?_
  refine xp_aload_n d_W_law_541 rfl ?_
  refine xp_iload_n d_W_law_542 rfl ?_
  refine xp_iconst (v := 1) d_W_law_543 (by decide) ?_
  refine xp_iadd d_W_law_544 ?_
  refine xq_sload (j := i + 1) d_W_law_545 (nI_add i 1) (by omega) (by omega) ?_
  refine xq_V1r d_W_law_546 g_W_law_75 (x_mA hz) rfl rfl ?_
  refine c_M_answer hmd j12 hm6 ?_
  refine ⟨_, rfl, ?_⟩
  refine xp_icmp_eq (tgt := 643) d_W_law_549 (by decide) (fun _ => ?_) (fun h => absurd (e_answer q (g_x G (i + 1))) h)
  exact kk _ _ _ _ _ _ q
set_option maxRecDepth 100000 in
set_option maxHeartbeats 4000000 in
theorem l_W_noted (hL : g_L G ≤ 2560) (hi : i + 5 ≤ g_L G) (q : Rel z (x_mg K J) J P made S) (kk : ∀ z K J P made S, Rel z (x_mg K J) J P made S → xp G M_W_law 643 [(0, .ref 0), (1, .ref 1), (2, .ref 68), (3, .int (nI i))] [] (z, x_mg K J, P) bc bs post) : xp G M_W_law 554 [(0, .ref 0), (1, .ref 1), (2, .ref 68), (3, .int (nI i))] [] (z, x_mg K J, P) bc bs post := by
  have hb := q.1.2.2.1
  have hmd := q.1.2.2.2
  have hz := hmd.1
  have hm6 := q.1.2.1
  have i4 : x_mg K J 1 4 = nI made := q.2.1.1.1
  have j12 : J 68 12 = nI made := q.2.1.1.2.1
  have tB : x_at 0 z 1 := hb.1.1
  refine xp_aload_n d_W_law_554 rfl ?_
  refine xp_aload_n d_W_law_555 rfl ?_
  refine xp_iload_n d_W_law_556 rfl ?_
  refine xp_iconst (v := 1) d_W_law_557 (by decide) ?_
  refine xp_iadd d_W_law_558 ?_
  refine xq_sload (j := i + 1) d_W_law_559 (nI_add i 1) (by omega) (by omega) ?_
  refine xp_aload_n d_W_law_560 rfl ?_
  refine xp_iload_n d_W_law_561 rfl ?_
  refine xp_iconst (v := 2) d_W_law_562 (by decide) ?_
  refine xp_iadd d_W_law_563 ?_
  refine xq_sload (j := i + 2) d_W_law_564 (nI_add i 2) (by omega) (by omega) ?_
  refine xq_V2r d_W_law_565 g_W_law_76 tB rfl rfl ?_
  refine c_B_noted hb ?_
  refine ⟨_, rfl, ?_⟩
  refine xp_aload_n d_W_law_568 rfl ?_
  refine xp_aload_n d_W_law_569 rfl ?_
  refine xp_iload_n d_W_law_570 rfl ?_
  refine xp_iconst (v := 1) d_W_law_571 (by decide) ?_
  refine xp_iadd d_W_law_572 ?_
  refine xq_sload (j := i + 1) d_W_law_573 (nI_add i 1) (by omega) (by omega) ?_
  refine xp_aload_n d_W_law_574 rfl ?_
  refine xp_iload_n d_W_law_575 rfl ?_
  refine xp_iconst (v := 2) d_W_law_576 (by decide) ?_
  refine xp_iadd d_W_law_577 ?_
  refine xq_sload (j := i + 2) d_W_law_578 (nI_add i 2) (by omega) (by omega) ?_
  refine xq_V2r d_W_law_579 g_W_law_79 (x_mA hz) rfl rfl ?_
  refine c_M_noted hmd ?_
  refine ⟨_, rfl, ?_⟩
  refine xp_icmp_eq (tgt := 643) d_W_law_582 (by decide) (fun _ => ?_) (fun h => absurd (e_noted q (g_x G (i + 1)) (g_x G (i + 2))) h)
  exact kk _ _ _ _ _ _ q
set_option maxRecDepth 100000 in
set_option maxHeartbeats 4000000 in
theorem l_W_frame (hL : g_L G ≤ 2560) (hi : i + 5 ≤ g_L G) (q : Rel z (x_mg K J) J P made S) (kk : ∀ z K J P made S, Rel z (x_mg K J) J P made S → xp G M_W_law 643 [(0, .ref 0), (1, .ref 1), (2, .ref 68), (3, .int (nI i))] [] (z, x_mg K J, P) bc bs post) : xp G M_W_law 587 [(0, .ref 0), (1, .ref 1), (2, .ref 68), (3, .int (nI i))] [] (z, x_mg K J, P) bc bs post := by
  have hb := q.1.2.2.1
  have hmd := q.1.2.2.2
  have hz := hmd.1
  have hm6 := q.1.2.1
  have i4 : x_mg K J 1 4 = nI made := q.2.1.1.1
  have j12 : J 68 12 = nI made := q.2.1.1.2.1
  have tB : x_at 0 z 1 := hb.1.1
  obtain ⟨s0, s1, g0, g1, x0, x1⟩ := q.len4
  refine xp_aload_n d_W_law_587 rfl ?_
  refine xp_aload_n d_W_law_588 rfl ?_
  refine xp_iload_n d_W_law_589 rfl ?_
  refine xp_iconst (v := 1) d_W_law_590 (by decide) ?_
  refine xp_iadd d_W_law_591 ?_
  refine xq_sload (j := i + 1) d_W_law_592 (nI_add i 1) (by omega) (by omega) ?_
  refine xp_aload_n d_W_law_593 rfl ?_
  refine xp_iload_n d_W_law_594 rfl ?_
  refine xp_iconst (v := 2) d_W_law_595 (by decide) ?_
  refine xp_iadd d_W_law_596 ?_
  refine xq_sload (j := i + 2) d_W_law_597 (nI_add i 2) (by omega) (by omega) ?_
  refine xq_V2r d_W_law_598 g_W_law_80 tB rfl rfl ?_
  refine c_B_frame hb g0 g1 x0 x1 ?_
  refine ⟨_, rfl, ?_⟩
  refine xp_aload_n d_W_law_601 rfl ?_
  refine xp_aload_n d_W_law_602 rfl ?_
  refine xp_iload_n d_W_law_603 rfl ?_
  refine xp_iconst (v := 1) d_W_law_604 (by decide) ?_
  refine xp_iadd d_W_law_605 ?_
  refine xq_sload (j := i + 1) d_W_law_606 (nI_add i 1) (by omega) (by omega) ?_
  refine xp_aload_n d_W_law_607 rfl ?_
  refine xp_iload_n d_W_law_608 rfl ?_
  refine xp_iconst (v := 2) d_W_law_609 (by decide) ?_
  refine xp_iadd d_W_law_610 ?_
  refine xq_sload (j := i + 2) d_W_law_611 (nI_add i 2) (by omega) (by omega) ?_
  refine xq_V2r d_W_law_612 g_W_law_83 (x_mA hz) rfl rfl ?_
  refine c_M_frame hmd q.len ?_
  refine ⟨_, rfl, ?_⟩
  refine xp_icmp_eq (tgt := 643) d_W_law_615 (by decide) (fun _ => ?_) (fun h => absurd (e_frame q (g_x G (i + 1)) (g_x G (i + 2))) h)
  exact kk _ _ _ _ _ _ q
set_option maxRecDepth 100000 in
set_option maxHeartbeats 4000000 in
theorem l_W_total (hL : g_L G ≤ 2560) (hi : i + 5 ≤ g_L G) (q : Rel z (x_mg K J) J P made S) (kk : ∀ z K J P made S, Rel z (x_mg K J) J P made S → xp G M_W_law 643 [(0, .ref 0), (1, .ref 1), (2, .ref 68), (3, .int (nI i))] [] (z, x_mg K J, P) bc bs post) : xp G M_W_law 620 [(0, .ref 0), (1, .ref 1), (2, .ref 68), (3, .int (nI i))] [] (z, x_mg K J, P) bc bs post := by
  have hb := q.1.2.2.1
  have hmd := q.1.2.2.2
  have hz := hmd.1
  have hm6 := q.1.2.1
  have i4 : x_mg K J 1 4 = nI made := q.2.1.1.1
  have j12 : J 68 12 = nI made := q.2.1.1.2.1
  have tB : x_at 0 z 1 := hb.1.1
  refine xp_aload_n d_W_law_620 rfl ?_
  refine xp_aload_n d_W_law_621 rfl ?_
  refine xp_iload_n d_W_law_622 rfl ?_
  refine xp_iconst (v := 1) d_W_law_623 (by decide) ?_
  refine xp_iadd d_W_law_624 ?_
  refine xq_sload (j := i + 1) d_W_law_625 (nI_add i 1) (by omega) (by omega) ?_
  refine xq_V1r d_W_law_626 g_W_law_84 tB rfl rfl ?_
  refine c_B_total hb ?_
  refine ⟨_, rfl, ?_⟩
  refine xp_aload_n d_W_law_629 rfl ?_
  refine xp_aload_n d_W_law_630 rfl ?_
  refine xp_iload_n d_W_law_631 rfl ?_
  refine xp_iconst (v := 1) d_W_law_632 (by decide) ?_
  refine xp_iadd d_W_law_633 ?_
  refine xq_sload (j := i + 1) d_W_law_634 (nI_add i 1) (by omega) (by omega) ?_
  refine xq_V1r d_W_law_635 g_W_law_87 (x_mA hz) rfl rfl ?_
  refine c_M_total hmd ?_
  refine ⟨_, rfl, ?_⟩
  refine xp_icmp_eq (tgt := 643) d_W_law_638 (by decide) (fun _ => ?_) (fun h => absurd (e_total q (g_x G (i + 1))) h)
  exact kk _ _ _ _ _ _ q
set_option maxRecDepth 100000 in
set_option maxHeartbeats 4000000 in
theorem l_W_law_18 {G : xG} (hL : g_L G ≤ 2560) : ∀ (n i z : Nat) (K J : xI) (P : xP) (made S : Nat), i ≤ 3000 → g_L G ≤ i + 5 * n → Rel z (x_mg K J) J P made S → xp G M_W_law 18 [(0, .ref 0), (1, .ref 1), (2, .ref 68), (3, .int (nI i))] [] (z, x_mg K J, P) n (11 * n) (fun r _ => r = some (.int 1)) := by
  intro n
  induction n with
  | zero =>
    intro i z K J P made S hi3 hn q
    have a1 : (Int32.ofNat (g_L G) - 5).toInt = (g_L G : Int) - 5 := by
      show (nI (g_L G) - 5).toInt = _
      rw [Int32.toInt_sub, nI_toInt (by omega), show (5 : Int32).toInt = 5 by decide, r_bm (by omega) (by omega)]
    have a2 : Int32.ofNat (g_L G) - 5 < nI i := by
      rw [Int32.lt_iff_toInt_lt, a1, nI_toInt (by omega)]
      omega
    refine xp_iload_n d_W_law_18 rfl ?_
    refine xp_aload_n d_W_law_19 rfl ?_
    refine xp_slen d_W_law_20 ?_
    refine xp_iconst (v := 5) d_W_law_21 (by decide) ?_
    refine xp_isub d_W_law_22 ?_
    refine xp_icmp_gt (tgt := 649) d_W_law_23 (by decide) (fun _ => ?_) (fun h => absurd a2 h)
    refine xp_iconst (v := 1) d_W_law_649 (by decide) ?_
    refine xp_ireturn d_W_law_650 rfl (x_bit (Or.inr rfl)).1 ?_
    rfl
  | succ n ih =>
    intro i z K J P made S hi3 hn q
    have a1 : (Int32.ofNat (g_L G) - 5).toInt = (g_L G : Int) - 5 := by
      show (nI (g_L G) - 5).toInt = _
      rw [Int32.toInt_sub, nI_toInt (by omega), show (5 : Int32).toInt = 5 by decide, r_bm (by omega) (by omega)]
    refine xp_iload_n d_W_law_18 rfl ?_
    refine xp_aload_n d_W_law_19 rfl ?_
    refine xp_slen d_W_law_20 ?_
    refine xp_iconst (v := 5) d_W_law_21 (by decide) ?_
    refine xp_isub d_W_law_22 ?_
    refine xp_icmp_gt (tgt := 649) d_W_law_23 (by decide) (fun _ => ?_) (fun h => ?_)
    · skip
      refine xp_iconst (v := 1) d_W_law_649 (by decide) ?_
      refine xp_ireturn d_W_law_650 rfl (x_bit (Or.inr rfl)).1 ?_
      rfl
    · skip
      have hi5 : i + 5 ≤ g_L G := by
        rw [Int32.lt_iff_toInt_lt, a1, nI_toInt (by omega)] at h
        omega
      have kk : ∀ z K J P made S, Rel z (x_mg K J) J P made S → xp G M_W_law 643 [(0, .ref 0), (1, .ref 1), (2, .ref 68), (3, .int (nI i))] [] (z, x_mg K J, P) n (11 * n) (fun r _ => r = some (.int 1)) := fun z K J P made S q => by
        refine xp_iinc d_W_law_643 rfl (by decide) ?_
        rw [show nI i + Int32.ofInt 5 = nI (i + 5) from nI_add i 5]
        refine xp_goto (tgt := 18) d_W_law_646 (by decide) ?_
        refine xp_loc (lv' := [(0, .ref 0), (1, .ref 1), (2, .ref 68), (3, .int (nI (i + 5)))]) ⟨rfl, rfl, rfl, rfl, trivial⟩ ?_
        exact ih (i + 5) z K J P made S (by omega) (by omega) q
      refine xp_aload_n d_W_law_26 rfl ?_
      refine xp_iload_n d_W_law_27 rfl ?_
      refine xq_sload (j := i) d_W_law_28 rfl (by omega) (by omega) ?_
      refine xp_bipush (v := 31) d_W_law_29 (by decide) ?_
      refine xp_iand d_W_law_31 ?_
      refine xp_less (bc' := n + 1) (bs' := 11 * n + 11) (by omega) (by omega) ?_
      generalize g_x G i &&& 31 = x
      refine xp_sw1 0 (tgt := 116) (off := 84) d_W_law_32 (by decide) (by decide) (by decide) (fun _ => xp_less (bc' := n) (bs' := 11 * n) (by omega) (by omega) (l_W_power hL hi5 q kk)) (fun s0 => ?_)
      refine xp_sw1 1 (tgt := 165) (off := 133) d_W_law_32 (by decide) (by decide) (by decide) (fun _ => xp_less (bc' := n) (bs' := 11 * n) (by omega) (by omega) (l_W_sense hL hi5 q kk)) (fun s1 => ?_)
      refine xp_sw1 2 (tgt := 198) (off := 166) d_W_law_32 (by decide) (by decide) (by decide) (fun _ => xp_less (bc' := n) (bs' := 11 * n) (by omega) (by omega) (l_W_gains hL hi5 q kk)) (fun s2 => ?_)
      refine xp_sw1 3 (tgt := 241) (off := 209) d_W_law_32 (by decide) (by decide) (by decide) (fun _ => l_W_request hL hi5 q kk) (fun s3 => ?_)
      refine xp_sw1 4 (tgt := 294) (off := 262) d_W_law_32 (by decide) (by decide) (by decide) (fun _ => xp_less (bc' := n) (bs' := 11 * n) (by omega) (by omega) (l_W_spoil hL hi5 q kk)) (fun s4 => ?_)
      refine xp_sw1 5 (tgt := 337) (off := 305) d_W_law_32 (by decide) (by decide) (by decide) (fun _ => xp_less (bc' := n) (bs' := 11 * n) (by omega) (by omega) (l_W_step hL hi5 q kk)) (fun s5 => ?_)
      refine xp_sw1 6 (tgt := 350) (off := 318) d_W_law_32 (by decide) (by decide) (by decide) (fun _ => xp_less (bc' := n) (bs' := 11 * n) (by omega) (by omega) (l_W_holder hL hi5 q kk)) (fun s6 => ?_)
      refine xp_sw1 7 (tgt := 363) (off := 331) d_W_law_32 (by decide) (by decide) (by decide) (fun _ => xp_less (bc' := n) (bs' := 11 * n) (by omega) (by omega) (l_W_phase hL hi5 q kk)) (fun s7 => ?_)
      refine xp_sw1 8 (tgt := 376) (off := 344) d_W_law_32 (by decide) (by decide) (by decide) (fun _ => xp_less (bc' := n) (bs' := 11 * n) (by omega) (by omega) (l_W_node hL hi5 q kk)) (fun s8 => ?_)
      refine xp_sw1 9 (tgt := 409) (off := 377) d_W_law_32 (by decide) (by decide) (by decide) (fun _ => xp_less (bc' := n) (bs' := 11 * n) (by omega) (by omega) (l_W_value hL hi5 q kk)) (fun s9 => ?_)
      refine xp_sw1 10 (tgt := 442) (off := 410) d_W_law_32 (by decide) (by decide) (by decide) (fun _ => xp_less (bc' := n) (bs' := 11 * n) (by omega) (by omega) (l_W_level hL hi5 q kk)) (fun s10 => ?_)
      refine xp_sw1 11 (tgt := 475) (off := 443) d_W_law_32 (by decide) (by decide) (by decide) (fun _ => xp_less (bc' := n) (bs' := 11 * n) (by omega) (by omega) (l_W_set hL hi5 q kk)) (fun s11 => ?_)
      refine xp_sw1 12 (tgt := 508) (off := 476) d_W_law_32 (by decide) (by decide) (by decide) (fun _ => xp_less (bc' := n) (bs' := 11 * n) (by omega) (by omega) (l_W_state hL hi5 q kk)) (fun s12 => ?_)
      refine xp_sw1 13 (tgt := 531) (off := 499) d_W_law_32 (by decide) (by decide) (by decide) (fun _ => xp_less (bc' := n) (bs' := 11 * n) (by omega) (by omega) (l_W_answer hL hi5 q kk)) (fun s13 => ?_)
      refine xp_sw1 14 (tgt := 554) (off := 522) d_W_law_32 (by decide) (by decide) (by decide) (fun _ => xp_less (bc' := n) (bs' := 11 * n) (by omega) (by omega) (l_W_noted hL hi5 q kk)) (fun s14 => ?_)
      refine xp_sw1 15 (tgt := 587) (off := 555) d_W_law_32 (by decide) (by decide) (by decide) (fun _ => xp_less (bc' := n) (bs' := 11 * n) (by omega) (by omega) (l_W_frame hL hi5 q kk)) (fun s15 => ?_)
      refine xp_sw1 16 (tgt := 620) (off := 588) d_W_law_32 (by decide) (by decide) (by decide) (fun _ => xp_less (bc' := n) (bs' := 11 * n) (by omega) (by omega) (l_W_total hL hi5 q kk)) (fun s16 => ?_)
      have n0 := x_neT s0 (show (0 : Int32).toInt = 0 by decide)
      have n1 := x_neT s1 (show (1 : Int32).toInt = 1 by decide)
      have n2 := x_neT s2 (show (2 : Int32).toInt = 2 by decide)
      have n3 := x_neT s3 (show (3 : Int32).toInt = 3 by decide)
      have n4 := x_neT s4 (show (4 : Int32).toInt = 4 by decide)
      have n5 := x_neT s5 (show (5 : Int32).toInt = 5 by decide)
      have n6 := x_neT s6 (show (6 : Int32).toInt = 6 by decide)
      have n7 := x_neT s7 (show (7 : Int32).toInt = 7 by decide)
      have n8 := x_neT s8 (show (8 : Int32).toInt = 8 by decide)
      have n9 := x_neT s9 (show (9 : Int32).toInt = 9 by decide)
      have n10 := x_neT s10 (show (10 : Int32).toInt = 10 by decide)
      have n11 := x_neT s11 (show (11 : Int32).toInt = 11 by decide)
      have n12 := x_neT s12 (show (12 : Int32).toInt = 12 by decide)
      have n13 := x_neT s13 (show (13 : Int32).toInt = 13 by decide)
      have n14 := x_neT s14 (show (14 : Int32).toInt = 14 by decide)
      have n15 := x_neT s15 (show (15 : Int32).toInt = 15 by decide)
      have n16 := x_neT s16 (show (16 : Int32).toInt = 16 by decide)
      refine xp_tableOut (tgt := 643) d_W_law_32 (by omega) (by decide) ?_
      exact xp_less (bc' := n) (bs' := 11 * n) (by omega) (by omega) (kk _ _ _ _ _ _ q)
set_option maxRecDepth 100000 in
set_option maxHeartbeats 4000000 in
theorem c_W_law {G : xG} (hL : g_L G ≤ 2560) : xp G M_W_law 0 [(0, .ref 0)] [] (1, fun _ _ => 0, fun _ _ => none) 60000 1000000 (fun r _ => r = some (.int 1)) := by
  have hZ : x_Z 2 (fun _ _ => 0) (fun _ _ => none) := fun a _ => ⟨rfl, rfl⟩
  have hZ8 : x_Z 8 (k_bI0 (fun _ _ => 0)) (k_bP0 (fun _ _ => none)) := fun a ha => by
    unfold k_bI0 k_bP0
    rw [x_up_row (by omega), x_upP_row (by omega), x_upP_row (by omega), x_upP_row (by omega), x_upP_row (by omega), x_upP_row (by omega), x_upP_row (by omega)]
    exact ⟨rfl, rfl⟩
  have hZ68 : x_Z 68 (k_bNI (k_bI0 (fun _ _ => 0)) 6) (k_bNP (k_bP0 (fun _ _ => none)) 6) := k_bN_Z hZ8 6
  refine xp_less (bc' := 512 + 32 + 1 + 66 + 1) (bs' := 11 * 512 + 956 + xNF 7 + 554 + xNF 0) (by decide) (by decide) ?_
  refine xz_new (ci := 0) d_W_law_0 n_W_7 rfl (by omega) rfl rfl ?_
  refine xp_dup d_W_law_3 rfl ?_
  refine xq_I0vb (mc := 66) (ms := 554) d_W_law_4 g_W_law_9 rfl rfl ?_
  refine c_B_init hZ ?_
  refine ⟨rfl, ?_⟩
  refine xp_astore_n d_W_law_7 (by decide) ?_
  refine xz_new (ci := 7) d_W_law_8 n_W_10 rfl (by omega) (hZ68 68 (by omega)).1 (hZ68 68 (by omega)).2 ?_
  refine xp_dup d_W_law_11 rfl ?_
  refine xq_I0vb (mc := 32) (ms := 956) d_W_law_12 g_W_law_12 rfl rfl ?_
  refine c_M_init (fun a ha => hZ68 a (by omega)) ?_
  refine ⟨rfl, ?_⟩
  refine xp_astore_n d_W_law_15 (by decide) ?_
  refine xp_iconst (v := 0) d_W_law_16 (by decide) ?_
  refine xp_istore_n d_W_law_17 (by decide) ?_
  refine xp_loc (lv' := [(0, .ref 0), (1, .ref 1), (2, .ref 68), (3, .int (nI 0))]) ⟨rfl, rfl, rfl, rfl, trivial⟩ ?_
  have h := l_W_law_18 hL 512 0 101 k_I0 k_I0 k_P0 0 0 (by omega) (by omega) (by rw [x_mg_self]; exact k_I0_rel)
  rw [x_mg_self] at h
  exact h
end partC6
