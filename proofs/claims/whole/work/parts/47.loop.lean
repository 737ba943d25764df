/-! ===== the law's loop ===== -/
theorem law_case_0 {dA : Nat → ClassId} {ad : Nat → Nat} {k : z_K} {M : z_M} {b L n : Nat} {xs : Nat → Int32} (C : z_C dA ad k code "CellTransportLaw" 7 4) (S : z_scr k b L xs) (hI : z_I M) (h6 : n + 6 ≤ L) (hL : L ≤ 3072) (kk : ∀ M2 : z_M, z_I M2 → z_X dA ad k 559 [some (.ref b), some (.ref (ad 0)), some (.ref (ad 53)), some (.int (nI n))] [] M2) : z_X dA ad k 108 [some (.ref b), some (.ref (ad 0)), some (.ref (ad 53)), some (.int (nI n))] [] M := by
  obtain ⟨r, M1, M2, h1, h2, hI2⟩ := op_surface (dA := dA) (ad := ad) hI (xs (nI n + nI 1).toNatClampNeg) (xs (nI n + nI 2).toNatClampNeg) (xs (nI n + nI 3).toNatClampNeg) (xs (nI n + nI 4).toNatClampNeg) (xs (nI n + nI 5).toNatClampNeg)
  refine x_aload_n C d_law_108 rfl rfl ?_
  refine x_aload_n C d_law_109 rfl rfl ?_
  refine x_iload_n C d_law_110 rfl rfl ?_
  refine x_iconst C (nI 1) d_law_111 rfl ?_
  refine x_iadd C d_law_112 ?_
  refine x_sld C S (law_in 1 (by decide) h6 hL) d_law_113 ?_
  refine x_aload_n C d_law_114 rfl rfl ?_
  refine x_iload_n C d_law_115 rfl rfl ?_
  refine x_iconst C (nI 2) d_law_116 rfl ?_
  refine x_iadd C d_law_117 ?_
  refine x_sld C S (law_in 2 (by decide) h6 hL) d_law_118 ?_
  refine x_aload_n C d_law_119 rfl rfl ?_
  refine x_iload_n C d_law_120 rfl rfl ?_
  refine x_iconst C (nI 3) d_law_121 rfl ?_
  refine x_iadd C d_law_122 ?_
  refine x_sld C S (law_in 3 (by decide) h6 hL) d_law_123 ?_
  refine x_aload_n C d_law_124 rfl rfl ?_
  refine x_iload_n C d_law_125 rfl rfl ?_
  refine x_iconst C (nI 4) d_law_126 rfl ?_
  refine x_iadd C d_law_127 ?_
  refine x_sld C S (law_in 4 (by decide) h6 hL) d_law_128 ?_
  refine x_aload_n C d_law_129 rfl rfl ?_
  refine x_iload_n C d_law_130 rfl rfl ?_
  refine x_iconst C (nI 5) d_law_131 rfl ?_
  refine x_iadd C d_law_132 ?_
  refine x_sld C S (law_in 5 (by decide) h6 hL) d_law_133 ?_
  refine x_callVi C h1 mt_CellTransport_surface zl_CellTransport (zc_CellTransport _) rfl rfl rfl (Nat.le_of_ble_eq_true rfl) (Nat.le_of_ble_eq_true rfl) lk_Law_13 d_law_134 ?_
  refine x_aload_n C d_law_137 rfl rfl ?_
  refine x_aload_n C d_law_138 rfl rfl ?_
  refine x_iload_n C d_law_139 rfl rfl ?_
  refine x_iconst C (nI 1) d_law_140 rfl ?_
  refine x_iadd C d_law_141 ?_
  refine x_sld C S (law_in 1 (by decide) h6 hL) d_law_142 ?_
  refine x_aload_n C d_law_143 rfl rfl ?_
  refine x_iload_n C d_law_144 rfl rfl ?_
  refine x_iconst C (nI 2) d_law_145 rfl ?_
  refine x_iadd C d_law_146 ?_
  refine x_sld C S (law_in 2 (by decide) h6 hL) d_law_147 ?_
  refine x_aload_n C d_law_148 rfl rfl ?_
  refine x_iload_n C d_law_149 rfl rfl ?_
  refine x_iconst C (nI 3) d_law_150 rfl ?_
  refine x_iadd C d_law_151 ?_
  refine x_sld C S (law_in 3 (by decide) h6 hL) d_law_152 ?_
  refine x_aload_n C d_law_153 rfl rfl ?_
  refine x_iload_n C d_law_154 rfl rfl ?_
  refine x_iconst C (nI 4) d_law_155 rfl ?_
  refine x_iadd C d_law_156 ?_
  refine x_sld C S (law_in 4 (by decide) h6 hL) d_law_157 ?_
  refine x_aload_n C d_law_158 rfl rfl ?_
  refine x_iload_n C d_law_159 rfl rfl ?_
  refine x_iconst C (nI 5) d_law_160 rfl ?_
  refine x_iadd C d_law_161 ?_
  refine x_sld C S (law_in 5 (by decide) h6 hL) d_law_162 ?_
  refine x_callVi C h2 mt_Model_surface zl_Model (zc_Model _) rfl rfl rfl (Nat.le_of_ble_eq_true rfl) (Nat.le_of_ble_eq_true rfl) lk_Law_17 d_law_163 ?_
  refine x_icmp_eq C 559 d_law_166 rfl (fun _ => ?_) (fun hq => absurd rfl hq)
  exact kk M2 hI2
theorem law_case_1 {dA : Nat → ClassId} {ad : Nat → Nat} {k : z_K} {M : z_M} {b L n : Nat} {xs : Nat → Int32} (C : z_C dA ad k code "CellTransportLaw" 7 4) (S : z_scr k b L xs) (hI : z_I M) (h6 : n + 6 ≤ L) (hL : L ≤ 3072) (kk : ∀ M2 : z_M, z_I M2 → z_X dA ad k 559 [some (.ref b), some (.ref (ad 0)), some (.ref (ad 53)), some (.int (nI n))] [] M2) : z_X dA ad k 171 [some (.ref b), some (.ref (ad 0)), some (.ref (ad 53)), some (.int (nI n))] [] M := by
  obtain ⟨r, M1, M2, h1, h2, hI2⟩ := op_token (dA := dA) (ad := ad) hI (xs (nI n + nI 1).toNatClampNeg)
  refine x_aload_n C d_law_171 rfl rfl ?_
  refine x_aload_n C d_law_172 rfl rfl ?_
  refine x_iload_n C d_law_173 rfl rfl ?_
  refine x_iconst C (nI 1) d_law_174 rfl ?_
  refine x_iadd C d_law_175 ?_
  refine x_sld C S (law_in 1 (by decide) h6 hL) d_law_176 ?_
  refine x_callVi C h1 mt_CellTransport_token zl_CellTransport (zc_CellTransport _) rfl rfl rfl (Nat.le_of_ble_eq_true rfl) (Nat.le_of_ble_eq_true rfl) lk_Law_18 d_law_177 ?_
  refine x_aload_n C d_law_180 rfl rfl ?_
  refine x_aload_n C d_law_181 rfl rfl ?_
  refine x_iload_n C d_law_182 rfl rfl ?_
  refine x_iconst C (nI 1) d_law_183 rfl ?_
  refine x_iadd C d_law_184 ?_
  refine x_sld C S (law_in 1 (by decide) h6 hL) d_law_185 ?_
  refine x_callVi C h2 mt_Model_token zl_Model (zc_Model _) rfl rfl rfl (Nat.le_of_ble_eq_true rfl) (Nat.le_of_ble_eq_true rfl) lk_Law_22 d_law_186 ?_
  refine x_icmp_eq C 559 d_law_189 rfl (fun _ => ?_) (fun hq => absurd rfl hq)
  exact kk M2 hI2
theorem law_case_2 {dA : Nat → ClassId} {ad : Nat → Nat} {k : z_K} {M : z_M} {b L n : Nat} {xs : Nat → Int32} (C : z_C dA ad k code "CellTransportLaw" 7 4) (S : z_scr k b L xs) (hI : z_I M) (h6 : n + 6 ≤ L) (hL : L ≤ 3072) (kk : ∀ M2 : z_M, z_I M2 → z_X dA ad k 559 [some (.ref b), some (.ref (ad 0)), some (.ref (ad 53)), some (.int (nI n))] [] M2) : z_X dA ad k 194 [some (.ref b), some (.ref (ad 0)), some (.ref (ad 53)), some (.int (nI n))] [] M := by
  obtain ⟨r, M1, M2, h1, h2, hI2⟩ := op_cell (dA := dA) (ad := ad) hI (xs (nI n + nI 1).toNatClampNeg) (xs (nI n + nI 2).toNatClampNeg) (xs (nI n + nI 3).toNatClampNeg) (xs (nI n + nI 4).toNatClampNeg)
  refine x_aload_n C d_law_194 rfl rfl ?_
  refine x_aload_n C d_law_195 rfl rfl ?_
  refine x_iload_n C d_law_196 rfl rfl ?_
  refine x_iconst C (nI 1) d_law_197 rfl ?_
  refine x_iadd C d_law_198 ?_
  refine x_sld C S (law_in 1 (by decide) h6 hL) d_law_199 ?_
  refine x_aload_n C d_law_200 rfl rfl ?_
  refine x_iload_n C d_law_201 rfl rfl ?_
  refine x_iconst C (nI 2) d_law_202 rfl ?_
  refine x_iadd C d_law_203 ?_
  refine x_sld C S (law_in 2 (by decide) h6 hL) d_law_204 ?_
  refine x_aload_n C d_law_205 rfl rfl ?_
  refine x_iload_n C d_law_206 rfl rfl ?_
  refine x_iconst C (nI 3) d_law_207 rfl ?_
  refine x_iadd C d_law_208 ?_
  refine x_sld C S (law_in 3 (by decide) h6 hL) d_law_209 ?_
  refine x_aload_n C d_law_210 rfl rfl ?_
  refine x_iload_n C d_law_211 rfl rfl ?_
  refine x_iconst C (nI 4) d_law_212 rfl ?_
  refine x_iadd C d_law_213 ?_
  refine x_sld C S (law_in 4 (by decide) h6 hL) d_law_214 ?_
  refine x_callVi C h1 mt_CellTransport_cell zl_CellTransport (zc_CellTransport _) rfl rfl rfl (Nat.le_of_ble_eq_true rfl) (Nat.le_of_ble_eq_true rfl) lk_Law_23 d_law_215 ?_
  refine x_aload_n C d_law_218 rfl rfl ?_
  refine x_aload_n C d_law_219 rfl rfl ?_
  refine x_iload_n C d_law_220 rfl rfl ?_
  refine x_iconst C (nI 1) d_law_221 rfl ?_
  refine x_iadd C d_law_222 ?_
  refine x_sld C S (law_in 1 (by decide) h6 hL) d_law_223 ?_
  refine x_aload_n C d_law_224 rfl rfl ?_
  refine x_iload_n C d_law_225 rfl rfl ?_
  refine x_iconst C (nI 2) d_law_226 rfl ?_
  refine x_iadd C d_law_227 ?_
  refine x_sld C S (law_in 2 (by decide) h6 hL) d_law_228 ?_
  refine x_aload_n C d_law_229 rfl rfl ?_
  refine x_iload_n C d_law_230 rfl rfl ?_
  refine x_iconst C (nI 3) d_law_231 rfl ?_
  refine x_iadd C d_law_232 ?_
  refine x_sld C S (law_in 3 (by decide) h6 hL) d_law_233 ?_
  refine x_aload_n C d_law_234 rfl rfl ?_
  refine x_iload_n C d_law_235 rfl rfl ?_
  refine x_iconst C (nI 4) d_law_236 rfl ?_
  refine x_iadd C d_law_237 ?_
  refine x_sld C S (law_in 4 (by decide) h6 hL) d_law_238 ?_
  refine x_callVi C h2 mt_Model_cell zl_Model (zc_Model _) rfl rfl rfl (Nat.le_of_ble_eq_true rfl) (Nat.le_of_ble_eq_true rfl) lk_Law_27 d_law_239 ?_
  refine x_icmp_eq C 559 d_law_242 rfl (fun _ => ?_) (fun hq => absurd rfl hq)
  exact kk M2 hI2
theorem law_case_3 {dA : Nat → ClassId} {ad : Nat → Nat} {k : z_K} {M : z_M} {b L n : Nat} {xs : Nat → Int32} (C : z_C dA ad k code "CellTransportLaw" 7 4) (S : z_scr k b L xs) (hI : z_I M) (h6 : n + 6 ≤ L) (hL : L ≤ 3072) (kk : ∀ M2 : z_M, z_I M2 → z_X dA ad k 559 [some (.ref b), some (.ref (ad 0)), some (.ref (ad 53)), some (.int (nI n))] [] M2) : z_X dA ad k 247 [some (.ref b), some (.ref (ad 0)), some (.ref (ad 53)), some (.int (nI n))] [] M := by
  obtain ⟨r, M1, M2, h1, h2, hI2⟩ := op_undefine (dA := dA) (ad := ad) hI (xs (nI n + nI 1).toNatClampNeg)
  refine x_aload_n C d_law_247 rfl rfl ?_
  refine x_aload_n C d_law_248 rfl rfl ?_
  refine x_iload_n C d_law_249 rfl rfl ?_
  refine x_iconst C (nI 1) d_law_250 rfl ?_
  refine x_iadd C d_law_251 ?_
  refine x_sld C S (law_in 1 (by decide) h6 hL) d_law_252 ?_
  refine x_callVi C h1 mt_CellTransport_undefine zl_CellTransport (zc_CellTransport _) rfl rfl rfl (Nat.le_of_ble_eq_true rfl) (Nat.le_of_ble_eq_true rfl) lk_Law_28 d_law_253 ?_
  refine x_aload_n C d_law_256 rfl rfl ?_
  refine x_aload_n C d_law_257 rfl rfl ?_
  refine x_iload_n C d_law_258 rfl rfl ?_
  refine x_iconst C (nI 1) d_law_259 rfl ?_
  refine x_iadd C d_law_260 ?_
  refine x_sld C S (law_in 1 (by decide) h6 hL) d_law_261 ?_
  refine x_callVi C h2 mt_Model_undefine zl_Model (zc_Model _) rfl rfl rfl (Nat.le_of_ble_eq_true rfl) (Nat.le_of_ble_eq_true rfl) lk_Law_31 d_law_262 ?_
  refine x_icmp_eq C 559 d_law_265 rfl (fun _ => ?_) (fun hq => absurd rfl hq)
  exact kk M2 hI2
theorem law_case_4 {dA : Nat → ClassId} {ad : Nat → Nat} {k : z_K} {M : z_M} {b L n : Nat} {xs : Nat → Int32} (C : z_C dA ad k code "CellTransportLaw" 7 4) (S : z_scr k b L xs) (hI : z_I M) (h6 : n + 6 ≤ L) (hL : L ≤ 3072) (kk : ∀ M2 : z_M, z_I M2 → z_X dA ad k 559 [some (.ref b), some (.ref (ad 0)), some (.ref (ad 53)), some (.int (nI n))] [] M2) : z_X dA ad k 270 [some (.ref b), some (.ref (ad 0)), some (.ref (ad 53)), some (.int (nI n))] [] M := by
  obtain ⟨r, M1, M2, h1, h2, hI2⟩ := op_source (dA := dA) (ad := ad) hI (xs (nI n + nI 1).toNatClampNeg) (xs (nI n + nI 2).toNatClampNeg)
  refine x_aload_n C d_law_270 rfl rfl ?_
  refine x_aload_n C d_law_271 rfl rfl ?_
  refine x_iload_n C d_law_272 rfl rfl ?_
  refine x_iconst C (nI 1) d_law_273 rfl ?_
  refine x_iadd C d_law_274 ?_
  refine x_sld C S (law_in 1 (by decide) h6 hL) d_law_275 ?_
  refine x_aload_n C d_law_276 rfl rfl ?_
  refine x_iload_n C d_law_277 rfl rfl ?_
  refine x_iconst C (nI 2) d_law_278 rfl ?_
  refine x_iadd C d_law_279 ?_
  refine x_sld C S (law_in 2 (by decide) h6 hL) d_law_280 ?_
  refine x_callVi C h1 mt_CellTransport_source zl_CellTransport (zc_CellTransport _) rfl rfl rfl (Nat.le_of_ble_eq_true rfl) (Nat.le_of_ble_eq_true rfl) lk_Law_32 d_law_281 ?_
  refine x_aload_n C d_law_284 rfl rfl ?_
  refine x_aload_n C d_law_285 rfl rfl ?_
  refine x_iload_n C d_law_286 rfl rfl ?_
  refine x_iconst C (nI 1) d_law_287 rfl ?_
  refine x_iadd C d_law_288 ?_
  refine x_sld C S (law_in 1 (by decide) h6 hL) d_law_289 ?_
  refine x_aload_n C d_law_290 rfl rfl ?_
  refine x_iload_n C d_law_291 rfl rfl ?_
  refine x_iconst C (nI 2) d_law_292 rfl ?_
  refine x_iadd C d_law_293 ?_
  refine x_sld C S (law_in 2 (by decide) h6 hL) d_law_294 ?_
  refine x_callVi C h2 mt_Model_source zl_Model (zc_Model _) rfl rfl rfl (Nat.le_of_ble_eq_true rfl) (Nat.le_of_ble_eq_true rfl) lk_Law_36 d_law_295 ?_
  refine x_icmp_eq C 559 d_law_298 rfl (fun _ => ?_) (fun hq => absurd rfl hq)
  exact kk M2 hI2
theorem law_case_5 {dA : Nat → ClassId} {ad : Nat → Nat} {k : z_K} {M : z_M} {b L n : Nat} {xs : Nat → Int32} (C : z_C dA ad k code "CellTransportLaw" 7 4) (S : z_scr k b L xs) (hI : z_I M) (h6 : n + 6 ≤ L) (hL : L ≤ 3072) (kk : ∀ M2 : z_M, z_I M2 → z_X dA ad k 559 [some (.ref b), some (.ref (ad 0)), some (.ref (ad 53)), some (.int (nI n))] [] M2) : z_X dA ad k 303 [some (.ref b), some (.ref (ad 0)), some (.ref (ad 53)), some (.int (nI n))] [] M := by
  obtain ⟨M1, M2, h1, h2, hI2⟩ := op_seed (dA := dA) (ad := ad) hI (xs (nI n + nI 1).toNatClampNeg)
  refine x_aload_n C d_law_303 rfl rfl ?_
  refine x_aload_n C d_law_304 rfl rfl ?_
  refine x_iload_n C d_law_305 rfl rfl ?_
  refine x_iconst C (nI 1) d_law_306 rfl ?_
  refine x_iadd C d_law_307 ?_
  refine x_sld C S (law_in 1 (by decide) h6 hL) d_law_308 ?_
  refine x_callVv C h1 mt_CellTransport_seed zl_CellTransport (zc_CellTransport _) rfl rfl rfl (Nat.le_of_ble_eq_true rfl) (Nat.le_of_ble_eq_true rfl) lk_Law_37 d_law_309 ?_
  refine x_aload_n C d_law_312 rfl rfl ?_
  refine x_aload_n C d_law_313 rfl rfl ?_
  refine x_iload_n C d_law_314 rfl rfl ?_
  refine x_iconst C (nI 1) d_law_315 rfl ?_
  refine x_iadd C d_law_316 ?_
  refine x_sld C S (law_in 1 (by decide) h6 hL) d_law_317 ?_
  refine x_callVv C h2 mt_Model_seed zl_Model (zc_Model _) rfl rfl rfl (Nat.le_of_ble_eq_true rfl) (Nat.le_of_ble_eq_true rfl) lk_Law_41 d_law_318 ?_
  refine x_goto C 559 d_law_321 rfl ?_
  exact kk M2 hI2
theorem law_case_6 {dA : Nat → ClassId} {ad : Nat → Nat} {k : z_K} {M : z_M} {b L n : Nat} {xs : Nat → Int32} (C : z_C dA ad k code "CellTransportLaw" 7 4) (S : z_scr k b L xs) (hI : z_I M) (h6 : n + 6 ≤ L) (hL : L ≤ 3072) (kk : ∀ M2 : z_M, z_I M2 → z_X dA ad k 559 [some (.ref b), some (.ref (ad 0)), some (.ref (ad 53)), some (.int (nI n))] [] M2) : z_X dA ad k 324 [some (.ref b), some (.ref (ad 0)), some (.ref (ad 53)), some (.int (nI n))] [] M := by
  obtain ⟨r, M1, M2, h1, h2, hI2⟩ := op_skip (dA := dA) (ad := ad) hI (xs (nI n + nI 1).toNatClampNeg)
  refine x_aload_n C d_law_324 rfl rfl ?_
  refine x_aload_n C d_law_325 rfl rfl ?_
  refine x_iload_n C d_law_326 rfl rfl ?_
  refine x_iconst C (nI 1) d_law_327 rfl ?_
  refine x_iadd C d_law_328 ?_
  refine x_sld C S (law_in 1 (by decide) h6 hL) d_law_329 ?_
  refine x_callVi C h1 mt_CellTransport_skip zl_CellTransport (zc_CellTransport _) rfl rfl rfl (Nat.le_of_ble_eq_true rfl) (Nat.le_of_ble_eq_true rfl) lk_Law_42 d_law_330 ?_
  refine x_aload_n C d_law_333 rfl rfl ?_
  refine x_aload_n C d_law_334 rfl rfl ?_
  refine x_iload_n C d_law_335 rfl rfl ?_
  refine x_iconst C (nI 1) d_law_336 rfl ?_
  refine x_iadd C d_law_337 ?_
  refine x_sld C S (law_in 1 (by decide) h6 hL) d_law_338 ?_
  refine x_callVi C h2 mt_Model_skip zl_Model (zc_Model _) rfl rfl rfl (Nat.le_of_ble_eq_true rfl) (Nat.le_of_ble_eq_true rfl) lk_Law_45 d_law_339 ?_
  refine x_icmp_eq C 559 d_law_342 rfl (fun _ => ?_) (fun hq => absurd rfl hq)
  exact kk M2 hI2
theorem law_case_7 {dA : Nat → ClassId} {ad : Nat → Nat} {k : z_K} {M : z_M} {b L n : Nat} {xs : Nat → Int32} (C : z_C dA ad k code "CellTransportLaw" 7 4) (S : z_scr k b L xs) (hI : z_I M) (h6 : n + 6 ≤ L) (hL : L ≤ 3072) (kk : ∀ M2 : z_M, z_I M2 → z_X dA ad k 559 [some (.ref b), some (.ref (ad 0)), some (.ref (ad 53)), some (.int (nI n))] [] M2) : z_X dA ad k 347 [some (.ref b), some (.ref (ad 0)), some (.ref (ad 53)), some (.int (nI n))] [] M := by
  obtain ⟨r, M1, M2, h1, h2, hI2⟩ := op_state (dA := dA) (ad := ad) hI 
  refine x_aload_n C d_law_347 rfl rfl ?_
  refine x_callVi C h1 mt_CellTransport_state zl_CellTransport (zc_CellTransport _) rfl rfl rfl (Nat.le_of_ble_eq_true rfl) (Nat.le_of_ble_eq_true rfl) lk_Law_46 d_law_348 ?_
  refine x_aload_n C d_law_351 rfl rfl ?_
  refine x_callVi C h2 mt_Model_state zl_Model (zc_Model _) rfl rfl rfl (Nat.le_of_ble_eq_true rfl) (Nat.le_of_ble_eq_true rfl) lk_Law_50 d_law_352 ?_
  refine x_icmp_eq C 559 d_law_355 rfl (fun _ => ?_) (fun hq => absurd rfl hq)
  exact kk M2 hI2
theorem law_case_8 {dA : Nat → ClassId} {ad : Nat → Nat} {k : z_K} {M : z_M} {b L n : Nat} {xs : Nat → Int32} (C : z_C dA ad k code "CellTransportLaw" 7 4) (S : z_scr k b L xs) (hI : z_I M) (h6 : n + 6 ≤ L) (hL : L ≤ 3072) (kk : ∀ M2 : z_M, z_I M2 → z_X dA ad k 559 [some (.ref b), some (.ref (ad 0)), some (.ref (ad 53)), some (.int (nI n))] [] M2) : z_X dA ad k 360 [some (.ref b), some (.ref (ad 0)), some (.ref (ad 53)), some (.int (nI n))] [] M := by
  obtain ⟨r, M1, M2, h1, h2, hI2⟩ := op_run (dA := dA) (ad := ad) hI (xs (nI n + nI 1).toNatClampNeg)
  refine x_aload_n C d_law_360 rfl rfl ?_
  refine x_aload_n C d_law_361 rfl rfl ?_
  refine x_iload_n C d_law_362 rfl rfl ?_
  refine x_iconst C (nI 1) d_law_363 rfl ?_
  refine x_iadd C d_law_364 ?_
  refine x_sld C S (law_in 1 (by decide) h6 hL) d_law_365 ?_
  refine x_callVi C h1 mt_CellTransport_run zl_CellTransport (zc_CellTransport _) rfl rfl rfl (Nat.le_of_ble_eq_true rfl) (Nat.le_of_ble_eq_true rfl) lk_Law_51 d_law_366 ?_
  refine x_aload_n C d_law_369 rfl rfl ?_
  refine x_aload_n C d_law_370 rfl rfl ?_
  refine x_iload_n C d_law_371 rfl rfl ?_
  refine x_iconst C (nI 1) d_law_372 rfl ?_
  refine x_iadd C d_law_373 ?_
  refine x_sld C S (law_in 1 (by decide) h6 hL) d_law_374 ?_
  refine x_callVi C h2 mt_Model_run zl_Model (zc_Model _) rfl rfl rfl (Nat.le_of_ble_eq_true rfl) (Nat.le_of_ble_eq_true rfl) lk_Law_54 d_law_375 ?_
  refine x_icmp_eq C 559 d_law_378 rfl (fun _ => ?_) (fun hq => absurd rfl hq)
  exact kk M2 hI2
theorem law_case_9 {dA : Nat → ClassId} {ad : Nat → Nat} {k : z_K} {M : z_M} {b L n : Nat} {xs : Nat → Int32} (C : z_C dA ad k code "CellTransportLaw" 7 4) (S : z_scr k b L xs) (hI : z_I M) (h6 : n + 6 ≤ L) (hL : L ≤ 3072) (kk : ∀ M2 : z_M, z_I M2 → z_X dA ad k 559 [some (.ref b), some (.ref (ad 0)), some (.ref (ad 53)), some (.int (nI n))] [] M2) : z_X dA ad k 383 [some (.ref b), some (.ref (ad 0)), some (.ref (ad 53)), some (.int (nI n))] [] M := by
  obtain ⟨r, M1, M2, h1, h2, hI2⟩ := op_where (dA := dA) (ad := ad) hI (xs (nI n + nI 1).toNatClampNeg) (xs (nI n + nI 2).toNatClampNeg)
  refine x_aload_n C d_law_383 rfl rfl ?_
  refine x_aload_n C d_law_384 rfl rfl ?_
  refine x_iload_n C d_law_385 rfl rfl ?_
  refine x_iconst C (nI 1) d_law_386 rfl ?_
  refine x_iadd C d_law_387 ?_
  refine x_sld C S (law_in 1 (by decide) h6 hL) d_law_388 ?_
  refine x_aload_n C d_law_389 rfl rfl ?_
  refine x_iload_n C d_law_390 rfl rfl ?_
  refine x_iconst C (nI 2) d_law_391 rfl ?_
  refine x_iadd C d_law_392 ?_
  refine x_sld C S (law_in 2 (by decide) h6 hL) d_law_393 ?_
  refine x_callVi C h1 mt_CellTransport_where zl_CellTransport (zc_CellTransport _) rfl rfl rfl (Nat.le_of_ble_eq_true rfl) (Nat.le_of_ble_eq_true rfl) lk_Law_55 d_law_394 ?_
  refine x_aload_n C d_law_397 rfl rfl ?_
  refine x_aload_n C d_law_398 rfl rfl ?_
  refine x_iload_n C d_law_399 rfl rfl ?_
  refine x_iconst C (nI 1) d_law_400 rfl ?_
  refine x_iadd C d_law_401 ?_
  refine x_sld C S (law_in 1 (by decide) h6 hL) d_law_402 ?_
  refine x_aload_n C d_law_403 rfl rfl ?_
  refine x_iload_n C d_law_404 rfl rfl ?_
  refine x_iconst C (nI 2) d_law_405 rfl ?_
  refine x_iadd C d_law_406 ?_
  refine x_sld C S (law_in 2 (by decide) h6 hL) d_law_407 ?_
  refine x_callVi C h2 mt_Model_where zl_Model (zc_Model _) rfl rfl rfl (Nat.le_of_ble_eq_true rfl) (Nat.le_of_ble_eq_true rfl) lk_Law_58 d_law_408 ?_
  refine x_icmp_eq C 559 d_law_411 rfl (fun _ => ?_) (fun hq => absurd rfl hq)
  exact kk M2 hI2
theorem law_case_10 {dA : Nat → ClassId} {ad : Nat → Nat} {k : z_K} {M : z_M} {b L n : Nat} {xs : Nat → Int32} (C : z_C dA ad k code "CellTransportLaw" 7 4) (S : z_scr k b L xs) (hI : z_I M) (h6 : n + 6 ≤ L) (hL : L ≤ 3072) (kk : ∀ M2 : z_M, z_I M2 → z_X dA ad k 559 [some (.ref b), some (.ref (ad 0)), some (.ref (ad 53)), some (.int (nI n))] [] M2) : z_X dA ad k 416 [some (.ref b), some (.ref (ad 0)), some (.ref (ad 53)), some (.int (nI n))] [] M := by
  obtain ⟨r, M1, M2, h1, h2, hI2⟩ := op_reach (dA := dA) (ad := ad) hI (xs (nI n + nI 1).toNatClampNeg) (xs (nI n + nI 2).toNatClampNeg) (xs (nI n + nI 3).toNatClampNeg)
  refine x_aload_n C d_law_416 rfl rfl ?_
  refine x_aload_n C d_law_417 rfl rfl ?_
  refine x_iload_n C d_law_418 rfl rfl ?_
  refine x_iconst C (nI 1) d_law_419 rfl ?_
  refine x_iadd C d_law_420 ?_
  refine x_sld C S (law_in 1 (by decide) h6 hL) d_law_421 ?_
  refine x_aload_n C d_law_422 rfl rfl ?_
  refine x_iload_n C d_law_423 rfl rfl ?_
  refine x_iconst C (nI 2) d_law_424 rfl ?_
  refine x_iadd C d_law_425 ?_
  refine x_sld C S (law_in 2 (by decide) h6 hL) d_law_426 ?_
  refine x_aload_n C d_law_427 rfl rfl ?_
  refine x_iload_n C d_law_428 rfl rfl ?_
  refine x_iconst C (nI 3) d_law_429 rfl ?_
  refine x_iadd C d_law_430 ?_
  refine x_sld C S (law_in 3 (by decide) h6 hL) d_law_431 ?_
  refine x_callVi C h1 mt_CellTransport_reach zl_CellTransport (zc_CellTransport _) rfl rfl rfl (Nat.le_of_ble_eq_true rfl) (Nat.le_of_ble_eq_true rfl) lk_Law_59 d_law_432 ?_
  refine x_aload_n C d_law_435 rfl rfl ?_
  refine x_aload_n C d_law_436 rfl rfl ?_
  refine x_iload_n C d_law_437 rfl rfl ?_
  refine x_iconst C (nI 1) d_law_438 rfl ?_
  refine x_iadd C d_law_439 ?_
  refine x_sld C S (law_in 1 (by decide) h6 hL) d_law_440 ?_
  refine x_aload_n C d_law_441 rfl rfl ?_
  refine x_iload_n C d_law_442 rfl rfl ?_
  refine x_iconst C (nI 2) d_law_443 rfl ?_
  refine x_iadd C d_law_444 ?_
  refine x_sld C S (law_in 2 (by decide) h6 hL) d_law_445 ?_
  refine x_aload_n C d_law_446 rfl rfl ?_
  refine x_iload_n C d_law_447 rfl rfl ?_
  refine x_iconst C (nI 3) d_law_448 rfl ?_
  refine x_iadd C d_law_449 ?_
  refine x_sld C S (law_in 3 (by decide) h6 hL) d_law_450 ?_
  refine x_callVi C h2 mt_Model_reach zl_Model (zc_Model _) rfl rfl rfl (Nat.le_of_ble_eq_true rfl) (Nat.le_of_ble_eq_true rfl) lk_Law_63 d_law_451 ?_
  refine x_icmp_eq C 559 d_law_454 rfl (fun _ => ?_) (fun hq => absurd rfl hq)
  exact kk M2 hI2
theorem law_case_11 {dA : Nat → ClassId} {ad : Nat → Nat} {k : z_K} {M : z_M} {b L n : Nat} {xs : Nat → Int32} (C : z_C dA ad k code "CellTransportLaw" 7 4) (S : z_scr k b L xs) (hI : z_I M) (h6 : n + 6 ≤ L) (hL : L ≤ 3072) (kk : ∀ M2 : z_M, z_I M2 → z_X dA ad k 559 [some (.ref b), some (.ref (ad 0)), some (.ref (ad 53)), some (.int (nI n))] [] M2) : z_X dA ad k 459 [some (.ref b), some (.ref (ad 0)), some (.ref (ad 53)), some (.int (nI n))] [] M := by
  obtain ⟨r, M1, M2, h1, h2, hI2⟩ := op_tally (dA := dA) (ad := ad) hI (xs (nI n + nI 1).toNatClampNeg) (xs (nI n + nI 2).toNatClampNeg)
  refine x_aload_n C d_law_459 rfl rfl ?_
  refine x_aload_n C d_law_460 rfl rfl ?_
  refine x_iload_n C d_law_461 rfl rfl ?_
  refine x_iconst C (nI 1) d_law_462 rfl ?_
  refine x_iadd C d_law_463 ?_
  refine x_sld C S (law_in 1 (by decide) h6 hL) d_law_464 ?_
  refine x_aload_n C d_law_465 rfl rfl ?_
  refine x_iload_n C d_law_466 rfl rfl ?_
  refine x_iconst C (nI 2) d_law_467 rfl ?_
  refine x_iadd C d_law_468 ?_
  refine x_sld C S (law_in 2 (by decide) h6 hL) d_law_469 ?_
  refine x_callVi C h1 mt_CellTransport_tally zl_CellTransport (zc_CellTransport _) rfl rfl rfl (Nat.le_of_ble_eq_true rfl) (Nat.le_of_ble_eq_true rfl) lk_Law_64 d_law_470 ?_
  refine x_aload_n C d_law_473 rfl rfl ?_
  refine x_aload_n C d_law_474 rfl rfl ?_
  refine x_iload_n C d_law_475 rfl rfl ?_
  refine x_iconst C (nI 1) d_law_476 rfl ?_
  refine x_iadd C d_law_477 ?_
  refine x_sld C S (law_in 1 (by decide) h6 hL) d_law_478 ?_
  refine x_aload_n C d_law_479 rfl rfl ?_
  refine x_iload_n C d_law_480 rfl rfl ?_
  refine x_iconst C (nI 2) d_law_481 rfl ?_
  refine x_iadd C d_law_482 ?_
  refine x_sld C S (law_in 2 (by decide) h6 hL) d_law_483 ?_
  refine x_callVi C h2 mt_Model_tally zl_Model (zc_Model _) rfl rfl rfl (Nat.le_of_ble_eq_true rfl) (Nat.le_of_ble_eq_true rfl) lk_Law_67 d_law_484 ?_
  refine x_icmp_eq C 559 d_law_487 rfl (fun _ => ?_) (fun hq => absurd rfl hq)
  exact kk M2 hI2
theorem law_case_12 {dA : Nat → ClassId} {ad : Nat → Nat} {k : z_K} {M : z_M} {b L n : Nat} {xs : Nat → Int32} (C : z_C dA ad k code "CellTransportLaw" 7 4) (S : z_scr k b L xs) (hI : z_I M) (h6 : n + 6 ≤ L) (hL : L ≤ 3072) (kk : ∀ M2 : z_M, z_I M2 → z_X dA ad k 559 [some (.ref b), some (.ref (ad 0)), some (.ref (ad 53)), some (.int (nI n))] [] M2) : z_X dA ad k 492 [some (.ref b), some (.ref (ad 0)), some (.ref (ad 53)), some (.int (nI n))] [] M := by
  obtain ⟨r, M1, M2, h1, h2, hI2⟩ := op_crossed (dA := dA) (ad := ad) hI (xs (nI n + nI 1).toNatClampNeg) (xs (nI n + nI 2).toNatClampNeg)
  refine x_aload_n C d_law_492 rfl rfl ?_
  refine x_aload_n C d_law_493 rfl rfl ?_
  refine x_iload_n C d_law_494 rfl rfl ?_
  refine x_iconst C (nI 1) d_law_495 rfl ?_
  refine x_iadd C d_law_496 ?_
  refine x_sld C S (law_in 1 (by decide) h6 hL) d_law_497 ?_
  refine x_aload_n C d_law_498 rfl rfl ?_
  refine x_iload_n C d_law_499 rfl rfl ?_
  refine x_iconst C (nI 2) d_law_500 rfl ?_
  refine x_iadd C d_law_501 ?_
  refine x_sld C S (law_in 2 (by decide) h6 hL) d_law_502 ?_
  refine x_callVi C h1 mt_CellTransport_crossed zl_CellTransport (zc_CellTransport _) rfl rfl rfl (Nat.le_of_ble_eq_true rfl) (Nat.le_of_ble_eq_true rfl) lk_Law_68 d_law_503 ?_
  refine x_aload_n C d_law_506 rfl rfl ?_
  refine x_aload_n C d_law_507 rfl rfl ?_
  refine x_iload_n C d_law_508 rfl rfl ?_
  refine x_iconst C (nI 1) d_law_509 rfl ?_
  refine x_iadd C d_law_510 ?_
  refine x_sld C S (law_in 1 (by decide) h6 hL) d_law_511 ?_
  refine x_aload_n C d_law_512 rfl rfl ?_
  refine x_iload_n C d_law_513 rfl rfl ?_
  refine x_iconst C (nI 2) d_law_514 rfl ?_
  refine x_iadd C d_law_515 ?_
  refine x_sld C S (law_in 2 (by decide) h6 hL) d_law_516 ?_
  refine x_callVi C h2 mt_Model_crossed zl_Model (zc_Model _) rfl rfl rfl (Nat.le_of_ble_eq_true rfl) (Nat.le_of_ble_eq_true rfl) lk_Law_71 d_law_517 ?_
  refine x_icmp_eq C 559 d_law_520 rfl (fun _ => ?_) (fun hq => absurd rfl hq)
  exact kk M2 hI2
theorem law_case_13 {dA : Nat → ClassId} {ad : Nat → Nat} {k : z_K} {M : z_M} {b L n : Nat} {xs : Nat → Int32} (C : z_C dA ad k code "CellTransportLaw" 7 4) (S : z_scr k b L xs) (hI : z_I M) (h6 : n + 6 ≤ L) (hL : L ≤ 3072) (kk : ∀ M2 : z_M, z_I M2 → z_X dA ad k 559 [some (.ref b), some (.ref (ad 0)), some (.ref (ad 53)), some (.int (nI n))] [] M2) : z_X dA ad k 525 [some (.ref b), some (.ref (ad 0)), some (.ref (ad 53)), some (.int (nI n))] [] M := by
  obtain ⟨r, M1, M2, h1, h2, hI2⟩ := op_count (dA := dA) (ad := ad) hI (xs (nI n + nI 1).toNatClampNeg)
  refine x_aload_n C d_law_525 rfl rfl ?_
  refine x_aload_n C d_law_526 rfl rfl ?_
  refine x_iload_n C d_law_527 rfl rfl ?_
  refine x_iconst C (nI 1) d_law_528 rfl ?_
  refine x_iadd C d_law_529 ?_
  refine x_sld C S (law_in 1 (by decide) h6 hL) d_law_530 ?_
  refine x_callVi C h1 mt_CellTransport_count zl_CellTransport (zc_CellTransport _) rfl rfl rfl (Nat.le_of_ble_eq_true rfl) (Nat.le_of_ble_eq_true rfl) lk_Law_72 d_law_531 ?_
  refine x_aload_n C d_law_534 rfl rfl ?_
  refine x_aload_n C d_law_535 rfl rfl ?_
  refine x_iload_n C d_law_536 rfl rfl ?_
  refine x_iconst C (nI 1) d_law_537 rfl ?_
  refine x_iadd C d_law_538 ?_
  refine x_sld C S (law_in 1 (by decide) h6 hL) d_law_539 ?_
  refine x_callVi C h2 mt_Model_count zl_Model (zc_Model _) rfl rfl rfl (Nat.le_of_ble_eq_true rfl) (Nat.le_of_ble_eq_true rfl) lk_Law_75 d_law_540 ?_
  refine x_icmp_eq C 559 d_law_543 rfl (fun _ => ?_) (fun hq => absurd rfl hq)
  exact kk M2 hI2
theorem law_case_14 {dA : Nat → ClassId} {ad : Nat → Nat} {k : z_K} {M : z_M} {b L n : Nat} {xs : Nat → Int32} (C : z_C dA ad k code "CellTransportLaw" 7 4) (S : z_scr k b L xs) (hI : z_I M) (h6 : n + 6 ≤ L) (hL : L ≤ 3072) (kk : ∀ M2 : z_M, z_I M2 → z_X dA ad k 559 [some (.ref b), some (.ref (ad 0)), some (.ref (ad 53)), some (.int (nI n))] [] M2) : z_X dA ad k 548 [some (.ref b), some (.ref (ad 0)), some (.ref (ad 53)), some (.int (nI n))] [] M := by
  obtain ⟨M1, M2, h1, h2, hI2⟩ := op_clear (dA := dA) (ad := ad) hI 
  refine x_aload_n C d_law_548 rfl rfl ?_
  refine x_callVv C h1 mt_CellTransport_clear zl_CellTransport (zc_CellTransport _) rfl rfl rfl (Nat.le_of_ble_eq_true rfl) (Nat.le_of_ble_eq_true rfl) lk_Law_76 d_law_549 ?_
  refine x_aload_n C d_law_552 rfl rfl ?_
  refine x_callVv C h2 mt_Model_clear zl_Model (zc_Model _) rfl rfl rfl (Nat.le_of_ble_eq_true rfl) (Nat.le_of_ble_eq_true rfl) lk_Law_79 d_law_553 ?_
  refine x_goto C 559 d_law_556 rfl ?_
  exact kk M2 hI2
theorem law_loop {dA : Nat → ClassId} {ad : Nat → Nat} {k : z_K} {b L : Nat} {xs : Nat → Int32} (C : z_C dA ad k code "CellTransportLaw" 7 4) (S : z_scr k b L xs) (hL : L ≤ 3072) (hend : ∀ (lv : List (Option Value)) (M : z_M), z_X dA ad k 566 lv [.int 1] M) : ∀ (f n : Nat) (M : z_M), z_I M → n ≤ L → L - n < f → z_X dA ad k 18 [some (.ref b), some (.ref (ad 0)), some (.ref (ad 53)), some (.int (nI n))] [] M := by
  intro f
  induction f with
  | zero => intro n M hI hn hf; exact absurd hf (Nat.not_lt_zero _)
  | succ f ih =>
    intro n M hI hn hf
    refine x_iload_n C d_law_18 rfl rfl ?_
    refine x_aload_n C d_law_19 rfl rfl ?_
    refine x_slen C S d_law_20 ?_
    refine x_bipush C 6 d_law_21 rfl ?_
    refine x_isub C d_law_23 ?_
    by_cases h6 : n + 6 ≤ L
    · refine x_icmp_gt C 565 d_law_24 rfl (fun q => absurd q (law_gt h6 hL)) (fun _ => ?_)
      have kk : ∀ M2 : z_M, z_I M2 → z_X dA ad k 559 [some (.ref b), some (.ref (ad 0)), some (.ref (ad 53)), some (.int (nI n))] [] M2 := fun M2 hI2 => by
        refine x_iinc C (nI (n + 6)) d_law_559 rfl (nI_add n 6) rfl ?_
        refine x_goto C 18 d_law_562 rfl ?_
        exact ih (n + 6) M2 hI2 h6 (by omega)
      refine x_aload_n C d_law_27 rfl rfl ?_
      refine x_iload_n C d_law_28 rfl rfl ?_
      refine x_sld C S (vp_in_nI (by omega) (by omega)) d_law_29 ?_
      refine x_bipush C 15 d_law_30 rfl ?_
      refine x_iand C d_law_32 ?_
      generalize (xs (nI n).toNatClampNeg &&& 15) = x
      by_cases ho : x.toInt < 0 ∨ 14 < x.toInt
      · exact x_tableOut C 559 d_law_33 ho rfl (kk M hI)
      · have h1 : ¬ x.toInt < 0 := fun q => ho (Or.inl q)
        have h2 : ¬ 14 < x.toInt := fun q => ho (Or.inr q)
        rcases (show x.toInt = 0 ∨ x.toInt = 1 ∨ x.toInt = 2 ∨ x.toInt = 3 ∨ x.toInt = 4 ∨ x.toInt = 5 ∨ x.toInt = 6 ∨ x.toInt = 7 ∨ x.toInt = 8 ∨ x.toInt = 9 ∨ x.toInt = 10 ∨ x.toInt = 11 ∨ x.toInt = 12 ∨ x.toInt = 13 ∨ x.toInt = 14 by omega) with e | e | e | e | e | e | e | e | e | e | e | e | e | e | e
        · exact x_tableIn C 108 d_law_33 h1 h2 (by rw [e]; rfl) rfl (law_case_0 C S hI h6 hL kk)
        · exact x_tableIn C 171 d_law_33 h1 h2 (by rw [e]; rfl) rfl (law_case_1 C S hI h6 hL kk)
        · exact x_tableIn C 194 d_law_33 h1 h2 (by rw [e]; rfl) rfl (law_case_2 C S hI h6 hL kk)
        · exact x_tableIn C 247 d_law_33 h1 h2 (by rw [e]; rfl) rfl (law_case_3 C S hI h6 hL kk)
        · exact x_tableIn C 270 d_law_33 h1 h2 (by rw [e]; rfl) rfl (law_case_4 C S hI h6 hL kk)
        · exact x_tableIn C 303 d_law_33 h1 h2 (by rw [e]; rfl) rfl (law_case_5 C S hI h6 hL kk)
        · exact x_tableIn C 324 d_law_33 h1 h2 (by rw [e]; rfl) rfl (law_case_6 C S hI h6 hL kk)
        · exact x_tableIn C 347 d_law_33 h1 h2 (by rw [e]; rfl) rfl (law_case_7 C S hI h6 hL kk)
        · exact x_tableIn C 360 d_law_33 h1 h2 (by rw [e]; rfl) rfl (law_case_8 C S hI h6 hL kk)
        · exact x_tableIn C 383 d_law_33 h1 h2 (by rw [e]; rfl) rfl (law_case_9 C S hI h6 hL kk)
        · exact x_tableIn C 416 d_law_33 h1 h2 (by rw [e]; rfl) rfl (law_case_10 C S hI h6 hL kk)
        · exact x_tableIn C 459 d_law_33 h1 h2 (by rw [e]; rfl) rfl (law_case_11 C S hI h6 hL kk)
        · exact x_tableIn C 492 d_law_33 h1 h2 (by rw [e]; rfl) rfl (law_case_12 C S hI h6 hL kk)
        · exact x_tableIn C 525 d_law_33 h1 h2 (by rw [e]; rfl) rfl (law_case_13 C S hI h6 hL kk)
        · exact x_tableIn C 548 d_law_33 h1 h2 (by rw [e]; rfl) rfl (law_case_14 C S hI h6 hL kk)
    · refine x_icmp_gt C 565 d_law_24 rfl (fun _ => ?_) (fun q => absurd (law_gt2 h6 hn hL) q)
      refine x_iconst C 1 d_law_565 rfl ?_
      exact hend _ M
