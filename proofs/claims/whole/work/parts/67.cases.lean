/-! THE LAW'S CASES: the class's answer, the reference's, both the same -/
theorem xk_C {Γ : zG} {G : va_G} {ca : Nat → ClassId} {ac ar : Int → Nat} {ν : zM} {pc : Nat} {L : List (Nat × Value)} {rest : List Value} {r : Value} {Q : zM → Prop} (kk : ∀ μ', Q μ' → X Γ G ca ac ar μ' ν pc L (r :: rest)) : ∀ (v : Option Value) (μ' : zM), zpI r Q v μ' → X Γ G ca ac ar μ' ν pc L (v.toList ++ rest) := by
  intro v μ' h
  rw [h.1]
  exact kk μ' h.2
theorem xk_R {Γ : zG} {G : va_G} {ca : Nat → ClassId} {ac ar : Int → Nat} {μ : zM} {pc : Nat} {L : List (Nat × Value)} {rest : List Value} {r : Value} {Q : zM → Prop} (kk : ∀ ν', Q ν' → X Γ G ca ac ar μ ν' pc L (r :: rest)) : ∀ (v : Option Value) (ν' : zM), zpI r Q v ν' → X Γ G ca ac ar μ ν' pc L (v.toList ++ rest) := by
  intro v ν' h
  rw [h.1]
  exact kk ν' h.2

set_option maxHeartbeats 4000000 in
set_option maxRecDepth 100000 in
/-- case 0: port -/
theorem law_port {Γ : zG} {G : va_G} {ca : Nat → ClassId} {ac ar : Int → Nat} {b Lx : Nat} {xs : Nat → Int32} (hC : xC Γ G ca ac ar b Lx xs) (hLx : Lx ≤ 3584) {i : Int} (hi : 0 ≤ i ∧ i + 7 ≤ (Lx : Int)) {μ ν : zM} (hB : zBoth μ ν) (kk : ∀ μ' ν' : zM, zBoth μ' ν' → X Γ G ca ac ar μ' ν' 814 [(3, .int (iZ i)), (2, .ref (ar 0)), (1, .ref (ac 156)), (0, .ref b)] []) : X Γ G ca ac ar μ ν 136 [(3, .int (iZ i)), (2, .ref (ar 0)), (1, .ref (ac 156)), (0, .ref b)] [] := by
  obtain ⟨d, n, h, L9, t, hX, hR, hI⟩ := hB
  have hI0 : zInv d := hI.1
  have hLr : 0 ≤ L9 ∧ L9 ≤ 60 := hR.2.2.2.1
  refine x_aload_n hC dL_law_136 rfl ?_
  refine x_aload_n hC dL_law_137 rfl ?_
  refine x_iload_n hC dL_law_138 rfl ?_
  refine x_iconst hC dL_law_139 ?_
  refine x_iadd hC dL_law_140 ?_
  refine x_ald hC (by omega) (by omega) dL_law_141 ?_
  refine x_aload_n hC dL_law_142 rfl ?_
  refine x_iload_n hC dL_law_143 rfl ?_
  refine x_iconst hC dL_law_144 ?_
  refine x_iadd hC dL_law_145 ?_
  refine x_ald hC (by omega) (by omega) dL_law_146 ?_
  refine x_aload_n hC dL_law_147 rfl ?_
  refine x_iload_n hC dL_law_148 rfl ?_
  refine x_iconst hC dL_law_149 ?_
  refine x_iadd hC dL_law_150 ?_
  refine x_ald hC (by omega) (by omega) dL_law_151 ?_
  refine x_callC hC [.int (iZ (sx xs (i + 1))), .int (iZ (sx xs (i + 2))), .int (iZ (sx xs (i + 3)))] 3 rfl dL_law_152 (fun l => m_X7_port l G ca ac (cA ac 163) μ d n h L9 t hX hI0 (sx xs (i + 1)) (sx xs (i + 2)) (sx xs (i + 3)) (sx_r xs ((i + 1))) (sx_r xs ((i + 2))) (sx_r xs ((i + 3))) (inv_port hI0 (sx xs (i + 1)) (sx xs (i + 2)) (sx xs (i + 3))).2.1) qM_L_13 qI_X7_port qS_X7_port qi_X7 qC_X7_port (by decide +kernel) (by decide) (by decide) (cd_main (ca := ca) (ad := ac)) rfl (Nat.le_of_ble_eq_true rfl) (xk_C (fun μ1 hμ1 => ?_)) rfl
  refine x_aload_n hC dL_law_155 rfl ?_
  refine x_aload_n hC dL_law_156 rfl ?_
  refine x_iload_n hC dL_law_157 rfl ?_
  refine x_iconst hC dL_law_158 ?_
  refine x_iadd hC dL_law_159 ?_
  refine x_ald hC (by omega) (by omega) dL_law_160 ?_
  refine x_aload_n hC dL_law_161 rfl ?_
  refine x_iload_n hC dL_law_162 rfl ?_
  refine x_iconst hC dL_law_163 ?_
  refine x_iadd hC dL_law_164 ?_
  refine x_ald hC (by omega) (by omega) dL_law_165 ?_
  refine x_aload_n hC dL_law_166 rfl ?_
  refine x_iload_n hC dL_law_167 rfl ?_
  refine x_iconst hC dL_law_168 ?_
  refine x_iadd hC dL_law_169 ?_
  refine x_ald hC (by omega) (by omega) dL_law_170 ?_
  refine x_callR hC [.int (iZ (sx xs (i + 1))), .int (iZ (sx xs (i + 2))), .int (iZ (sx xs (i + 3)))] 3 rfl dL_law_171 (fun l => m_X8_port l G ca ar (cA ar 4) ν d n h L9 t hR hI0 (sx xs (i + 1)) (sx xs (i + 2)) (sx xs (i + 3)) (sx_r xs ((i + 1))) (sx_r xs ((i + 2))) (sx_r xs ((i + 3))) (inv_port hI0 (sx xs (i + 1)) (sx xs (i + 2)) (sx xs (i + 3))).2) qM_L_17 qI_X8_port qS_X8_port qi_X8 qC_X8_port (by decide +kernel) (by decide) (by decide) (rd_0 (ca := ca) (ad := ar)) rfl (Nat.le_of_ble_eq_true rfl) (xk_R (fun ν1 hν1 => ?_)) rfl
  refine x_same hC 814 rfl dL_law_174 (by decide) ?_
  exact kk _ _ (zBoth_q hμ1 hν1 (zAllI_keep hI hR.2.1.2.1 (inv_port hI0 (sx xs (i + 1)) (sx xs (i + 2)) (sx xs (i + 3))).1))

set_option maxHeartbeats 4000000 in
set_option maxRecDepth 100000 in
/-- case 1: ship -/
theorem law_ship {Γ : zG} {G : va_G} {ca : Nat → ClassId} {ac ar : Int → Nat} {b Lx : Nat} {xs : Nat → Int32} (hC : xC Γ G ca ac ar b Lx xs) (hLx : Lx ≤ 3584) {i : Int} (hi : 0 ≤ i ∧ i + 7 ≤ (Lx : Int)) {μ ν : zM} (hB : zBoth μ ν) (kk : ∀ μ' ν' : zM, zBoth μ' ν' → X Γ G ca ac ar μ' ν' 814 [(3, .int (iZ i)), (2, .ref (ar 0)), (1, .ref (ac 156)), (0, .ref b)] []) : X Γ G ca ac ar μ ν 179 [(3, .int (iZ i)), (2, .ref (ar 0)), (1, .ref (ac 156)), (0, .ref b)] [] := by
  obtain ⟨d, n, h, L9, t, hX, hR, hI⟩ := hB
  have hI0 : zInv d := hI.1
  have hLr : 0 ≤ L9 ∧ L9 ≤ 60 := hR.2.2.2.1
  refine x_aload_n hC dL_law_179 rfl ?_
  refine x_aload_n hC dL_law_180 rfl ?_
  refine x_iload_n hC dL_law_181 rfl ?_
  refine x_iconst hC dL_law_182 ?_
  refine x_iadd hC dL_law_183 ?_
  refine x_ald hC (by omega) (by omega) dL_law_184 ?_
  refine x_aload_n hC dL_law_185 rfl ?_
  refine x_iload_n hC dL_law_186 rfl ?_
  refine x_iconst hC dL_law_187 ?_
  refine x_iadd hC dL_law_188 ?_
  refine x_ald hC (by omega) (by omega) dL_law_189 ?_
  refine x_aload_n hC dL_law_190 rfl ?_
  refine x_iload_n hC dL_law_191 rfl ?_
  refine x_iconst hC dL_law_192 ?_
  refine x_iadd hC dL_law_193 ?_
  refine x_ald hC (by omega) (by omega) dL_law_194 ?_
  refine x_aload_n hC dL_law_195 rfl ?_
  refine x_iload_n hC dL_law_196 rfl ?_
  refine x_iconst hC dL_law_197 ?_
  refine x_iadd hC dL_law_198 ?_
  refine x_ald hC (by omega) (by omega) dL_law_199 ?_
  refine x_aload_n hC dL_law_200 rfl ?_
  refine x_iload_n hC dL_law_201 rfl ?_
  refine x_iconst hC dL_law_202 ?_
  refine x_iadd hC dL_law_203 ?_
  refine x_ald hC (by omega) (by omega) dL_law_204 ?_
  refine x_callC hC [.int (iZ (sx xs (i + 1))), .int (iZ (sx xs (i + 2))), .int (iZ (sx xs (i + 3))), .int (iZ (sx xs (i + 4))), .int (iZ (sx xs (i + 5)))] 5 rfl dL_law_205 (fun l => m_X7_ship l G ca ac (cA ac 163) μ d n h L9 t hX hI0 (sx xs (i + 1)) (sx xs (i + 2)) (sx xs (i + 3)) (sx xs (i + 4)) (sx xs (i + 5)) (sx_r xs ((i + 1))) (sx_r xs ((i + 2))) (sx_r xs ((i + 3))) (sx_r xs ((i + 4))) (sx_r xs ((i + 5))) (inv_ship hI0 (sx xs (i + 1)) (sx xs (i + 2)) (sx xs (i + 3)) (sx xs (i + 4)) (sx xs (i + 5))).2.1) qM_L_18 qI_X7_ship qS_X7_ship qi_X7 qC_X7_ship (by decide +kernel) (by decide) (by decide) (cd_main (ca := ca) (ad := ac)) rfl (Nat.le_of_ble_eq_true rfl) (xk_C (fun μ1 hμ1 => ?_)) rfl
  refine x_aload_n hC dL_law_208 rfl ?_
  refine x_aload_n hC dL_law_209 rfl ?_
  refine x_iload_n hC dL_law_210 rfl ?_
  refine x_iconst hC dL_law_211 ?_
  refine x_iadd hC dL_law_212 ?_
  refine x_ald hC (by omega) (by omega) dL_law_213 ?_
  refine x_aload_n hC dL_law_214 rfl ?_
  refine x_iload_n hC dL_law_215 rfl ?_
  refine x_iconst hC dL_law_216 ?_
  refine x_iadd hC dL_law_217 ?_
  refine x_ald hC (by omega) (by omega) dL_law_218 ?_
  refine x_aload_n hC dL_law_219 rfl ?_
  refine x_iload_n hC dL_law_220 rfl ?_
  refine x_iconst hC dL_law_221 ?_
  refine x_iadd hC dL_law_222 ?_
  refine x_ald hC (by omega) (by omega) dL_law_223 ?_
  refine x_aload_n hC dL_law_224 rfl ?_
  refine x_iload_n hC dL_law_225 rfl ?_
  refine x_iconst hC dL_law_226 ?_
  refine x_iadd hC dL_law_227 ?_
  refine x_ald hC (by omega) (by omega) dL_law_228 ?_
  refine x_aload_n hC dL_law_229 rfl ?_
  refine x_iload_n hC dL_law_230 rfl ?_
  refine x_iconst hC dL_law_231 ?_
  refine x_iadd hC dL_law_232 ?_
  refine x_ald hC (by omega) (by omega) dL_law_233 ?_
  refine x_callR hC [.int (iZ (sx xs (i + 1))), .int (iZ (sx xs (i + 2))), .int (iZ (sx xs (i + 3))), .int (iZ (sx xs (i + 4))), .int (iZ (sx xs (i + 5)))] 5 rfl dL_law_234 (fun l => m_X8_ship l G ca ar (cA ar 4) ν d n h L9 t hR hI0 (sx xs (i + 1)) (sx xs (i + 2)) (sx xs (i + 3)) (sx xs (i + 4)) (sx xs (i + 5)) (sx_r xs ((i + 1))) (sx_r xs ((i + 2))) (sx_r xs ((i + 3))) (sx_r xs ((i + 4))) (sx_r xs ((i + 5))) (inv_ship hI0 (sx xs (i + 1)) (sx xs (i + 2)) (sx xs (i + 3)) (sx xs (i + 4)) (sx xs (i + 5))).2) qM_L_22 qI_X8_ship qS_X8_ship qi_X8 qC_X8_ship (by decide +kernel) (by decide) (by decide) (rd_0 (ca := ca) (ad := ar)) rfl (Nat.le_of_ble_eq_true rfl) (xk_R (fun ν1 hν1 => ?_)) rfl
  refine x_same hC 814 rfl dL_law_237 (by decide) ?_
  exact kk _ _ (zBoth_q hμ1 hν1 (zAllI_keep hI hR.2.1.2.1 (inv_ship hI0 (sx xs (i + 1)) (sx xs (i + 2)) (sx xs (i + 3)) (sx xs (i + 4)) (sx xs (i + 5))).1))

set_option maxHeartbeats 4000000 in
set_option maxRecDepth 100000 in
/-- case 2: cargo -/
theorem law_cargo {Γ : zG} {G : va_G} {ca : Nat → ClassId} {ac ar : Int → Nat} {b Lx : Nat} {xs : Nat → Int32} (hC : xC Γ G ca ac ar b Lx xs) (hLx : Lx ≤ 3584) {i : Int} (hi : 0 ≤ i ∧ i + 7 ≤ (Lx : Int)) {μ ν : zM} (hB : zBoth μ ν) (kk : ∀ μ' ν' : zM, zBoth μ' ν' → X Γ G ca ac ar μ' ν' 814 [(3, .int (iZ i)), (2, .ref (ar 0)), (1, .ref (ac 156)), (0, .ref b)] []) : X Γ G ca ac ar μ ν 242 [(3, .int (iZ i)), (2, .ref (ar 0)), (1, .ref (ac 156)), (0, .ref b)] [] := by
  obtain ⟨d, n, h, L9, t, hX, hR, hI⟩ := hB
  have hI0 : zInv d := hI.1
  have hLr : 0 ≤ L9 ∧ L9 ≤ 60 := hR.2.2.2.1
  refine x_aload_n hC dL_law_242 rfl ?_
  refine x_aload_n hC dL_law_243 rfl ?_
  refine x_iload_n hC dL_law_244 rfl ?_
  refine x_iconst hC dL_law_245 ?_
  refine x_iadd hC dL_law_246 ?_
  refine x_ald hC (by omega) (by omega) dL_law_247 ?_
  refine x_aload_n hC dL_law_248 rfl ?_
  refine x_iload_n hC dL_law_249 rfl ?_
  refine x_iconst hC dL_law_250 ?_
  refine x_iadd hC dL_law_251 ?_
  refine x_ald hC (by omega) (by omega) dL_law_252 ?_
  refine x_aload_n hC dL_law_253 rfl ?_
  refine x_iload_n hC dL_law_254 rfl ?_
  refine x_iconst hC dL_law_255 ?_
  refine x_iadd hC dL_law_256 ?_
  refine x_ald hC (by omega) (by omega) dL_law_257 ?_
  refine x_aload_n hC dL_law_258 rfl ?_
  refine x_iload_n hC dL_law_259 rfl ?_
  refine x_iconst hC dL_law_260 ?_
  refine x_iadd hC dL_law_261 ?_
  refine x_ald hC (by omega) (by omega) dL_law_262 ?_
  refine x_aload_n hC dL_law_263 rfl ?_
  refine x_iload_n hC dL_law_264 rfl ?_
  refine x_iconst hC dL_law_265 ?_
  refine x_iadd hC dL_law_266 ?_
  refine x_ald hC (by omega) (by omega) dL_law_267 ?_
  refine x_aload_n hC dL_law_268 rfl ?_
  refine x_iload_n hC dL_law_269 rfl ?_
  refine x_bipush hC dL_law_270 (by decide) ?_
  refine x_iadd hC dL_law_272 ?_
  refine x_ald hC (by omega) (by omega) dL_law_273 ?_
  refine x_callC hC [.int (iZ (sx xs (i + 1))), .int (iZ (sx xs (i + 2))), .int (iZ (sx xs (i + 3))), .int (iZ (sx xs (i + 4))), .int (iZ (sx xs (i + 5))), .int (iZ (sx xs (i + 6)))] 6 rfl dL_law_274 (fun l => m_X7_cargo l G ca ac (cA ac 163) μ d n h L9 t hX hI0 (sx xs (i + 1)) (sx xs (i + 2)) (sx xs (i + 3)) (sx xs (i + 4)) (sx xs (i + 5)) (sx xs (i + 6)) (sx_r xs ((i + 1))) (sx_r xs ((i + 2))) (sx_r xs ((i + 3))) (sx_r xs ((i + 4))) (sx_r xs ((i + 5))) (sx_r xs ((i + 6))) (inv_cargo hI0 (sx xs (i + 1)) (sx xs (i + 2)) (sx xs (i + 3)) (sx xs (i + 4)) (sx xs (i + 5)) (sx xs (i + 6))).2.1) qM_L_23 qI_X7_cargo qS_X7_cargo qi_X7 qC_X7_cargo (by decide +kernel) (by decide) (by decide) (cd_main (ca := ca) (ad := ac)) rfl (Nat.le_of_ble_eq_true rfl) (xk_C (fun μ1 hμ1 => ?_)) rfl
  refine x_aload_n hC dL_law_277 rfl ?_
  refine x_aload_n hC dL_law_278 rfl ?_
  refine x_iload_n hC dL_law_279 rfl ?_
  refine x_iconst hC dL_law_280 ?_
  refine x_iadd hC dL_law_281 ?_
  refine x_ald hC (by omega) (by omega) dL_law_282 ?_
  refine x_aload_n hC dL_law_283 rfl ?_
  refine x_iload_n hC dL_law_284 rfl ?_
  refine x_iconst hC dL_law_285 ?_
  refine x_iadd hC dL_law_286 ?_
  refine x_ald hC (by omega) (by omega) dL_law_287 ?_
  refine x_aload_n hC dL_law_288 rfl ?_
  refine x_iload_n hC dL_law_289 rfl ?_
  refine x_iconst hC dL_law_290 ?_
  refine x_iadd hC dL_law_291 ?_
  refine x_ald hC (by omega) (by omega) dL_law_292 ?_
  refine x_aload_n hC dL_law_293 rfl ?_
  refine x_iload_n hC dL_law_294 rfl ?_
  refine x_iconst hC dL_law_295 ?_
  refine x_iadd hC dL_law_296 ?_
  refine x_ald hC (by omega) (by omega) dL_law_297 ?_
  refine x_aload_n hC dL_law_298 rfl ?_
  refine x_iload_n hC dL_law_299 rfl ?_
  refine x_iconst hC dL_law_300 ?_
  refine x_iadd hC dL_law_301 ?_
  refine x_ald hC (by omega) (by omega) dL_law_302 ?_
  refine x_aload_n hC dL_law_303 rfl ?_
  refine x_iload_n hC dL_law_304 rfl ?_
  refine x_bipush hC dL_law_305 (by decide) ?_
  refine x_iadd hC dL_law_307 ?_
  refine x_ald hC (by omega) (by omega) dL_law_308 ?_
  refine x_callR hC [.int (iZ (sx xs (i + 1))), .int (iZ (sx xs (i + 2))), .int (iZ (sx xs (i + 3))), .int (iZ (sx xs (i + 4))), .int (iZ (sx xs (i + 5))), .int (iZ (sx xs (i + 6)))] 6 rfl dL_law_309 (fun l => m_X8_cargo l G ca ar (cA ar 4) ν d n h L9 t hR hI0 (sx xs (i + 1)) (sx xs (i + 2)) (sx xs (i + 3)) (sx xs (i + 4)) (sx xs (i + 5)) (sx xs (i + 6)) (sx_r xs ((i + 1))) (sx_r xs ((i + 2))) (sx_r xs ((i + 3))) (sx_r xs ((i + 4))) (sx_r xs ((i + 5))) (sx_r xs ((i + 6))) (inv_cargo hI0 (sx xs (i + 1)) (sx xs (i + 2)) (sx xs (i + 3)) (sx xs (i + 4)) (sx xs (i + 5)) (sx xs (i + 6))).2) qM_L_27 qI_X8_cargo qS_X8_cargo qi_X8 qC_X8_cargo (by decide +kernel) (by decide) (by decide) (rd_0 (ca := ca) (ad := ar)) rfl (Nat.le_of_ble_eq_true rfl) (xk_R (fun ν1 hν1 => ?_)) rfl
  refine x_same hC 814 rfl dL_law_312 (by decide) ?_
  exact kk _ _ (zBoth_q hμ1 hν1 (zAllI_keep hI hR.2.1.2.1 (inv_cargo hI0 (sx xs (i + 1)) (sx xs (i + 2)) (sx xs (i + 3)) (sx xs (i + 4)) (sx xs (i + 5)) (sx xs (i + 6))).1))

set_option maxHeartbeats 4000000 in
set_option maxRecDepth 100000 in
/-- case 3: fix -/
theorem law_fix {Γ : zG} {G : va_G} {ca : Nat → ClassId} {ac ar : Int → Nat} {b Lx : Nat} {xs : Nat → Int32} (hC : xC Γ G ca ac ar b Lx xs) (hLx : Lx ≤ 3584) {i : Int} (hi : 0 ≤ i ∧ i + 7 ≤ (Lx : Int)) {μ ν : zM} (hB : zBoth μ ν) (kk : ∀ μ' ν' : zM, zBoth μ' ν' → X Γ G ca ac ar μ' ν' 814 [(3, .int (iZ i)), (2, .ref (ar 0)), (1, .ref (ac 156)), (0, .ref b)] []) : X Γ G ca ac ar μ ν 317 [(3, .int (iZ i)), (2, .ref (ar 0)), (1, .ref (ac 156)), (0, .ref b)] [] := by
  obtain ⟨d, n, h, L9, t, hX, hR, hI⟩ := hB
  have hI0 : zInv d := hI.1
  have hLr : 0 ≤ L9 ∧ L9 ≤ 60 := hR.2.2.2.1
  refine x_aload_n hC dL_law_317 rfl ?_
  refine x_aload_n hC dL_law_318 rfl ?_
  refine x_iload_n hC dL_law_319 rfl ?_
  refine x_iconst hC dL_law_320 ?_
  refine x_iadd hC dL_law_321 ?_
  refine x_ald hC (by omega) (by omega) dL_law_322 ?_
  refine x_aload_n hC dL_law_323 rfl ?_
  refine x_iload_n hC dL_law_324 rfl ?_
  refine x_iconst hC dL_law_325 ?_
  refine x_iadd hC dL_law_326 ?_
  refine x_ald hC (by omega) (by omega) dL_law_327 ?_
  refine x_callC hC [.int (iZ (sx xs (i + 1))), .int (iZ (sx xs (i + 2)))] 2 rfl dL_law_328 (fun l => m_X7_fix l G ca ac (cA ac 163) μ d n h L9 t hX hI0 (sx xs (i + 1)) (sx xs (i + 2)) (sx_r xs ((i + 1))) (sx_r xs ((i + 2))) (inv_fix hI0 (sx xs (i + 1)) (sx xs (i + 2))).2.1) qM_L_28 qI_X7_fix qS_X7_fix qi_X7 qC_X7_fix (by decide +kernel) (by decide) (by decide) (cd_main (ca := ca) (ad := ac)) rfl (Nat.le_of_ble_eq_true rfl) (xk_C (fun μ1 hμ1 => ?_)) rfl
  refine x_aload_n hC dL_law_331 rfl ?_
  refine x_aload_n hC dL_law_332 rfl ?_
  refine x_iload_n hC dL_law_333 rfl ?_
  refine x_iconst hC dL_law_334 ?_
  refine x_iadd hC dL_law_335 ?_
  refine x_ald hC (by omega) (by omega) dL_law_336 ?_
  refine x_aload_n hC dL_law_337 rfl ?_
  refine x_iload_n hC dL_law_338 rfl ?_
  refine x_iconst hC dL_law_339 ?_
  refine x_iadd hC dL_law_340 ?_
  refine x_ald hC (by omega) (by omega) dL_law_341 ?_
  refine x_callR hC [.int (iZ (sx xs (i + 1))), .int (iZ (sx xs (i + 2)))] 2 rfl dL_law_342 (fun l => m_X8_fix l G ca ar (cA ar 4) ν d n h L9 t hR hI0 (sx xs (i + 1)) (sx xs (i + 2)) (sx_r xs ((i + 1))) (sx_r xs ((i + 2))) (inv_fix hI0 (sx xs (i + 1)) (sx xs (i + 2))).2) qM_L_32 qI_X8_fix qS_X8_fix qi_X8 qC_X8_fix (by decide +kernel) (by decide) (by decide) (rd_0 (ca := ca) (ad := ar)) rfl (Nat.le_of_ble_eq_true rfl) (xk_R (fun ν1 hν1 => ?_)) rfl
  refine x_same hC 814 rfl dL_law_345 (by decide) ?_
  exact kk _ _ (zBoth_q hμ1 hν1 (zAllI_keep hI hR.2.1.2.1 (inv_fix hI0 (sx xs (i + 1)) (sx xs (i + 2))).1))

set_option maxHeartbeats 4000000 in
set_option maxRecDepth 100000 in
/-- case 4: delay -/
theorem law_delay {Γ : zG} {G : va_G} {ca : Nat → ClassId} {ac ar : Int → Nat} {b Lx : Nat} {xs : Nat → Int32} (hC : xC Γ G ca ac ar b Lx xs) (hLx : Lx ≤ 3584) {i : Int} (hi : 0 ≤ i ∧ i + 7 ≤ (Lx : Int)) {μ ν : zM} (hB : zBoth μ ν) (kk : ∀ μ' ν' : zM, zBoth μ' ν' → X Γ G ca ac ar μ' ν' 814 [(3, .int (iZ i)), (2, .ref (ar 0)), (1, .ref (ac 156)), (0, .ref b)] []) : X Γ G ca ac ar μ ν 350 [(3, .int (iZ i)), (2, .ref (ar 0)), (1, .ref (ac 156)), (0, .ref b)] [] := by
  obtain ⟨d, n, h, L9, t, hX, hR, hI⟩ := hB
  have hI0 : zInv d := hI.1
  have hLr : 0 ≤ L9 ∧ L9 ≤ 60 := hR.2.2.2.1
  refine x_aload_n hC dL_law_350 rfl ?_
  refine x_aload_n hC dL_law_351 rfl ?_
  refine x_iload_n hC dL_law_352 rfl ?_
  refine x_iconst hC dL_law_353 ?_
  refine x_iadd hC dL_law_354 ?_
  refine x_ald hC (by omega) (by omega) dL_law_355 ?_
  refine x_aload_n hC dL_law_356 rfl ?_
  refine x_iload_n hC dL_law_357 rfl ?_
  refine x_iconst hC dL_law_358 ?_
  refine x_iadd hC dL_law_359 ?_
  refine x_ald hC (by omega) (by omega) dL_law_360 ?_
  refine x_callC hC [.int (iZ (sx xs (i + 1))), .int (iZ (sx xs (i + 2)))] 2 rfl dL_law_361 (fun l => m_X7_delay l G ca ac (cA ac 163) μ d n h L9 t hX hI0 (sx xs (i + 1)) (sx xs (i + 2)) (sx_r xs ((i + 1))) (sx_r xs ((i + 2))) (inv_delay hI0 (sx xs (i + 1)) (sx xs (i + 2))).2.1) qM_L_33 qI_X7_delay qS_X7_delay qi_X7 qC_X7_delay (by decide +kernel) (by decide) (by decide) (cd_main (ca := ca) (ad := ac)) rfl (Nat.le_of_ble_eq_true rfl) (xk_C (fun μ1 hμ1 => ?_)) rfl
  refine x_aload_n hC dL_law_364 rfl ?_
  refine x_aload_n hC dL_law_365 rfl ?_
  refine x_iload_n hC dL_law_366 rfl ?_
  refine x_iconst hC dL_law_367 ?_
  refine x_iadd hC dL_law_368 ?_
  refine x_ald hC (by omega) (by omega) dL_law_369 ?_
  refine x_aload_n hC dL_law_370 rfl ?_
  refine x_iload_n hC dL_law_371 rfl ?_
  refine x_iconst hC dL_law_372 ?_
  refine x_iadd hC dL_law_373 ?_
  refine x_ald hC (by omega) (by omega) dL_law_374 ?_
  refine x_callR hC [.int (iZ (sx xs (i + 1))), .int (iZ (sx xs (i + 2)))] 2 rfl dL_law_375 (fun l => m_X8_delay l G ca ar (cA ar 4) ν d n h L9 t hR hI0 (sx xs (i + 1)) (sx xs (i + 2)) (sx_r xs ((i + 1))) (sx_r xs ((i + 2))) (inv_delay hI0 (sx xs (i + 1)) (sx xs (i + 2))).2) qM_L_36 qI_X8_delay qS_X8_delay qi_X8 qC_X8_delay (by decide +kernel) (by decide) (by decide) (rd_0 (ca := ca) (ad := ar)) rfl (Nat.le_of_ble_eq_true rfl) (xk_R (fun ν1 hν1 => ?_)) rfl
  refine x_same hC 814 rfl dL_law_378 (by decide) ?_
  exact kk _ _ (zBoth_q hμ1 hν1 (zAllI_keep hI hR.2.1.2.1 (inv_delay hI0 (sx xs (i + 1)) (sx xs (i + 2))).1))

set_option maxHeartbeats 4000000 in
set_option maxRecDepth 100000 in
/-- case 5: callOff -/
theorem law_callOff {Γ : zG} {G : va_G} {ca : Nat → ClassId} {ac ar : Int → Nat} {b Lx : Nat} {xs : Nat → Int32} (hC : xC Γ G ca ac ar b Lx xs) (hLx : Lx ≤ 3584) {i : Int} (hi : 0 ≤ i ∧ i + 7 ≤ (Lx : Int)) {μ ν : zM} (hB : zBoth μ ν) (kk : ∀ μ' ν' : zM, zBoth μ' ν' → X Γ G ca ac ar μ' ν' 814 [(3, .int (iZ i)), (2, .ref (ar 0)), (1, .ref (ac 156)), (0, .ref b)] []) : X Γ G ca ac ar μ ν 383 [(3, .int (iZ i)), (2, .ref (ar 0)), (1, .ref (ac 156)), (0, .ref b)] [] := by
  obtain ⟨d, n, h, L9, t, hX, hR, hI⟩ := hB
  have hI0 : zInv d := hI.1
  have hLr : 0 ≤ L9 ∧ L9 ≤ 60 := hR.2.2.2.1
  refine x_aload_n hC dL_law_383 rfl ?_
  refine x_aload_n hC dL_law_384 rfl ?_
  refine x_iload_n hC dL_law_385 rfl ?_
  refine x_iconst hC dL_law_386 ?_
  refine x_iadd hC dL_law_387 ?_
  refine x_ald hC (by omega) (by omega) dL_law_388 ?_
  refine x_callC hC [.int (iZ (sx xs (i + 1)))] 1 rfl dL_law_389 (fun l => m_X7_callOff l G ca ac (cA ac 163) μ d n h L9 t hX hI0 (sx xs (i + 1)) (sx_r xs ((i + 1))) (inv_off hI0 (sx xs (i + 1))).2.1) qM_L_37 qI_X7_callOff qS_X7_callOff qi_X7 qC_X7_callOff (by decide +kernel) (by decide) (by decide) (cd_main (ca := ca) (ad := ac)) rfl (Nat.le_of_ble_eq_true rfl) (xk_C (fun μ1 hμ1 => ?_)) rfl
  refine x_aload_n hC dL_law_392 rfl ?_
  refine x_aload_n hC dL_law_393 rfl ?_
  refine x_iload_n hC dL_law_394 rfl ?_
  refine x_iconst hC dL_law_395 ?_
  refine x_iadd hC dL_law_396 ?_
  refine x_ald hC (by omega) (by omega) dL_law_397 ?_
  refine x_callR hC [.int (iZ (sx xs (i + 1)))] 1 rfl dL_law_398 (fun l => m_X8_callOff l G ca ar (cA ar 4) ν d n h L9 t hR hI0 (sx xs (i + 1)) (sx_r xs ((i + 1))) (inv_off hI0 (sx xs (i + 1))).2) qM_L_41 qI_X8_callOff qS_X8_callOff qi_X8 qC_X8_callOff (by decide +kernel) (by decide) (by decide) (rd_0 (ca := ca) (ad := ar)) rfl (Nat.le_of_ble_eq_true rfl) (xk_R (fun ν1 hν1 => ?_)) rfl
  refine x_same hC 814 rfl dL_law_401 (by decide) ?_
  exact kk _ _ (zBoth_q hμ1 hν1 (zAllI_keep hI hR.2.1.2.1 (inv_off hI0 (sx xs (i + 1))).1))

set_option maxHeartbeats 4000000 in
set_option maxRecDepth 100000 in
/-- case 6: settle -/
theorem law_settle {Γ : zG} {G : va_G} {ca : Nat → ClassId} {ac ar : Int → Nat} {b Lx : Nat} {xs : Nat → Int32} (hC : xC Γ G ca ac ar b Lx xs) (hLx : Lx ≤ 3584) {i : Int} (hi : 0 ≤ i ∧ i + 7 ≤ (Lx : Int)) {μ ν : zM} (hB : zBoth μ ν) (kk : ∀ μ' ν' : zM, zBoth μ' ν' → X Γ G ca ac ar μ' ν' 814 [(3, .int (iZ i)), (2, .ref (ar 0)), (1, .ref (ac 156)), (0, .ref b)] []) : X Γ G ca ac ar μ ν 406 [(3, .int (iZ i)), (2, .ref (ar 0)), (1, .ref (ac 156)), (0, .ref b)] [] := by
  obtain ⟨d, n, h, L9, t, hX, hR, hI⟩ := hB
  have hI0 : zInv d := hI.1
  have hLr : 0 ≤ L9 ∧ L9 ≤ 60 := hR.2.2.2.1
  refine x_aload_n hC dL_law_406 rfl ?_
  refine x_aload_n hC dL_law_407 rfl ?_
  refine x_iload_n hC dL_law_408 rfl ?_
  refine x_iconst hC dL_law_409 ?_
  refine x_iadd hC dL_law_410 ?_
  refine x_ald hC (by omega) (by omega) dL_law_411 ?_
  refine x_callC hC [.int (iZ (sx xs (i + 1)))] 1 rfl dL_law_412 (fun l => m_X7_settle l G ca ac (cA ac 163) μ d n h L9 t hX hI0 (sx xs (i + 1)) (sx_r xs ((i + 1))) (inv_settle hI0 (sx xs (i + 1))).2.1) qM_L_42 qI_X7_settle qS_X7_settle qi_X7 qC_X7_settle (by decide +kernel) (by decide) (by decide) (cd_main (ca := ca) (ad := ac)) rfl (Nat.le_of_ble_eq_true rfl) (xk_C (fun μ1 hμ1 => ?_)) rfl
  refine x_aload_n hC dL_law_415 rfl ?_
  refine x_aload_n hC dL_law_416 rfl ?_
  refine x_iload_n hC dL_law_417 rfl ?_
  refine x_iconst hC dL_law_418 ?_
  refine x_iadd hC dL_law_419 ?_
  refine x_ald hC (by omega) (by omega) dL_law_420 ?_
  refine x_callR hC [.int (iZ (sx xs (i + 1)))] 1 rfl dL_law_421 (fun l => m_X8_settle l G ca ar (cA ar 4) ν d n h L9 t hR hI0 (sx xs (i + 1)) (sx_r xs ((i + 1))) (inv_settle hI0 (sx xs (i + 1))).2) qM_L_45 qI_X8_settle qS_X8_settle qi_X8 qC_X8_settle (by decide +kernel) (by decide) (by decide) (rd_0 (ca := ca) (ad := ar)) rfl (Nat.le_of_ble_eq_true rfl) (xk_R (fun ν1 hν1 => ?_)) rfl
  refine x_same hC 814 rfl dL_law_424 (by decide) ?_
  exact kk _ _ (zBoth_q hμ1 hν1 (zAllI_keep hI hR.2.1.2.1 (inv_settle hI0 (sx xs (i + 1))).1))

set_option maxHeartbeats 4000000 in
set_option maxRecDepth 100000 in
/-- case 7: shipOf -/
theorem law_shipOf {Γ : zG} {G : va_G} {ca : Nat → ClassId} {ac ar : Int → Nat} {b Lx : Nat} {xs : Nat → Int32} (hC : xC Γ G ca ac ar b Lx xs) (hLx : Lx ≤ 3584) {i : Int} (hi : 0 ≤ i ∧ i + 7 ≤ (Lx : Int)) {μ ν : zM} (hB : zBoth μ ν) (kk : ∀ μ' ν' : zM, zBoth μ' ν' → X Γ G ca ac ar μ' ν' 814 [(3, .int (iZ i)), (2, .ref (ar 0)), (1, .ref (ac 156)), (0, .ref b)] []) : X Γ G ca ac ar μ ν 429 [(3, .int (iZ i)), (2, .ref (ar 0)), (1, .ref (ac 156)), (0, .ref b)] [] := by
  obtain ⟨d, n, h, L9, t, hX, hR, hI⟩ := hB
  have hI0 : zInv d := hI.1
  have hLr : 0 ≤ L9 ∧ L9 ≤ 60 := hR.2.2.2.1
  refine x_aload_n hC dL_law_429 rfl ?_
  refine x_aload_n hC dL_law_430 rfl ?_
  refine x_iload_n hC dL_law_431 rfl ?_
  refine x_iconst hC dL_law_432 ?_
  refine x_iadd hC dL_law_433 ?_
  refine x_ald hC (by omega) (by omega) dL_law_434 ?_
  refine x_aload_n hC dL_law_435 rfl ?_
  refine x_iload_n hC dL_law_436 rfl ?_
  refine x_iconst hC dL_law_437 ?_
  refine x_iadd hC dL_law_438 ?_
  refine x_ald hC (by omega) (by omega) dL_law_439 ?_
  refine x_callC hC [.int (iZ (sx xs (i + 1))), .int (iZ (sx xs (i + 2)))] 2 rfl dL_law_440 (fun l => m_X7_shipOf l G ca ac (cA ac 163) μ d n h L9 t hX hI0 (sx xs (i + 1)) (sx xs (i + 2)) (sx_r xs ((i + 1))) (sx_r xs ((i + 2)))) qM_L_46 qI_X7_shipOf qS_X7_shipOf qi_X7 qC_X7_shipOf (by decide +kernel) (by decide) (by decide) (cd_main (ca := ca) (ad := ac)) rfl (Nat.le_of_ble_eq_true rfl) (xk_C (fun μ1 hμ1 => ?_)) rfl
  refine x_aload_n hC dL_law_443 rfl ?_
  refine x_aload_n hC dL_law_444 rfl ?_
  refine x_iload_n hC dL_law_445 rfl ?_
  refine x_iconst hC dL_law_446 ?_
  refine x_iadd hC dL_law_447 ?_
  refine x_ald hC (by omega) (by omega) dL_law_448 ?_
  refine x_aload_n hC dL_law_449 rfl ?_
  refine x_iload_n hC dL_law_450 rfl ?_
  refine x_iconst hC dL_law_451 ?_
  refine x_iadd hC dL_law_452 ?_
  refine x_ald hC (by omega) (by omega) dL_law_453 ?_
  refine x_callR hC [.int (iZ (sx xs (i + 1))), .int (iZ (sx xs (i + 2)))] 2 rfl dL_law_454 (fun l => m_X8_shipOf l G ca ar (cA ar 4) ν d n h L9 t hR hI0 (sx xs (i + 1)) (sx xs (i + 2)) (sx_r xs ((i + 1))) (sx_r xs ((i + 2)))) qM_L_49 qI_X8_shipOf qS_X8_shipOf qi_X8 qC_X8_shipOf (by decide +kernel) (by decide) (by decide) (rd_0 (ca := ca) (ad := ar)) rfl (Nat.le_of_ble_eq_true rfl) (xk_R (fun ν1 hν1 => ?_)) rfl
  refine x_same hC 814 rfl dL_law_457 (by decide) ?_
  exact kk _ _ (⟨d, n, h, L9, t, hμ1, hν1, hI⟩)

set_option maxHeartbeats 4000000 in
set_option maxRecDepth 100000 in
/-- case 8: cargoOf -/
theorem law_cargoOf {Γ : zG} {G : va_G} {ca : Nat → ClassId} {ac ar : Int → Nat} {b Lx : Nat} {xs : Nat → Int32} (hC : xC Γ G ca ac ar b Lx xs) (hLx : Lx ≤ 3584) {i : Int} (hi : 0 ≤ i ∧ i + 7 ≤ (Lx : Int)) {μ ν : zM} (hB : zBoth μ ν) (kk : ∀ μ' ν' : zM, zBoth μ' ν' → X Γ G ca ac ar μ' ν' 814 [(3, .int (iZ i)), (2, .ref (ar 0)), (1, .ref (ac 156)), (0, .ref b)] []) : X Γ G ca ac ar μ ν 462 [(3, .int (iZ i)), (2, .ref (ar 0)), (1, .ref (ac 156)), (0, .ref b)] [] := by
  obtain ⟨d, n, h, L9, t, hX, hR, hI⟩ := hB
  have hI0 : zInv d := hI.1
  have hLr : 0 ≤ L9 ∧ L9 ≤ 60 := hR.2.2.2.1
  refine x_aload_n hC dL_law_462 rfl ?_
  refine x_aload_n hC dL_law_463 rfl ?_
  refine x_iload_n hC dL_law_464 rfl ?_
  refine x_iconst hC dL_law_465 ?_
  refine x_iadd hC dL_law_466 ?_
  refine x_ald hC (by omega) (by omega) dL_law_467 ?_
  refine x_aload_n hC dL_law_468 rfl ?_
  refine x_iload_n hC dL_law_469 rfl ?_
  refine x_iconst hC dL_law_470 ?_
  refine x_iadd hC dL_law_471 ?_
  refine x_ald hC (by omega) (by omega) dL_law_472 ?_
  refine x_callC hC [.int (iZ (sx xs (i + 1))), .int (iZ (sx xs (i + 2)))] 2 rfl dL_law_473 (fun l => m_X7_cargoOf l G ca ac (cA ac 163) μ d n h L9 t hX hI0 (sx xs (i + 1)) (sx xs (i + 2)) (sx_r xs ((i + 1))) (sx_r xs ((i + 2)))) qM_L_50 qI_X7_cargoOf qS_X7_cargoOf qi_X7 qC_X7_cargoOf (by decide +kernel) (by decide) (by decide) (cd_main (ca := ca) (ad := ac)) rfl (Nat.le_of_ble_eq_true rfl) (xk_C (fun μ1 hμ1 => ?_)) rfl
  refine x_aload_n hC dL_law_476 rfl ?_
  refine x_aload_n hC dL_law_477 rfl ?_
  refine x_iload_n hC dL_law_478 rfl ?_
  refine x_iconst hC dL_law_479 ?_
  refine x_iadd hC dL_law_480 ?_
  refine x_ald hC (by omega) (by omega) dL_law_481 ?_
  refine x_aload_n hC dL_law_482 rfl ?_
  refine x_iload_n hC dL_law_483 rfl ?_
  refine x_iconst hC dL_law_484 ?_
  refine x_iadd hC dL_law_485 ?_
  refine x_ald hC (by omega) (by omega) dL_law_486 ?_
  refine x_callR hC [.int (iZ (sx xs (i + 1))), .int (iZ (sx xs (i + 2)))] 2 rfl dL_law_487 (fun l => m_X8_cargoOf l G ca ar (cA ar 4) ν d n h L9 t hR hI0 (sx xs (i + 1)) (sx xs (i + 2)) (sx_r xs ((i + 1))) (sx_r xs ((i + 2)))) qM_L_53 qI_X8_cargoOf qS_X8_cargoOf qi_X8 qC_X8_cargoOf (by decide +kernel) (by decide) (by decide) (rd_0 (ca := ca) (ad := ar)) rfl (Nat.le_of_ble_eq_true rfl) (xk_R (fun ν1 hν1 => ?_)) rfl
  refine x_same hC 814 rfl dL_law_490 (by decide) ?_
  exact kk _ _ (⟨d, n, h, L9, t, hμ1, hν1, hI⟩)

set_option maxHeartbeats 4000000 in
set_option maxRecDepth 100000 in
/-- case 9: fixtureOf -/
theorem law_fixtureOf {Γ : zG} {G : va_G} {ca : Nat → ClassId} {ac ar : Int → Nat} {b Lx : Nat} {xs : Nat → Int32} (hC : xC Γ G ca ac ar b Lx xs) (hLx : Lx ≤ 3584) {i : Int} (hi : 0 ≤ i ∧ i + 7 ≤ (Lx : Int)) {μ ν : zM} (hB : zBoth μ ν) (kk : ∀ μ' ν' : zM, zBoth μ' ν' → X Γ G ca ac ar μ' ν' 814 [(3, .int (iZ i)), (2, .ref (ar 0)), (1, .ref (ac 156)), (0, .ref b)] []) : X Γ G ca ac ar μ ν 495 [(3, .int (iZ i)), (2, .ref (ar 0)), (1, .ref (ac 156)), (0, .ref b)] [] := by
  obtain ⟨d, n, h, L9, t, hX, hR, hI⟩ := hB
  have hI0 : zInv d := hI.1
  have hLr : 0 ≤ L9 ∧ L9 ≤ 60 := hR.2.2.2.1
  refine x_aload_n hC dL_law_495 rfl ?_
  refine x_aload_n hC dL_law_496 rfl ?_
  refine x_iload_n hC dL_law_497 rfl ?_
  refine x_iconst hC dL_law_498 ?_
  refine x_iadd hC dL_law_499 ?_
  refine x_ald hC (by omega) (by omega) dL_law_500 ?_
  refine x_aload_n hC dL_law_501 rfl ?_
  refine x_iload_n hC dL_law_502 rfl ?_
  refine x_iconst hC dL_law_503 ?_
  refine x_iadd hC dL_law_504 ?_
  refine x_ald hC (by omega) (by omega) dL_law_505 ?_
  refine x_aload_n hC dL_law_506 rfl ?_
  refine x_iload_n hC dL_law_507 rfl ?_
  refine x_iconst hC dL_law_508 ?_
  refine x_iadd hC dL_law_509 ?_
  refine x_ald hC (by omega) (by omega) dL_law_510 ?_
  refine x_callC hC [.int (iZ (sx xs (i + 1))), .int (iZ (sx xs (i + 2))), .int (iZ (sx xs (i + 3)))] 3 rfl dL_law_511 (fun l => m_X7_fixtureOf l G ca ac (cA ac 163) μ d n h L9 t hX hI0 (sx xs (i + 1)) (sx xs (i + 2)) (sx xs (i + 3)) (sx_r xs ((i + 1))) (sx_r xs ((i + 2))) (sx_r xs ((i + 3)))) qM_L_54 qI_X7_fixtureOf qS_X7_fixtureOf qi_X7 qC_X7_fixtureOf (by decide +kernel) (by decide) (by decide) (cd_main (ca := ca) (ad := ac)) rfl (Nat.le_of_ble_eq_true rfl) (xk_C (fun μ1 hμ1 => ?_)) rfl
  refine x_aload_n hC dL_law_514 rfl ?_
  refine x_aload_n hC dL_law_515 rfl ?_
  refine x_iload_n hC dL_law_516 rfl ?_
  refine x_iconst hC dL_law_517 ?_
  refine x_iadd hC dL_law_518 ?_
  refine x_ald hC (by omega) (by omega) dL_law_519 ?_
  refine x_aload_n hC dL_law_520 rfl ?_
  refine x_iload_n hC dL_law_521 rfl ?_
  refine x_iconst hC dL_law_522 ?_
  refine x_iadd hC dL_law_523 ?_
  refine x_ald hC (by omega) (by omega) dL_law_524 ?_
  refine x_aload_n hC dL_law_525 rfl ?_
  refine x_iload_n hC dL_law_526 rfl ?_
  refine x_iconst hC dL_law_527 ?_
  refine x_iadd hC dL_law_528 ?_
  refine x_ald hC (by omega) (by omega) dL_law_529 ?_
  refine x_callR hC [.int (iZ (sx xs (i + 1))), .int (iZ (sx xs (i + 2))), .int (iZ (sx xs (i + 3)))] 3 rfl dL_law_530 (fun l => m_X8_fixtureOf l G ca ar (cA ar 4) ν d n h L9 t hR hI0 (sx xs (i + 1)) (sx xs (i + 2)) (sx xs (i + 3)) (sx_r xs ((i + 1))) (sx_r xs ((i + 2))) (sx_r xs ((i + 3)))) qM_L_57 qI_X8_fixtureOf qS_X8_fixtureOf qi_X8 qC_X8_fixtureOf (by decide +kernel) (by decide) (by decide) (rd_0 (ca := ca) (ad := ar)) rfl (Nat.le_of_ble_eq_true rfl) (xk_R (fun ν1 hν1 => ?_)) rfl
  refine x_same hC 814 rfl dL_law_533 (by decide) ?_
  exact kk _ _ (⟨d, n, h, L9, t, hμ1, hν1, hI⟩)

set_option maxHeartbeats 4000000 in
set_option maxRecDepth 100000 in
/-- case 10: distance -/
theorem law_distance {Γ : zG} {G : va_G} {ca : Nat → ClassId} {ac ar : Int → Nat} {b Lx : Nat} {xs : Nat → Int32} (hC : xC Γ G ca ac ar b Lx xs) (hLx : Lx ≤ 3584) {i : Int} (hi : 0 ≤ i ∧ i + 7 ≤ (Lx : Int)) {μ ν : zM} (hB : zBoth μ ν) (kk : ∀ μ' ν' : zM, zBoth μ' ν' → X Γ G ca ac ar μ' ν' 814 [(3, .int (iZ i)), (2, .ref (ar 0)), (1, .ref (ac 156)), (0, .ref b)] []) : X Γ G ca ac ar μ ν 538 [(3, .int (iZ i)), (2, .ref (ar 0)), (1, .ref (ac 156)), (0, .ref b)] [] := by
  obtain ⟨d, n, h, L9, t, hX, hR, hI⟩ := hB
  have hI0 : zInv d := hI.1
  have hLr : 0 ≤ L9 ∧ L9 ≤ 60 := hR.2.2.2.1
  refine x_aload_n hC dL_law_538 rfl ?_
  refine x_aload_n hC dL_law_539 rfl ?_
  refine x_iload_n hC dL_law_540 rfl ?_
  refine x_iconst hC dL_law_541 ?_
  refine x_iadd hC dL_law_542 ?_
  refine x_ald hC (by omega) (by omega) dL_law_543 ?_
  refine x_aload_n hC dL_law_544 rfl ?_
  refine x_iload_n hC dL_law_545 rfl ?_
  refine x_iconst hC dL_law_546 ?_
  refine x_iadd hC dL_law_547 ?_
  refine x_ald hC (by omega) (by omega) dL_law_548 ?_
  refine x_callC hC [.int (iZ (sx xs (i + 1))), .int (iZ (sx xs (i + 2)))] 2 rfl dL_law_549 (fun l => m_X7_distance l G ca ac (cA ac 163) μ d n h L9 t hX hI0 (sx xs (i + 1)) (sx xs (i + 2)) (sx_r xs ((i + 1))) (sx_r xs ((i + 2)))) qM_L_58 qI_X7_distance qS_X7_distance qi_X7 qC_X7_distance (by decide +kernel) (by decide) (by decide) (cd_main (ca := ca) (ad := ac)) rfl (Nat.le_of_ble_eq_true rfl) (xk_C (fun μ1 hμ1 => ?_)) rfl
  refine x_aload_n hC dL_law_552 rfl ?_
  refine x_aload_n hC dL_law_553 rfl ?_
  refine x_iload_n hC dL_law_554 rfl ?_
  refine x_iconst hC dL_law_555 ?_
  refine x_iadd hC dL_law_556 ?_
  refine x_ald hC (by omega) (by omega) dL_law_557 ?_
  refine x_aload_n hC dL_law_558 rfl ?_
  refine x_iload_n hC dL_law_559 rfl ?_
  refine x_iconst hC dL_law_560 ?_
  refine x_iadd hC dL_law_561 ?_
  refine x_ald hC (by omega) (by omega) dL_law_562 ?_
  refine x_callR hC [.int (iZ (sx xs (i + 1))), .int (iZ (sx xs (i + 2)))] 2 rfl dL_law_563 (fun l => m_X8_distance l G ca ar (cA ar 4) ν d n h L9 t hR hI0 (sx xs (i + 1)) (sx xs (i + 2)) (sx_r xs ((i + 1))) (sx_r xs ((i + 2)))) qM_L_61 qI_X8_distance qS_X8_distance qi_X8 qC_X8_distance (by decide +kernel) (by decide) (by decide) (rd_0 (ca := ca) (ad := ar)) rfl (Nat.le_of_ble_eq_true rfl) (xk_R (fun ν1 hν1 => ?_)) rfl
  refine x_same hC 814 rfl dL_law_566 (by decide) ?_
  exact kk _ _ (⟨d, n, h, L9, t, hμ1, hν1, hI⟩)

set_option maxHeartbeats 4000000 in
set_option maxRecDepth 100000 in
/-- case 11: voyage -/
theorem law_voyage {Γ : zG} {G : va_G} {ca : Nat → ClassId} {ac ar : Int → Nat} {b Lx : Nat} {xs : Nat → Int32} (hC : xC Γ G ca ac ar b Lx xs) (hLx : Lx ≤ 3584) {i : Int} (hi : 0 ≤ i ∧ i + 7 ≤ (Lx : Int)) {μ ν : zM} (hB : zBoth μ ν) (kk : ∀ μ' ν' : zM, zBoth μ' ν' → X Γ G ca ac ar μ' ν' 814 [(3, .int (iZ i)), (2, .ref (ar 0)), (1, .ref (ac 156)), (0, .ref b)] []) : X Γ G ca ac ar μ ν 571 [(3, .int (iZ i)), (2, .ref (ar 0)), (1, .ref (ac 156)), (0, .ref b)] [] := by
  obtain ⟨d, n, h, L9, t, hX, hR, hI⟩ := hB
  have hI0 : zInv d := hI.1
  have hLr : 0 ≤ L9 ∧ L9 ≤ 60 := hR.2.2.2.1
  refine x_aload_n hC dL_law_571 rfl ?_
  refine x_aload_n hC dL_law_572 rfl ?_
  refine x_iload_n hC dL_law_573 rfl ?_
  refine x_iconst hC dL_law_574 ?_
  refine x_iadd hC dL_law_575 ?_
  refine x_ald hC (by omega) (by omega) dL_law_576 ?_
  refine x_aload_n hC dL_law_577 rfl ?_
  refine x_iload_n hC dL_law_578 rfl ?_
  refine x_iconst hC dL_law_579 ?_
  refine x_iadd hC dL_law_580 ?_
  refine x_ald hC (by omega) (by omega) dL_law_581 ?_
  refine x_aload_n hC dL_law_582 rfl ?_
  refine x_iload_n hC dL_law_583 rfl ?_
  refine x_iconst hC dL_law_584 ?_
  refine x_iadd hC dL_law_585 ?_
  refine x_ald hC (by omega) (by omega) dL_law_586 ?_
  refine x_callC hC [.int (iZ (sx xs (i + 1))), .int (iZ (sx xs (i + 2))), .int (iZ (sx xs (i + 3)))] 3 rfl dL_law_587 (fun l => m_X7_voyage l G ca ac (cA ac 163) μ d n h L9 t hX hI0 (sx xs (i + 1)) (sx xs (i + 2)) (sx xs (i + 3)) (sx_r xs ((i + 1))) (sx_r xs ((i + 2))) (sx_r xs ((i + 3)))) qM_L_62 qI_X7_voyage qS_X7_voyage qi_X7 qC_X7_voyage (by decide +kernel) (by decide) (by decide) (cd_main (ca := ca) (ad := ac)) rfl (Nat.le_of_ble_eq_true rfl) (xk_C (fun μ1 hμ1 => ?_)) rfl
  refine x_aload_n hC dL_law_590 rfl ?_
  refine x_aload_n hC dL_law_591 rfl ?_
  refine x_iload_n hC dL_law_592 rfl ?_
  refine x_iconst hC dL_law_593 ?_
  refine x_iadd hC dL_law_594 ?_
  refine x_ald hC (by omega) (by omega) dL_law_595 ?_
  refine x_aload_n hC dL_law_596 rfl ?_
  refine x_iload_n hC dL_law_597 rfl ?_
  refine x_iconst hC dL_law_598 ?_
  refine x_iadd hC dL_law_599 ?_
  refine x_ald hC (by omega) (by omega) dL_law_600 ?_
  refine x_aload_n hC dL_law_601 rfl ?_
  refine x_iload_n hC dL_law_602 rfl ?_
  refine x_iconst hC dL_law_603 ?_
  refine x_iadd hC dL_law_604 ?_
  refine x_ald hC (by omega) (by omega) dL_law_605 ?_
  refine x_callR hC [.int (iZ (sx xs (i + 1))), .int (iZ (sx xs (i + 2))), .int (iZ (sx xs (i + 3)))] 3 rfl dL_law_606 (fun l => m_X8_voyage l G ca ar (cA ar 4) ν d n h L9 t hR hI0 (sx xs (i + 1)) (sx xs (i + 2)) (sx xs (i + 3)) (sx_r xs ((i + 1))) (sx_r xs ((i + 2))) (sx_r xs ((i + 3)))) qM_L_65 qI_X8_voyage qS_X8_voyage qi_X8 qC_X8_voyage (by decide +kernel) (by decide) (by decide) (rd_0 (ca := ca) (ad := ar)) rfl (Nat.le_of_ble_eq_true rfl) (xk_R (fun ν1 hν1 => ?_)) rfl
  refine x_same hC 814 rfl dL_law_609 (by decide) ?_
  exact kk _ _ (⟨d, n, h, L9, t, hμ1, hν1, hI⟩)

set_option maxHeartbeats 4000000 in
set_option maxRecDepth 100000 in
/-- case 12: bestCargo -/
theorem law_bestCargo {Γ : zG} {G : va_G} {ca : Nat → ClassId} {ac ar : Int → Nat} {b Lx : Nat} {xs : Nat → Int32} (hC : xC Γ G ca ac ar b Lx xs) (hLx : Lx ≤ 3584) {i : Int} (hi : 0 ≤ i ∧ i + 7 ≤ (Lx : Int)) {μ ν : zM} (hB : zBoth μ ν) (kk : ∀ μ' ν' : zM, zBoth μ' ν' → X Γ G ca ac ar μ' ν' 814 [(3, .int (iZ i)), (2, .ref (ar 0)), (1, .ref (ac 156)), (0, .ref b)] []) : X Γ G ca ac ar μ ν 614 [(3, .int (iZ i)), (2, .ref (ar 0)), (1, .ref (ac 156)), (0, .ref b)] [] := by
  obtain ⟨d, n, h, L9, t, hX, hR, hI⟩ := hB
  have hI0 : zInv d := hI.1
  have hLr : 0 ≤ L9 ∧ L9 ≤ 60 := hR.2.2.2.1
  refine x_aload_n hC dL_law_614 rfl ?_
  refine x_aload_n hC dL_law_615 rfl ?_
  refine x_iload_n hC dL_law_616 rfl ?_
  refine x_iconst hC dL_law_617 ?_
  refine x_iadd hC dL_law_618 ?_
  refine x_ald hC (by omega) (by omega) dL_law_619 ?_
  refine x_callC hC [.int (iZ (sx xs (i + 1)))] 1 rfl dL_law_620 (fun l => m_X7_bestCargo l G ca ac (cA ac 163) μ d n h L9 t hX hI0 (sx xs (i + 1)) (sx_r xs ((i + 1)))) qM_L_66 qI_X7_bestCargo qS_X7_bestCargo qi_X7 qC_X7_bestCargo (by decide +kernel) (by decide) (by decide) (cd_main (ca := ca) (ad := ac)) rfl (Nat.le_of_ble_eq_true rfl) (xk_C (fun μ1 hμ1 => ?_)) rfl
  refine x_aload_n hC dL_law_623 rfl ?_
  refine x_aload_n hC dL_law_624 rfl ?_
  refine x_iload_n hC dL_law_625 rfl ?_
  refine x_iconst hC dL_law_626 ?_
  refine x_iadd hC dL_law_627 ?_
  refine x_ald hC (by omega) (by omega) dL_law_628 ?_
  refine x_callR hC [.int (iZ (sx xs (i + 1)))] 1 rfl dL_law_629 (fun l => m_X8_bestCargo l G ca ar (cA ar 4) ν d n h L9 t hR hI0 (sx xs (i + 1)) (sx_r xs ((i + 1)))) qM_L_69 qI_X8_bestCargo qS_X8_bestCargo qi_X8 qC_X8_bestCargo (by decide +kernel) (by decide) (by decide) (rd_0 (ca := ca) (ad := ar)) rfl (Nat.le_of_ble_eq_true rfl) (xk_R (fun ν1 hν1 => ?_)) rfl
  refine x_same hC 814 (congrArg iZ (bestC_e _ _ _ _ _)) dL_law_632 (by decide) ?_
  exact kk _ _ (⟨d, n, h, L9, t, hμ1, hν1, hI⟩)

set_option maxHeartbeats 4000000 in
set_option maxRecDepth 100000 in
/-- case 13: bestShip -/
theorem law_bestShip {Γ : zG} {G : va_G} {ca : Nat → ClassId} {ac ar : Int → Nat} {b Lx : Nat} {xs : Nat → Int32} (hC : xC Γ G ca ac ar b Lx xs) (hLx : Lx ≤ 3584) {i : Int} (hi : 0 ≤ i ∧ i + 7 ≤ (Lx : Int)) {μ ν : zM} (hB : zBoth μ ν) (kk : ∀ μ' ν' : zM, zBoth μ' ν' → X Γ G ca ac ar μ' ν' 814 [(3, .int (iZ i)), (2, .ref (ar 0)), (1, .ref (ac 156)), (0, .ref b)] []) : X Γ G ca ac ar μ ν 637 [(3, .int (iZ i)), (2, .ref (ar 0)), (1, .ref (ac 156)), (0, .ref b)] [] := by
  obtain ⟨d, n, h, L9, t, hX, hR, hI⟩ := hB
  have hI0 : zInv d := hI.1
  have hLr : 0 ≤ L9 ∧ L9 ≤ 60 := hR.2.2.2.1
  refine x_aload_n hC dL_law_637 rfl ?_
  refine x_aload_n hC dL_law_638 rfl ?_
  refine x_iload_n hC dL_law_639 rfl ?_
  refine x_iconst hC dL_law_640 ?_
  refine x_iadd hC dL_law_641 ?_
  refine x_ald hC (by omega) (by omega) dL_law_642 ?_
  refine x_callC hC [.int (iZ (sx xs (i + 1)))] 1 rfl dL_law_643 (fun l => m_X7_bestShip l G ca ac (cA ac 163) μ d n h L9 t hX hI0 (sx xs (i + 1)) (sx_r xs ((i + 1)))) qM_L_70 qI_X7_bestShip qS_X7_bestShip qi_X7 qC_X7_bestShip (by decide +kernel) (by decide) (by decide) (cd_main (ca := ca) (ad := ac)) rfl (Nat.le_of_ble_eq_true rfl) (xk_C (fun μ1 hμ1 => ?_)) rfl
  refine x_aload_n hC dL_law_646 rfl ?_
  refine x_aload_n hC dL_law_647 rfl ?_
  refine x_iload_n hC dL_law_648 rfl ?_
  refine x_iconst hC dL_law_649 ?_
  refine x_iadd hC dL_law_650 ?_
  refine x_ald hC (by omega) (by omega) dL_law_651 ?_
  refine x_callR hC [.int (iZ (sx xs (i + 1)))] 1 rfl dL_law_652 (fun l => m_X8_bestShip l G ca ar (cA ar 4) ν d n h L9 t hR hI0 (sx xs (i + 1)) (sx_r xs ((i + 1)))) qM_L_73 qI_X8_bestShip qS_X8_bestShip qi_X8 qC_X8_bestShip (by decide +kernel) (by decide) (by decide) (rd_0 (ca := ca) (ad := ar)) rfl (Nat.le_of_ble_eq_true rfl) (xk_R (fun ν1 hν1 => ?_)) rfl
  refine x_same hC 814 (congrArg iZ (bestS_e _ _ _ _ _)) dL_law_655 (by decide) ?_
  exact kk _ _ (⟨d, n, h, L9, t, hμ1, hν1, hI⟩)

set_option maxHeartbeats 4000000 in
set_option maxRecDepth 100000 in
/-- case 14: plan -/
theorem law_plan {Γ : zG} {G : va_G} {ca : Nat → ClassId} {ac ar : Int → Nat} {b Lx : Nat} {xs : Nat → Int32} (hC : xC Γ G ca ac ar b Lx xs) (hLx : Lx ≤ 3584) {i : Int} (hi : 0 ≤ i ∧ i + 7 ≤ (Lx : Int)) {μ ν : zM} (hB : zBoth μ ν) (kk : ∀ μ' ν' : zM, zBoth μ' ν' → X Γ G ca ac ar μ' ν' 814 [(3, .int (iZ i)), (2, .ref (ar 0)), (1, .ref (ac 156)), (0, .ref b)] []) : X Γ G ca ac ar μ ν 660 [(3, .int (iZ i)), (2, .ref (ar 0)), (1, .ref (ac 156)), (0, .ref b)] [] := by
  obtain ⟨d, n, h, L9, t, hX, hR, hI⟩ := hB
  have hI0 : zInv d := hI.1
  have hLr : 0 ≤ L9 ∧ L9 ≤ 60 := hR.2.2.2.1
  refine x_aload_n hC dL_law_660 rfl ?_
  refine x_aload_n hC dL_law_661 rfl ?_
  refine x_iload_n hC dL_law_662 rfl ?_
  refine x_iconst hC dL_law_663 ?_
  refine x_iadd hC dL_law_664 ?_
  refine x_ald hC (by omega) (by omega) dL_law_665 ?_
  refine x_callC hC [.int (iZ (sx xs (i + 1)))] 1 rfl dL_law_666 (fun l => m_X7_plan l G ca ac (cA ac 163) μ d n h L9 t hX hI0 zOb (sx xs (i + 1)) (sx_r xs ((i + 1)))) qM_L_74 qI_X7_plan qS_X7_plan qi_X7 qC_X7_plan (by decide +kernel) (by decide) (by decide) (cd_main (ca := ca) (ad := ac)) rfl (Nat.le_of_ble_eq_true rfl) (xk_C (fun μ1 hμ1 => ?_)) rfl
  refine x_aload_n hC dL_law_669 rfl ?_
  refine x_aload_n hC dL_law_670 rfl ?_
  refine x_iload_n hC dL_law_671 rfl ?_
  refine x_iconst hC dL_law_672 ?_
  refine x_iadd hC dL_law_673 ?_
  refine x_ald hC (by omega) (by omega) dL_law_674 ?_
  refine x_callR hC [.int (iZ (sx xs (i + 1)))] 1 rfl dL_law_675 (fun l => m_X8_plan l G ca ar (cA ar 4) ν d n h L9 t hR hI0 zOb (sx xs (i + 1)) (sx_r xs ((i + 1)))) qM_L_77 qI_X8_plan qS_X8_plan qi_X8 qC_X8_plan (by decide +kernel) (by decide) (by decide) (rd_0 (ca := ca) (ad := ar)) rfl (Nat.le_of_ble_eq_true rfl) (xk_R (fun ν1 hν1 => ?_)) rfl
  refine x_same hC 814 (plan_e _ _) dL_law_678 (by decide) ?_
  exact kk _ _ (⟨d, n, h, L9, t, hμ1, hν1, hI⟩)

set_option maxHeartbeats 4000000 in
set_option maxRecDepth 100000 in
/-- case 15: slack -/
theorem law_slack {Γ : zG} {G : va_G} {ca : Nat → ClassId} {ac ar : Int → Nat} {b Lx : Nat} {xs : Nat → Int32} (hC : xC Γ G ca ac ar b Lx xs) (hLx : Lx ≤ 3584) {i : Int} (hi : 0 ≤ i ∧ i + 7 ≤ (Lx : Int)) {μ ν : zM} (hB : zBoth μ ν) (kk : ∀ μ' ν' : zM, zBoth μ' ν' → X Γ G ca ac ar μ' ν' 814 [(3, .int (iZ i)), (2, .ref (ar 0)), (1, .ref (ac 156)), (0, .ref b)] []) : X Γ G ca ac ar μ ν 683 [(3, .int (iZ i)), (2, .ref (ar 0)), (1, .ref (ac 156)), (0, .ref b)] [] := by
  obtain ⟨d, n, h, L9, t, hX, hR, hI⟩ := hB
  have hI0 : zInv d := hI.1
  have hLr : 0 ≤ L9 ∧ L9 ≤ 60 := hR.2.2.2.1
  refine x_aload_n hC dL_law_683 rfl ?_
  refine x_aload_n hC dL_law_684 rfl ?_
  refine x_iload_n hC dL_law_685 rfl ?_
  refine x_iconst hC dL_law_686 ?_
  refine x_iadd hC dL_law_687 ?_
  refine x_ald hC (by omega) (by omega) dL_law_688 ?_
  refine x_callC hC [.int (iZ (sx xs (i + 1)))] 1 rfl dL_law_689 (fun l => m_X7_slack l G ca ac (cA ac 163) μ d n h L9 t hX hI0 (sx xs (i + 1)) (sx_r xs ((i + 1)))) qM_L_78 qI_X7_slack qS_X7_slack qi_X7 qC_X7_slack (by decide +kernel) (by decide) (by decide) (cd_main (ca := ca) (ad := ac)) rfl (Nat.le_of_ble_eq_true rfl) (xk_C (fun μ1 hμ1 => ?_)) rfl
  refine x_aload_n hC dL_law_692 rfl ?_
  refine x_aload_n hC dL_law_693 rfl ?_
  refine x_iload_n hC dL_law_694 rfl ?_
  refine x_iconst hC dL_law_695 ?_
  refine x_iadd hC dL_law_696 ?_
  refine x_ald hC (by omega) (by omega) dL_law_697 ?_
  refine x_callR hC [.int (iZ (sx xs (i + 1)))] 1 rfl dL_law_698 (fun l => m_X8_slack l G ca ar (cA ar 4) ν d n h L9 t hR hI0 (sx xs (i + 1)) (sx_r xs ((i + 1)))) qM_L_81 qI_X8_slack qS_X8_slack qi_X8 qC_X8_slack (by decide +kernel) (by decide) (by decide) (rd_0 (ca := ca) (ad := ar)) rfl (Nat.le_of_ble_eq_true rfl) (xk_R (fun ν1 hν1 => ?_)) rfl
  refine x_same hC 814 rfl dL_law_701 (by decide) ?_
  exact kk _ _ (⟨d, n, h, L9, t, hμ1, hν1, hI⟩)

set_option maxHeartbeats 4000000 in
set_option maxRecDepth 100000 in
/-- case 16: count -/
theorem law_count {Γ : zG} {G : va_G} {ca : Nat → ClassId} {ac ar : Int → Nat} {b Lx : Nat} {xs : Nat → Int32} (hC : xC Γ G ca ac ar b Lx xs) (hLx : Lx ≤ 3584) {i : Int} (hi : 0 ≤ i ∧ i + 7 ≤ (Lx : Int)) {μ ν : zM} (hB : zBoth μ ν) (kk : ∀ μ' ν' : zM, zBoth μ' ν' → X Γ G ca ac ar μ' ν' 814 [(3, .int (iZ i)), (2, .ref (ar 0)), (1, .ref (ac 156)), (0, .ref b)] []) : X Γ G ca ac ar μ ν 706 [(3, .int (iZ i)), (2, .ref (ar 0)), (1, .ref (ac 156)), (0, .ref b)] [] := by
  obtain ⟨d, n, h, L9, t, hX, hR, hI⟩ := hB
  have hI0 : zInv d := hI.1
  have hLr : 0 ≤ L9 ∧ L9 ≤ 60 := hR.2.2.2.1
  refine x_aload_n hC dL_law_706 rfl ?_
  refine x_aload_n hC dL_law_707 rfl ?_
  refine x_iload_n hC dL_law_708 rfl ?_
  refine x_iconst hC dL_law_709 ?_
  refine x_iadd hC dL_law_710 ?_
  refine x_ald hC (by omega) (by omega) dL_law_711 ?_
  refine x_callC hC [.int (iZ (sx xs (i + 1)))] 1 rfl dL_law_712 (fun l => m_X7_count l G ca ac (cA ac 163) μ d n h L9 t hX hI0 (sx xs (i + 1)) (sx_r xs ((i + 1)))) qM_L_82 qI_X7_count qS_X7_count qi_X7 qC_X7_count (by decide +kernel) (by decide) (by decide) (cd_main (ca := ca) (ad := ac)) rfl (Nat.le_of_ble_eq_true rfl) (xk_C (fun μ1 hμ1 => ?_)) rfl
  refine x_aload_n hC dL_law_715 rfl ?_
  refine x_aload_n hC dL_law_716 rfl ?_
  refine x_iload_n hC dL_law_717 rfl ?_
  refine x_iconst hC dL_law_718 ?_
  refine x_iadd hC dL_law_719 ?_
  refine x_ald hC (by omega) (by omega) dL_law_720 ?_
  refine x_callR hC [.int (iZ (sx xs (i + 1)))] 1 rfl dL_law_721 (fun l => m_X8_count l G ca ar (cA ar 4) ν d n h L9 t hR hI0 (sx xs (i + 1)) (sx_r xs ((i + 1)))) qM_L_85 qI_X8_count qS_X8_count qi_X8 qC_X8_count (by decide +kernel) (by decide) (by decide) (rd_0 (ca := ca) (ad := ar)) rfl (Nat.le_of_ble_eq_true rfl) (xk_R (fun ν1 hν1 => ?_)) rfl
  refine x_same hC 814 rfl dL_law_724 (by decide) ?_
  exact kk _ _ (⟨d, n, h, L9, t, hμ1, hν1, hI⟩)

set_option maxHeartbeats 4000000 in
set_option maxRecDepth 100000 in
/-- case 17: undo -/
theorem law_undo {Γ : zG} {G : va_G} {ca : Nat → ClassId} {ac ar : Int → Nat} {b Lx : Nat} {xs : Nat → Int32} (hC : xC Γ G ca ac ar b Lx xs) (hLx : Lx ≤ 3584) {i : Int} (hi : 0 ≤ i ∧ i + 7 ≤ (Lx : Int)) {μ ν : zM} (hB : zBoth μ ν) (kk : ∀ μ' ν' : zM, zBoth μ' ν' → X Γ G ca ac ar μ' ν' 814 [(3, .int (iZ i)), (2, .ref (ar 0)), (1, .ref (ac 156)), (0, .ref b)] []) : X Γ G ca ac ar μ ν 729 [(3, .int (iZ i)), (2, .ref (ar 0)), (1, .ref (ac 156)), (0, .ref b)] [] := by
  obtain ⟨d, n, h, L9, t, hX, hR, hI⟩ := hB
  have hI0 : zInv d := hI.1
  have hLr : 0 ≤ L9 ∧ L9 ≤ 60 := hR.2.2.2.1
  refine x_aload_n hC dL_law_729 rfl ?_
  refine x_callC hC [] 0 rfl dL_law_730 (fun l => m_X7_undo l G ca ac (cA ac 163) μ d n h L9 t hX) qM_L_86 qI_X7_undo qS_X7_undo qi_X7 qC_X7_undo (by decide +kernel) (by decide) (by decide) (cd_main (ca := ca) (ad := ac)) rfl (Nat.le_of_ble_eq_true rfl) (xk_C (fun μ1 hμ1 => ?_)) rfl
  refine x_aload_n hC dL_law_733 rfl ?_
  refine x_callR hC [] 0 rfl dL_law_734 (fun l => m_X8_undo l G ca ar (cA ar 4) ν d n h L9 t hR) qM_L_90 qI_X8_undo qS_X8_undo qi_X8 qC_X8_undo (by decide +kernel) (by decide) (by decide) (rd_0 (ca := ca) (ad := ar)) rfl (Nat.le_of_ble_eq_true rfl) (xk_R (fun ν1 hν1 => ?_)) rfl
  refine x_same hC 814 rfl dL_law_737 (by decide) ?_
  exact kk _ _ (zBoth_q hμ1 hν1 (zAllI_undo hI))

set_option maxHeartbeats 4000000 in
set_option maxRecDepth 100000 in
/-- case 18: type -/
theorem law_type {Γ : zG} {G : va_G} {ca : Nat → ClassId} {ac ar : Int → Nat} {b Lx : Nat} {xs : Nat → Int32} (hC : xC Γ G ca ac ar b Lx xs) (hLx : Lx ≤ 3584) {i : Int} (hi : 0 ≤ i ∧ i + 7 ≤ (Lx : Int)) {μ ν : zM} (hB : zBoth μ ν) (kk : ∀ μ' ν' : zM, zBoth μ' ν' → X Γ G ca ac ar μ' ν' 814 [(3, .int (iZ i)), (2, .ref (ar 0)), (1, .ref (ac 156)), (0, .ref b)] []) : X Γ G ca ac ar μ ν 742 [(3, .int (iZ i)), (2, .ref (ar 0)), (1, .ref (ac 156)), (0, .ref b)] [] := by
  obtain ⟨d, n, h, L9, t, hX, hR, hI⟩ := hB
  have hI0 : zInv d := hI.1
  have hLr : 0 ≤ L9 ∧ L9 ≤ 60 := hR.2.2.2.1
  refine x_aload_n hC dL_law_742 rfl ?_
  refine x_aload_n hC dL_law_743 rfl ?_
  refine x_iload_n hC dL_law_744 rfl ?_
  refine x_iconst hC dL_law_745 ?_
  refine x_iadd hC dL_law_746 ?_
  refine x_ald hC (by omega) (by omega) dL_law_747 ?_
  refine x_callC hC [.int (iZ (sx xs (i + 1)))] 1 rfl dL_law_748 (fun l => m_X7_type l G ca ac (cA ac 163) μ d n h L9 t hX (sx xs (i + 1)) (sx_r xs ((i + 1)))) qM_L_91 qI_X7_type qS_X7_type qi_X7 qC_X7_type (by decide +kernel) (by decide) (by decide) (cd_main (ca := ca) (ad := ac)) rfl (Nat.le_of_ble_eq_true rfl) (xk_C (fun μ1 hμ1 => ?_)) rfl
  refine x_aload_n hC dL_law_751 rfl ?_
  refine x_aload_n hC dL_law_752 rfl ?_
  refine x_iload_n hC dL_law_753 rfl ?_
  refine x_iconst hC dL_law_754 ?_
  refine x_iadd hC dL_law_755 ?_
  refine x_ald hC (by omega) (by omega) dL_law_756 ?_
  refine x_callR hC [.int (iZ (sx xs (i + 1)))] 1 rfl dL_law_757 (fun l => m_X8_type l G ca ar (cA ar 4) ν d n h L9 t hR (sx xs (i + 1)) (sx_r xs ((i + 1)))) qM_L_94 qI_X8_type qS_X8_type qi_X8 qC_X8_type (by decide +kernel) (by decide) (by decide) (rd_0 (ca := ca) (ad := ar)) rfl (Nat.le_of_ble_eq_true rfl) (xk_R (fun ν1 hν1 => ?_)) rfl
  refine x_same hC 814 rfl dL_law_760 (by decide) ?_
  exact kk _ _ (⟨d, n, h, _, _, hμ1, hν1, hI⟩)

set_option maxHeartbeats 4000000 in
set_option maxRecDepth 100000 in
/-- case 19: clearText -/
theorem law_clearText {Γ : zG} {G : va_G} {ca : Nat → ClassId} {ac ar : Int → Nat} {b Lx : Nat} {xs : Nat → Int32} (hC : xC Γ G ca ac ar b Lx xs) (hLx : Lx ≤ 3584) {i : Int} (hi : 0 ≤ i ∧ i + 7 ≤ (Lx : Int)) {μ ν : zM} (hB : zBoth μ ν) (kk : ∀ μ' ν' : zM, zBoth μ' ν' → X Γ G ca ac ar μ' ν' 814 [(3, .int (iZ i)), (2, .ref (ar 0)), (1, .ref (ac 156)), (0, .ref b)] []) : X Γ G ca ac ar μ ν 765 [(3, .int (iZ i)), (2, .ref (ar 0)), (1, .ref (ac 156)), (0, .ref b)] [] := by
  obtain ⟨d, n, h, L9, t, hX, hR, hI⟩ := hB
  have hI0 : zInv d := hI.1
  have hLr : 0 ≤ L9 ∧ L9 ≤ 60 := hR.2.2.2.1
  refine x_aload_n hC dL_law_765 rfl ?_
  refine x_callC hC [] 0 rfl dL_law_766 (fun l => m_X7_clearText l G ca ac (cA ac 163) μ d n h L9 t hX) qM_L_95 qI_X7_clearText qS_X7_clearText qi_X7 qC_X7_clearText (by decide +kernel) (by decide) (by decide) (cd_main (ca := ca) (ad := ac)) rfl (Nat.le_of_ble_eq_true rfl) (xk_C (fun μ1 hμ1 => ?_)) rfl
  refine x_aload_n hC dL_law_769 rfl ?_
  refine x_callR hC [] 0 rfl dL_law_770 (fun l => m_X8_clearText l G ca ar (cA ar 4) ν d n h L9 t hR) qM_L_98 qI_X8_clearText qS_X8_clearText qi_X8 qC_X8_clearText (by decide +kernel) (by decide) (by decide) (rd_0 (ca := ca) (ad := ar)) rfl (Nat.le_of_ble_eq_true rfl) (xk_R (fun ν1 hν1 => ?_)) rfl
  refine x_same hC 814 rfl dL_law_773 (by decide) ?_
  exact kk _ _ (⟨d, n, h, 0, t, hμ1, hν1, hI⟩)

set_option maxHeartbeats 4000000 in
set_option maxRecDepth 100000 in
/-- case 20: fault -/
theorem law_fault {Γ : zG} {G : va_G} {ca : Nat → ClassId} {ac ar : Int → Nat} {b Lx : Nat} {xs : Nat → Int32} (hC : xC Γ G ca ac ar b Lx xs) (hLx : Lx ≤ 3584) {i : Int} (hi : 0 ≤ i ∧ i + 7 ≤ (Lx : Int)) {μ ν : zM} (hB : zBoth μ ν) (kk : ∀ μ' ν' : zM, zBoth μ' ν' → X Γ G ca ac ar μ' ν' 814 [(3, .int (iZ i)), (2, .ref (ar 0)), (1, .ref (ac 156)), (0, .ref b)] []) : X Γ G ca ac ar μ ν 778 [(3, .int (iZ i)), (2, .ref (ar 0)), (1, .ref (ac 156)), (0, .ref b)] [] := by
  obtain ⟨d, n, h, L9, t, hX, hR, hI⟩ := hB
  have hI0 : zInv d := hI.1
  have hLr : 0 ≤ L9 ∧ L9 ≤ 60 := hR.2.2.2.1
  refine x_aload_n hC dL_law_778 rfl ?_
  refine x_aload_n hC dL_law_779 rfl ?_
  refine x_iload_n hC dL_law_780 rfl ?_
  refine x_iconst hC dL_law_781 ?_
  refine x_iadd hC dL_law_782 ?_
  refine x_ald hC (by omega) (by omega) dL_law_783 ?_
  refine x_callC hC [.int (iZ (sx xs (i + 1)))] 1 rfl dL_law_784 (fun l => m_X7_fault l G ca ac (cA ac 163) μ d n h L9 t hX hI0 zOb (sx xs (i + 1)) (sx_r xs ((i + 1)))) qM_L_99 qI_X7_fault qS_X7_fault qi_X7 qC_X7_fault (by decide +kernel) (by decide) (by decide) (cd_main (ca := ca) (ad := ac)) rfl (Nat.le_of_ble_eq_true rfl) (xk_C (fun μ1 hμ1 => ?_)) rfl
  refine x_aload_n hC dL_law_787 rfl ?_
  refine x_aload_n hC dL_law_788 rfl ?_
  refine x_iload_n hC dL_law_789 rfl ?_
  refine x_iconst hC dL_law_790 ?_
  refine x_iadd hC dL_law_791 ?_
  refine x_ald hC (by omega) (by omega) dL_law_792 ?_
  refine x_callR hC [.int (iZ (sx xs (i + 1)))] 1 rfl dL_law_793 (fun l => m_X8_fault l G ca ar (cA ar 4) ν d n h L9 t hR hI0 zOb zObL (sx xs (i + 1)) (sx_r xs ((i + 1)))) qM_L_102 qI_X8_fault qS_X8_fault qi_X8 qC_X8_fault (by decide +kernel) (by decide) (by decide) (rd_0 (ca := ca) (ad := ar)) rfl (Nat.le_of_ble_eq_true rfl) (xk_R (fun ν1 hν1 => ?_)) rfl
  refine x_same hC 814 rfl dL_law_796 (by decide) ?_
  exact kk _ _ (⟨d, n, h, L9, t, hμ1, hν1, hI⟩)

set_option maxHeartbeats 4000000 in
set_option maxRecDepth 100000 in
/-- case 21: play -/
theorem law_play {Γ : zG} {G : va_G} {ca : Nat → ClassId} {ac ar : Int → Nat} {b Lx : Nat} {xs : Nat → Int32} (hC : xC Γ G ca ac ar b Lx xs) (hLx : Lx ≤ 3584) {i : Int} (hi : 0 ≤ i ∧ i + 7 ≤ (Lx : Int)) {μ ν : zM} (hB : zBoth μ ν) (kk : ∀ μ' ν' : zM, zBoth μ' ν' → X Γ G ca ac ar μ' ν' 814 [(3, .int (iZ i)), (2, .ref (ar 0)), (1, .ref (ac 156)), (0, .ref b)] []) : X Γ G ca ac ar μ ν 801 [(3, .int (iZ i)), (2, .ref (ar 0)), (1, .ref (ac 156)), (0, .ref b)] [] := by
  obtain ⟨d, n, h, L9, t, hX, hR, hI⟩ := hB
  have hI0 : zInv d := hI.1
  have hLr : 0 ≤ L9 ∧ L9 ≤ 60 := hR.2.2.2.1
  refine x_aload_n hC dL_law_801 rfl ?_
  refine x_callC hC [] 0 rfl dL_law_802 (fun l => m_X7_play l G ca ac (cA ac 163) μ d n h L9 t hX hI0 zOb (by have := (inv_play hI0 hLr t).2.2; omega)) qM_L_103 qI_X7_play qS_X7_play qi_X7 qC_X7_play (by decide +kernel) (by decide) (by decide) (cd_main (ca := ca) (ad := ac)) rfl (Nat.le_of_ble_eq_true rfl) (xk_C (fun μ1 hμ1 => ?_)) rfl
  refine x_aload_n hC dL_law_805 rfl ?_
  refine x_callR hC [] 0 rfl dL_law_806 (fun l => m_X8_play l G ca ar (cA ar 4) ν d n h L9 t hR hI0 zOb zObL) qM_L_106 qI_X8_play qS_X8_play qi_X8 qC_X8_play (by decide +kernel) (by decide) (by decide) (rd_0 (ca := ca) (ad := ar)) rfl (Nat.le_of_ble_eq_true rfl) (xk_R (fun ν1 hν1 => ?_)) rfl
  refine x_same hC 814 rfl dL_law_809 (by decide) ?_
  exact kk _ _ (zBoth_q hμ1 hν1 (zAllI_keep hI hR.2.1.2.1 (inv_play hI0 hLr t).1))
