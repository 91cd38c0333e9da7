/-! THE LAW: a step: one call of each side over the same state, the same answer (by program) -/
/-- what a step leaves: a state, told by both sides; then it goes on behind the switch -/
def LK (G : BcG) (nm : String) (b L : Nat) (xs : Nat → Int32) (i N : Nat) : Prop := ∀ (N' : Nat) (S : SS) (gi : GI), N' ≤ N + 8000 → SOk N' S → RelC S gi → RelM S gi → BGo G (mLaw nm) (KL G b L xs) (hp gi) 341 3274 910 [some (.ref b), some (.ref (G.1 + 0)), some (.ref (G.1 + 335)), some (.int (nI i))] []
set_option maxHeartbeats 4000000 in
set_option maxRecDepth 100000 in
theorem lc_recipe (G : BcG) {nm : String} {b L i N : Nat} {xs : Nat → Int32} {S : SS} {gi : GI} (hi : i + 6 ≤ L) (hL : L ≤ 3072) (hN : N + 8000 < 100000000) (k : SOk N S) (c : RelC S gi) (m : RelM S gi) (kk : LK G nm b L xs i N) : BGo G (mLaw nm) (KL G b L xs) (hp gi) 341 3274 152 [some (.ref b), some (.ref (G.1 + 0)), some (.ref (G.1 + 335)), some (.int (nI i))] [] := by
  refine go_aload_n 153 dL_law_152 rfl rfl (ls_s ls_0) ?_
  refine go_aload_n 154 dL_law_153 rfl rfl ls_0 ?_
  refine go_iload_n 155 dL_law_154 rfl rfl (ls_s (ls_s (ls_s ls_0))) ?_
  refine go_iconst 156 (v := nI 1) dL_law_155 rfl (by decide) ?_
  refine go_iadd 157 dL_law_156 rfl ?_
  refine gl_sld 158 (i + 1) dL_law_157 rfl (nI_add i 1) (by omega) hL ?_
  refine go_V (M' := mX8_recipe) 161 dL_law_158 rfl w_310 okX8_recipe ⟨Nat.le_of_ble_eq_true rfl, Nat.le_of_ble_eq_true rfl⟩ rfl rfl (Nat.le_of_ble_eq_true rfl) (Nat.le_of_ble_eq_true rfl) (cx_recipe G k c (by omega) _) rfl rfl (Nat.le_of_ble_eq_true rfl) o0 (by decide) rfl (fun v_1 h_1 p_1 => ?_)
  obtain ⟨rfl, g1, rfl, c1, e1⟩ := p_1
  refine go_aload_n 162 dL_law_161 rfl rfl (ls_s (ls_s ls_0)) ?_
  refine go_aload_n 163 dL_law_162 rfl rfl ls_0 ?_
  refine go_iload_n 164 dL_law_163 rfl rfl (ls_s (ls_s (ls_s ls_0))) ?_
  refine go_iconst 165 (v := nI 1) dL_law_164 rfl (by decide) ?_
  refine go_iadd 166 dL_law_165 rfl ?_
  refine gl_sld 167 (i + 1) dL_law_166 rfl (nI_add i 1) (by omega) hL ?_
  refine go_V (M' := mX9_recipe) 170 dL_law_167 rfl w_764 okX9_recipe ⟨Nat.le_of_ble_eq_true rfl, Nat.le_of_ble_eq_true rfl⟩ rfl rfl (Nat.le_of_ble_eq_true rfl) (Nat.le_of_ble_eq_true rfl) (mx_recipe G k (m.same e1) (by omega) _) rfl rfl (Nat.le_of_ble_eq_true rfl) o335 (by decide) rfl (fun v_2 h_2 p_2 => ?_)
  obtain ⟨rfl, g2, rfl, m2, e2⟩ := p_2
  refine go_icmp_eq 910 173 dL_law_170 (by decide) rfl (fun _ => ?_) (fun z => absurd rfl z)
  exact kk (N + 99) _ g2 (by omega) (pushOk k (ok_recipe _ k.1 (by omega)) (by omega)) (c1.same e2) m2
set_option maxHeartbeats 4000000 in
set_option maxRecDepth 100000 in
theorem lc_stage (G : BcG) {nm : String} {b L i N : Nat} {xs : Nat → Int32} {S : SS} {gi : GI} (hi : i + 6 ≤ L) (hL : L ≤ 3072) (hN : N + 8000 < 100000000) (k : SOk N S) (c : RelC S gi) (m : RelM S gi) (kk : LK G nm b L xs i N) : BGo G (mLaw nm) (KL G b L xs) (hp gi) 341 3274 175 [some (.ref b), some (.ref (G.1 + 0)), some (.ref (G.1 + 335)), some (.int (nI i))] [] := by
  refine go_aload_n 176 dL_law_175 rfl rfl (ls_s ls_0) ?_
  refine go_aload_n 177 dL_law_176 rfl rfl ls_0 ?_
  refine go_iload_n 178 dL_law_177 rfl rfl (ls_s (ls_s (ls_s ls_0))) ?_
  refine go_iconst 179 (v := nI 1) dL_law_178 rfl (by decide) ?_
  refine go_iadd 180 dL_law_179 rfl ?_
  refine gl_sld 181 (i + 1) dL_law_180 rfl (nI_add i 1) (by omega) hL ?_
  refine go_aload_n 182 dL_law_181 rfl rfl ls_0 ?_
  refine go_iload_n 183 dL_law_182 rfl rfl (ls_s (ls_s (ls_s ls_0))) ?_
  refine go_iconst 184 (v := nI 2) dL_law_183 rfl (by decide) ?_
  refine go_iadd 185 dL_law_184 rfl ?_
  refine gl_sld 186 (i + 2) dL_law_185 rfl (nI_add i 2) (by omega) hL ?_
  refine go_aload_n 187 dL_law_186 rfl rfl ls_0 ?_
  refine go_iload_n 188 dL_law_187 rfl rfl (ls_s (ls_s (ls_s ls_0))) ?_
  refine go_iconst 189 (v := nI 3) dL_law_188 rfl (by decide) ?_
  refine go_iadd 190 dL_law_189 rfl ?_
  refine gl_sld 191 (i + 3) dL_law_190 rfl (nI_add i 3) (by omega) hL ?_
  refine go_aload_n 192 dL_law_191 rfl rfl ls_0 ?_
  refine go_iload_n 193 dL_law_192 rfl rfl (ls_s (ls_s (ls_s ls_0))) ?_
  refine go_iconst 194 (v := nI 4) dL_law_193 rfl (by decide) ?_
  refine go_iadd 195 dL_law_194 rfl ?_
  refine gl_sld 196 (i + 4) dL_law_195 rfl (nI_add i 4) (by omega) hL ?_
  refine go_aload_n 197 dL_law_196 rfl rfl ls_0 ?_
  refine go_iload_n 198 dL_law_197 rfl rfl (ls_s (ls_s (ls_s ls_0))) ?_
  refine go_iconst 199 (v := nI 5) dL_law_198 rfl (by decide) ?_
  refine go_iadd 200 dL_law_199 rfl ?_
  refine gl_sld 201 (i + 5) dL_law_200 rfl (nI_add i 5) (by omega) hL ?_
  refine go_V (M' := mX8_stage) 204 dL_law_201 rfl w_371 okX8_stage ⟨Nat.le_of_ble_eq_true rfl, Nat.le_of_ble_eq_true rfl⟩ rfl rfl (Nat.le_of_ble_eq_true rfl) (Nat.le_of_ble_eq_true rfl) (cx_stage G k c (by omega) _ _ _ _ _) rfl rfl (Nat.le_of_ble_eq_true rfl) o0 (by decide) rfl (fun v_1 h_1 p_1 => ?_)
  obtain ⟨rfl, g1, rfl, c1, e1⟩ := p_1
  refine go_aload_n 205 dL_law_204 rfl rfl (ls_s (ls_s ls_0)) ?_
  refine go_aload_n 206 dL_law_205 rfl rfl ls_0 ?_
  refine go_iload_n 207 dL_law_206 rfl rfl (ls_s (ls_s (ls_s ls_0))) ?_
  refine go_iconst 208 (v := nI 1) dL_law_207 rfl (by decide) ?_
  refine go_iadd 209 dL_law_208 rfl ?_
  refine gl_sld 210 (i + 1) dL_law_209 rfl (nI_add i 1) (by omega) hL ?_
  refine go_aload_n 211 dL_law_210 rfl rfl ls_0 ?_
  refine go_iload_n 212 dL_law_211 rfl rfl (ls_s (ls_s (ls_s ls_0))) ?_
  refine go_iconst 213 (v := nI 2) dL_law_212 rfl (by decide) ?_
  refine go_iadd 214 dL_law_213 rfl ?_
  refine gl_sld 215 (i + 2) dL_law_214 rfl (nI_add i 2) (by omega) hL ?_
  refine go_aload_n 216 dL_law_215 rfl rfl ls_0 ?_
  refine go_iload_n 217 dL_law_216 rfl rfl (ls_s (ls_s (ls_s ls_0))) ?_
  refine go_iconst 218 (v := nI 3) dL_law_217 rfl (by decide) ?_
  refine go_iadd 219 dL_law_218 rfl ?_
  refine gl_sld 220 (i + 3) dL_law_219 rfl (nI_add i 3) (by omega) hL ?_
  refine go_aload_n 221 dL_law_220 rfl rfl ls_0 ?_
  refine go_iload_n 222 dL_law_221 rfl rfl (ls_s (ls_s (ls_s ls_0))) ?_
  refine go_iconst 223 (v := nI 4) dL_law_222 rfl (by decide) ?_
  refine go_iadd 224 dL_law_223 rfl ?_
  refine gl_sld 225 (i + 4) dL_law_224 rfl (nI_add i 4) (by omega) hL ?_
  refine go_aload_n 226 dL_law_225 rfl rfl ls_0 ?_
  refine go_iload_n 227 dL_law_226 rfl rfl (ls_s (ls_s (ls_s ls_0))) ?_
  refine go_iconst 228 (v := nI 5) dL_law_227 rfl (by decide) ?_
  refine go_iadd 229 dL_law_228 rfl ?_
  refine gl_sld 230 (i + 5) dL_law_229 rfl (nI_add i 5) (by omega) hL ?_
  refine go_V (M' := mX9_stage) 233 dL_law_230 rfl w_775 okX9_stage ⟨Nat.le_of_ble_eq_true rfl, Nat.le_of_ble_eq_true rfl⟩ rfl rfl (Nat.le_of_ble_eq_true rfl) (Nat.le_of_ble_eq_true rfl) (mx_stage G k (m.same e1) (by omega) _ _ _ _ _) rfl rfl (Nat.le_of_ble_eq_true rfl) o335 (by decide) rfl (fun v_2 h_2 p_2 => ?_)
  obtain ⟨rfl, g2, rfl, m2, e2⟩ := p_2
  refine go_icmp_eq 910 236 dL_law_233 (by decide) rfl (fun _ => ?_) (fun z => absurd rfl z)
  exact kk (N + 99) _ g2 (by omega) (pushOk k (ok_stage _ _ _ _ _ k.1 (by omega)) (by omega)) (c1.same e2) m2
set_option maxHeartbeats 4000000 in
set_option maxRecDepth 100000 in
theorem lc_vessel (G : BcG) {nm : String} {b L i N : Nat} {xs : Nat → Int32} {S : SS} {gi : GI} (hi : i + 6 ≤ L) (hL : L ≤ 3072) (hN : N + 8000 < 100000000) (k : SOk N S) (c : RelC S gi) (m : RelM S gi) (kk : LK G nm b L xs i N) : BGo G (mLaw nm) (KL G b L xs) (hp gi) 341 3274 238 [some (.ref b), some (.ref (G.1 + 0)), some (.ref (G.1 + 335)), some (.int (nI i))] [] := by
  refine go_aload_n 239 dL_law_238 rfl rfl (ls_s ls_0) ?_
  refine go_aload_n 240 dL_law_239 rfl rfl ls_0 ?_
  refine go_iload_n 241 dL_law_240 rfl rfl (ls_s (ls_s (ls_s ls_0))) ?_
  refine go_iconst 242 (v := nI 1) dL_law_241 rfl (by decide) ?_
  refine go_iadd 243 dL_law_242 rfl ?_
  refine gl_sld 244 (i + 1) dL_law_243 rfl (nI_add i 1) (by omega) hL ?_
  refine go_aload_n 245 dL_law_244 rfl rfl ls_0 ?_
  refine go_iload_n 246 dL_law_245 rfl rfl (ls_s (ls_s (ls_s ls_0))) ?_
  refine go_iconst 247 (v := nI 2) dL_law_246 rfl (by decide) ?_
  refine go_iadd 248 dL_law_247 rfl ?_
  refine gl_sld 249 (i + 2) dL_law_248 rfl (nI_add i 2) (by omega) hL ?_
  refine go_V (M' := mX8_vessel) 252 dL_law_249 rfl w_387 okX8_vessel ⟨Nat.le_of_ble_eq_true rfl, Nat.le_of_ble_eq_true rfl⟩ rfl rfl (Nat.le_of_ble_eq_true rfl) (Nat.le_of_ble_eq_true rfl) (cx_vessel G k c (by omega) _ _) rfl rfl (Nat.le_of_ble_eq_true rfl) o0 (by decide) rfl (fun v_1 h_1 p_1 => ?_)
  obtain ⟨rfl, g1, rfl, c1, e1⟩ := p_1
  refine go_aload_n 253 dL_law_252 rfl rfl (ls_s (ls_s ls_0)) ?_
  refine go_aload_n 254 dL_law_253 rfl rfl ls_0 ?_
  refine go_iload_n 255 dL_law_254 rfl rfl (ls_s (ls_s (ls_s ls_0))) ?_
  refine go_iconst 256 (v := nI 1) dL_law_255 rfl (by decide) ?_
  refine go_iadd 257 dL_law_256 rfl ?_
  refine gl_sld 258 (i + 1) dL_law_257 rfl (nI_add i 1) (by omega) hL ?_
  refine go_aload_n 259 dL_law_258 rfl rfl ls_0 ?_
  refine go_iload_n 260 dL_law_259 rfl rfl (ls_s (ls_s (ls_s ls_0))) ?_
  refine go_iconst 261 (v := nI 2) dL_law_260 rfl (by decide) ?_
  refine go_iadd 262 dL_law_261 rfl ?_
  refine gl_sld 263 (i + 2) dL_law_262 rfl (nI_add i 2) (by omega) hL ?_
  refine go_V (M' := mX9_vessel) 266 dL_law_263 rfl w_799 okX9_vessel ⟨Nat.le_of_ble_eq_true rfl, Nat.le_of_ble_eq_true rfl⟩ rfl rfl (Nat.le_of_ble_eq_true rfl) (Nat.le_of_ble_eq_true rfl) (mx_vessel G k (m.same e1) (by omega) _ _) rfl rfl (Nat.le_of_ble_eq_true rfl) o335 (by decide) rfl (fun v_2 h_2 p_2 => ?_)
  obtain ⟨rfl, g2, rfl, m2, e2⟩ := p_2
  refine go_icmp_eq 910 269 dL_law_266 (by decide) rfl (fun _ => ?_) (fun z => absurd rfl z)
  exact kk (N + 99) _ g2 (by omega) (pushOk k (ok_vessel _ _ k.1 (by omega)) (by omega)) (c1.same e2) m2
set_option maxHeartbeats 4000000 in
set_option maxRecDepth 100000 in
theorem lc_line (G : BcG) {nm : String} {b L i N : Nat} {xs : Nat → Int32} {S : SS} {gi : GI} (hi : i + 6 ≤ L) (hL : L ≤ 3072) (hN : N + 8000 < 100000000) (k : SOk N S) (c : RelC S gi) (m : RelM S gi) (kk : LK G nm b L xs i N) : BGo G (mLaw nm) (KL G b L xs) (hp gi) 341 3274 271 [some (.ref b), some (.ref (G.1 + 0)), some (.ref (G.1 + 335)), some (.int (nI i))] [] := by
  refine go_aload_n 272 dL_law_271 rfl rfl (ls_s ls_0) ?_
  refine go_aload_n 273 dL_law_272 rfl rfl ls_0 ?_
  refine go_iload_n 274 dL_law_273 rfl rfl (ls_s (ls_s (ls_s ls_0))) ?_
  refine go_iconst 275 (v := nI 1) dL_law_274 rfl (by decide) ?_
  refine go_iadd 276 dL_law_275 rfl ?_
  refine gl_sld 277 (i + 1) dL_law_276 rfl (nI_add i 1) (by omega) hL ?_
  refine go_aload_n 278 dL_law_277 rfl rfl ls_0 ?_
  refine go_iload_n 279 dL_law_278 rfl rfl (ls_s (ls_s (ls_s ls_0))) ?_
  refine go_iconst 280 (v := nI 2) dL_law_279 rfl (by decide) ?_
  refine go_iadd 281 dL_law_280 rfl ?_
  refine gl_sld 282 (i + 2) dL_law_281 rfl (nI_add i 2) (by omega) hL ?_
  refine go_V (M' := mX8_line) 285 dL_law_282 rfl w_399 okX8_line ⟨Nat.le_of_ble_eq_true rfl, Nat.le_of_ble_eq_true rfl⟩ rfl rfl (Nat.le_of_ble_eq_true rfl) (Nat.le_of_ble_eq_true rfl) (cx_line G k c (by omega) _ _) rfl rfl (Nat.le_of_ble_eq_true rfl) o0 (by decide) rfl (fun v_1 h_1 p_1 => ?_)
  obtain ⟨rfl, g1, rfl, c1, e1⟩ := p_1
  refine go_aload_n 286 dL_law_285 rfl rfl (ls_s (ls_s ls_0)) ?_
  refine go_aload_n 287 dL_law_286 rfl rfl ls_0 ?_
  refine go_iload_n 288 dL_law_287 rfl rfl (ls_s (ls_s (ls_s ls_0))) ?_
  refine go_iconst 289 (v := nI 1) dL_law_288 rfl (by decide) ?_
  refine go_iadd 290 dL_law_289 rfl ?_
  refine gl_sld 291 (i + 1) dL_law_290 rfl (nI_add i 1) (by omega) hL ?_
  refine go_aload_n 292 dL_law_291 rfl rfl ls_0 ?_
  refine go_iload_n 293 dL_law_292 rfl rfl (ls_s (ls_s (ls_s ls_0))) ?_
  refine go_iconst 294 (v := nI 2) dL_law_293 rfl (by decide) ?_
  refine go_iadd 295 dL_law_294 rfl ?_
  refine gl_sld 296 (i + 2) dL_law_295 rfl (nI_add i 2) (by omega) hL ?_
  refine go_V (M' := mX9_line) 299 dL_law_296 rfl w_807 okX9_line ⟨Nat.le_of_ble_eq_true rfl, Nat.le_of_ble_eq_true rfl⟩ rfl rfl (Nat.le_of_ble_eq_true rfl) (Nat.le_of_ble_eq_true rfl) (mx_line G k (m.same e1) (by omega) _ _) rfl rfl (Nat.le_of_ble_eq_true rfl) o335 (by decide) rfl (fun v_2 h_2 p_2 => ?_)
  obtain ⟨rfl, g2, rfl, m2, e2⟩ := p_2
  refine go_icmp_eq 910 302 dL_law_299 (by decide) rfl (fun _ => ?_) (fun z => absurd rfl z)
  exact kk (N + 99) _ g2 (by omega) (pushOk k (ok_line _ _ k.1 (by omega)) (by omega)) (c1.same e2) m2
set_option maxHeartbeats 4000000 in
set_option maxRecDepth 100000 in
theorem lc_cleaning (G : BcG) {nm : String} {b L i N : Nat} {xs : Nat → Int32} {S : SS} {gi : GI} (hi : i + 6 ≤ L) (hL : L ≤ 3072) (hN : N + 8000 < 100000000) (k : SOk N S) (c : RelC S gi) (m : RelM S gi) (kk : LK G nm b L xs i N) : BGo G (mLaw nm) (KL G b L xs) (hp gi) 341 3274 304 [some (.ref b), some (.ref (G.1 + 0)), some (.ref (G.1 + 335)), some (.int (nI i))] [] := by
  refine go_aload_n 305 dL_law_304 rfl rfl (ls_s ls_0) ?_
  refine go_aload_n 306 dL_law_305 rfl rfl ls_0 ?_
  refine go_iload_n 307 dL_law_306 rfl rfl (ls_s (ls_s (ls_s ls_0))) ?_
  refine go_iconst 308 (v := nI 1) dL_law_307 rfl (by decide) ?_
  refine go_iadd 309 dL_law_308 rfl ?_
  refine gl_sld 310 (i + 1) dL_law_309 rfl (nI_add i 1) (by omega) hL ?_
  refine go_aload_n 311 dL_law_310 rfl rfl ls_0 ?_
  refine go_iload_n 312 dL_law_311 rfl rfl (ls_s (ls_s (ls_s ls_0))) ?_
  refine go_iconst 313 (v := nI 2) dL_law_312 rfl (by decide) ?_
  refine go_iadd 314 dL_law_313 rfl ?_
  refine gl_sld 315 (i + 2) dL_law_314 rfl (nI_add i 2) (by omega) hL ?_
  refine go_aload_n 316 dL_law_315 rfl rfl ls_0 ?_
  refine go_iload_n 317 dL_law_316 rfl rfl (ls_s (ls_s (ls_s ls_0))) ?_
  refine go_iconst 318 (v := nI 3) dL_law_317 rfl (by decide) ?_
  refine go_iadd 319 dL_law_318 rfl ?_
  refine gl_sld 320 (i + 3) dL_law_319 rfl (nI_add i 3) (by omega) hL ?_
  refine go_V (M' := mX8_cleaning) 323 dL_law_320 rfl w_417 okX8_cleaning ⟨Nat.le_of_ble_eq_true rfl, Nat.le_of_ble_eq_true rfl⟩ rfl rfl (Nat.le_of_ble_eq_true rfl) (Nat.le_of_ble_eq_true rfl) (cx_cleaning G k c (by omega) _ _ _) rfl rfl (Nat.le_of_ble_eq_true rfl) o0 (by decide) rfl (fun v_1 h_1 p_1 => ?_)
  obtain ⟨rfl, g1, rfl, c1, e1⟩ := p_1
  refine go_aload_n 324 dL_law_323 rfl rfl (ls_s (ls_s ls_0)) ?_
  refine go_aload_n 325 dL_law_324 rfl rfl ls_0 ?_
  refine go_iload_n 326 dL_law_325 rfl rfl (ls_s (ls_s (ls_s ls_0))) ?_
  refine go_iconst 327 (v := nI 1) dL_law_326 rfl (by decide) ?_
  refine go_iadd 328 dL_law_327 rfl ?_
  refine gl_sld 329 (i + 1) dL_law_328 rfl (nI_add i 1) (by omega) hL ?_
  refine go_aload_n 330 dL_law_329 rfl rfl ls_0 ?_
  refine go_iload_n 331 dL_law_330 rfl rfl (ls_s (ls_s (ls_s ls_0))) ?_
  refine go_iconst 332 (v := nI 2) dL_law_331 rfl (by decide) ?_
  refine go_iadd 333 dL_law_332 rfl ?_
  refine gl_sld 334 (i + 2) dL_law_333 rfl (nI_add i 2) (by omega) hL ?_
  refine go_aload_n 335 dL_law_334 rfl rfl ls_0 ?_
  refine go_iload_n 336 dL_law_335 rfl rfl (ls_s (ls_s (ls_s ls_0))) ?_
  refine go_iconst 337 (v := nI 3) dL_law_336 rfl (by decide) ?_
  refine go_iadd 338 dL_law_337 rfl ?_
  refine gl_sld 339 (i + 3) dL_law_338 rfl (nI_add i 3) (by omega) hL ?_
  refine go_V (M' := mX9_cleaning) 342 dL_law_339 rfl w_814 okX9_cleaning ⟨Nat.le_of_ble_eq_true rfl, Nat.le_of_ble_eq_true rfl⟩ rfl rfl (Nat.le_of_ble_eq_true rfl) (Nat.le_of_ble_eq_true rfl) (mx_cleaning G k (m.same e1) (by omega) _ _ _) rfl rfl (Nat.le_of_ble_eq_true rfl) o335 (by decide) rfl (fun v_2 h_2 p_2 => ?_)
  obtain ⟨rfl, g2, rfl, m2, e2⟩ := p_2
  refine go_icmp_eq 910 345 dL_law_342 (by decide) rfl (fun _ => ?_) (fun z => absurd rfl z)
  exact kk (N + 99) _ g2 (by omega) (pushOk k (ok_cleaning _ _ _ k.1 (by omega)) (by omega)) (c1.same e2) m2
set_option maxHeartbeats 4000000 in
set_option maxRecDepth 100000 in
theorem lc_stageOf (G : BcG) {nm : String} {b L i N : Nat} {xs : Nat → Int32} {S : SS} {gi : GI} (hi : i + 6 ≤ L) (hL : L ≤ 3072) (hN : N + 8000 < 100000000) (k : SOk N S) (c : RelC S gi) (m : RelM S gi) (kk : LK G nm b L xs i N) : BGo G (mLaw nm) (KL G b L xs) (hp gi) 341 3274 347 [some (.ref b), some (.ref (G.1 + 0)), some (.ref (G.1 + 335)), some (.int (nI i))] [] := by
  refine go_aload_n 348 dL_law_347 rfl rfl (ls_s ls_0) ?_
  refine go_aload_n 349 dL_law_348 rfl rfl ls_0 ?_
  refine go_iload_n 350 dL_law_349 rfl rfl (ls_s (ls_s (ls_s ls_0))) ?_
  refine go_iconst 351 (v := nI 1) dL_law_350 rfl (by decide) ?_
  refine go_iadd 352 dL_law_351 rfl ?_
  refine gl_sld 353 (i + 1) dL_law_352 rfl (nI_add i 1) (by omega) hL ?_
  refine go_aload_n 354 dL_law_353 rfl rfl ls_0 ?_
  refine go_iload_n 355 dL_law_354 rfl rfl (ls_s (ls_s (ls_s ls_0))) ?_
  refine go_iconst 356 (v := nI 2) dL_law_355 rfl (by decide) ?_
  refine go_iadd 357 dL_law_356 rfl ?_
  refine gl_sld 358 (i + 2) dL_law_357 rfl (nI_add i 2) (by omega) hL ?_
  refine go_aload_n 359 dL_law_358 rfl rfl ls_0 ?_
  refine go_iload_n 360 dL_law_359 rfl rfl (ls_s (ls_s (ls_s ls_0))) ?_
  refine go_iconst 361 (v := nI 3) dL_law_360 rfl (by decide) ?_
  refine go_iadd 362 dL_law_361 rfl ?_
  refine gl_sld 363 (i + 3) dL_law_362 rfl (nI_add i 3) (by omega) hL ?_
  refine go_VI (M' := mX8_stageOf) 366 dL_law_363 rfl w_428 okX8_stageOf ⟨Nat.le_of_ble_eq_true rfl, Nat.le_of_ble_eq_true rfl⟩ (cx_stageOf G c.r1 k.1 _ _ _) rfl rfl o0 (by decide) rfl (kk := ?_)
  refine go_aload_n 367 dL_law_366 rfl rfl (ls_s (ls_s ls_0)) ?_
  refine go_aload_n 368 dL_law_367 rfl rfl ls_0 ?_
  refine go_iload_n 369 dL_law_368 rfl rfl (ls_s (ls_s (ls_s ls_0))) ?_
  refine go_iconst 370 (v := nI 1) dL_law_369 rfl (by decide) ?_
  refine go_iadd 371 dL_law_370 rfl ?_
  refine gl_sld 372 (i + 1) dL_law_371 rfl (nI_add i 1) (by omega) hL ?_
  refine go_aload_n 373 dL_law_372 rfl rfl ls_0 ?_
  refine go_iload_n 374 dL_law_373 rfl rfl (ls_s (ls_s (ls_s ls_0))) ?_
  refine go_iconst 375 (v := nI 2) dL_law_374 rfl (by decide) ?_
  refine go_iadd 376 dL_law_375 rfl ?_
  refine gl_sld 377 (i + 2) dL_law_376 rfl (nI_add i 2) (by omega) hL ?_
  refine go_aload_n 378 dL_law_377 rfl rfl ls_0 ?_
  refine go_iload_n 379 dL_law_378 rfl rfl (ls_s (ls_s (ls_s ls_0))) ?_
  refine go_iconst 380 (v := nI 3) dL_law_379 rfl (by decide) ?_
  refine go_iadd 381 dL_law_380 rfl ?_
  refine gl_sld 382 (i + 3) dL_law_381 rfl (nI_add i 3) (by omega) hL ?_
  refine go_VI (M' := mX9_stageOf) 385 dL_law_382 rfl w_818 okX9_stageOf ⟨Nat.le_of_ble_eq_true rfl, Nat.le_of_ble_eq_true rfl⟩ (my_stageOf G k m _ _ _) rfl rfl o335 (by decide) rfl (kk := ?_)
  refine go_icmp_eq 910 388 dL_law_385 (by decide) rfl (fun _ => ?_) (fun z => absurd rfl z)
  exact kk N S gi (by omega) k c m
set_option maxHeartbeats 4000000 in
set_option maxRecDepth 100000 in
theorem lc_begin (G : BcG) {nm : String} {b L i N : Nat} {xs : Nat → Int32} {S : SS} {gi : GI} (hi : i + 6 ≤ L) (hL : L ≤ 3072) (hN : N + 8000 < 100000000) (k : SOk N S) (c : RelC S gi) (m : RelM S gi) (kk : LK G nm b L xs i N) : BGo G (mLaw nm) (KL G b L xs) (hp gi) 341 3274 390 [some (.ref b), some (.ref (G.1 + 0)), some (.ref (G.1 + 335)), some (.int (nI i))] [] := by
  refine go_aload_n 391 dL_law_390 rfl rfl (ls_s ls_0) ?_
  refine go_aload_n 392 dL_law_391 rfl rfl ls_0 ?_
  refine go_iload_n 393 dL_law_392 rfl rfl (ls_s (ls_s (ls_s ls_0))) ?_
  refine go_iconst 394 (v := nI 1) dL_law_393 rfl (by decide) ?_
  refine go_iadd 395 dL_law_394 rfl ?_
  refine gl_sld 396 (i + 1) dL_law_395 rfl (nI_add i 1) (by omega) hL ?_
  refine go_aload_n 397 dL_law_396 rfl rfl ls_0 ?_
  refine go_iload_n 398 dL_law_397 rfl rfl (ls_s (ls_s (ls_s ls_0))) ?_
  refine go_iconst 399 (v := nI 2) dL_law_398 rfl (by decide) ?_
  refine go_iadd 400 dL_law_399 rfl ?_
  refine gl_sld 401 (i + 2) dL_law_400 rfl (nI_add i 2) (by omega) hL ?_
  refine go_aload_n 402 dL_law_401 rfl rfl ls_0 ?_
  refine go_iload_n 403 dL_law_402 rfl rfl (ls_s (ls_s (ls_s ls_0))) ?_
  refine go_iconst 404 (v := nI 3) dL_law_403 rfl (by decide) ?_
  refine go_iadd 405 dL_law_404 rfl ?_
  refine gl_sld 406 (i + 3) dL_law_405 rfl (nI_add i 3) (by omega) hL ?_
  refine go_V (M' := mX8_begin) 409 dL_law_406 rfl w_439 okX8_begin ⟨Nat.le_of_ble_eq_true rfl, Nat.le_of_ble_eq_true rfl⟩ rfl rfl (Nat.le_of_ble_eq_true rfl) (Nat.le_of_ble_eq_true rfl) (cx_begin G k c (by omega) _ _ _) rfl rfl (Nat.le_of_ble_eq_true rfl) o0 (by decide) rfl (fun v_1 h_1 p_1 => ?_)
  obtain ⟨rfl, g1, rfl, c1, e1⟩ := p_1
  refine go_aload_n 410 dL_law_409 rfl rfl (ls_s (ls_s ls_0)) ?_
  refine go_aload_n 411 dL_law_410 rfl rfl ls_0 ?_
  refine go_iload_n 412 dL_law_411 rfl rfl (ls_s (ls_s (ls_s ls_0))) ?_
  refine go_iconst 413 (v := nI 1) dL_law_412 rfl (by decide) ?_
  refine go_iadd 414 dL_law_413 rfl ?_
  refine gl_sld 415 (i + 1) dL_law_414 rfl (nI_add i 1) (by omega) hL ?_
  refine go_aload_n 416 dL_law_415 rfl rfl ls_0 ?_
  refine go_iload_n 417 dL_law_416 rfl rfl (ls_s (ls_s (ls_s ls_0))) ?_
  refine go_iconst 418 (v := nI 2) dL_law_417 rfl (by decide) ?_
  refine go_iadd 419 dL_law_418 rfl ?_
  refine gl_sld 420 (i + 2) dL_law_419 rfl (nI_add i 2) (by omega) hL ?_
  refine go_aload_n 421 dL_law_420 rfl rfl ls_0 ?_
  refine go_iload_n 422 dL_law_421 rfl rfl (ls_s (ls_s (ls_s ls_0))) ?_
  refine go_iconst 423 (v := nI 3) dL_law_422 rfl (by decide) ?_
  refine go_iadd 424 dL_law_423 rfl ?_
  refine gl_sld 425 (i + 3) dL_law_424 rfl (nI_add i 3) (by omega) hL ?_
  refine go_V (M' := mX9_begin) 428 dL_law_425 rfl w_830 okX9_begin ⟨Nat.le_of_ble_eq_true rfl, Nat.le_of_ble_eq_true rfl⟩ rfl rfl (Nat.le_of_ble_eq_true rfl) (Nat.le_of_ble_eq_true rfl) (mx_begin G k (m.same e1) (by omega) _ _ _) rfl rfl (Nat.le_of_ble_eq_true rfl) o335 (by decide) rfl (fun v_2 h_2 p_2 => ?_)
  obtain ⟨rfl, g2, rfl, m2, e2⟩ := p_2
  refine go_icmp_eq 910 431 dL_law_428 (by decide) rfl (fun _ => ?_) (fun z => absurd rfl z)
  exact kk (N + 99) _ g2 (by omega) (pushOk k (ok_begin _ _ _ k.1 (by omega)) (by omega)) (c1.same e2) m2
set_option maxHeartbeats 4000000 in
set_option maxRecDepth 100000 in
theorem lc_move (G : BcG) {nm : String} {b L i N : Nat} {xs : Nat → Int32} {S : SS} {gi : GI} (hi : i + 6 ≤ L) (hL : L ≤ 3072) (hN : N + 8000 < 100000000) (k : SOk N S) (c : RelC S gi) (m : RelM S gi) (kk : LK G nm b L xs i N) : BGo G (mLaw nm) (KL G b L xs) (hp gi) 341 3274 433 [some (.ref b), some (.ref (G.1 + 0)), some (.ref (G.1 + 335)), some (.int (nI i))] [] := by
  refine go_aload_n 434 dL_law_433 rfl rfl (ls_s ls_0) ?_
  refine go_aload_n 435 dL_law_434 rfl rfl ls_0 ?_
  refine go_iload_n 436 dL_law_435 rfl rfl (ls_s (ls_s (ls_s ls_0))) ?_
  refine go_iconst 437 (v := nI 1) dL_law_436 rfl (by decide) ?_
  refine go_iadd 438 dL_law_437 rfl ?_
  refine gl_sld 439 (i + 1) dL_law_438 rfl (nI_add i 1) (by omega) hL ?_
  refine go_aload_n 440 dL_law_439 rfl rfl ls_0 ?_
  refine go_iload_n 441 dL_law_440 rfl rfl (ls_s (ls_s (ls_s ls_0))) ?_
  refine go_iconst 442 (v := nI 2) dL_law_441 rfl (by decide) ?_
  refine go_iadd 443 dL_law_442 rfl ?_
  refine gl_sld 444 (i + 2) dL_law_443 rfl (nI_add i 2) (by omega) hL ?_
  refine go_V (M' := mX8_move) 447 dL_law_444 rfl w_475 okX8_move ⟨Nat.le_of_ble_eq_true rfl, Nat.le_of_ble_eq_true rfl⟩ rfl rfl (Nat.le_of_ble_eq_true rfl) (Nat.le_of_ble_eq_true rfl) (cx_move G k c (by omega) _ _) rfl rfl (Nat.le_of_ble_eq_true rfl) o0 (by decide) rfl (fun v_1 h_1 p_1 => ?_)
  obtain ⟨rfl, g1, rfl, c1, e1⟩ := p_1
  refine go_aload_n 448 dL_law_447 rfl rfl (ls_s (ls_s ls_0)) ?_
  refine go_aload_n 449 dL_law_448 rfl rfl ls_0 ?_
  refine go_iload_n 450 dL_law_449 rfl rfl (ls_s (ls_s (ls_s ls_0))) ?_
  refine go_iconst 451 (v := nI 1) dL_law_450 rfl (by decide) ?_
  refine go_iadd 452 dL_law_451 rfl ?_
  refine gl_sld 453 (i + 1) dL_law_452 rfl (nI_add i 1) (by omega) hL ?_
  refine go_aload_n 454 dL_law_453 rfl rfl ls_0 ?_
  refine go_iload_n 455 dL_law_454 rfl rfl (ls_s (ls_s (ls_s ls_0))) ?_
  refine go_iconst 456 (v := nI 2) dL_law_455 rfl (by decide) ?_
  refine go_iadd 457 dL_law_456 rfl ?_
  refine gl_sld 458 (i + 2) dL_law_457 rfl (nI_add i 2) (by omega) hL ?_
  refine go_V (M' := mX9_move) 461 dL_law_458 rfl w_858 okX9_move ⟨Nat.le_of_ble_eq_true rfl, Nat.le_of_ble_eq_true rfl⟩ rfl rfl (Nat.le_of_ble_eq_true rfl) (Nat.le_of_ble_eq_true rfl) (mx_move G k (m.same e1) (by omega) _ _) rfl rfl (Nat.le_of_ble_eq_true rfl) o335 (by decide) rfl (fun v_2 h_2 p_2 => ?_)
  obtain ⟨rfl, g2, rfl, m2, e2⟩ := p_2
  refine go_icmp_eq 910 464 dL_law_461 (by decide) rfl (fun _ => ?_) (fun z => absurd rfl z)
  exact kk (N + 99) _ g2 (by omega) (pushOk k (ok_move _ _ k.1 (by omega)) (by omega)) (c1.same e2) m2
set_option maxHeartbeats 4000000 in
set_option maxRecDepth 100000 in
theorem lc_end (G : BcG) {nm : String} {b L i N : Nat} {xs : Nat → Int32} {S : SS} {gi : GI} (hi : i + 6 ≤ L) (hL : L ≤ 3072) (hN : N + 8000 < 100000000) (k : SOk N S) (c : RelC S gi) (m : RelM S gi) (kk : LK G nm b L xs i N) : BGo G (mLaw nm) (KL G b L xs) (hp gi) 341 3274 466 [some (.ref b), some (.ref (G.1 + 0)), some (.ref (G.1 + 335)), some (.int (nI i))] [] := by
  refine go_aload_n 467 dL_law_466 rfl rfl (ls_s ls_0) ?_
  refine go_aload_n 468 dL_law_467 rfl rfl ls_0 ?_
  refine go_iload_n 469 dL_law_468 rfl rfl (ls_s (ls_s (ls_s ls_0))) ?_
  refine go_iconst 470 (v := nI 1) dL_law_469 rfl (by decide) ?_
  refine go_iadd 471 dL_law_470 rfl ?_
  refine gl_sld 472 (i + 1) dL_law_471 rfl (nI_add i 1) (by omega) hL ?_
  refine go_V (M' := mX8_end) 475 dL_law_472 rfl w_519 okX8_end ⟨Nat.le_of_ble_eq_true rfl, Nat.le_of_ble_eq_true rfl⟩ rfl rfl (Nat.le_of_ble_eq_true rfl) (Nat.le_of_ble_eq_true rfl) (cx_end G k c (by omega) _) rfl rfl (Nat.le_of_ble_eq_true rfl) o0 (by decide) rfl (fun v_1 h_1 p_1 => ?_)
  obtain ⟨rfl, g1, rfl, c1, e1⟩ := p_1
  refine go_aload_n 476 dL_law_475 rfl rfl (ls_s (ls_s ls_0)) ?_
  refine go_aload_n 477 dL_law_476 rfl rfl ls_0 ?_
  refine go_iload_n 478 dL_law_477 rfl rfl (ls_s (ls_s (ls_s ls_0))) ?_
  refine go_iconst 479 (v := nI 1) dL_law_478 rfl (by decide) ?_
  refine go_iadd 480 dL_law_479 rfl ?_
  refine gl_sld 481 (i + 1) dL_law_480 rfl (nI_add i 1) (by omega) hL ?_
  refine go_V (M' := mX9_end) 484 dL_law_481 rfl w_886 okX9_end ⟨Nat.le_of_ble_eq_true rfl, Nat.le_of_ble_eq_true rfl⟩ rfl rfl (Nat.le_of_ble_eq_true rfl) (Nat.le_of_ble_eq_true rfl) (mx_end G k (m.same e1) (by omega) _) rfl rfl (Nat.le_of_ble_eq_true rfl) o335 (by decide) rfl (fun v_2 h_2 p_2 => ?_)
  obtain ⟨rfl, g2, rfl, m2, e2⟩ := p_2
  refine go_icmp_eq 910 487 dL_law_484 (by decide) rfl (fun _ => ?_) (fun z => absurd rfl z)
  exact kk (N + 99) _ g2 (by omega) (pushOk k (ok_end _ k.1 (by omega)) (by omega)) (c1.same e2) m2
set_option maxHeartbeats 4000000 in
set_option maxRecDepth 100000 in
theorem lc_discard (G : BcG) {nm : String} {b L i N : Nat} {xs : Nat → Int32} {S : SS} {gi : GI} (hi : i + 6 ≤ L) (hL : L ≤ 3072) (hN : N + 8000 < 100000000) (k : SOk N S) (c : RelC S gi) (m : RelM S gi) (kk : LK G nm b L xs i N) : BGo G (mLaw nm) (KL G b L xs) (hp gi) 341 3274 489 [some (.ref b), some (.ref (G.1 + 0)), some (.ref (G.1 + 335)), some (.int (nI i))] [] := by
  refine go_aload_n 490 dL_law_489 rfl rfl (ls_s ls_0) ?_
  refine go_aload_n 491 dL_law_490 rfl rfl ls_0 ?_
  refine go_iload_n 492 dL_law_491 rfl rfl (ls_s (ls_s (ls_s ls_0))) ?_
  refine go_iconst 493 (v := nI 1) dL_law_492 rfl (by decide) ?_
  refine go_iadd 494 dL_law_493 rfl ?_
  refine gl_sld 495 (i + 1) dL_law_494 rfl (nI_add i 1) (by omega) hL ?_
  refine go_V (M' := mX8_discard) 498 dL_law_495 rfl w_535 okX8_discard ⟨Nat.le_of_ble_eq_true rfl, Nat.le_of_ble_eq_true rfl⟩ rfl rfl (Nat.le_of_ble_eq_true rfl) (Nat.le_of_ble_eq_true rfl) (cx_discard G k c (by omega) _) rfl rfl (Nat.le_of_ble_eq_true rfl) o0 (by decide) rfl (fun v_1 h_1 p_1 => ?_)
  obtain ⟨rfl, g1, rfl, c1, e1⟩ := p_1
  refine go_aload_n 499 dL_law_498 rfl rfl (ls_s (ls_s ls_0)) ?_
  refine go_aload_n 500 dL_law_499 rfl rfl ls_0 ?_
  refine go_iload_n 501 dL_law_500 rfl rfl (ls_s (ls_s (ls_s ls_0))) ?_
  refine go_iconst 502 (v := nI 1) dL_law_501 rfl (by decide) ?_
  refine go_iadd 503 dL_law_502 rfl ?_
  refine gl_sld 504 (i + 1) dL_law_503 rfl (nI_add i 1) (by omega) hL ?_
  refine go_V (M' := mX9_discard) 507 dL_law_504 rfl w_894 okX9_discard ⟨Nat.le_of_ble_eq_true rfl, Nat.le_of_ble_eq_true rfl⟩ rfl rfl (Nat.le_of_ble_eq_true rfl) (Nat.le_of_ble_eq_true rfl) (mx_discard G k (m.same e1) (by omega) _) rfl rfl (Nat.le_of_ble_eq_true rfl) o335 (by decide) rfl (fun v_2 h_2 p_2 => ?_)
  obtain ⟨rfl, g2, rfl, m2, e2⟩ := p_2
  refine go_icmp_eq 910 510 dL_law_507 (by decide) rfl (fun _ => ?_) (fun z => absurd rfl z)
  exact kk (N + 99) _ g2 (by omega) (pushOk k (ok_discard _ k.1 (by omega)) (by omega)) (c1.same e2) m2
set_option maxHeartbeats 4000000 in
set_option maxRecDepth 100000 in
theorem lc_blend (G : BcG) {nm : String} {b L i N : Nat} {xs : Nat → Int32} {S : SS} {gi : GI} (hi : i + 6 ≤ L) (hL : L ≤ 3072) (hN : N + 8000 < 100000000) (k : SOk N S) (c : RelC S gi) (m : RelM S gi) (kk : LK G nm b L xs i N) : BGo G (mLaw nm) (KL G b L xs) (hp gi) 341 3274 512 [some (.ref b), some (.ref (G.1 + 0)), some (.ref (G.1 + 335)), some (.int (nI i))] [] := by
  refine go_aload_n 513 dL_law_512 rfl rfl (ls_s ls_0) ?_
  refine go_aload_n 514 dL_law_513 rfl rfl ls_0 ?_
  refine go_iload_n 515 dL_law_514 rfl rfl (ls_s (ls_s (ls_s ls_0))) ?_
  refine go_iconst 516 (v := nI 1) dL_law_515 rfl (by decide) ?_
  refine go_iadd 517 dL_law_516 rfl ?_
  refine gl_sld 518 (i + 1) dL_law_517 rfl (nI_add i 1) (by omega) hL ?_
  refine go_aload_n 519 dL_law_518 rfl rfl ls_0 ?_
  refine go_iload_n 520 dL_law_519 rfl rfl (ls_s (ls_s (ls_s ls_0))) ?_
  refine go_iconst 521 (v := nI 2) dL_law_520 rfl (by decide) ?_
  refine go_iadd 522 dL_law_521 rfl ?_
  refine gl_sld 523 (i + 2) dL_law_522 rfl (nI_add i 2) (by omega) hL ?_
  refine go_V (M' := mX8_blend) 526 dL_law_523 rfl w_543 okX8_blend ⟨Nat.le_of_ble_eq_true rfl, Nat.le_of_ble_eq_true rfl⟩ rfl rfl (Nat.le_of_ble_eq_true rfl) (Nat.le_of_ble_eq_true rfl) (cx_blend G k c (by omega) _ _) rfl rfl (Nat.le_of_ble_eq_true rfl) o0 (by decide) rfl (fun v_1 h_1 p_1 => ?_)
  obtain ⟨rfl, g1, rfl, c1, e1⟩ := p_1
  refine go_aload_n 527 dL_law_526 rfl rfl (ls_s (ls_s ls_0)) ?_
  refine go_aload_n 528 dL_law_527 rfl rfl ls_0 ?_
  refine go_iload_n 529 dL_law_528 rfl rfl (ls_s (ls_s (ls_s ls_0))) ?_
  refine go_iconst 530 (v := nI 1) dL_law_529 rfl (by decide) ?_
  refine go_iadd 531 dL_law_530 rfl ?_
  refine gl_sld 532 (i + 1) dL_law_531 rfl (nI_add i 1) (by omega) hL ?_
  refine go_aload_n 533 dL_law_532 rfl rfl ls_0 ?_
  refine go_iload_n 534 dL_law_533 rfl rfl (ls_s (ls_s (ls_s ls_0))) ?_
  refine go_iconst 535 (v := nI 2) dL_law_534 rfl (by decide) ?_
  refine go_iadd 536 dL_law_535 rfl ?_
  refine gl_sld 537 (i + 2) dL_law_536 rfl (nI_add i 2) (by omega) hL ?_
  refine go_V (M' := mX9_blend) 540 dL_law_537 rfl w_898 okX9_blend ⟨Nat.le_of_ble_eq_true rfl, Nat.le_of_ble_eq_true rfl⟩ rfl rfl (Nat.le_of_ble_eq_true rfl) (Nat.le_of_ble_eq_true rfl) (mx_blend G k (m.same e1) (by omega) _ _) rfl rfl (Nat.le_of_ble_eq_true rfl) o335 (by decide) rfl (fun v_2 h_2 p_2 => ?_)
  obtain ⟨rfl, g2, rfl, m2, e2⟩ := p_2
  refine go_icmp_eq 910 543 dL_law_540 (by decide) rfl (fun _ => ?_) (fun z => absurd rfl z)
  exact kk (N + 99) _ g2 (by omega) (pushOk k (ok_blend _ _ k.1 (by omega)) (by omega)) (c1.same e2) m2
set_option maxHeartbeats 4000000 in
set_option maxRecDepth 100000 in
theorem lc_pass (G : BcG) {nm : String} {b L i N : Nat} {xs : Nat → Int32} {S : SS} {gi : GI} (hi : i + 6 ≤ L) (hL : L ≤ 3072) (hN : N + 8000 < 100000000) (k : SOk N S) (c : RelC S gi) (m : RelM S gi) (kk : LK G nm b L xs i N) : BGo G (mLaw nm) (KL G b L xs) (hp gi) 341 3274 545 [some (.ref b), some (.ref (G.1 + 0)), some (.ref (G.1 + 335)), some (.int (nI i))] [] := by
  refine go_aload_n 546 dL_law_545 rfl rfl (ls_s ls_0) ?_
  refine go_aload_n 547 dL_law_546 rfl rfl ls_0 ?_
  refine go_iload_n 548 dL_law_547 rfl rfl (ls_s (ls_s (ls_s ls_0))) ?_
  refine go_iconst 549 (v := nI 1) dL_law_548 rfl (by decide) ?_
  refine go_iadd 550 dL_law_549 rfl ?_
  refine gl_sld 551 (i + 1) dL_law_550 rfl (nI_add i 1) (by omega) hL ?_
  refine go_V (M' := mX8_pass) 554 dL_law_551 rfl w_551 okX8_pass ⟨Nat.le_of_ble_eq_true rfl, Nat.le_of_ble_eq_true rfl⟩ rfl rfl (Nat.le_of_ble_eq_true rfl) (Nat.le_of_ble_eq_true rfl) (cx_pass G k c (by omega) _) rfl rfl (Nat.le_of_ble_eq_true rfl) o0 (by decide) rfl (fun v_1 h_1 p_1 => ?_)
  obtain ⟨rfl, g1, rfl, c1, e1⟩ := p_1
  refine go_aload_n 555 dL_law_554 rfl rfl (ls_s (ls_s ls_0)) ?_
  refine go_aload_n 556 dL_law_555 rfl rfl ls_0 ?_
  refine go_iload_n 557 dL_law_556 rfl rfl (ls_s (ls_s (ls_s ls_0))) ?_
  refine go_iconst 558 (v := nI 1) dL_law_557 rfl (by decide) ?_
  refine go_iadd 559 dL_law_558 rfl ?_
  refine gl_sld 560 (i + 1) dL_law_559 rfl (nI_add i 1) (by omega) hL ?_
  refine go_V (M' := mX9_pass) 563 dL_law_560 rfl w_906 okX9_pass ⟨Nat.le_of_ble_eq_true rfl, Nat.le_of_ble_eq_true rfl⟩ rfl rfl (Nat.le_of_ble_eq_true rfl) (Nat.le_of_ble_eq_true rfl) (mx_pass G k (m.same e1) (by omega) _) rfl rfl (Nat.le_of_ble_eq_true rfl) o335 (by decide) rfl (fun v_2 h_2 p_2 => ?_)
  obtain ⟨rfl, g2, rfl, m2, e2⟩ := p_2
  refine go_icmp_eq 910 566 dL_law_563 (by decide) rfl (fun _ => ?_) (fun z => absurd rfl z)
  exact kk (N + 99) _ g2 (by omega) (pushOk k (ok_pass _ k.1 (by omega)) (by omega)) (c1.same e2) m2
set_option maxHeartbeats 4000000 in
set_option maxRecDepth 100000 in
theorem lc_set (G : BcG) {nm : String} {b L i N : Nat} {xs : Nat → Int32} {S : SS} {gi : GI} (hi : i + 6 ≤ L) (hL : L ≤ 3072) (hN : N + 8000 < 100000000) (k : SOk N S) (c : RelC S gi) (m : RelM S gi) (kk : LK G nm b L xs i N) : BGo G (mLaw nm) (KL G b L xs) (hp gi) 341 3274 568 [some (.ref b), some (.ref (G.1 + 0)), some (.ref (G.1 + 335)), some (.int (nI i))] [] := by
  refine go_aload_n 569 dL_law_568 rfl rfl (ls_s ls_0) ?_
  refine go_aload_n 570 dL_law_569 rfl rfl ls_0 ?_
  refine go_iload_n 571 dL_law_570 rfl rfl (ls_s (ls_s (ls_s ls_0))) ?_
  refine go_iconst 572 (v := nI 1) dL_law_571 rfl (by decide) ?_
  refine go_iadd 573 dL_law_572 rfl ?_
  refine gl_sld 574 (i + 1) dL_law_573 rfl (nI_add i 1) (by omega) hL ?_
  refine go_aload_n 575 dL_law_574 rfl rfl ls_0 ?_
  refine go_iload_n 576 dL_law_575 rfl rfl (ls_s (ls_s (ls_s ls_0))) ?_
  refine go_iconst 577 (v := nI 2) dL_law_576 rfl (by decide) ?_
  refine go_iadd 578 dL_law_577 rfl ?_
  refine gl_sld 579 (i + 2) dL_law_578 rfl (nI_add i 2) (by omega) hL ?_
  refine go_V (M' := mX8_set) 582 dL_law_579 rfl w_559 okX8_set ⟨Nat.le_of_ble_eq_true rfl, Nat.le_of_ble_eq_true rfl⟩ rfl rfl (Nat.le_of_ble_eq_true rfl) (Nat.le_of_ble_eq_true rfl) (cx_set G k c (by omega) _ _) rfl rfl (Nat.le_of_ble_eq_true rfl) o0 (by decide) rfl (fun v_1 h_1 p_1 => ?_)
  obtain ⟨rfl, g1, rfl, c1, e1⟩ := p_1
  refine go_aload_n 583 dL_law_582 rfl rfl (ls_s (ls_s ls_0)) ?_
  refine go_aload_n 584 dL_law_583 rfl rfl ls_0 ?_
  refine go_iload_n 585 dL_law_584 rfl rfl (ls_s (ls_s (ls_s ls_0))) ?_
  refine go_iconst 586 (v := nI 1) dL_law_585 rfl (by decide) ?_
  refine go_iadd 587 dL_law_586 rfl ?_
  refine gl_sld 588 (i + 1) dL_law_587 rfl (nI_add i 1) (by omega) hL ?_
  refine go_aload_n 589 dL_law_588 rfl rfl ls_0 ?_
  refine go_iload_n 590 dL_law_589 rfl rfl (ls_s (ls_s (ls_s ls_0))) ?_
  refine go_iconst 591 (v := nI 2) dL_law_590 rfl (by decide) ?_
  refine go_iadd 592 dL_law_591 rfl ?_
  refine gl_sld 593 (i + 2) dL_law_592 rfl (nI_add i 2) (by omega) hL ?_
  refine go_V (M' := mX9_set) 596 dL_law_593 rfl w_914 okX9_set ⟨Nat.le_of_ble_eq_true rfl, Nat.le_of_ble_eq_true rfl⟩ rfl rfl (Nat.le_of_ble_eq_true rfl) (Nat.le_of_ble_eq_true rfl) (mx_set G k (m.same e1) (by omega) _ _) rfl rfl (Nat.le_of_ble_eq_true rfl) o335 (by decide) rfl (fun v_2 h_2 p_2 => ?_)
  obtain ⟨rfl, g2, rfl, m2, e2⟩ := p_2
  refine go_icmp_eq 910 599 dL_law_596 (by decide) rfl (fun _ => ?_) (fun z => absurd rfl z)
  exact kk (N + 99) _ g2 (by omega) (pushOk k (ok_set _ _ k.1 (by omega)) (by omega)) (c1.same e2) m2
set_option maxHeartbeats 4000000 in
set_option maxRecDepth 100000 in
theorem lc_batchOf (G : BcG) {nm : String} {b L i N : Nat} {xs : Nat → Int32} {S : SS} {gi : GI} (hi : i + 6 ≤ L) (hL : L ≤ 3072) (hN : N + 8000 < 100000000) (k : SOk N S) (c : RelC S gi) (m : RelM S gi) (kk : LK G nm b L xs i N) : BGo G (mLaw nm) (KL G b L xs) (hp gi) 341 3274 601 [some (.ref b), some (.ref (G.1 + 0)), some (.ref (G.1 + 335)), some (.int (nI i))] [] := by
  refine go_aload_n 602 dL_law_601 rfl rfl (ls_s ls_0) ?_
  refine go_aload_n 603 dL_law_602 rfl rfl ls_0 ?_
  refine go_iload_n 604 dL_law_603 rfl rfl (ls_s (ls_s (ls_s ls_0))) ?_
  refine go_iconst 605 (v := nI 1) dL_law_604 rfl (by decide) ?_
  refine go_iadd 606 dL_law_605 rfl ?_
  refine gl_sld 607 (i + 1) dL_law_606 rfl (nI_add i 1) (by omega) hL ?_
  refine go_aload_n 608 dL_law_607 rfl rfl ls_0 ?_
  refine go_iload_n 609 dL_law_608 rfl rfl (ls_s (ls_s (ls_s ls_0))) ?_
  refine go_iconst 610 (v := nI 2) dL_law_609 rfl (by decide) ?_
  refine go_iadd 611 dL_law_610 rfl ?_
  refine gl_sld 612 (i + 2) dL_law_611 rfl (nI_add i 2) (by omega) hL ?_
  refine go_VI (M' := mX8_batchOf) 615 dL_law_612 rfl w_567 okX8_batchOf ⟨Nat.le_of_ble_eq_true rfl, Nat.le_of_ble_eq_true rfl⟩ (cx_batchOf G c.r1 k.1 _ _) rfl rfl o0 (by decide) rfl (kk := ?_)
  refine go_aload_n 616 dL_law_615 rfl rfl (ls_s (ls_s ls_0)) ?_
  refine go_aload_n 617 dL_law_616 rfl rfl ls_0 ?_
  refine go_iload_n 618 dL_law_617 rfl rfl (ls_s (ls_s (ls_s ls_0))) ?_
  refine go_iconst 619 (v := nI 1) dL_law_618 rfl (by decide) ?_
  refine go_iadd 620 dL_law_619 rfl ?_
  refine gl_sld 621 (i + 1) dL_law_620 rfl (nI_add i 1) (by omega) hL ?_
  refine go_aload_n 622 dL_law_621 rfl rfl ls_0 ?_
  refine go_iload_n 623 dL_law_622 rfl rfl (ls_s (ls_s (ls_s ls_0))) ?_
  refine go_iconst 624 (v := nI 2) dL_law_623 rfl (by decide) ?_
  refine go_iadd 625 dL_law_624 rfl ?_
  refine gl_sld 626 (i + 2) dL_law_625 rfl (nI_add i 2) (by omega) hL ?_
  refine go_VI (M' := mX9_batchOf) 629 dL_law_626 rfl w_918 okX9_batchOf ⟨Nat.le_of_ble_eq_true rfl, Nat.le_of_ble_eq_true rfl⟩ (my_batchOf G k m _ _) rfl rfl o335 (by decide) rfl (kk := ?_)
  refine go_icmp_eq 910 632 dL_law_629 (by decide) rfl (fun _ => ?_) (fun z => absurd rfl z)
  exact kk N S gi (by omega) k c m
set_option maxHeartbeats 4000000 in
set_option maxRecDepth 100000 in
theorem lc_vesselOf (G : BcG) {nm : String} {b L i N : Nat} {xs : Nat → Int32} {S : SS} {gi : GI} (hi : i + 6 ≤ L) (hL : L ≤ 3072) (hN : N + 8000 < 100000000) (k : SOk N S) (c : RelC S gi) (m : RelM S gi) (kk : LK G nm b L xs i N) : BGo G (mLaw nm) (KL G b L xs) (hp gi) 341 3274 634 [some (.ref b), some (.ref (G.1 + 0)), some (.ref (G.1 + 335)), some (.int (nI i))] [] := by
  refine go_aload_n 635 dL_law_634 rfl rfl (ls_s ls_0) ?_
  refine go_aload_n 636 dL_law_635 rfl rfl ls_0 ?_
  refine go_iload_n 637 dL_law_636 rfl rfl (ls_s (ls_s (ls_s ls_0))) ?_
  refine go_iconst 638 (v := nI 1) dL_law_637 rfl (by decide) ?_
  refine go_iadd 639 dL_law_638 rfl ?_
  refine gl_sld 640 (i + 1) dL_law_639 rfl (nI_add i 1) (by omega) hL ?_
  refine go_aload_n 641 dL_law_640 rfl rfl ls_0 ?_
  refine go_iload_n 642 dL_law_641 rfl rfl (ls_s (ls_s (ls_s ls_0))) ?_
  refine go_iconst 643 (v := nI 2) dL_law_642 rfl (by decide) ?_
  refine go_iadd 644 dL_law_643 rfl ?_
  refine gl_sld 645 (i + 2) dL_law_644 rfl (nI_add i 2) (by omega) hL ?_
  refine go_VI (M' := mX8_vesselOf) 648 dL_law_645 rfl w_580 okX8_vesselOf ⟨Nat.le_of_ble_eq_true rfl, Nat.le_of_ble_eq_true rfl⟩ (cx_vesselOf G c.r1 k.1 _ _) rfl rfl o0 (by decide) rfl (kk := ?_)
  refine go_aload_n 649 dL_law_648 rfl rfl (ls_s (ls_s ls_0)) ?_
  refine go_aload_n 650 dL_law_649 rfl rfl ls_0 ?_
  refine go_iload_n 651 dL_law_650 rfl rfl (ls_s (ls_s (ls_s ls_0))) ?_
  refine go_iconst 652 (v := nI 1) dL_law_651 rfl (by decide) ?_
  refine go_iadd 653 dL_law_652 rfl ?_
  refine gl_sld 654 (i + 1) dL_law_653 rfl (nI_add i 1) (by omega) hL ?_
  refine go_aload_n 655 dL_law_654 rfl rfl ls_0 ?_
  refine go_iload_n 656 dL_law_655 rfl rfl (ls_s (ls_s (ls_s ls_0))) ?_
  refine go_iconst 657 (v := nI 2) dL_law_656 rfl (by decide) ?_
  refine go_iadd 658 dL_law_657 rfl ?_
  refine gl_sld 659 (i + 2) dL_law_658 rfl (nI_add i 2) (by omega) hL ?_
  refine go_VI (M' := mX9_vesselOf) 662 dL_law_659 rfl w_922 okX9_vesselOf ⟨Nat.le_of_ble_eq_true rfl, Nat.le_of_ble_eq_true rfl⟩ (my_vesselOf G k m _ _) rfl rfl o335 (by decide) rfl (kk := ?_)
  refine go_icmp_eq 910 665 dL_law_662 (by decide) rfl (fun _ => ?_) (fun z => absurd rfl z)
  exact kk N S gi (by omega) k c m
set_option maxHeartbeats 4000000 in
set_option maxRecDepth 100000 in
theorem lc_lineOf (G : BcG) {nm : String} {b L i N : Nat} {xs : Nat → Int32} {S : SS} {gi : GI} (hi : i + 6 ≤ L) (hL : L ≤ 3072) (hN : N + 8000 < 100000000) (k : SOk N S) (c : RelC S gi) (m : RelM S gi) (kk : LK G nm b L xs i N) : BGo G (mLaw nm) (KL G b L xs) (hp gi) 341 3274 667 [some (.ref b), some (.ref (G.1 + 0)), some (.ref (G.1 + 335)), some (.int (nI i))] [] := by
  refine go_aload_n 668 dL_law_667 rfl rfl (ls_s ls_0) ?_
  refine go_aload_n 669 dL_law_668 rfl rfl ls_0 ?_
  refine go_iload_n 670 dL_law_669 rfl rfl (ls_s (ls_s (ls_s ls_0))) ?_
  refine go_iconst 671 (v := nI 1) dL_law_670 rfl (by decide) ?_
  refine go_iadd 672 dL_law_671 rfl ?_
  refine gl_sld 673 (i + 1) dL_law_672 rfl (nI_add i 1) (by omega) hL ?_
  refine go_aload_n 674 dL_law_673 rfl rfl ls_0 ?_
  refine go_iload_n 675 dL_law_674 rfl rfl (ls_s (ls_s (ls_s ls_0))) ?_
  refine go_iconst 676 (v := nI 2) dL_law_675 rfl (by decide) ?_
  refine go_iadd 677 dL_law_676 rfl ?_
  refine gl_sld 678 (i + 2) dL_law_677 rfl (nI_add i 2) (by omega) hL ?_
  refine go_VI (M' := mX8_lineOf) 681 dL_law_678 rfl w_589 okX8_lineOf ⟨Nat.le_of_ble_eq_true rfl, Nat.le_of_ble_eq_true rfl⟩ (cx_lineOf G c.r1 k.1 _ _) rfl rfl o0 (by decide) rfl (kk := ?_)
  refine go_aload_n 682 dL_law_681 rfl rfl (ls_s (ls_s ls_0)) ?_
  refine go_aload_n 683 dL_law_682 rfl rfl ls_0 ?_
  refine go_iload_n 684 dL_law_683 rfl rfl (ls_s (ls_s (ls_s ls_0))) ?_
  refine go_iconst 685 (v := nI 1) dL_law_684 rfl (by decide) ?_
  refine go_iadd 686 dL_law_685 rfl ?_
  refine gl_sld 687 (i + 1) dL_law_686 rfl (nI_add i 1) (by omega) hL ?_
  refine go_aload_n 688 dL_law_687 rfl rfl ls_0 ?_
  refine go_iload_n 689 dL_law_688 rfl rfl (ls_s (ls_s (ls_s ls_0))) ?_
  refine go_iconst 690 (v := nI 2) dL_law_689 rfl (by decide) ?_
  refine go_iadd 691 dL_law_690 rfl ?_
  refine gl_sld 692 (i + 2) dL_law_691 rfl (nI_add i 2) (by omega) hL ?_
  refine go_VI (M' := mX9_lineOf) 695 dL_law_692 rfl w_926 okX9_lineOf ⟨Nat.le_of_ble_eq_true rfl, Nat.le_of_ble_eq_true rfl⟩ (my_lineOf G k m _ _) rfl rfl o335 (by decide) rfl (kk := ?_)
  refine go_icmp_eq 910 698 dL_law_695 (by decide) rfl (fun _ => ?_) (fun z => absurd rfl z)
  exact kk N S gi (by omega) k c m
set_option maxHeartbeats 4000000 in
set_option maxRecDepth 100000 in
theorem lc_count (G : BcG) {nm : String} {b L i N : Nat} {xs : Nat → Int32} {S : SS} {gi : GI} (hi : i + 6 ≤ L) (hL : L ≤ 3072) (hN : N + 8000 < 100000000) (k : SOk N S) (c : RelC S gi) (m : RelM S gi) (kk : LK G nm b L xs i N) : BGo G (mLaw nm) (KL G b L xs) (hp gi) 341 3274 700 [some (.ref b), some (.ref (G.1 + 0)), some (.ref (G.1 + 335)), some (.int (nI i))] [] := by
  refine go_aload_n 701 dL_law_700 rfl rfl (ls_s ls_0) ?_
  refine go_aload_n 702 dL_law_701 rfl rfl ls_0 ?_
  refine go_iload_n 703 dL_law_702 rfl rfl (ls_s (ls_s (ls_s ls_0))) ?_
  refine go_iconst 704 (v := nI 1) dL_law_703 rfl (by decide) ?_
  refine go_iadd 705 dL_law_704 rfl ?_
  refine gl_sld 706 (i + 1) dL_law_705 rfl (nI_add i 1) (by omega) hL ?_
  refine go_VI (M' := mX8_count) 709 dL_law_706 rfl w_599 okX8_count ⟨Nat.le_of_ble_eq_true rfl, Nat.le_of_ble_eq_true rfl⟩ (cx_count G k c _) rfl rfl o0 (by decide) rfl (kk := ?_)
  refine go_aload_n 710 dL_law_709 rfl rfl (ls_s (ls_s ls_0)) ?_
  refine go_aload_n 711 dL_law_710 rfl rfl ls_0 ?_
  refine go_iload_n 712 dL_law_711 rfl rfl (ls_s (ls_s (ls_s ls_0))) ?_
  refine go_iconst 713 (v := nI 1) dL_law_712 rfl (by decide) ?_
  refine go_iadd 714 dL_law_713 rfl ?_
  refine gl_sld 715 (i + 1) dL_law_714 rfl (nI_add i 1) (by omega) hL ?_
  refine go_VI (M' := mX9_count) 718 dL_law_715 rfl w_930 okX9_count ⟨Nat.le_of_ble_eq_true rfl, Nat.le_of_ble_eq_true rfl⟩ (mx_count G m _) rfl rfl o335 (by decide) rfl (kk := ?_)
  refine go_icmp_eq 910 721 dL_law_718 (by decide) rfl (fun _ => ?_) (fun z => absurd rfl z)
  exact kk N S gi (by omega) k c m
set_option maxHeartbeats 4000000 in
set_option maxRecDepth 100000 in
theorem lc_targets (G : BcG) {nm : String} {b L i N : Nat} {xs : Nat → Int32} {S : SS} {gi : GI} (hi : i + 6 ≤ L) (hL : L ≤ 3072) (hN : N + 8000 < 100000000) (k : SOk N S) (c : RelC S gi) (m : RelM S gi) (kk : LK G nm b L xs i N) : BGo G (mLaw nm) (KL G b L xs) (hp gi) 341 3274 723 [some (.ref b), some (.ref (G.1 + 0)), some (.ref (G.1 + 335)), some (.int (nI i))] [] := by
  refine go_aload_n 724 dL_law_723 rfl rfl (ls_s ls_0) ?_
  refine go_aload_n 725 dL_law_724 rfl rfl ls_0 ?_
  refine go_iload_n 726 dL_law_725 rfl rfl (ls_s (ls_s (ls_s ls_0))) ?_
  refine go_iconst 727 (v := nI 1) dL_law_726 rfl (by decide) ?_
  refine go_iadd 728 dL_law_727 rfl ?_
  refine gl_sld 729 (i + 1) dL_law_728 rfl (nI_add i 1) (by omega) hL ?_
  refine go_VI (M' := mX8_targets) 732 dL_law_729 rfl w_616 okX8_targets ⟨Nat.le_of_ble_eq_true rfl, Nat.le_of_ble_eq_true rfl⟩ (cx_targets G c.r1 k.1 _) rfl rfl o0 (by decide) rfl (kk := ?_)
  refine go_aload_n 733 dL_law_732 rfl rfl (ls_s (ls_s ls_0)) ?_
  refine go_aload_n 734 dL_law_733 rfl rfl ls_0 ?_
  refine go_iload_n 735 dL_law_734 rfl rfl (ls_s (ls_s (ls_s ls_0))) ?_
  refine go_iconst 736 (v := nI 1) dL_law_735 rfl (by decide) ?_
  refine go_iadd 737 dL_law_736 rfl ?_
  refine gl_sld 738 (i + 1) dL_law_737 rfl (nI_add i 1) (by omega) hL ?_
  refine go_VI (M' := mX9_targets) 741 dL_law_738 rfl w_938 okX9_targets ⟨Nat.le_of_ble_eq_true rfl, Nat.le_of_ble_eq_true rfl⟩ (my_targets G k m _) rfl rfl o335 (by decide) rfl (kk := ?_)
  refine go_icmp_eq 910 744 dL_law_741 (by decide) rfl (fun _ => ?_) (fun z => absurd rfl z)
  exact kk N S gi (by omega) k c m
set_option maxHeartbeats 4000000 in
set_option maxRecDepth 100000 in
theorem lc_quickest (G : BcG) {nm : String} {b L i N : Nat} {xs : Nat → Int32} {S : SS} {gi : GI} (hi : i + 6 ≤ L) (hL : L ≤ 3072) (hN : N + 8000 < 100000000) (k : SOk N S) (c : RelC S gi) (m : RelM S gi) (kk : LK G nm b L xs i N) : BGo G (mLaw nm) (KL G b L xs) (hp gi) 341 3274 746 [some (.ref b), some (.ref (G.1 + 0)), some (.ref (G.1 + 335)), some (.int (nI i))] [] := by
  refine go_aload_n 747 dL_law_746 rfl rfl (ls_s ls_0) ?_
  refine go_aload_n 748 dL_law_747 rfl rfl ls_0 ?_
  refine go_iload_n 749 dL_law_748 rfl rfl (ls_s (ls_s (ls_s ls_0))) ?_
  refine go_iconst 750 (v := nI 1) dL_law_749 rfl (by decide) ?_
  refine go_iadd 751 dL_law_750 rfl ?_
  refine gl_sld 752 (i + 1) dL_law_751 rfl (nI_add i 1) (by omega) hL ?_
  refine go_aload_n 753 dL_law_752 rfl rfl ls_0 ?_
  refine go_iload_n 754 dL_law_753 rfl rfl (ls_s (ls_s (ls_s ls_0))) ?_
  refine go_iconst 755 (v := nI 2) dL_law_754 rfl (by decide) ?_
  refine go_iadd 756 dL_law_755 rfl ?_
  refine gl_sld 757 (i + 2) dL_law_756 rfl (nI_add i 2) (by omega) hL ?_
  refine go_VI (M' := mX8_quickest) 760 dL_law_757 rfl w_624 okX8_quickest ⟨Nat.le_of_ble_eq_true rfl, Nat.le_of_ble_eq_true rfl⟩ (cx_quickest G c.r1 k.1 _ _) rfl rfl o0 (by decide) rfl (kk := ?_)
  refine go_aload_n 761 dL_law_760 rfl rfl (ls_s (ls_s ls_0)) ?_
  refine go_aload_n 762 dL_law_761 rfl rfl ls_0 ?_
  refine go_iload_n 763 dL_law_762 rfl rfl (ls_s (ls_s (ls_s ls_0))) ?_
  refine go_iconst 764 (v := nI 1) dL_law_763 rfl (by decide) ?_
  refine go_iadd 765 dL_law_764 rfl ?_
  refine gl_sld 766 (i + 1) dL_law_765 rfl (nI_add i 1) (by omega) hL ?_
  refine go_aload_n 767 dL_law_766 rfl rfl ls_0 ?_
  refine go_iload_n 768 dL_law_767 rfl rfl (ls_s (ls_s (ls_s ls_0))) ?_
  refine go_iconst 769 (v := nI 2) dL_law_768 rfl (by decide) ?_
  refine go_iadd 770 dL_law_769 rfl ?_
  refine gl_sld 771 (i + 2) dL_law_770 rfl (nI_add i 2) (by omega) hL ?_
  refine go_VI (M' := mX9_quickest) 774 dL_law_771 rfl w_942 okX9_quickest ⟨Nat.le_of_ble_eq_true rfl, Nat.le_of_ble_eq_true rfl⟩ (my_quickest G k m _ _) rfl rfl o335 (by decide) rfl (kk := ?_)
  refine go_icmp_eq 910 777 dL_law_774 (by decide) rfl (fun _ => ?_) (fun z => absurd rfl z)
  exact kk N S gi (by omega) k c m
set_option maxHeartbeats 4000000 in
set_option maxRecDepth 100000 in
theorem lc_soonest (G : BcG) {nm : String} {b L i N : Nat} {xs : Nat → Int32} {S : SS} {gi : GI} (hi : i + 6 ≤ L) (hL : L ≤ 3072) (hN : N + 8000 < 100000000) (k : SOk N S) (c : RelC S gi) (m : RelM S gi) (kk : LK G nm b L xs i N) : BGo G (mLaw nm) (KL G b L xs) (hp gi) 341 3274 779 [some (.ref b), some (.ref (G.1 + 0)), some (.ref (G.1 + 335)), some (.int (nI i))] [] := by
  refine go_aload_n 780 dL_law_779 rfl rfl (ls_s ls_0) ?_
  refine go_aload_n 781 dL_law_780 rfl rfl ls_0 ?_
  refine go_iload_n 782 dL_law_781 rfl rfl (ls_s (ls_s (ls_s ls_0))) ?_
  refine go_iconst 783 (v := nI 1) dL_law_782 rfl (by decide) ?_
  refine go_iadd 784 dL_law_783 rfl ?_
  refine gl_sld 785 (i + 1) dL_law_784 rfl (nI_add i 1) (by omega) hL ?_
  refine go_VI (M' := mX8_soonest) 788 dL_law_785 rfl w_637 okX8_soonest ⟨Nat.le_of_ble_eq_true rfl, Nat.le_of_ble_eq_true rfl⟩ (cx_soonest G c.r1 k.1 _) rfl rfl o0 (by decide) rfl (kk := ?_)
  refine go_aload_n 789 dL_law_788 rfl rfl (ls_s (ls_s ls_0)) ?_
  refine go_aload_n 790 dL_law_789 rfl rfl ls_0 ?_
  refine go_iload_n 791 dL_law_790 rfl rfl (ls_s (ls_s (ls_s ls_0))) ?_
  refine go_iconst 792 (v := nI 1) dL_law_791 rfl (by decide) ?_
  refine go_iadd 793 dL_law_792 rfl ?_
  refine gl_sld 794 (i + 1) dL_law_793 rfl (nI_add i 1) (by omega) hL ?_
  refine go_VI (M' := mX9_soonest) 797 dL_law_794 rfl w_946 okX9_soonest ⟨Nat.le_of_ble_eq_true rfl, Nat.le_of_ble_eq_true rfl⟩ (my_soonest G k m _) rfl rfl o335 (by decide) rfl (kk := ?_)
  refine go_icmp_eq 910 800 dL_law_797 (by decide) rfl (fun _ => ?_) (fun z => absurd rfl z)
  exact kk N S gi (by omega) k c m
set_option maxHeartbeats 4000000 in
set_option maxRecDepth 100000 in
theorem lc_urgent (G : BcG) {nm : String} {b L i N : Nat} {xs : Nat → Int32} {S : SS} {gi : GI} (hi : i + 6 ≤ L) (hL : L ≤ 3072) (hN : N + 8000 < 100000000) (k : SOk N S) (c : RelC S gi) (m : RelM S gi) (kk : LK G nm b L xs i N) : BGo G (mLaw nm) (KL G b L xs) (hp gi) 341 3274 802 [some (.ref b), some (.ref (G.1 + 0)), some (.ref (G.1 + 335)), some (.int (nI i))] [] := by
  refine go_aload_n 803 dL_law_802 rfl rfl (ls_s ls_0) ?_
  refine go_aload_n 804 dL_law_803 rfl rfl ls_0 ?_
  refine go_iload_n 805 dL_law_804 rfl rfl (ls_s (ls_s (ls_s ls_0))) ?_
  refine go_iconst 806 (v := nI 1) dL_law_805 rfl (by decide) ?_
  refine go_iadd 807 dL_law_806 rfl ?_
  refine gl_sld 808 (i + 1) dL_law_807 rfl (nI_add i 1) (by omega) hL ?_
  refine go_VI (M' := mX8_urgent) 811 dL_law_808 rfl w_651 okX8_urgent ⟨Nat.le_of_ble_eq_true rfl, Nat.le_of_ble_eq_true rfl⟩ (cx_urgent G c.r1 k.1 _) rfl rfl o0 (by decide) rfl (kk := ?_)
  refine go_aload_n 812 dL_law_811 rfl rfl (ls_s (ls_s ls_0)) ?_
  refine go_aload_n 813 dL_law_812 rfl rfl ls_0 ?_
  refine go_iload_n 814 dL_law_813 rfl rfl (ls_s (ls_s (ls_s ls_0))) ?_
  refine go_iconst 815 (v := nI 1) dL_law_814 rfl (by decide) ?_
  refine go_iadd 816 dL_law_815 rfl ?_
  refine gl_sld 817 (i + 1) dL_law_816 rfl (nI_add i 1) (by omega) hL ?_
  refine go_VI (M' := mX9_urgent) 820 dL_law_817 rfl w_954 okX9_urgent ⟨Nat.le_of_ble_eq_true rfl, Nat.le_of_ble_eq_true rfl⟩ (my_urgent G k m _) rfl rfl o335 (by decide) rfl (kk := ?_)
  refine go_icmp_eq 910 823 dL_law_820 (by decide) rfl (fun _ => ?_) (fun z => absurd rfl z)
  exact kk N S gi (by omega) k c m
set_option maxHeartbeats 4000000 in
set_option maxRecDepth 100000 in
theorem lc_undo (G : BcG) {nm : String} {b L i N : Nat} {xs : Nat → Int32} {S : SS} {gi : GI} (hi : i + 6 ≤ L) (hL : L ≤ 3072) (hN : N + 8000 < 100000000) (k : SOk N S) (c : RelC S gi) (m : RelM S gi) (kk : LK G nm b L xs i N) : BGo G (mLaw nm) (KL G b L xs) (hp gi) 341 3274 825 [some (.ref b), some (.ref (G.1 + 0)), some (.ref (G.1 + 335)), some (.int (nI i))] [] := by
  refine go_aload_n 826 dL_law_825 rfl rfl (ls_s ls_0) ?_
  refine go_V (M' := mX8_undo) 829 dL_law_826 rfl w_667 okX8_undo ⟨Nat.le_of_ble_eq_true rfl, Nat.le_of_ble_eq_true rfl⟩ rfl rfl (Nat.le_of_ble_eq_true rfl) (Nat.le_of_ble_eq_true rfl) (cx_undo G k c) rfl rfl (Nat.le_of_ble_eq_true rfl) o0 (by decide) rfl (fun v_1 h_1 p_1 => ?_)
  obtain ⟨rfl, g1, rfl, c1, e1⟩ := p_1
  refine go_aload_n 830 dL_law_829 rfl rfl (ls_s (ls_s ls_0)) ?_
  refine go_V (M' := mX9_undo) 833 dL_law_830 rfl w_958 okX9_undo ⟨Nat.le_of_ble_eq_true rfl, Nat.le_of_ble_eq_true rfl⟩ rfl rfl (Nat.le_of_ble_eq_true rfl) (Nat.le_of_ble_eq_true rfl) (mx_undo G k (m.same e1)) rfl rfl (Nat.le_of_ble_eq_true rfl) o335 (by decide) rfl (fun v_2 h_2 p_2 => ?_)
  obtain ⟨rfl, g2, rfl, m2, e2⟩ := p_2
  refine go_icmp_eq 910 836 dL_law_833 (by decide) rfl (fun _ => ?_) (fun z => absurd rfl z)
  exact kk N _ g2 (by omega) (sUndoOk k) (c1.same e2) m2
set_option maxHeartbeats 4000000 in
set_option maxRecDepth 100000 in
theorem lc_type (G : BcG) {nm : String} {b L i N : Nat} {xs : Nat → Int32} {S : SS} {gi : GI} (hi : i + 6 ≤ L) (hL : L ≤ 3072) (hN : N + 8000 < 100000000) (k : SOk N S) (c : RelC S gi) (m : RelM S gi) (kk : LK G nm b L xs i N) : BGo G (mLaw nm) (KL G b L xs) (hp gi) 341 3274 838 [some (.ref b), some (.ref (G.1 + 0)), some (.ref (G.1 + 335)), some (.int (nI i))] [] := by
  refine go_aload_n 839 dL_law_838 rfl rfl (ls_s ls_0) ?_
  refine go_aload_n 840 dL_law_839 rfl rfl ls_0 ?_
  refine go_iload_n 841 dL_law_840 rfl rfl (ls_s (ls_s (ls_s ls_0))) ?_
  refine go_iconst 842 (v := nI 1) dL_law_841 rfl (by decide) ?_
  refine go_iadd 843 dL_law_842 rfl ?_
  refine gl_sld 844 (i + 1) dL_law_843 rfl (nI_add i 1) (by omega) hL ?_
  refine go_V (M' := mX8_type) 847 dL_law_844 rfl w_675 okX8_type ⟨Nat.le_of_ble_eq_true rfl, Nat.le_of_ble_eq_true rfl⟩ rfl rfl (Nat.le_of_ble_eq_true rfl) (Nat.le_of_ble_eq_true rfl) (cx_type G k c _) rfl rfl (Nat.le_of_ble_eq_true rfl) o0 (by decide) rfl (fun v_1 h_1 p_1 => ?_)
  obtain ⟨rfl, g1, rfl, c1, e1⟩ := p_1
  refine go_aload_n 848 dL_law_847 rfl rfl (ls_s (ls_s ls_0)) ?_
  refine go_aload_n 849 dL_law_848 rfl rfl ls_0 ?_
  refine go_iload_n 850 dL_law_849 rfl rfl (ls_s (ls_s (ls_s ls_0))) ?_
  refine go_iconst 851 (v := nI 1) dL_law_850 rfl (by decide) ?_
  refine go_iadd 852 dL_law_851 rfl ?_
  refine gl_sld 853 (i + 1) dL_law_852 rfl (nI_add i 1) (by omega) hL ?_
  refine go_V (M' := mX9_type) 856 dL_law_853 rfl w_962 okX9_type ⟨Nat.le_of_ble_eq_true rfl, Nat.le_of_ble_eq_true rfl⟩ rfl rfl (Nat.le_of_ble_eq_true rfl) (Nat.le_of_ble_eq_true rfl) (mx_type G k (m.same e1) _) rfl rfl (Nat.le_of_ble_eq_true rfl) o335 (by decide) rfl (fun v_2 h_2 p_2 => ?_)
  obtain ⟨rfl, g2, rfl, m2, e2⟩ := p_2
  refine go_icmp_eq 910 859 dL_law_856 (by decide) rfl (fun _ => ?_) (fun z => absurd rfl z)
  exact kk N _ g2 (by omega) (sTypeOk k _) (c1.same e2) m2
set_option maxHeartbeats 4000000 in
set_option maxRecDepth 100000 in
theorem lc_clearText (G : BcG) {nm : String} {b L i N : Nat} {xs : Nat → Int32} {S : SS} {gi : GI} (hi : i + 6 ≤ L) (hL : L ≤ 3072) (hN : N + 8000 < 100000000) (k : SOk N S) (c : RelC S gi) (m : RelM S gi) (kk : LK G nm b L xs i N) : BGo G (mLaw nm) (KL G b L xs) (hp gi) 341 3274 861 [some (.ref b), some (.ref (G.1 + 0)), some (.ref (G.1 + 335)), some (.int (nI i))] [] := by
  refine go_aload_n 862 dL_law_861 rfl rfl (ls_s ls_0) ?_
  refine go_V (M' := mX8_clearText) 865 dL_law_862 rfl w_684 okX8_clearText ⟨Nat.le_of_ble_eq_true rfl, Nat.le_of_ble_eq_true rfl⟩ rfl rfl (Nat.le_of_ble_eq_true rfl) (Nat.le_of_ble_eq_true rfl) (cx_clearText G k c) rfl rfl (Nat.le_of_ble_eq_true rfl) o0 (by decide) rfl (fun v_1 h_1 p_1 => ?_)
  obtain ⟨rfl, g1, rfl, c1, e1⟩ := p_1
  refine go_aload_n 866 dL_law_865 rfl rfl (ls_s (ls_s ls_0)) ?_
  refine go_V (M' := mX9_clearText) 869 dL_law_866 rfl w_966 okX9_clearText ⟨Nat.le_of_ble_eq_true rfl, Nat.le_of_ble_eq_true rfl⟩ rfl rfl (Nat.le_of_ble_eq_true rfl) (Nat.le_of_ble_eq_true rfl) (mx_clearText G k (m.same e1)) rfl rfl (Nat.le_of_ble_eq_true rfl) o335 (by decide) rfl (fun v_2 h_2 p_2 => ?_)
  obtain ⟨rfl, g2, rfl, m2, e2⟩ := p_2
  refine go_icmp_eq 910 872 dL_law_869 (by decide) rfl (fun _ => ?_) (fun z => absurd rfl z)
  exact kk N _ g2 (by omega) (sClearOk k) (c1.same e2) m2
set_option maxHeartbeats 4000000 in
set_option maxRecDepth 100000 in
theorem lc_fault (G : BcG) {nm : String} {b L i N : Nat} {xs : Nat → Int32} {S : SS} {gi : GI} (hi : i + 6 ≤ L) (hL : L ≤ 3072) (hN : N + 8000 < 100000000) (k : SOk N S) (c : RelC S gi) (m : RelM S gi) (kk : LK G nm b L xs i N) : BGo G (mLaw nm) (KL G b L xs) (hp gi) 341 3274 874 [some (.ref b), some (.ref (G.1 + 0)), some (.ref (G.1 + 335)), some (.int (nI i))] [] := by
  refine go_aload_n 875 dL_law_874 rfl rfl (ls_s ls_0) ?_
  refine go_aload_n 876 dL_law_875 rfl rfl ls_0 ?_
  refine go_iload_n 877 dL_law_876 rfl rfl (ls_s (ls_s (ls_s ls_0))) ?_
  refine go_iconst 878 (v := nI 1) dL_law_877 rfl (by decide) ?_
  refine go_iadd 879 dL_law_878 rfl ?_
  refine gl_sld 880 (i + 1) dL_law_879 rfl (nI_add i 1) (by omega) hL ?_
  refine go_V (M' := mX8_fault) 883 dL_law_880 rfl w_688 okX8_fault ⟨Nat.le_of_ble_eq_true rfl, Nat.le_of_ble_eq_true rfl⟩ rfl rfl (Nat.le_of_ble_eq_true rfl) (Nat.le_of_ble_eq_true rfl) (cx_fault G k c hN _) rfl rfl (Nat.le_of_ble_eq_true rfl) o0 (by decide) rfl (fun v_1 h_1 p_1 => ?_)
  obtain ⟨rfl, g1, rfl, c1, e1⟩ := p_1
  refine go_aload_n 884 dL_law_883 rfl rfl (ls_s (ls_s ls_0)) ?_
  refine go_aload_n 885 dL_law_884 rfl rfl ls_0 ?_
  refine go_iload_n 886 dL_law_885 rfl rfl (ls_s (ls_s (ls_s ls_0))) ?_
  refine go_iconst 887 (v := nI 1) dL_law_886 rfl (by decide) ?_
  refine go_iadd 888 dL_law_887 rfl ?_
  refine gl_sld 889 (i + 1) dL_law_888 rfl (nI_add i 1) (by omega) hL ?_
  refine go_V (M' := mX9_fault) 892 dL_law_889 rfl w_970 okX9_fault ⟨Nat.le_of_ble_eq_true rfl, Nat.le_of_ble_eq_true rfl⟩ rfl rfl (Nat.le_of_ble_eq_true rfl) (Nat.le_of_ble_eq_true rfl) (mx_fault G k (m.same e1) hN _) rfl rfl (Nat.le_of_ble_eq_true rfl) o335 (by decide) rfl (fun v_2 h_2 p_2 => ?_)
  obtain ⟨rfl, g2, rfl, m2, e2⟩ := p_2
  refine go_icmp_eq 910 895 dL_law_892 (by decide) rfl (fun _ => ?_) (fun z => absurd rfl z)
  exact kk N S g2 (by omega) k (c1.same e2) m2
set_option maxHeartbeats 4000000 in
set_option maxRecDepth 100000 in
theorem lc_play (G : BcG) {nm : String} {b L i N : Nat} {xs : Nat → Int32} {S : SS} {gi : GI} (hi : i + 6 ≤ L) (hL : L ≤ 3072) (hN : N + 8000 < 100000000) (k : SOk N S) (c : RelC S gi) (m : RelM S gi) (kk : LK G nm b L xs i N) : BGo G (mLaw nm) (KL G b L xs) (hp gi) 341 3274 897 [some (.ref b), some (.ref (G.1 + 0)), some (.ref (G.1 + 335)), some (.int (nI i))] [] := by
  refine go_aload_n 898 dL_law_897 rfl rfl (ls_s ls_0) ?_
  refine go_V (M' := mX8_play) 901 dL_law_898 rfl w_720 okX8_play ⟨Nat.le_of_ble_eq_true rfl, Nat.le_of_ble_eq_true rfl⟩ rfl rfl (Nat.le_of_ble_eq_true rfl) (Nat.le_of_ble_eq_true rfl) (cx_play G k c hN) rfl rfl (Nat.le_of_ble_eq_true rfl) o0 (by decide) rfl (fun v_1 h_1 p_1 => ?_)
  obtain ⟨rfl, g1, rfl, c1, e1⟩ := p_1
  refine go_aload_n 902 dL_law_901 rfl rfl (ls_s (ls_s ls_0)) ?_
  refine go_V (M' := mX9_play) 905 dL_law_902 rfl w_1002 okX9_play ⟨Nat.le_of_ble_eq_true rfl, Nat.le_of_ble_eq_true rfl⟩ rfl rfl (Nat.le_of_ble_eq_true rfl) (Nat.le_of_ble_eq_true rfl) (mx_play G k (m.same e1) hN) rfl rfl (Nat.le_of_ble_eq_true rfl) o335 (by decide) rfl (fun v_2 h_2 p_2 => ?_)
  obtain ⟨rfl, g2, rfl, m2, e2⟩ := p_2
  refine go_icmp_eq 910 908 dL_law_905 (by decide) rfl (fun _ => ?_) (fun z => absurd rfl z)
  exact kk (N + 8000) _ g2 (by omega) (playOk k hN) (c1.same e2) m2
