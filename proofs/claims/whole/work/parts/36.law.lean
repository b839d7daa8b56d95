set_option maxHeartbeats 4000000 in
theorem la_put {l : Launch} {g : xG} {E : xE} {nm : String} {ok om sb L : Nat} {xs : Nat → Int32} {nn : Int} {nf : Int → Int} {rn : Int} {y : Int → Int} {e nc oc co : Int} {B : Int → Bool} {wk wm : va_W} {i : Int} (C : Cx l g E room_1 RL nm cL_law wsL_law 4) (hX : Sc E sb L xs) (hL : L ≤ 2048) (h0 : 0 ≤ i) (h4 : i + 4 ≤ L) (hk : KG g ok (nn, nf, rn, y, e, nc, oc, co, B) wk) (hm : MO g om (nn, nf, rn, y, e, nc, oc, co, B) wm) (kk : ∀ (S1 : T9) (wk1 wm1 : va_W), KG g ok S1 wk1 → MO g om S1 wm1 → X l g E room_1 4 (wk1 ++ wm1) 39 4347 [(3, jv i), (2, .ref om), (1, .ref ok), (0, .ref sb)] 585 []) : X l g E room_1 4 (wk ++ wm) 39 4347 [(3, jv i), (2, .ref om), (1, .ref ok), (0, .ref sb)] 120 [] := by
  refine x_aload_n (pc := 120) C 2 dL_law_120 rfl ?_
  refine x_aload_n (pc := 121) C 3 dL_law_121 rfl ?_
  refine x_iload_n (pc := 122) C 0 dL_law_122 rfl ?_
  refine x_iconst (pc := 123) C dL_law_123 ?_
  refine x_iadd (pc := 124) C dL_law_124 ?_
  refine x_sld (pc := 125) C hX hL (by omega) (by omega) dL_law_125 ?_
  refine lk_put C hk hm.len hm.hc (rgI _) (rest := []) (Nat.le_of_ble_eq_true rfl) (fun z S1 wk1 q hk1 => ?_)
  refine x_aload_n (pc := 129) C 1 dL_law_129 rfl ?_
  refine x_aload_n (pc := 130) C 3 dL_law_130 rfl ?_
  refine x_iload_n (pc := 131) C 0 dL_law_131 rfl ?_
  refine x_iconst (pc := 132) C dL_law_132 ?_
  refine x_iadd (pc := 133) C dL_law_133 ?_
  refine x_sld (pc := 134) C hX hL (by omega) (by omega) dL_law_134 ?_
  refine lm_put C hm hk1.len (rgI _) (rest := [jv z]) (Nat.le_of_ble_eq_true rfl) q (fun wm1 hm1 => ?_)
  exact x_icmpSame (pc := 138) C 585 dL_law_138 rfl (kk _ _ _ hk1 hm1)
set_option maxHeartbeats 4000000 in
theorem la_take {l : Launch} {g : xG} {E : xE} {nm : String} {ok om sb L : Nat} {xs : Nat → Int32} {nn : Int} {nf : Int → Int} {rn : Int} {y : Int → Int} {e nc oc co : Int} {B : Int → Bool} {wk wm : va_W} {i : Int} (C : Cx l g E room_1 RL nm cL_law wsL_law 4) (hX : Sc E sb L xs) (hL : L ≤ 2048) (h0 : 0 ≤ i) (h4 : i + 4 ≤ L) (hk : KG g ok (nn, nf, rn, y, e, nc, oc, co, B) wk) (hm : MO g om (nn, nf, rn, y, e, nc, oc, co, B) wm) (kk : ∀ (S1 : T9) (wk1 wm1 : va_W), KG g ok S1 wk1 → MO g om S1 wm1 → X l g E room_1 4 (wk1 ++ wm1) 39 4347 [(3, jv i), (2, .ref om), (1, .ref ok), (0, .ref sb)] 585 []) : X l g E room_1 4 (wk ++ wm) 39 4347 [(3, jv i), (2, .ref om), (1, .ref ok), (0, .ref sb)] 143 [] := by
  refine x_aload_n (pc := 143) C 2 dL_law_143 rfl ?_
  refine x_aload_n (pc := 144) C 3 dL_law_144 rfl ?_
  refine x_iload_n (pc := 145) C 0 dL_law_145 rfl ?_
  refine x_iconst (pc := 146) C dL_law_146 ?_
  refine x_iadd (pc := 147) C dL_law_147 ?_
  refine x_sld (pc := 148) C hX hL (by omega) (by omega) dL_law_148 ?_
  refine lk_take C hk hm.len hm.hc (rgI _) (rest := []) (Nat.le_of_ble_eq_true rfl) (fun z S1 wk1 q hk1 => ?_)
  refine x_aload_n (pc := 152) C 1 dL_law_152 rfl ?_
  refine x_aload_n (pc := 153) C 3 dL_law_153 rfl ?_
  refine x_iload_n (pc := 154) C 0 dL_law_154 rfl ?_
  refine x_iconst (pc := 155) C dL_law_155 ?_
  refine x_iadd (pc := 156) C dL_law_156 ?_
  refine x_sld (pc := 157) C hX hL (by omega) (by omega) dL_law_157 ?_
  refine lm_take C hm hk1.len (rgI _) (rest := [jv z]) (Nat.le_of_ble_eq_true rfl) q (fun wm1 hm1 => ?_)
  exact x_icmpSame (pc := 161) C 585 dL_law_161 rfl (kk _ _ _ hk1 hm1)
set_option maxHeartbeats 4000000 in
theorem la_make {l : Launch} {g : xG} {E : xE} {nm : String} {ok om sb L : Nat} {xs : Nat → Int32} {nn : Int} {nf : Int → Int} {rn : Int} {y : Int → Int} {e nc oc co : Int} {B : Int → Bool} {wk wm : va_W} {i : Int} (C : Cx l g E room_1 RL nm cL_law wsL_law 4) (hX : Sc E sb L xs) (hL : L ≤ 2048) (h0 : 0 ≤ i) (h4 : i + 4 ≤ L) (hk : KG g ok (nn, nf, rn, y, e, nc, oc, co, B) wk) (hm : MO g om (nn, nf, rn, y, e, nc, oc, co, B) wm) (kk : ∀ (S1 : T9) (wk1 wm1 : va_W), KG g ok S1 wk1 → MO g om S1 wm1 → X l g E room_1 4 (wk1 ++ wm1) 39 4347 [(3, jv i), (2, .ref om), (1, .ref ok), (0, .ref sb)] 585 []) : X l g E room_1 4 (wk ++ wm) 39 4347 [(3, jv i), (2, .ref om), (1, .ref ok), (0, .ref sb)] 166 [] := by
  refine x_aload_n (pc := 166) C 2 dL_law_166 rfl ?_
  refine lk_make C hk hm.len (rest := []) (Nat.le_of_ble_eq_true rfl) (fun wk1 hk1 => ?_)
  refine x_aload_n (pc := 170) C 1 dL_law_170 rfl ?_
  refine lm_make C (z := 0) hm hk1.len (rest := [jv (co + nn)]) (Nat.le_of_ble_eq_true rfl) trivial (fun wm1 hm1 => ?_)
  exact x_icmpSame (pc := 174) C 585 dL_law_174 rfl (kk _ _ _ hk1 hm1)
set_option maxHeartbeats 4000000 in
theorem la_slack {l : Launch} {g : xG} {E : xE} {nm : String} {ok om sb L : Nat} {xs : Nat → Int32} {nn : Int} {nf : Int → Int} {rn : Int} {y : Int → Int} {e nc oc co : Int} {B : Int → Bool} {wk wm : va_W} {i : Int} (C : Cx l g E room_1 RL nm cL_law wsL_law 4) (hX : Sc E sb L xs) (hL : L ≤ 2048) (h0 : 0 ≤ i) (h4 : i + 4 ≤ L) (hk : KG g ok (nn, nf, rn, y, e, nc, oc, co, B) wk) (hm : MO g om (nn, nf, rn, y, e, nc, oc, co, B) wm) (kk : ∀ (S1 : T9) (wk1 wm1 : va_W), KG g ok S1 wk1 → MO g om S1 wm1 → X l g E room_1 4 (wk1 ++ wm1) 39 4347 [(3, jv i), (2, .ref om), (1, .ref ok), (0, .ref sb)] 585 []) : X l g E room_1 4 (wk ++ wm) 39 4347 [(3, jv i), (2, .ref om), (1, .ref ok), (0, .ref sb)] 179 [] := by
  refine x_aload_n (pc := 179) C 2 dL_law_179 rfl ?_
  refine x_aload_n (pc := 180) C 3 dL_law_180 rfl ?_
  refine x_iload_n (pc := 181) C 0 dL_law_181 rfl ?_
  refine x_iconst (pc := 182) C dL_law_182 ?_
  refine x_iadd (pc := 183) C dL_law_183 ?_
  refine x_sld (pc := 184) C hX hL (by omega) (by omega) dL_law_184 ?_
  refine lk_slack C hk hm.len (rgI _) (rest := []) (Nat.le_of_ble_eq_true rfl) (fun z S1 wk1 q hk1 => ?_)
  refine x_aload_n (pc := 188) C 1 dL_law_188 rfl ?_
  refine x_aload_n (pc := 189) C 3 dL_law_189 rfl ?_
  refine x_iload_n (pc := 190) C 0 dL_law_190 rfl ?_
  refine x_iconst (pc := 191) C dL_law_191 ?_
  refine x_iadd (pc := 192) C dL_law_192 ?_
  refine x_sld (pc := 193) C hX hL (by omega) (by omega) dL_law_193 ?_
  refine lm_slack C hm hk1.len (rgI _) (rest := [jv z]) (Nat.le_of_ble_eq_true rfl) q (fun wm1 hm1 => ?_)
  exact x_icmpSame (pc := 197) C 585 dL_law_197 rfl (kk _ _ _ hk1 hm1)
set_option maxHeartbeats 4000000 in
theorem la_place {l : Launch} {g : xG} {E : xE} {nm : String} {ok om sb L : Nat} {xs : Nat → Int32} {nn : Int} {nf : Int → Int} {rn : Int} {y : Int → Int} {e nc oc co : Int} {B : Int → Bool} {wk wm : va_W} {i : Int} (C : Cx l g E room_1 RL nm cL_law wsL_law 4) (hX : Sc E sb L xs) (hL : L ≤ 2048) (h0 : 0 ≤ i) (h4 : i + 4 ≤ L) (hk : KG g ok (nn, nf, rn, y, e, nc, oc, co, B) wk) (hm : MO g om (nn, nf, rn, y, e, nc, oc, co, B) wm) (kk : ∀ (S1 : T9) (wk1 wm1 : va_W), KG g ok S1 wk1 → MO g om S1 wm1 → X l g E room_1 4 (wk1 ++ wm1) 39 4347 [(3, jv i), (2, .ref om), (1, .ref ok), (0, .ref sb)] 585 []) : X l g E room_1 4 (wk ++ wm) 39 4347 [(3, jv i), (2, .ref om), (1, .ref ok), (0, .ref sb)] 202 [] := by
  refine x_aload_n (pc := 202) C 2 dL_law_202 rfl ?_
  refine x_aload_n (pc := 203) C 3 dL_law_203 rfl ?_
  refine x_iload_n (pc := 204) C 0 dL_law_204 rfl ?_
  refine x_iconst (pc := 205) C dL_law_205 ?_
  refine x_iadd (pc := 206) C dL_law_206 ?_
  refine x_sld (pc := 207) C hX hL (by omega) (by omega) dL_law_207 ?_
  refine lk_place C hk hm.len (rgI _) (rest := []) (Nat.le_of_ble_eq_true rfl) (fun z wk1 q hk1 => ?_)
  refine x_aload_n (pc := 211) C 1 dL_law_211 rfl ?_
  refine x_aload_n (pc := 212) C 3 dL_law_212 rfl ?_
  refine x_iload_n (pc := 213) C 0 dL_law_213 rfl ?_
  refine x_iconst (pc := 214) C dL_law_214 ?_
  refine x_iadd (pc := 215) C dL_law_215 ?_
  refine x_sld (pc := 216) C hX hL (by omega) (by omega) dL_law_216 ?_
  refine lm_place C hm hk1.len (rgI _) (rest := [jv z]) (Nat.le_of_ble_eq_true rfl) q (fun wm1 hm1 => ?_)
  exact x_icmpSame (pc := 220) C 585 dL_law_220 rfl (kk _ _ _ hk1 hm1)
set_option maxHeartbeats 4000000 in
theorem la_at {l : Launch} {g : xG} {E : xE} {nm : String} {ok om sb L : Nat} {xs : Nat → Int32} {nn : Int} {nf : Int → Int} {rn : Int} {y : Int → Int} {e nc oc co : Int} {B : Int → Bool} {wk wm : va_W} {i : Int} (C : Cx l g E room_1 RL nm cL_law wsL_law 4) (hX : Sc E sb L xs) (hL : L ≤ 2048) (h0 : 0 ≤ i) (h4 : i + 4 ≤ L) (hk : KG g ok (nn, nf, rn, y, e, nc, oc, co, B) wk) (hm : MO g om (nn, nf, rn, y, e, nc, oc, co, B) wm) (kk : ∀ (S1 : T9) (wk1 wm1 : va_W), KG g ok S1 wk1 → MO g om S1 wm1 → X l g E room_1 4 (wk1 ++ wm1) 39 4347 [(3, jv i), (2, .ref om), (1, .ref ok), (0, .ref sb)] 585 []) : X l g E room_1 4 (wk ++ wm) 39 4347 [(3, jv i), (2, .ref om), (1, .ref ok), (0, .ref sb)] 225 [] := by
  refine x_aload_n (pc := 225) C 2 dL_law_225 rfl ?_
  refine x_aload_n (pc := 226) C 3 dL_law_226 rfl ?_
  refine x_iload_n (pc := 227) C 0 dL_law_227 rfl ?_
  refine x_iconst (pc := 228) C dL_law_228 ?_
  refine x_iadd (pc := 229) C dL_law_229 ?_
  refine x_sld (pc := 230) C hX hL (by omega) (by omega) dL_law_230 ?_
  refine lk_at C hk hm.len (rgI _) (rest := []) (Nat.le_of_ble_eq_true rfl) (fun z wk1 q hk1 => ?_)
  refine x_aload_n (pc := 234) C 1 dL_law_234 rfl ?_
  refine x_aload_n (pc := 235) C 3 dL_law_235 rfl ?_
  refine x_iload_n (pc := 236) C 0 dL_law_236 rfl ?_
  refine x_iconst (pc := 237) C dL_law_237 ?_
  refine x_iadd (pc := 238) C dL_law_238 ?_
  refine x_sld (pc := 239) C hX hL (by omega) (by omega) dL_law_239 ?_
  refine lm_at C hm hk1.len (rgI _) (rest := [jv z]) (Nat.le_of_ble_eq_true rfl) q (fun wm1 hm1 => ?_)
  exact x_icmpSame (pc := 243) C 585 dL_law_243 rfl (kk _ _ _ hk1 hm1)
set_option maxHeartbeats 4000000 in
theorem la_range {l : Launch} {g : xG} {E : xE} {nm : String} {ok om sb L : Nat} {xs : Nat → Int32} {nn : Int} {nf : Int → Int} {rn : Int} {y : Int → Int} {e nc oc co : Int} {B : Int → Bool} {wk wm : va_W} {i : Int} (C : Cx l g E room_1 RL nm cL_law wsL_law 4) (hX : Sc E sb L xs) (hL : L ≤ 2048) (h0 : 0 ≤ i) (h4 : i + 4 ≤ L) (hk : KG g ok (nn, nf, rn, y, e, nc, oc, co, B) wk) (hm : MO g om (nn, nf, rn, y, e, nc, oc, co, B) wm) (kk : ∀ (S1 : T9) (wk1 wm1 : va_W), KG g ok S1 wk1 → MO g om S1 wm1 → X l g E room_1 4 (wk1 ++ wm1) 39 4347 [(3, jv i), (2, .ref om), (1, .ref ok), (0, .ref sb)] 585 []) : X l g E room_1 4 (wk ++ wm) 39 4347 [(3, jv i), (2, .ref om), (1, .ref ok), (0, .ref sb)] 248 [] := by
  refine x_aload_n (pc := 248) C 2 dL_law_248 rfl ?_
  refine x_aload_n (pc := 249) C 3 dL_law_249 rfl ?_
  refine x_iload_n (pc := 250) C 0 dL_law_250 rfl ?_
  refine x_iconst (pc := 251) C dL_law_251 ?_
  refine x_iadd (pc := 252) C dL_law_252 ?_
  refine x_sld (pc := 253) C hX hL (by omega) (by omega) dL_law_253 ?_
  refine x_aload_n (pc := 254) C 3 dL_law_254 rfl ?_
  refine x_iload_n (pc := 255) C 0 dL_law_255 rfl ?_
  refine x_iconst (pc := 256) C dL_law_256 ?_
  refine x_iadd (pc := 257) C dL_law_257 ?_
  refine x_sld (pc := 258) C hX hL (by omega) (by omega) dL_law_258 ?_
  refine lk_range C hk hm.len (rgI _) (rgI _) (rest := []) (Nat.le_of_ble_eq_true rfl) (fun z wk1 q hk1 => ?_)
  refine x_aload_n (pc := 262) C 1 dL_law_262 rfl ?_
  refine x_aload_n (pc := 263) C 3 dL_law_263 rfl ?_
  refine x_iload_n (pc := 264) C 0 dL_law_264 rfl ?_
  refine x_iconst (pc := 265) C dL_law_265 ?_
  refine x_iadd (pc := 266) C dL_law_266 ?_
  refine x_sld (pc := 267) C hX hL (by omega) (by omega) dL_law_267 ?_
  refine x_aload_n (pc := 268) C 3 dL_law_268 rfl ?_
  refine x_iload_n (pc := 269) C 0 dL_law_269 rfl ?_
  refine x_iconst (pc := 270) C dL_law_270 ?_
  refine x_iadd (pc := 271) C dL_law_271 ?_
  refine x_sld (pc := 272) C hX hL (by omega) (by omega) dL_law_272 ?_
  refine lm_range C hm hk1.len (rgI _) (rgI _) (rest := [jv z]) (Nat.le_of_ble_eq_true rfl) q (fun wm1 hm1 => ?_)
  exact x_icmpSame (pc := 276) C 585 dL_law_276 rfl (kk _ _ _ hk1 hm1)
set_option maxHeartbeats 4000000 in
theorem la_sum {l : Launch} {g : xG} {E : xE} {nm : String} {ok om sb L : Nat} {xs : Nat → Int32} {nn : Int} {nf : Int → Int} {rn : Int} {y : Int → Int} {e nc oc co : Int} {B : Int → Bool} {wk wm : va_W} {i : Int} (C : Cx l g E room_1 RL nm cL_law wsL_law 4) (hX : Sc E sb L xs) (hL : L ≤ 2048) (h0 : 0 ≤ i) (h4 : i + 4 ≤ L) (hk : KG g ok (nn, nf, rn, y, e, nc, oc, co, B) wk) (hm : MO g om (nn, nf, rn, y, e, nc, oc, co, B) wm) (kk : ∀ (S1 : T9) (wk1 wm1 : va_W), KG g ok S1 wk1 → MO g om S1 wm1 → X l g E room_1 4 (wk1 ++ wm1) 39 4347 [(3, jv i), (2, .ref om), (1, .ref ok), (0, .ref sb)] 585 []) : X l g E room_1 4 (wk ++ wm) 39 4347 [(3, jv i), (2, .ref om), (1, .ref ok), (0, .ref sb)] 281 [] := by
  refine x_aload_n (pc := 281) C 2 dL_law_281 rfl ?_
  refine x_aload_n (pc := 282) C 3 dL_law_282 rfl ?_
  refine x_iload_n (pc := 283) C 0 dL_law_283 rfl ?_
  refine x_iconst (pc := 284) C dL_law_284 ?_
  refine x_iadd (pc := 285) C dL_law_285 ?_
  refine x_sld (pc := 286) C hX hL (by omega) (by omega) dL_law_286 ?_
  refine x_aload_n (pc := 287) C 3 dL_law_287 rfl ?_
  refine x_iload_n (pc := 288) C 0 dL_law_288 rfl ?_
  refine x_iconst (pc := 289) C dL_law_289 ?_
  refine x_iadd (pc := 290) C dL_law_290 ?_
  refine x_sld (pc := 291) C hX hL (by omega) (by omega) dL_law_291 ?_
  refine lk_sum C hk hm.len (rgI _) (rgI _) (rest := []) (Nat.le_of_ble_eq_true rfl) (fun z wk1 q hk1 => ?_)
  refine x_aload_n (pc := 295) C 1 dL_law_295 rfl ?_
  refine x_aload_n (pc := 296) C 3 dL_law_296 rfl ?_
  refine x_iload_n (pc := 297) C 0 dL_law_297 rfl ?_
  refine x_iconst (pc := 298) C dL_law_298 ?_
  refine x_iadd (pc := 299) C dL_law_299 ?_
  refine x_sld (pc := 300) C hX hL (by omega) (by omega) dL_law_300 ?_
  refine x_aload_n (pc := 301) C 3 dL_law_301 rfl ?_
  refine x_iload_n (pc := 302) C 0 dL_law_302 rfl ?_
  refine x_iconst (pc := 303) C dL_law_303 ?_
  refine x_iadd (pc := 304) C dL_law_304 ?_
  refine x_sld (pc := 305) C hX hL (by omega) (by omega) dL_law_305 ?_
  refine lm_sum C hm hk1.len (rgI _) (rgI _) (rest := [Jv z]) (Nat.le_of_ble_eq_true rfl) q (fun wm1 hm1 => ?_)
  exact x_lcmpSame (pc := 309) C 585 dL_law_309 dL_law_310 rfl (kk _ _ _ hk1 hm1)
set_option maxHeartbeats 4000000 in
theorem la_pieces {l : Launch} {g : xG} {E : xE} {nm : String} {ok om sb L : Nat} {xs : Nat → Int32} {nn : Int} {nf : Int → Int} {rn : Int} {y : Int → Int} {e nc oc co : Int} {B : Int → Bool} {wk wm : va_W} {i : Int} (C : Cx l g E room_1 RL nm cL_law wsL_law 4) (hX : Sc E sb L xs) (hL : L ≤ 2048) (h0 : 0 ≤ i) (h4 : i + 4 ≤ L) (hk : KG g ok (nn, nf, rn, y, e, nc, oc, co, B) wk) (hm : MO g om (nn, nf, rn, y, e, nc, oc, co, B) wm) (kk : ∀ (S1 : T9) (wk1 wm1 : va_W), KG g ok S1 wk1 → MO g om S1 wm1 → X l g E room_1 4 (wk1 ++ wm1) 39 4347 [(3, jv i), (2, .ref om), (1, .ref ok), (0, .ref sb)] 585 []) : X l g E room_1 4 (wk ++ wm) 39 4347 [(3, jv i), (2, .ref om), (1, .ref ok), (0, .ref sb)] 315 [] := by
  refine x_aload_n (pc := 315) C 2 dL_law_315 rfl ?_
  refine x_aload_n (pc := 316) C 3 dL_law_316 rfl ?_
  refine x_iload_n (pc := 317) C 0 dL_law_317 rfl ?_
  refine x_iconst (pc := 318) C dL_law_318 ?_
  refine x_iadd (pc := 319) C dL_law_319 ?_
  refine x_sld (pc := 320) C hX hL (by omega) (by omega) dL_law_320 ?_
  refine lk_pieces C hk hm.len (rgI _) (rest := []) (Nat.le_of_ble_eq_true rfl) (fun z wk1 q hk1 => ?_)
  refine x_aload_n (pc := 324) C 1 dL_law_324 rfl ?_
  refine x_aload_n (pc := 325) C 3 dL_law_325 rfl ?_
  refine x_iload_n (pc := 326) C 0 dL_law_326 rfl ?_
  refine x_iconst (pc := 327) C dL_law_327 ?_
  refine x_iadd (pc := 328) C dL_law_328 ?_
  refine x_sld (pc := 329) C hX hL (by omega) (by omega) dL_law_329 ?_
  refine lm_pieces C hm hk1.len (rgI _) (rest := [jv z]) (Nat.le_of_ble_eq_true rfl) q (fun wm1 hm1 => ?_)
  exact x_icmpSame (pc := 333) C 585 dL_law_333 rfl (kk _ _ _ hk1 hm1)
set_option maxHeartbeats 4000000 in
theorem la_piece {l : Launch} {g : xG} {E : xE} {nm : String} {ok om sb L : Nat} {xs : Nat → Int32} {nn : Int} {nf : Int → Int} {rn : Int} {y : Int → Int} {e nc oc co : Int} {B : Int → Bool} {wk wm : va_W} {i : Int} (C : Cx l g E room_1 RL nm cL_law wsL_law 4) (hX : Sc E sb L xs) (hL : L ≤ 2048) (h0 : 0 ≤ i) (h4 : i + 4 ≤ L) (hk : KG g ok (nn, nf, rn, y, e, nc, oc, co, B) wk) (hm : MO g om (nn, nf, rn, y, e, nc, oc, co, B) wm) (kk : ∀ (S1 : T9) (wk1 wm1 : va_W), KG g ok S1 wk1 → MO g om S1 wm1 → X l g E room_1 4 (wk1 ++ wm1) 39 4347 [(3, jv i), (2, .ref om), (1, .ref ok), (0, .ref sb)] 585 []) : X l g E room_1 4 (wk ++ wm) 39 4347 [(3, jv i), (2, .ref om), (1, .ref ok), (0, .ref sb)] 338 [] := by
  refine x_aload_n (pc := 338) C 2 dL_law_338 rfl ?_
  refine x_aload_n (pc := 339) C 3 dL_law_339 rfl ?_
  refine x_iload_n (pc := 340) C 0 dL_law_340 rfl ?_
  refine x_iconst (pc := 341) C dL_law_341 ?_
  refine x_iadd (pc := 342) C dL_law_342 ?_
  refine x_sld (pc := 343) C hX hL (by omega) (by omega) dL_law_343 ?_
  refine x_aload_n (pc := 344) C 3 dL_law_344 rfl ?_
  refine x_iload_n (pc := 345) C 0 dL_law_345 rfl ?_
  refine x_iconst (pc := 346) C dL_law_346 ?_
  refine x_iadd (pc := 347) C dL_law_347 ?_
  refine x_sld (pc := 348) C hX hL (by omega) (by omega) dL_law_348 ?_
  refine x_aload_n (pc := 349) C 3 dL_law_349 rfl ?_
  refine x_iload_n (pc := 350) C 0 dL_law_350 rfl ?_
  refine x_iconst (pc := 351) C dL_law_351 ?_
  refine x_iadd (pc := 352) C dL_law_352 ?_
  refine x_sld (pc := 353) C hX hL (by omega) (by omega) dL_law_353 ?_
  refine lk_piece C hk hm.len (rgI _) (rgI _) (rgI _) (rest := []) (Nat.le_of_ble_eq_true rfl) (fun z wk1 q hk1 => ?_)
  refine x_aload_n (pc := 357) C 1 dL_law_357 rfl ?_
  refine x_aload_n (pc := 358) C 3 dL_law_358 rfl ?_
  refine x_iload_n (pc := 359) C 0 dL_law_359 rfl ?_
  refine x_iconst (pc := 360) C dL_law_360 ?_
  refine x_iadd (pc := 361) C dL_law_361 ?_
  refine x_sld (pc := 362) C hX hL (by omega) (by omega) dL_law_362 ?_
  refine x_aload_n (pc := 363) C 3 dL_law_363 rfl ?_
  refine x_iload_n (pc := 364) C 0 dL_law_364 rfl ?_
  refine x_iconst (pc := 365) C dL_law_365 ?_
  refine x_iadd (pc := 366) C dL_law_366 ?_
  refine x_sld (pc := 367) C hX hL (by omega) (by omega) dL_law_367 ?_
  refine x_aload_n (pc := 368) C 3 dL_law_368 rfl ?_
  refine x_iload_n (pc := 369) C 0 dL_law_369 rfl ?_
  refine x_iconst (pc := 370) C dL_law_370 ?_
  refine x_iadd (pc := 371) C dL_law_371 ?_
  refine x_sld (pc := 372) C hX hL (by omega) (by omega) dL_law_372 ?_
  refine lm_piece C hm hk1.len (rgI _) (rgI _) (rgI _) (rest := [jv z]) (Nat.le_of_ble_eq_true rfl) q (fun wm1 hm1 => ?_)
  exact x_icmpSame (pc := 376) C 585 dL_law_376 rfl (kk _ _ _ hk1 hm1)
set_option maxHeartbeats 4000000 in
theorem la_levels {l : Launch} {g : xG} {E : xE} {nm : String} {ok om sb L : Nat} {xs : Nat → Int32} {nn : Int} {nf : Int → Int} {rn : Int} {y : Int → Int} {e nc oc co : Int} {B : Int → Bool} {wk wm : va_W} {i : Int} (C : Cx l g E room_1 RL nm cL_law wsL_law 4) (hX : Sc E sb L xs) (hL : L ≤ 2048) (h0 : 0 ≤ i) (h4 : i + 4 ≤ L) (hk : KG g ok (nn, nf, rn, y, e, nc, oc, co, B) wk) (hm : MO g om (nn, nf, rn, y, e, nc, oc, co, B) wm) (kk : ∀ (S1 : T9) (wk1 wm1 : va_W), KG g ok S1 wk1 → MO g om S1 wm1 → X l g E room_1 4 (wk1 ++ wm1) 39 4347 [(3, jv i), (2, .ref om), (1, .ref ok), (0, .ref sb)] 585 []) : X l g E room_1 4 (wk ++ wm) 39 4347 [(3, jv i), (2, .ref om), (1, .ref ok), (0, .ref sb)] 381 [] := by
  refine x_aload_n (pc := 381) C 2 dL_law_381 rfl ?_
  refine lk_levels C hk hm.len (rest := []) (Nat.le_of_ble_eq_true rfl) (fun z wk1 q hk1 => ?_)
  refine x_aload_n (pc := 385) C 1 dL_law_385 rfl ?_
  refine lm_levels C hm hk1.len (rest := [jv z]) (Nat.le_of_ble_eq_true rfl) q (fun wm1 hm1 => ?_)
  exact x_icmpSame (pc := 389) C 585 dL_law_389 rfl (kk _ _ _ hk1 hm1)
set_option maxHeartbeats 4000000 in
theorem la_guess {l : Launch} {g : xG} {E : xE} {nm : String} {ok om sb L : Nat} {xs : Nat → Int32} {nn : Int} {nf : Int → Int} {rn : Int} {y : Int → Int} {e nc oc co : Int} {B : Int → Bool} {wk wm : va_W} {i : Int} (C : Cx l g E room_1 RL nm cL_law wsL_law 4) (hX : Sc E sb L xs) (hL : L ≤ 2048) (h0 : 0 ≤ i) (h4 : i + 4 ≤ L) (hk : KG g ok (nn, nf, rn, y, e, nc, oc, co, B) wk) (hm : MO g om (nn, nf, rn, y, e, nc, oc, co, B) wm) (kk : ∀ (S1 : T9) (wk1 wm1 : va_W), KG g ok S1 wk1 → MO g om S1 wm1 → X l g E room_1 4 (wk1 ++ wm1) 39 4347 [(3, jv i), (2, .ref om), (1, .ref ok), (0, .ref sb)] 585 []) : X l g E room_1 4 (wk ++ wm) 39 4347 [(3, jv i), (2, .ref om), (1, .ref ok), (0, .ref sb)] 394 [] := by
  refine x_aload_n (pc := 394) C 2 dL_law_394 rfl ?_
  refine x_aload_n (pc := 395) C 3 dL_law_395 rfl ?_
  refine x_iload_n (pc := 396) C 0 dL_law_396 rfl ?_
  refine x_iconst (pc := 397) C dL_law_397 ?_
  refine x_iadd (pc := 398) C dL_law_398 ?_
  refine x_sld (pc := 399) C hX hL (by omega) (by omega) dL_law_399 ?_
  refine lk_guess C hk hm.len (rgI _) (rest := []) (Nat.le_of_ble_eq_true rfl) (fun z wk1 q hk1 => ?_)
  refine x_aload_n (pc := 403) C 1 dL_law_403 rfl ?_
  refine x_aload_n (pc := 404) C 3 dL_law_404 rfl ?_
  refine x_iload_n (pc := 405) C 0 dL_law_405 rfl ?_
  refine x_iconst (pc := 406) C dL_law_406 ?_
  refine x_iadd (pc := 407) C dL_law_407 ?_
  refine x_sld (pc := 408) C hX hL (by omega) (by omega) dL_law_408 ?_
  refine lm_guess C hm hk1.len (rgI _) (rest := [jv z]) (Nat.le_of_ble_eq_true rfl) q (fun wm1 hm1 => ?_)
  exact x_icmpSame (pc := 412) C 585 dL_law_412 rfl (kk _ _ _ hk1 hm1)
set_option maxHeartbeats 4000000 in
theorem la_find {l : Launch} {g : xG} {E : xE} {nm : String} {ok om sb L : Nat} {xs : Nat → Int32} {nn : Int} {nf : Int → Int} {rn : Int} {y : Int → Int} {e nc oc co : Int} {B : Int → Bool} {wk wm : va_W} {i : Int} (C : Cx l g E room_1 RL nm cL_law wsL_law 4) (hX : Sc E sb L xs) (hL : L ≤ 2048) (h0 : 0 ≤ i) (h4 : i + 4 ≤ L) (hk : KG g ok (nn, nf, rn, y, e, nc, oc, co, B) wk) (hm : MO g om (nn, nf, rn, y, e, nc, oc, co, B) wm) (kk : ∀ (S1 : T9) (wk1 wm1 : va_W), KG g ok S1 wk1 → MO g om S1 wm1 → X l g E room_1 4 (wk1 ++ wm1) 39 4347 [(3, jv i), (2, .ref om), (1, .ref ok), (0, .ref sb)] 585 []) : X l g E room_1 4 (wk ++ wm) 39 4347 [(3, jv i), (2, .ref om), (1, .ref ok), (0, .ref sb)] 417 [] := by
  refine x_aload_n (pc := 417) C 2 dL_law_417 rfl ?_
  refine x_aload_n (pc := 418) C 3 dL_law_418 rfl ?_
  refine x_iload_n (pc := 419) C 0 dL_law_419 rfl ?_
  refine x_iconst (pc := 420) C dL_law_420 ?_
  refine x_iadd (pc := 421) C dL_law_421 ?_
  refine x_sld (pc := 422) C hX hL (by omega) (by omega) dL_law_422 ?_
  refine lk_find C hk hm.len (rgI _) (rest := []) (Nat.le_of_ble_eq_true rfl) (fun z wk1 q hk1 => ?_)
  refine x_aload_n (pc := 426) C 1 dL_law_426 rfl ?_
  refine x_aload_n (pc := 427) C 3 dL_law_427 rfl ?_
  refine x_iload_n (pc := 428) C 0 dL_law_428 rfl ?_
  refine x_iconst (pc := 429) C dL_law_429 ?_
  refine x_iadd (pc := 430) C dL_law_430 ?_
  refine x_sld (pc := 431) C hX hL (by omega) (by omega) dL_law_431 ?_
  refine lm_find C hm hk1.len (rgI _) (rest := [jv z]) (Nat.le_of_ble_eq_true rfl) q (fun wm1 hm1 => ?_)
  exact x_icmpSame (pc := 435) C 585 dL_law_435 rfl (kk _ _ _ hk1 hm1)
set_option maxHeartbeats 4000000 in
theorem la_looks {l : Launch} {g : xG} {E : xE} {nm : String} {ok om sb L : Nat} {xs : Nat → Int32} {nn : Int} {nf : Int → Int} {rn : Int} {y : Int → Int} {e nc oc co : Int} {B : Int → Bool} {wk wm : va_W} {i : Int} (C : Cx l g E room_1 RL nm cL_law wsL_law 4) (hX : Sc E sb L xs) (hL : L ≤ 2048) (h0 : 0 ≤ i) (h4 : i + 4 ≤ L) (hk : KG g ok (nn, nf, rn, y, e, nc, oc, co, B) wk) (hm : MO g om (nn, nf, rn, y, e, nc, oc, co, B) wm) (kk : ∀ (S1 : T9) (wk1 wm1 : va_W), KG g ok S1 wk1 → MO g om S1 wm1 → X l g E room_1 4 (wk1 ++ wm1) 39 4347 [(3, jv i), (2, .ref om), (1, .ref ok), (0, .ref sb)] 585 []) : X l g E room_1 4 (wk ++ wm) 39 4347 [(3, jv i), (2, .ref om), (1, .ref ok), (0, .ref sb)] 440 [] := by
  refine x_aload_n (pc := 440) C 2 dL_law_440 rfl ?_
  refine x_aload_n (pc := 441) C 3 dL_law_441 rfl ?_
  refine x_iload_n (pc := 442) C 0 dL_law_442 rfl ?_
  refine x_iconst (pc := 443) C dL_law_443 ?_
  refine x_iadd (pc := 444) C dL_law_444 ?_
  refine x_sld (pc := 445) C hX hL (by omega) (by omega) dL_law_445 ?_
  refine lk_looks C hk hm.len (rgI _) (rest := []) (Nat.le_of_ble_eq_true rfl) (fun z wk1 q hk1 => ?_)
  refine x_aload_n (pc := 449) C 1 dL_law_449 rfl ?_
  refine x_aload_n (pc := 450) C 3 dL_law_450 rfl ?_
  refine x_iload_n (pc := 451) C 0 dL_law_451 rfl ?_
  refine x_iconst (pc := 452) C dL_law_452 ?_
  refine x_iadd (pc := 453) C dL_law_453 ?_
  refine x_sld (pc := 454) C hX hL (by omega) (by omega) dL_law_454 ?_
  refine lm_looks C hm hk1.len (rgI _) (rest := [jv z]) (Nat.le_of_ble_eq_true rfl) q (fun wm1 hm1 => ?_)
  exact x_icmpSame (pc := 458) C 585 dL_law_458 rfl (kk _ _ _ hk1 hm1)
set_option maxHeartbeats 4000000 in
theorem la_maybe {l : Launch} {g : xG} {E : xE} {nm : String} {ok om sb L : Nat} {xs : Nat → Int32} {nn : Int} {nf : Int → Int} {rn : Int} {y : Int → Int} {e nc oc co : Int} {B : Int → Bool} {wk wm : va_W} {i : Int} (C : Cx l g E room_1 RL nm cL_law wsL_law 4) (hX : Sc E sb L xs) (hL : L ≤ 2048) (h0 : 0 ≤ i) (h4 : i + 4 ≤ L) (hk : KG g ok (nn, nf, rn, y, e, nc, oc, co, B) wk) (hm : MO g om (nn, nf, rn, y, e, nc, oc, co, B) wm) (kk : ∀ (S1 : T9) (wk1 wm1 : va_W), KG g ok S1 wk1 → MO g om S1 wm1 → X l g E room_1 4 (wk1 ++ wm1) 39 4347 [(3, jv i), (2, .ref om), (1, .ref ok), (0, .ref sb)] 585 []) : X l g E room_1 4 (wk ++ wm) 39 4347 [(3, jv i), (2, .ref om), (1, .ref ok), (0, .ref sb)] 463 [] := by
  refine x_aload_n (pc := 463) C 2 dL_law_463 rfl ?_
  refine x_aload_n (pc := 464) C 3 dL_law_464 rfl ?_
  refine x_iload_n (pc := 465) C 0 dL_law_465 rfl ?_
  refine x_iconst (pc := 466) C dL_law_466 ?_
  refine x_iadd (pc := 467) C dL_law_467 ?_
  refine x_sld (pc := 468) C hX hL (by omega) (by omega) dL_law_468 ?_
  refine lk_maybe C hk hm.len (rgI _) (rest := []) (Nat.le_of_ble_eq_true rfl) (fun z wk1 q hk1 => ?_)
  refine x_aload_n (pc := 472) C 1 dL_law_472 rfl ?_
  refine x_aload_n (pc := 473) C 3 dL_law_473 rfl ?_
  refine x_iload_n (pc := 474) C 0 dL_law_474 rfl ?_
  refine x_iconst (pc := 475) C dL_law_475 ?_
  refine x_iadd (pc := 476) C dL_law_476 ?_
  refine x_sld (pc := 477) C hX hL (by omega) (by omega) dL_law_477 ?_
  refine lm_maybe C hm hk1.len (rgI _) (rest := [jv z]) (Nat.le_of_ble_eq_true rfl) q (fun wm1 hm1 => ?_)
  exact x_icmpSame (pc := 481) C 585 dL_law_481 rfl (kk _ _ _ hk1 hm1)
set_option maxHeartbeats 4000000 in
theorem la_wrong {l : Launch} {g : xG} {E : xE} {nm : String} {ok om sb L : Nat} {xs : Nat → Int32} {nn : Int} {nf : Int → Int} {rn : Int} {y : Int → Int} {e nc oc co : Int} {B : Int → Bool} {wk wm : va_W} {i : Int} (C : Cx l g E room_1 RL nm cL_law wsL_law 4) (hX : Sc E sb L xs) (hL : L ≤ 2048) (h0 : 0 ≤ i) (h4 : i + 4 ≤ L) (hk : KG g ok (nn, nf, rn, y, e, nc, oc, co, B) wk) (hm : MO g om (nn, nf, rn, y, e, nc, oc, co, B) wm) (kk : ∀ (S1 : T9) (wk1 wm1 : va_W), KG g ok S1 wk1 → MO g om S1 wm1 → X l g E room_1 4 (wk1 ++ wm1) 39 4347 [(3, jv i), (2, .ref om), (1, .ref ok), (0, .ref sb)] 585 []) : X l g E room_1 4 (wk ++ wm) 39 4347 [(3, jv i), (2, .ref om), (1, .ref ok), (0, .ref sb)] 486 [] := by
  refine x_aload_n (pc := 486) C 2 dL_law_486 rfl ?_
  refine x_aload_n (pc := 487) C 3 dL_law_487 rfl ?_
  refine x_iload_n (pc := 488) C 0 dL_law_488 rfl ?_
  refine x_iconst (pc := 489) C dL_law_489 ?_
  refine x_iadd (pc := 490) C dL_law_490 ?_
  refine x_sld (pc := 491) C hX hL (by omega) (by omega) dL_law_491 ?_
  refine x_aload_n (pc := 492) C 3 dL_law_492 rfl ?_
  refine x_iload_n (pc := 493) C 0 dL_law_493 rfl ?_
  refine x_iconst (pc := 494) C dL_law_494 ?_
  refine x_iadd (pc := 495) C dL_law_495 ?_
  refine x_sld (pc := 496) C hX hL (by omega) (by omega) dL_law_496 ?_
  refine lk_wrong C hk hm.len (rgI _) (rgI _) (rest := []) (Nat.le_of_ble_eq_true rfl) (fun z wk1 q hk1 => ?_)
  refine x_aload_n (pc := 500) C 1 dL_law_500 rfl ?_
  refine x_aload_n (pc := 501) C 3 dL_law_501 rfl ?_
  refine x_iload_n (pc := 502) C 0 dL_law_502 rfl ?_
  refine x_iconst (pc := 503) C dL_law_503 ?_
  refine x_iadd (pc := 504) C dL_law_504 ?_
  refine x_sld (pc := 505) C hX hL (by omega) (by omega) dL_law_505 ?_
  refine x_aload_n (pc := 506) C 3 dL_law_506 rfl ?_
  refine x_iload_n (pc := 507) C 0 dL_law_507 rfl ?_
  refine x_iconst (pc := 508) C dL_law_508 ?_
  refine x_iadd (pc := 509) C dL_law_509 ?_
  refine x_sld (pc := 510) C hX hL (by omega) (by omega) dL_law_510 ?_
  refine lm_wrong C hm hk1.len (rgI _) (rgI _) (rest := [jv z]) (Nat.le_of_ble_eq_true rfl) q (fun wm1 hm1 => ?_)
  exact x_icmpSame (pc := 514) C 585 dL_law_514 rfl (kk _ _ _ hk1 hm1)
set_option maxHeartbeats 4000000 in
theorem la_poison {l : Launch} {g : xG} {E : xE} {nm : String} {ok om sb L : Nat} {xs : Nat → Int32} {nn : Int} {nf : Int → Int} {rn : Int} {y : Int → Int} {e nc oc co : Int} {B : Int → Bool} {wk wm : va_W} {i : Int} (C : Cx l g E room_1 RL nm cL_law wsL_law 4) (hX : Sc E sb L xs) (hL : L ≤ 2048) (h0 : 0 ≤ i) (h4 : i + 4 ≤ L) (hk : KG g ok (nn, nf, rn, y, e, nc, oc, co, B) wk) (hm : MO g om (nn, nf, rn, y, e, nc, oc, co, B) wm) (kk : ∀ (S1 : T9) (wk1 wm1 : va_W), KG g ok S1 wk1 → MO g om S1 wm1 → X l g E room_1 4 (wk1 ++ wm1) 39 4347 [(3, jv i), (2, .ref om), (1, .ref ok), (0, .ref sb)] 585 []) : X l g E room_1 4 (wk ++ wm) 39 4347 [(3, jv i), (2, .ref om), (1, .ref ok), (0, .ref sb)] 519 [] := by
  refine x_aload_n (pc := 519) C 2 dL_law_519 rfl ?_
  refine x_aload_n (pc := 520) C 3 dL_law_520 rfl ?_
  refine x_iload_n (pc := 521) C 0 dL_law_521 rfl ?_
  refine x_iconst (pc := 522) C dL_law_522 ?_
  refine x_iadd (pc := 523) C dL_law_523 ?_
  refine x_sld (pc := 524) C hX hL (by omega) (by omega) dL_law_524 ?_
  refine x_aload_n (pc := 525) C 3 dL_law_525 rfl ?_
  refine x_iload_n (pc := 526) C 0 dL_law_526 rfl ?_
  refine x_iconst (pc := 527) C dL_law_527 ?_
  refine x_iadd (pc := 528) C dL_law_528 ?_
  refine x_sld (pc := 529) C hX hL (by omega) (by omega) dL_law_529 ?_
  refine x_aload_n (pc := 530) C 3 dL_law_530 rfl ?_
  refine x_iload_n (pc := 531) C 0 dL_law_531 rfl ?_
  refine x_iconst (pc := 532) C dL_law_532 ?_
  refine x_iadd (pc := 533) C dL_law_533 ?_
  refine x_sld (pc := 534) C hX hL (by omega) (by omega) dL_law_534 ?_
  refine lk_poison C hk hm.len (rgI _) (rgI _) (rgI _) (rest := []) (Nat.le_of_ble_eq_true rfl) (fun z wk1 q hk1 => ?_)
  refine x_aload_n (pc := 538) C 1 dL_law_538 rfl ?_
  refine x_aload_n (pc := 539) C 3 dL_law_539 rfl ?_
  refine x_iload_n (pc := 540) C 0 dL_law_540 rfl ?_
  refine x_iconst (pc := 541) C dL_law_541 ?_
  refine x_iadd (pc := 542) C dL_law_542 ?_
  refine x_sld (pc := 543) C hX hL (by omega) (by omega) dL_law_543 ?_
  refine x_aload_n (pc := 544) C 3 dL_law_544 rfl ?_
  refine x_iload_n (pc := 545) C 0 dL_law_545 rfl ?_
  refine x_iconst (pc := 546) C dL_law_546 ?_
  refine x_iadd (pc := 547) C dL_law_547 ?_
  refine x_sld (pc := 548) C hX hL (by omega) (by omega) dL_law_548 ?_
  refine x_aload_n (pc := 549) C 3 dL_law_549 rfl ?_
  refine x_iload_n (pc := 550) C 0 dL_law_550 rfl ?_
  refine x_iconst (pc := 551) C dL_law_551 ?_
  refine x_iadd (pc := 552) C dL_law_552 ?_
  refine x_sld (pc := 553) C hX hL (by omega) (by omega) dL_law_553 ?_
  refine lm_poison C hm hk1.len (rgI _) (rgI _) (rgI _) (rest := [jv z]) (Nat.le_of_ble_eq_true rfl) q (fun wm1 hm1 => ?_)
  exact x_icmpSame (pc := 557) C 585 dL_law_557 rfl (kk _ _ _ hk1 hm1)
set_option maxHeartbeats 4000000 in
theorem la_count {l : Launch} {g : xG} {E : xE} {nm : String} {ok om sb L : Nat} {xs : Nat → Int32} {nn : Int} {nf : Int → Int} {rn : Int} {y : Int → Int} {e nc oc co : Int} {B : Int → Bool} {wk wm : va_W} {i : Int} (C : Cx l g E room_1 RL nm cL_law wsL_law 4) (hX : Sc E sb L xs) (hL : L ≤ 2048) (h0 : 0 ≤ i) (h4 : i + 4 ≤ L) (hk : KG g ok (nn, nf, rn, y, e, nc, oc, co, B) wk) (hm : MO g om (nn, nf, rn, y, e, nc, oc, co, B) wm) (kk : ∀ (S1 : T9) (wk1 wm1 : va_W), KG g ok S1 wk1 → MO g om S1 wm1 → X l g E room_1 4 (wk1 ++ wm1) 39 4347 [(3, jv i), (2, .ref om), (1, .ref ok), (0, .ref sb)] 585 []) : X l g E room_1 4 (wk ++ wm) 39 4347 [(3, jv i), (2, .ref om), (1, .ref ok), (0, .ref sb)] 562 [] := by
  refine x_aload_n (pc := 562) C 2 dL_law_562 rfl ?_
  refine x_aload_n (pc := 563) C 3 dL_law_563 rfl ?_
  refine x_iload_n (pc := 564) C 0 dL_law_564 rfl ?_
  refine x_iconst (pc := 565) C dL_law_565 ?_
  refine x_iadd (pc := 566) C dL_law_566 ?_
  refine x_sld (pc := 567) C hX hL (by omega) (by omega) dL_law_567 ?_
  refine lk_count C hk hm.len (rgI _) (rest := []) (Nat.le_of_ble_eq_true rfl) (fun z wk1 q hk1 => ?_)
  refine x_aload_n (pc := 571) C 1 dL_law_571 rfl ?_
  refine x_aload_n (pc := 572) C 3 dL_law_572 rfl ?_
  refine x_iload_n (pc := 573) C 0 dL_law_573 rfl ?_
  refine x_iconst (pc := 574) C dL_law_574 ?_
  refine x_iadd (pc := 575) C dL_law_575 ?_
  refine x_sld (pc := 576) C hX hL (by omega) (by omega) dL_law_576 ?_
  refine lm_count C hm hk1.len (rgI _) (rest := [jv z]) (Nat.le_of_ble_eq_true rfl) q (fun wm1 hm1 => ?_)
  exact x_icmpSame (pc := 580) C 585 dL_law_580 rfl (kk _ _ _ hk1 hm1)
set_option maxHeartbeats 4000000 in
theorem law_loop {l : Launch} {g : xG} {E : xE} {nm : String} {sb L : Nat} {xs : Nat → Int32} (C : Cx l g E room_1 RL nm cL_law wsL_law 4) (hX : Sc E sb L xs) (hL : L ≤ 2048) (hend : ∀ (ws : va_W) (lv : List (Nat × Value)), X l g E room_1 4 ws 39 4347 lv 592 [jv 1]) {ok om : Nat} : ∀ (n : Nat) (i : Int), 0 ≤ i → (L : Int) - i ≤ n → i ≤ 4096 → ∀ (S1 : T9) (wk wm : va_W), KG g ok S1 wk → MO g om S1 wm → X l g E room_1 4 (wk ++ wm) 39 4347 [(3, jv i), (2, .ref om), (1, .ref ok), (0, .ref sb)] 18 [] := by
  intro n
  induction n with
  | zero =>
    intro i h0 h1 h2 S1 wk wm hk hm
    refine x_iload_n (pc := 18) C 0 dL_law_18 rfl ?_
    refine x_aload_n (pc := 19) C 3 dL_law_19 rfl ?_
    refine x_slen (pc := 20) C hX dL_law_20 ?_
    refine x_iconst (pc := 21) C dL_law_21 ?_
    refine x_isub (pc := 22) C dL_law_22 ?_
    refine x_icmp_gt (pc := 23) C 591 dL_law_23 rfl ⟨by omega, by omega⟩ ⟨by omega, by omega⟩ (fun _ => ?_) (fun q => ?_)
    · exact x_iconst (pc := 591) C dL_law_591 (hend _ _)
    · exfalso; omega
  | succ n ih =>
    intro i h0 h1 h2 S1 wk wm hk hm
    refine x_iload_n (pc := 18) C 0 dL_law_18 rfl ?_
    refine x_aload_n (pc := 19) C 3 dL_law_19 rfl ?_
    refine x_slen (pc := 20) C hX dL_law_20 ?_
    refine x_iconst (pc := 21) C dL_law_21 ?_
    refine x_isub (pc := 22) C dL_law_22 ?_
    refine x_icmp_gt (pc := 23) C 591 dL_law_23 rfl ⟨by omega, by omega⟩ ⟨by omega, by omega⟩ (fun _ => ?_) (fun q => ?_)
    · exact x_iconst (pc := 591) C dL_law_591 (hend _ _)
    have h4 : i + 4 ≤ L := by omega
    have kk : ∀ (S2 : T9) (wk1 wm1 : va_W), KG g ok S2 wk1 → MO g om S2 wm1 → X l g E room_1 4 (wk1 ++ wm1) 39 4347 [(3, jv i), (2, .ref om), (1, .ref ok), (0, .ref sb)] 585 [] := by
      intro S2 wk1 wm1 hk1 hm1
      refine x_iinc (pc := 585) C 0 dL_law_585 rfl (by decide) rfl ?_
      refine x_goto (pc := 588) C 18 dL_law_588 rfl ?_
      exact ih (i + 4) (by omega) (by omega) (by omega) S2 wk1 wm1 hk1 hm1
    obtain ⟨nn, nf, rn, y, e, nc, oc, co, B⟩ := S1
    refine x_aload_n (pc := 26) C 3 dL_law_26 rfl ?_
    refine x_iload_n (pc := 27) C 0 dL_law_27 rfl ?_
    refine x_sld (pc := 28) C hX hL h0 (by omega) dL_law_28 ?_
    refine x_bipush (pc := 29) C dL_law_29 rfl ?_
    refine x_and31 (pc := 31) C dL_law_31 (fun j hj => ?_)
    by_cases h18 : 18 ≤ j
    · exact x_tableOut (pc := 32) C 585 dL_law_32 ⟨by omega, by omega⟩ (Or.inr (by omega)) rfl (kk _ _ _ hk hm)
    rcases (show j = 0 ∨ j = 1 ∨ j = 2 ∨ j = 3 ∨ j = 4 ∨ j = 5 ∨ j = 6 ∨ j = 7 ∨ j = 8 ∨ j = 9 ∨ j = 10 ∨ j = 11 ∨ j = 12 ∨ j = 13 ∨ j = 14 ∨ j = 15 ∨ j = 16 ∨ j = 17 by omega) with rfl | rfl | rfl | rfl | rfl | rfl | rfl | rfl | rfl | rfl | rfl | rfl | rfl | rfl | rfl | rfl | rfl | rfl
    · exact x_tableIn (pc := 32) C 120 dL_law_32 ⟨by decide, by decide⟩ (by decide) (by decide) rfl rfl (la_put C hX hL h0 h4 hk hm kk)
    · exact x_tableIn (pc := 32) C 143 dL_law_32 ⟨by decide, by decide⟩ (by decide) (by decide) rfl rfl (la_take C hX hL h0 h4 hk hm kk)
    · exact x_tableIn (pc := 32) C 166 dL_law_32 ⟨by decide, by decide⟩ (by decide) (by decide) rfl rfl (la_make C hX hL h0 h4 hk hm kk)
    · exact x_tableIn (pc := 32) C 179 dL_law_32 ⟨by decide, by decide⟩ (by decide) (by decide) rfl rfl (la_slack C hX hL h0 h4 hk hm kk)
    · exact x_tableIn (pc := 32) C 202 dL_law_32 ⟨by decide, by decide⟩ (by decide) (by decide) rfl rfl (la_place C hX hL h0 h4 hk hm kk)
    · exact x_tableIn (pc := 32) C 225 dL_law_32 ⟨by decide, by decide⟩ (by decide) (by decide) rfl rfl (la_at C hX hL h0 h4 hk hm kk)
    · exact x_tableIn (pc := 32) C 248 dL_law_32 ⟨by decide, by decide⟩ (by decide) (by decide) rfl rfl (la_range C hX hL h0 h4 hk hm kk)
    · exact x_tableIn (pc := 32) C 281 dL_law_32 ⟨by decide, by decide⟩ (by decide) (by decide) rfl rfl (la_sum C hX hL h0 h4 hk hm kk)
    · exact x_tableIn (pc := 32) C 315 dL_law_32 ⟨by decide, by decide⟩ (by decide) (by decide) rfl rfl (la_pieces C hX hL h0 h4 hk hm kk)
    · exact x_tableIn (pc := 32) C 338 dL_law_32 ⟨by decide, by decide⟩ (by decide) (by decide) rfl rfl (la_piece C hX hL h0 h4 hk hm kk)
    · exact x_tableIn (pc := 32) C 381 dL_law_32 ⟨by decide, by decide⟩ (by decide) (by decide) rfl rfl (la_levels C hX hL h0 h4 hk hm kk)
    · exact x_tableIn (pc := 32) C 394 dL_law_32 ⟨by decide, by decide⟩ (by decide) (by decide) rfl rfl (la_guess C hX hL h0 h4 hk hm kk)
    · exact x_tableIn (pc := 32) C 417 dL_law_32 ⟨by decide, by decide⟩ (by decide) (by decide) rfl rfl (la_find C hX hL h0 h4 hk hm kk)
    · exact x_tableIn (pc := 32) C 440 dL_law_32 ⟨by decide, by decide⟩ (by decide) (by decide) rfl rfl (la_looks C hX hL h0 h4 hk hm kk)
    · exact x_tableIn (pc := 32) C 463 dL_law_32 ⟨by decide, by decide⟩ (by decide) (by decide) rfl rfl (la_maybe C hX hL h0 h4 hk hm kk)
    · exact x_tableIn (pc := 32) C 486 dL_law_32 ⟨by decide, by decide⟩ (by decide) (by decide) rfl rfl (la_wrong C hX hL h0 h4 hk hm kk)
    · exact x_tableIn (pc := 32) C 519 dL_law_32 ⟨by decide, by decide⟩ (by decide) (by decide) rfl rfl (la_poison C hX hL h0 h4 hk hm kk)
    · exact x_tableIn (pc := 32) C 562 dL_law_32 ⟨by decide, by decide⟩ (by decide) (by decide) rfl rfl (la_count C hX hL h0 h4 hk hm kk)
