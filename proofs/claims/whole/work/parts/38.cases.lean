/-! ===== the law's loop ===== -/
theorem xs_At.o {h : ax_H} {S : sp_S} (hx : xs_At h S) : ∃ fs, h 0 = some (.inr (7, fs)) := by
  obtain ⟨pb, pq, ts, hpp, hX, -⟩ := hx
  exact ⟨_, hX.1⟩
theorem ms_At.o {h : ax_H} {S : sp_S} (hx : ms_At h S) : ∃ fs, h 56 = some (.inr (8, fs)) := by
  obtain ⟨ng, nt, nw, ap, bg, wr, f, M_o, -⟩ := hx
  exact ⟨_, M_o⟩
section LL
variable {p : Program} {l : Launch} {e : Env} {s : State} {m : MethodId} {below : List Frame} {meth : Method} {c : Code} {b L : Nat} {xs : Nat → Int32} {x : ax_X}
theorem lj_topi {k w pc : Nat} {ls : List (Option Value)} {st : List Value} {σ : ax_S} {v v' : Int32} (h : v = v') (kk : lj_J p l e s m below meth c b x k w pc ls (.int v' :: st) σ) : lj_J p l e s m below meth c b x k w pc ls (.int v :: st) σ := by rw [h]; exact kk
/-- a case is over: the next five ints -/
abbrev lj_nx (p : Program) (l : Launch) (e : Env) (s : State) (m : MethodId) (below : List Frame) (meth : Method) (c : Code) (b : Nat) (x : ax_X) (i : Nat) : Prop := ∀ (S : sp_S) (σ : ax_S), bo_At σ S → lj_J p l e s m below meth c b x 75 1535 860 [some (.retAddr 3), some (.ref 0), some (.ref 56), some (.int (nI i))] [] σ
theorem lj_c_write {i : Nat} {S : sp_S} {σ : ax_S} (C : lj_C p s m meth c b L xs x) (hL : L ≤ 320) (hi : i + 5 ≤ L) (hB : bo_At σ S) (nx : lj_nx p l e s m below meth c b x i) : lj_J p l e s m below meth c b x 75 1535 152 [some (.retAddr 3), some (.ref 0), some (.ref 56), some (.int (nI i))] [] σ := by
  have hS := hB.2.2.1
  refine lj_aload_n (pc' := 153) C rfl dL_law_152 rfl ?_
  refine lj_aloadS (pc' := 154) C rfl dL_law_153 rfl ?_
  refine lj_iload_n (pc' := 155) C rfl dL_law_154 rfl ?_
  refine lj_iconst (pc' := 156) (v := nI 1) C kc_1 dL_law_155 rfl ?_
  refine lj_iadd (pc' := 157) C dL_law_156 rfl ?_
  refine lj_topi (nI_add i 1) ?_
  refine lj_sld (pc' := 158) (j := i + 1) C (by omega) (by omega) dL_law_157 rfl ?_
  obtain ⟨fs, X_o⟩ := hB.1.o
  refine lj_callV (pc' := 161) C lv_L_13 (x_write hB.1 hS (xs (i + 1))) X_o rfl rfl (by decide) (Nat.le_of_ble_eq_true rfl) (Nat.le_of_ble_eq_true rfl) (Nat.le_of_ble_eq_true rfl) dL_law_158 rfl (fun r1 s1 h1 => ?_)
  obtain ⟨rfl, hx1, hF1⟩ := h1
  have hm1 : ms_At s1.1 S := hB.2.1.on (fun q a b => hF1.2 q (by omega))
  obtain ⟨gs, M_o⟩ := hm1.o
  refine lj_aload_n (pc' := 162) C rfl dL_law_161 rfl ?_
  refine lj_aloadS (pc' := 163) C rfl dL_law_162 rfl ?_
  refine lj_iload_n (pc' := 164) C rfl dL_law_163 rfl ?_
  refine lj_iconst (pc' := 165) (v := nI 1) C kc_1 dL_law_164 rfl ?_
  refine lj_iadd (pc' := 166) C dL_law_165 rfl ?_
  refine lj_topi (nI_add i 1) ?_
  refine lj_sld (pc' := 167) (j := i + 1) C (by omega) (by omega) dL_law_166 rfl ?_
  refine lj_callV (pc' := 170) C lv_L_17 (y_write hm1 hS (xs (i + 1))) M_o rfl rfl (by decide) (Nat.le_of_ble_eq_true rfl) (Nat.le_of_ble_eq_true rfl) (Nat.le_of_ble_eq_true rfl) dL_law_167 rfl (fun r2 s2 h2 => ?_)
  obtain ⟨rfl, hm2, hF2⟩ := h2
  refine lj_icmp_eq (pc' := 173) (tgt := 860) C dL_law_170 (by decide) rfl (fun _ => ?_) (fun h => absurd rfl h)
  exact nx _ s2 ⟨hx1.on (fun q hq => hF2.2 q (by omega)), hm2, ok_write hS _, hF2.1.trans (hF1.1.trans hB.2.2.2)⟩
theorem lj_c_wipe {i : Nat} {S : sp_S} {σ : ax_S} (C : lj_C p s m meth c b L xs x) (hL : L ≤ 320) (hi : i + 5 ≤ L) (hB : bo_At σ S) (nx : lj_nx p l e s m below meth c b x i) : lj_J p l e s m below meth c b x 75 1535 175 [some (.retAddr 3), some (.ref 0), some (.ref 56), some (.int (nI i))] [] σ := by
  have hS := hB.2.2.1
  refine lj_aload_n (pc' := 176) C rfl dL_law_175 rfl ?_
  obtain ⟨fs, X_o⟩ := hB.1.o
  refine lj_callV (pc' := 179) C lv_L_18 (x_wipe hB.1 hS ) X_o rfl rfl (by decide) (Nat.le_of_ble_eq_true rfl) (Nat.le_of_ble_eq_true rfl) (Nat.le_of_ble_eq_true rfl) dL_law_176 rfl (fun r1 s1 h1 => ?_)
  obtain ⟨rfl, hx1, hF1⟩ := h1
  have hm1 : ms_At s1.1 S := hB.2.1.on (fun q a b => hF1.2 q (by omega))
  obtain ⟨gs, M_o⟩ := hm1.o
  refine lj_aload_n (pc' := 180) C rfl dL_law_179 rfl ?_
  refine lj_callV (pc' := 183) C lv_L_22 (y_wipe hm1 hS ) M_o rfl rfl (by decide) (Nat.le_of_ble_eq_true rfl) (Nat.le_of_ble_eq_true rfl) (Nat.le_of_ble_eq_true rfl) dL_law_180 rfl (fun r2 s2 h2 => ?_)
  obtain ⟨rfl, hm2, hF2⟩ := h2
  refine lj_icmp_eq (pc' := 186) (tgt := 860) C dL_law_183 (by decide) rfl (fun _ => ?_) (fun h => absurd rfl h)
  exact nx _ s2 ⟨hx1.on (fun q hq => hF2.2 q (by omega)), hm2, ok_wipe hS, hF2.1.trans (hF1.1.trans hB.2.2.2)⟩
theorem lj_c_fault {i : Nat} {S : sp_S} {σ : ax_S} (C : lj_C p s m meth c b L xs x) (hL : L ≤ 320) (hi : i + 5 ≤ L) (hB : bo_At σ S) (nx : lj_nx p l e s m below meth c b x i) : lj_J p l e s m below meth c b x 75 1535 188 [some (.retAddr 3), some (.ref 0), some (.ref 56), some (.int (nI i))] [] σ := by
  have hS := hB.2.2.1
  refine lj_aload_n (pc' := 189) C rfl dL_law_188 rfl ?_
  obtain ⟨fs, X_o⟩ := hB.1.o
  refine lj_callV (pc' := 192) C lv_L_23 (x_fault hB.1 hS ) X_o rfl rfl (by decide) (Nat.le_of_ble_eq_true rfl) (Nat.le_of_ble_eq_true rfl) (Nat.le_of_ble_eq_true rfl) dL_law_189 rfl (fun r1 s1 h1 => ?_)
  obtain ⟨rfl, hx1, hF1⟩ := h1
  have hm1 : ms_At s1.1 S := hB.2.1.on (fun q a b => hF1.2 q (by omega))
  obtain ⟨gs, M_o⟩ := hm1.o
  refine lj_aload_n (pc' := 193) C rfl dL_law_192 rfl ?_
  refine lj_callV (pc' := 196) C lv_L_26 (y_fault hm1 hS ) M_o rfl rfl (by decide) (Nat.le_of_ble_eq_true rfl) (Nat.le_of_ble_eq_true rfl) (Nat.le_of_ble_eq_true rfl) dL_law_193 rfl (fun r2 s2 h2 => ?_)
  obtain ⟨rfl, hm2, hF2⟩ := h2
  refine lj_icmp_eq (pc' := 199) (tgt := 860) C dL_law_196 (by decide) rfl (fun _ => ?_) (fun h => absurd rfl h)
  exact nx _ s2 ⟨hx1.on (fun q hq => hF2.2 q (by omega)), hm2, ok_fault hS, hF2.1.trans (hF1.1.trans hB.2.2.2)⟩
theorem lj_c_lay {i : Nat} {S : sp_S} {σ : ax_S} (C : lj_C p s m meth c b L xs x) (hL : L ≤ 320) (hi : i + 5 ≤ L) (hB : bo_At σ S) (nx : lj_nx p l e s m below meth c b x i) : lj_J p l e s m below meth c b x 75 1535 201 [some (.retAddr 3), some (.ref 0), some (.ref 56), some (.int (nI i))] [] σ := by
  have hS := hB.2.2.1
  refine lj_aload_n (pc' := 202) C rfl dL_law_201 rfl ?_
  obtain ⟨fs, X_o⟩ := hB.1.o
  refine lj_callV (pc' := 205) C lv_L_27 (x_lay hB.1 hS ) X_o rfl rfl (by decide) (Nat.le_of_ble_eq_true rfl) (Nat.le_of_ble_eq_true rfl) (Nat.le_of_ble_eq_true rfl) dL_law_202 rfl (fun r1 s1 h1 => ?_)
  obtain ⟨rfl, hx1, hF1⟩ := h1
  have hm1 : ms_At s1.1 S := hB.2.1.on (fun q a b => hF1.2 q (by omega))
  obtain ⟨gs, M_o⟩ := hm1.o
  refine lj_aload_n (pc' := 206) C rfl dL_law_205 rfl ?_
  refine lj_callV (pc' := 209) C lv_L_30 (y_lay hm1 hS ) M_o rfl rfl (by decide) (Nat.le_of_ble_eq_true rfl) (Nat.le_of_ble_eq_true rfl) (Nat.le_of_ble_eq_true rfl) dL_law_206 rfl (fun r2 s2 h2 => ?_)
  obtain ⟨rfl, hm2, hF2⟩ := h2
  refine lj_icmp_eq (pc' := 212) (tgt := 860) C dL_law_209 (by decide) rfl (fun _ => ?_) (fun h => absurd rfl h)
  exact nx _ s2 ⟨hx1.on (fun q hq => hF2.2 q (by omega)), hm2, ok_lay hS, hF2.1.trans (hF1.1.trans hB.2.2.2)⟩
theorem lj_c_town {i : Nat} {S : sp_S} {σ : ax_S} (C : lj_C p s m meth c b L xs x) (hL : L ≤ 320) (hi : i + 5 ≤ L) (hB : bo_At σ S) (nx : lj_nx p l e s m below meth c b x i) : lj_J p l e s m below meth c b x 75 1535 214 [some (.retAddr 3), some (.ref 0), some (.ref 56), some (.int (nI i))] [] σ := by
  have hS := hB.2.2.1
  refine lj_aload_n (pc' := 215) C rfl dL_law_214 rfl ?_
  refine lj_aloadS (pc' := 216) C rfl dL_law_215 rfl ?_
  refine lj_iload_n (pc' := 217) C rfl dL_law_216 rfl ?_
  refine lj_iconst (pc' := 218) (v := nI 1) C kc_1 dL_law_217 rfl ?_
  refine lj_iadd (pc' := 219) C dL_law_218 rfl ?_
  refine lj_topi (nI_add i 1) ?_
  refine lj_sld (pc' := 220) (j := i + 1) C (by omega) (by omega) dL_law_219 rfl ?_
  refine lj_aloadS (pc' := 221) C rfl dL_law_220 rfl ?_
  refine lj_iload_n (pc' := 222) C rfl dL_law_221 rfl ?_
  refine lj_iconst (pc' := 223) (v := nI 2) C kc_2 dL_law_222 rfl ?_
  refine lj_iadd (pc' := 224) C dL_law_223 rfl ?_
  refine lj_topi (nI_add i 2) ?_
  refine lj_sld (pc' := 225) (j := i + 2) C (by omega) (by omega) dL_law_224 rfl ?_
  obtain ⟨fs, X_o⟩ := hB.1.o
  refine lj_callV (pc' := 228) C lv_L_31 (x_town hB.1 hS (xs (i + 1)) (xs (i + 2))) X_o rfl rfl (by decide) (Nat.le_of_ble_eq_true rfl) (Nat.le_of_ble_eq_true rfl) (Nat.le_of_ble_eq_true rfl) dL_law_225 rfl (fun r1 s1 h1 => ?_)
  obtain ⟨rfl, hx1, hF1⟩ := h1
  have hm1 : ms_At s1.1 S := hB.2.1.on (fun q a b => hF1.2 q (by omega))
  obtain ⟨gs, M_o⟩ := hm1.o
  refine lj_aload_n (pc' := 229) C rfl dL_law_228 rfl ?_
  refine lj_aloadS (pc' := 230) C rfl dL_law_229 rfl ?_
  refine lj_iload_n (pc' := 231) C rfl dL_law_230 rfl ?_
  refine lj_iconst (pc' := 232) (v := nI 1) C kc_1 dL_law_231 rfl ?_
  refine lj_iadd (pc' := 233) C dL_law_232 rfl ?_
  refine lj_topi (nI_add i 1) ?_
  refine lj_sld (pc' := 234) (j := i + 1) C (by omega) (by omega) dL_law_233 rfl ?_
  refine lj_aloadS (pc' := 235) C rfl dL_law_234 rfl ?_
  refine lj_iload_n (pc' := 236) C rfl dL_law_235 rfl ?_
  refine lj_iconst (pc' := 237) (v := nI 2) C kc_2 dL_law_236 rfl ?_
  refine lj_iadd (pc' := 238) C dL_law_237 rfl ?_
  refine lj_topi (nI_add i 2) ?_
  refine lj_sld (pc' := 239) (j := i + 2) C (by omega) (by omega) dL_law_238 rfl ?_
  refine lj_callV (pc' := 242) C lv_L_35 (y_town hm1 hS (xs (i + 1)) (xs (i + 2))) M_o rfl rfl (by decide) (Nat.le_of_ble_eq_true rfl) (Nat.le_of_ble_eq_true rfl) (Nat.le_of_ble_eq_true rfl) dL_law_239 rfl (fun r2 s2 h2 => ?_)
  obtain ⟨rfl, hm2, hF2⟩ := h2
  refine lj_icmp_eq (pc' := 245) (tgt := 860) C dL_law_242 (by decide) rfl (fun _ => ?_) (fun h => absurd rfl h)
  exact nx _ s2 ⟨hx1.on (fun q hq => hF2.2 q (by omega)), hm2, hS, hF2.1.trans (hF1.1.trans hB.2.2.2)⟩
theorem lj_c_between {i : Nat} {S : sp_S} {σ : ax_S} (C : lj_C p s m meth c b L xs x) (hL : L ≤ 320) (hi : i + 5 ≤ L) (hB : bo_At σ S) (nx : lj_nx p l e s m below meth c b x i) : lj_J p l e s m below meth c b x 75 1535 247 [some (.retAddr 3), some (.ref 0), some (.ref 56), some (.int (nI i))] [] σ := by
  have hS := hB.2.2.1
  refine lj_aload_n (pc' := 248) C rfl dL_law_247 rfl ?_
  refine lj_aloadS (pc' := 249) C rfl dL_law_248 rfl ?_
  refine lj_iload_n (pc' := 250) C rfl dL_law_249 rfl ?_
  refine lj_iconst (pc' := 251) (v := nI 1) C kc_1 dL_law_250 rfl ?_
  refine lj_iadd (pc' := 252) C dL_law_251 rfl ?_
  refine lj_topi (nI_add i 1) ?_
  refine lj_sld (pc' := 253) (j := i + 1) C (by omega) (by omega) dL_law_252 rfl ?_
  refine lj_aloadS (pc' := 254) C rfl dL_law_253 rfl ?_
  refine lj_iload_n (pc' := 255) C rfl dL_law_254 rfl ?_
  refine lj_iconst (pc' := 256) (v := nI 2) C kc_2 dL_law_255 rfl ?_
  refine lj_iadd (pc' := 257) C dL_law_256 rfl ?_
  refine lj_topi (nI_add i 2) ?_
  refine lj_sld (pc' := 258) (j := i + 2) C (by omega) (by omega) dL_law_257 rfl ?_
  refine lj_aloadS (pc' := 259) C rfl dL_law_258 rfl ?_
  refine lj_iload_n (pc' := 260) C rfl dL_law_259 rfl ?_
  refine lj_iconst (pc' := 261) (v := nI 3) C kc_3 dL_law_260 rfl ?_
  refine lj_iadd (pc' := 262) C dL_law_261 rfl ?_
  refine lj_topi (nI_add i 3) ?_
  refine lj_sld (pc' := 263) (j := i + 3) C (by omega) (by omega) dL_law_262 rfl ?_
  obtain ⟨fs, X_o⟩ := hB.1.o
  refine lj_callV (pc' := 266) C lv_L_36 (x_between hB.1 hS (xs (i + 1)) (xs (i + 2)) (xs (i + 3))) X_o rfl rfl (by decide) (Nat.le_of_ble_eq_true rfl) (Nat.le_of_ble_eq_true rfl) (Nat.le_of_ble_eq_true rfl) dL_law_263 rfl (fun r1 s1 h1 => ?_)
  obtain ⟨rfl, hx1, hF1⟩ := h1
  have hm1 : ms_At s1.1 S := hB.2.1.on (fun q a b => hF1.2 q (by omega))
  obtain ⟨gs, M_o⟩ := hm1.o
  refine lj_aload_n (pc' := 267) C rfl dL_law_266 rfl ?_
  refine lj_aloadS (pc' := 268) C rfl dL_law_267 rfl ?_
  refine lj_iload_n (pc' := 269) C rfl dL_law_268 rfl ?_
  refine lj_iconst (pc' := 270) (v := nI 1) C kc_1 dL_law_269 rfl ?_
  refine lj_iadd (pc' := 271) C dL_law_270 rfl ?_
  refine lj_topi (nI_add i 1) ?_
  refine lj_sld (pc' := 272) (j := i + 1) C (by omega) (by omega) dL_law_271 rfl ?_
  refine lj_aloadS (pc' := 273) C rfl dL_law_272 rfl ?_
  refine lj_iload_n (pc' := 274) C rfl dL_law_273 rfl ?_
  refine lj_iconst (pc' := 275) (v := nI 2) C kc_2 dL_law_274 rfl ?_
  refine lj_iadd (pc' := 276) C dL_law_275 rfl ?_
  refine lj_topi (nI_add i 2) ?_
  refine lj_sld (pc' := 277) (j := i + 2) C (by omega) (by omega) dL_law_276 rfl ?_
  refine lj_aloadS (pc' := 278) C rfl dL_law_277 rfl ?_
  refine lj_iload_n (pc' := 279) C rfl dL_law_278 rfl ?_
  refine lj_iconst (pc' := 280) (v := nI 3) C kc_3 dL_law_279 rfl ?_
  refine lj_iadd (pc' := 281) C dL_law_280 rfl ?_
  refine lj_topi (nI_add i 3) ?_
  refine lj_sld (pc' := 282) (j := i + 3) C (by omega) (by omega) dL_law_281 rfl ?_
  refine lj_callV (pc' := 285) C lv_L_40 (y_between hm1 hS (xs (i + 1)) (xs (i + 2)) (xs (i + 3))) M_o rfl rfl (by decide) (Nat.le_of_ble_eq_true rfl) (Nat.le_of_ble_eq_true rfl) (Nat.le_of_ble_eq_true rfl) dL_law_282 rfl (fun r2 s2 h2 => ?_)
  obtain ⟨rfl, hm2, hF2⟩ := h2
  refine lj_icmp_eq (pc' := 288) (tgt := 860) C dL_law_285 (by decide) rfl (fun _ => ?_) (fun h => absurd rfl h)
  exact nx _ s2 ⟨hx1.on (fun q hq => hF2.2 q (by omega)), hm2, hS, hF2.1.trans (hF1.1.trans hB.2.2.2)⟩
theorem lj_c_walker {i : Nat} {S : sp_S} {σ : ax_S} (C : lj_C p s m meth c b L xs x) (hL : L ≤ 320) (hi : i + 5 ≤ L) (hB : bo_At σ S) (nx : lj_nx p l e s m below meth c b x i) : lj_J p l e s m below meth c b x 75 1535 290 [some (.retAddr 3), some (.ref 0), some (.ref 56), some (.int (nI i))] [] σ := by
  have hS := hB.2.2.1
  refine lj_aload_n (pc' := 291) C rfl dL_law_290 rfl ?_
  refine lj_aloadS (pc' := 292) C rfl dL_law_291 rfl ?_
  refine lj_iload_n (pc' := 293) C rfl dL_law_292 rfl ?_
  refine lj_iconst (pc' := 294) (v := nI 1) C kc_1 dL_law_293 rfl ?_
  refine lj_iadd (pc' := 295) C dL_law_294 rfl ?_
  refine lj_topi (nI_add i 1) ?_
  refine lj_sld (pc' := 296) (j := i + 1) C (by omega) (by omega) dL_law_295 rfl ?_
  refine lj_aloadS (pc' := 297) C rfl dL_law_296 rfl ?_
  refine lj_iload_n (pc' := 298) C rfl dL_law_297 rfl ?_
  refine lj_iconst (pc' := 299) (v := nI 2) C kc_2 dL_law_298 rfl ?_
  refine lj_iadd (pc' := 300) C dL_law_299 rfl ?_
  refine lj_topi (nI_add i 2) ?_
  refine lj_sld (pc' := 301) (j := i + 2) C (by omega) (by omega) dL_law_300 rfl ?_
  obtain ⟨fs, X_o⟩ := hB.1.o
  refine lj_callV (pc' := 304) C lv_L_41 (x_walker hB.1 hS (xs (i + 1)) (xs (i + 2))) X_o rfl rfl (by decide) (Nat.le_of_ble_eq_true rfl) (Nat.le_of_ble_eq_true rfl) (Nat.le_of_ble_eq_true rfl) dL_law_301 rfl (fun r1 s1 h1 => ?_)
  obtain ⟨rfl, hx1, hF1⟩ := h1
  have hm1 : ms_At s1.1 S := hB.2.1.on (fun q a b => hF1.2 q (by omega))
  obtain ⟨gs, M_o⟩ := hm1.o
  refine lj_aload_n (pc' := 305) C rfl dL_law_304 rfl ?_
  refine lj_aloadS (pc' := 306) C rfl dL_law_305 rfl ?_
  refine lj_iload_n (pc' := 307) C rfl dL_law_306 rfl ?_
  refine lj_iconst (pc' := 308) (v := nI 1) C kc_1 dL_law_307 rfl ?_
  refine lj_iadd (pc' := 309) C dL_law_308 rfl ?_
  refine lj_topi (nI_add i 1) ?_
  refine lj_sld (pc' := 310) (j := i + 1) C (by omega) (by omega) dL_law_309 rfl ?_
  refine lj_aloadS (pc' := 311) C rfl dL_law_310 rfl ?_
  refine lj_iload_n (pc' := 312) C rfl dL_law_311 rfl ?_
  refine lj_iconst (pc' := 313) (v := nI 2) C kc_2 dL_law_312 rfl ?_
  refine lj_iadd (pc' := 314) C dL_law_313 rfl ?_
  refine lj_topi (nI_add i 2) ?_
  refine lj_sld (pc' := 315) (j := i + 2) C (by omega) (by omega) dL_law_314 rfl ?_
  refine lj_callV (pc' := 318) C lv_L_44 (y_walker hm1 hS (xs (i + 1)) (xs (i + 2))) M_o rfl rfl (by decide) (Nat.le_of_ble_eq_true rfl) (Nat.le_of_ble_eq_true rfl) (Nat.le_of_ble_eq_true rfl) dL_law_315 rfl (fun r2 s2 h2 => ?_)
  obtain ⟨rfl, hm2, hF2⟩ := h2
  refine lj_icmp_eq (pc' := 321) (tgt := 860) C dL_law_318 (by decide) rfl (fun _ => ?_) (fun h => absurd rfl h)
  exact nx _ s2 ⟨hx1.on (fun q hq => hF2.2 q (by omega)), hm2, hS, hF2.1.trans (hF1.1.trans hB.2.2.2)⟩
theorem lj_c_report {i : Nat} {S : sp_S} {σ : ax_S} (C : lj_C p s m meth c b L xs x) (hL : L ≤ 320) (hi : i + 5 ≤ L) (hB : bo_At σ S) (nx : lj_nx p l e s m below meth c b x i) : lj_J p l e s m below meth c b x 75 1535 323 [some (.retAddr 3), some (.ref 0), some (.ref 56), some (.int (nI i))] [] σ := by
  have hS := hB.2.2.1
  refine lj_aload_n (pc' := 324) C rfl dL_law_323 rfl ?_
  refine lj_aloadS (pc' := 325) C rfl dL_law_324 rfl ?_
  refine lj_iload_n (pc' := 326) C rfl dL_law_325 rfl ?_
  refine lj_iconst (pc' := 327) (v := nI 1) C kc_1 dL_law_326 rfl ?_
  refine lj_iadd (pc' := 328) C dL_law_327 rfl ?_
  refine lj_topi (nI_add i 1) ?_
  refine lj_sld (pc' := 329) (j := i + 1) C (by omega) (by omega) dL_law_328 rfl ?_
  refine lj_aloadS (pc' := 330) C rfl dL_law_329 rfl ?_
  refine lj_iload_n (pc' := 331) C rfl dL_law_330 rfl ?_
  refine lj_iconst (pc' := 332) (v := nI 2) C kc_2 dL_law_331 rfl ?_
  refine lj_iadd (pc' := 333) C dL_law_332 rfl ?_
  refine lj_topi (nI_add i 2) ?_
  refine lj_sld (pc' := 334) (j := i + 2) C (by omega) (by omega) dL_law_333 rfl ?_
  obtain ⟨fs, X_o⟩ := hB.1.o
  refine lj_callV (pc' := 337) C lv_L_45 (x_report hB.1 hS (xs (i + 1)) (xs (i + 2))) X_o rfl rfl (by decide) (Nat.le_of_ble_eq_true rfl) (Nat.le_of_ble_eq_true rfl) (Nat.le_of_ble_eq_true rfl) dL_law_334 rfl (fun r1 s1 h1 => ?_)
  obtain ⟨rfl, hx1, hF1⟩ := h1
  have hm1 : ms_At s1.1 S := hB.2.1.on (fun q a b => hF1.2 q (by omega))
  obtain ⟨gs, M_o⟩ := hm1.o
  refine lj_aload_n (pc' := 338) C rfl dL_law_337 rfl ?_
  refine lj_aloadS (pc' := 339) C rfl dL_law_338 rfl ?_
  refine lj_iload_n (pc' := 340) C rfl dL_law_339 rfl ?_
  refine lj_iconst (pc' := 341) (v := nI 1) C kc_1 dL_law_340 rfl ?_
  refine lj_iadd (pc' := 342) C dL_law_341 rfl ?_
  refine lj_topi (nI_add i 1) ?_
  refine lj_sld (pc' := 343) (j := i + 1) C (by omega) (by omega) dL_law_342 rfl ?_
  refine lj_aloadS (pc' := 344) C rfl dL_law_343 rfl ?_
  refine lj_iload_n (pc' := 345) C rfl dL_law_344 rfl ?_
  refine lj_iconst (pc' := 346) (v := nI 2) C kc_2 dL_law_345 rfl ?_
  refine lj_iadd (pc' := 347) C dL_law_346 rfl ?_
  refine lj_topi (nI_add i 2) ?_
  refine lj_sld (pc' := 348) (j := i + 2) C (by omega) (by omega) dL_law_347 rfl ?_
  refine lj_callV (pc' := 351) C lv_L_48 (y_report hm1 hS (xs (i + 1)) (xs (i + 2))) M_o rfl rfl (by decide) (Nat.le_of_ble_eq_true rfl) (Nat.le_of_ble_eq_true rfl) (Nat.le_of_ble_eq_true rfl) dL_law_348 rfl (fun r2 s2 h2 => ?_)
  obtain ⟨rfl, hm2, hF2⟩ := h2
  refine lj_icmp_eq (pc' := 354) (tgt := 860) C dL_law_351 (by decide) rfl (fun _ => ?_) (fun h => absurd rfl h)
  exact nx _ s2 ⟨hx1.on (fun q hq => hF2.2 q (by omega)), hm2, hS, hF2.1.trans (hF1.1.trans hB.2.2.2)⟩
theorem lj_c_walk {i : Nat} {S : sp_S} {σ : ax_S} (C : lj_C p s m meth c b L xs x) (hL : L ≤ 320) (hi : i + 5 ≤ L) (hB : bo_At σ S) (nx : lj_nx p l e s m below meth c b x i) : lj_J p l e s m below meth c b x 75 1535 356 [some (.retAddr 3), some (.ref 0), some (.ref 56), some (.int (nI i))] [] σ := by
  have hS := hB.2.2.1
  refine lj_aload_n (pc' := 357) C rfl dL_law_356 rfl ?_
  refine lj_aloadS (pc' := 358) C rfl dL_law_357 rfl ?_
  refine lj_iload_n (pc' := 359) C rfl dL_law_358 rfl ?_
  refine lj_iconst (pc' := 360) (v := nI 1) C kc_1 dL_law_359 rfl ?_
  refine lj_iadd (pc' := 361) C dL_law_360 rfl ?_
  refine lj_topi (nI_add i 1) ?_
  refine lj_sld (pc' := 362) (j := i + 1) C (by omega) (by omega) dL_law_361 rfl ?_
  refine lj_aloadS (pc' := 363) C rfl dL_law_362 rfl ?_
  refine lj_iload_n (pc' := 364) C rfl dL_law_363 rfl ?_
  refine lj_iconst (pc' := 365) (v := nI 2) C kc_2 dL_law_364 rfl ?_
  refine lj_iadd (pc' := 366) C dL_law_365 rfl ?_
  refine lj_topi (nI_add i 2) ?_
  refine lj_sld (pc' := 367) (j := i + 2) C (by omega) (by omega) dL_law_366 rfl ?_
  refine lj_aloadS (pc' := 368) C rfl dL_law_367 rfl ?_
  refine lj_iload_n (pc' := 369) C rfl dL_law_368 rfl ?_
  refine lj_iconst (pc' := 370) (v := nI 3) C kc_3 dL_law_369 rfl ?_
  refine lj_iadd (pc' := 371) C dL_law_370 rfl ?_
  refine lj_topi (nI_add i 3) ?_
  refine lj_sld (pc' := 372) (j := i + 3) C (by omega) (by omega) dL_law_371 rfl ?_
  obtain ⟨fs, X_o⟩ := hB.1.o
  refine lj_callV (pc' := 375) C lv_L_49 (x_walk hB.1 hS (xs (i + 1)) (xs (i + 2)) (xs (i + 3))) X_o rfl rfl (by decide) (Nat.le_of_ble_eq_true rfl) (Nat.le_of_ble_eq_true rfl) (Nat.le_of_ble_eq_true rfl) dL_law_372 rfl (fun r1 s1 h1 => ?_)
  obtain ⟨rfl, hx1, hF1⟩ := h1
  have hm1 : ms_At s1.1 S := hB.2.1.on (fun q a b => hF1.2 q (by omega))
  obtain ⟨gs, M_o⟩ := hm1.o
  refine lj_aload_n (pc' := 376) C rfl dL_law_375 rfl ?_
  refine lj_aloadS (pc' := 377) C rfl dL_law_376 rfl ?_
  refine lj_iload_n (pc' := 378) C rfl dL_law_377 rfl ?_
  refine lj_iconst (pc' := 379) (v := nI 1) C kc_1 dL_law_378 rfl ?_
  refine lj_iadd (pc' := 380) C dL_law_379 rfl ?_
  refine lj_topi (nI_add i 1) ?_
  refine lj_sld (pc' := 381) (j := i + 1) C (by omega) (by omega) dL_law_380 rfl ?_
  refine lj_aloadS (pc' := 382) C rfl dL_law_381 rfl ?_
  refine lj_iload_n (pc' := 383) C rfl dL_law_382 rfl ?_
  refine lj_iconst (pc' := 384) (v := nI 2) C kc_2 dL_law_383 rfl ?_
  refine lj_iadd (pc' := 385) C dL_law_384 rfl ?_
  refine lj_topi (nI_add i 2) ?_
  refine lj_sld (pc' := 386) (j := i + 2) C (by omega) (by omega) dL_law_385 rfl ?_
  refine lj_aloadS (pc' := 387) C rfl dL_law_386 rfl ?_
  refine lj_iload_n (pc' := 388) C rfl dL_law_387 rfl ?_
  refine lj_iconst (pc' := 389) (v := nI 3) C kc_3 dL_law_388 rfl ?_
  refine lj_iadd (pc' := 390) C dL_law_389 rfl ?_
  refine lj_topi (nI_add i 3) ?_
  refine lj_sld (pc' := 391) (j := i + 3) C (by omega) (by omega) dL_law_390 rfl ?_
  refine lj_callV (pc' := 394) C lv_L_52 (y_walk hm1 hS (xs (i + 1)) (xs (i + 2)) (xs (i + 3))) M_o rfl rfl (by decide) (Nat.le_of_ble_eq_true rfl) (Nat.le_of_ble_eq_true rfl) (Nat.le_of_ble_eq_true rfl) dL_law_391 rfl (fun r2 s2 h2 => ?_)
  obtain ⟨rfl, hm2, hF2⟩ := h2
  refine lj_icmp_eq (pc' := 397) (tgt := 860) C dL_law_394 (by decide) rfl (fun _ => ?_) (fun h => absurd rfl h)
  exact nx _ s2 ⟨hx1.on (fun q hq => hF2.2 q (by omega)), hm2, ok_walk hS _ _ _, hF2.1.trans (hF1.1.trans hB.2.2.2)⟩
theorem lj_c_strike {i : Nat} {S : sp_S} {σ : ax_S} (C : lj_C p s m meth c b L xs x) (hL : L ≤ 320) (hi : i + 5 ≤ L) (hB : bo_At σ S) (nx : lj_nx p l e s m below meth c b x i) : lj_J p l e s m below meth c b x 75 1535 399 [some (.retAddr 3), some (.ref 0), some (.ref 56), some (.int (nI i))] [] σ := by
  have hS := hB.2.2.1
  refine lj_aload_n (pc' := 400) C rfl dL_law_399 rfl ?_
  refine lj_aloadS (pc' := 401) C rfl dL_law_400 rfl ?_
  refine lj_iload_n (pc' := 402) C rfl dL_law_401 rfl ?_
  refine lj_iconst (pc' := 403) (v := nI 1) C kc_1 dL_law_402 rfl ?_
  refine lj_iadd (pc' := 404) C dL_law_403 rfl ?_
  refine lj_topi (nI_add i 1) ?_
  refine lj_sld (pc' := 405) (j := i + 1) C (by omega) (by omega) dL_law_404 rfl ?_
  obtain ⟨fs, X_o⟩ := hB.1.o
  refine lj_callV (pc' := 408) C lv_L_53 (x_strike hB.1 hS (xs (i + 1))) X_o rfl rfl (by decide) (Nat.le_of_ble_eq_true rfl) (Nat.le_of_ble_eq_true rfl) (Nat.le_of_ble_eq_true rfl) dL_law_405 rfl (fun r1 s1 h1 => ?_)
  obtain ⟨rfl, hx1, hF1⟩ := h1
  have hm1 : ms_At s1.1 S := hB.2.1.on (fun q a b => hF1.2 q (by omega))
  obtain ⟨gs, M_o⟩ := hm1.o
  refine lj_aload_n (pc' := 409) C rfl dL_law_408 rfl ?_
  refine lj_aloadS (pc' := 410) C rfl dL_law_409 rfl ?_
  refine lj_iload_n (pc' := 411) C rfl dL_law_410 rfl ?_
  refine lj_iconst (pc' := 412) (v := nI 1) C kc_1 dL_law_411 rfl ?_
  refine lj_iadd (pc' := 413) C dL_law_412 rfl ?_
  refine lj_topi (nI_add i 1) ?_
  refine lj_sld (pc' := 414) (j := i + 1) C (by omega) (by omega) dL_law_413 rfl ?_
  refine lj_callV (pc' := 417) C lv_L_56 (y_strike hm1 hS (xs (i + 1))) M_o rfl rfl (by decide) (Nat.le_of_ble_eq_true rfl) (Nat.le_of_ble_eq_true rfl) (Nat.le_of_ble_eq_true rfl) dL_law_414 rfl (fun r2 s2 h2 => ?_)
  obtain ⟨rfl, hm2, hF2⟩ := h2
  refine lj_icmp_eq (pc' := 420) (tgt := 860) C dL_law_417 (by decide) rfl (fun _ => ?_) (fun h => absurd rfl h)
  exact nx _ s2 ⟨hx1.on (fun q hq => hF2.2 q (by omega)), hm2, ok_strike hS _, hF2.1.trans (hF1.1.trans hB.2.2.2)⟩
theorem lj_c_undo {i : Nat} {S : sp_S} {σ : ax_S} (C : lj_C p s m meth c b L xs x) (hL : L ≤ 320) (hi : i + 5 ≤ L) (hB : bo_At σ S) (nx : lj_nx p l e s m below meth c b x i) : lj_J p l e s m below meth c b x 75 1535 422 [some (.retAddr 3), some (.ref 0), some (.ref 56), some (.int (nI i))] [] σ := by
  have hS := hB.2.2.1
  refine lj_aload_n (pc' := 423) C rfl dL_law_422 rfl ?_
  obtain ⟨fs, X_o⟩ := hB.1.o
  refine lj_callV (pc' := 426) C lv_L_57 (x_undo hB.1 hS ) X_o rfl rfl (by decide) (Nat.le_of_ble_eq_true rfl) (Nat.le_of_ble_eq_true rfl) (Nat.le_of_ble_eq_true rfl) dL_law_423 rfl (fun r1 s1 h1 => ?_)
  obtain ⟨rfl, hx1, hF1⟩ := h1
  have hm1 : ms_At s1.1 S := hB.2.1.on (fun q a b => hF1.2 q (by omega))
  obtain ⟨gs, M_o⟩ := hm1.o
  refine lj_aload_n (pc' := 427) C rfl dL_law_426 rfl ?_
  refine lj_callV (pc' := 430) C lv_L_60 (y_undo hm1 hS ) M_o rfl rfl (by decide) (Nat.le_of_ble_eq_true rfl) (Nat.le_of_ble_eq_true rfl) (Nat.le_of_ble_eq_true rfl) dL_law_427 rfl (fun r2 s2 h2 => ?_)
  obtain ⟨rfl, hm2, hF2⟩ := h2
  refine lj_icmp_eq (pc' := 433) (tgt := 860) C dL_law_430 (by decide) rfl (fun _ => ?_) (fun h => absurd rfl h)
  exact nx _ s2 ⟨hx1.on (fun q hq => hF2.2 q (by omega)), hm2, ok_undo hS, hF2.1.trans (hF1.1.trans hB.2.2.2)⟩
theorem lj_c_mean {i : Nat} {S : sp_S} {σ : ax_S} (C : lj_C p s m meth c b L xs x) (hL : L ≤ 320) (hi : i + 5 ≤ L) (hB : bo_At σ S) (nx : lj_nx p l e s m below meth c b x i) : lj_J p l e s m below meth c b x 75 1535 435 [some (.retAddr 3), some (.ref 0), some (.ref 56), some (.int (nI i))] [] σ := by
  have hS := hB.2.2.1
  refine lj_aload_n (pc' := 436) C rfl dL_law_435 rfl ?_
  obtain ⟨fs, X_o⟩ := hB.1.o
  refine lj_callV (pc' := 439) C lv_L_61 (x_mean hB.1 hS ) X_o rfl rfl (by decide) (Nat.le_of_ble_eq_true rfl) (Nat.le_of_ble_eq_true rfl) (Nat.le_of_ble_eq_true rfl) dL_law_436 rfl (fun r1 s1 h1 => ?_)
  obtain ⟨rfl, hx1, hF1⟩ := h1
  have hm1 : ms_At s1.1 S := hB.2.1.on (fun q a b => hF1.2 q (by omega))
  obtain ⟨gs, M_o⟩ := hm1.o
  refine lj_aload_n (pc' := 440) C rfl dL_law_439 rfl ?_
  refine lj_callV (pc' := 443) C lv_L_64 (y_mean hm1 hS ) M_o rfl rfl (by decide) (Nat.le_of_ble_eq_true rfl) (Nat.le_of_ble_eq_true rfl) (Nat.le_of_ble_eq_true rfl) dL_law_440 rfl (fun r2 s2 h2 => ?_)
  obtain ⟨rfl, hm2, hF2⟩ := h2
  refine lj_icmp_eq (pc' := 446) (tgt := 860) C dL_law_443 (by decide) rfl (fun _ => ?_) (fun h => absurd rfl h)
  exact nx _ s2 ⟨hx1.on (fun q hq => hF2.2 q (by omega)), hm2, hS, hF2.1.trans (hF1.1.trans hB.2.2.2)⟩
theorem lj_c_all {i : Nat} {S : sp_S} {σ : ax_S} (C : lj_C p s m meth c b L xs x) (hL : L ≤ 320) (hi : i + 5 ≤ L) (hB : bo_At σ S) (nx : lj_nx p l e s m below meth c b x i) : lj_J p l e s m below meth c b x 75 1535 448 [some (.retAddr 3), some (.ref 0), some (.ref 56), some (.int (nI i))] [] σ := by
  have hS := hB.2.2.1
  refine lj_aload_n (pc' := 449) C rfl dL_law_448 rfl ?_
  refine lj_aloadS (pc' := 450) C rfl dL_law_449 rfl ?_
  refine lj_iload_n (pc' := 451) C rfl dL_law_450 rfl ?_
  refine lj_iconst (pc' := 452) (v := nI 1) C kc_1 dL_law_451 rfl ?_
  refine lj_iadd (pc' := 453) C dL_law_452 rfl ?_
  refine lj_topi (nI_add i 1) ?_
  refine lj_sld (pc' := 454) (j := i + 1) C (by omega) (by omega) dL_law_453 rfl ?_
  obtain ⟨fs, X_o⟩ := hB.1.o
  refine lj_callV (pc' := 457) C lv_L_65 (x_all hB.1 hS (xs (i + 1))) X_o rfl rfl (by decide) (Nat.le_of_ble_eq_true rfl) (Nat.le_of_ble_eq_true rfl) (Nat.le_of_ble_eq_true rfl) dL_law_454 rfl (fun r1 s1 h1 => ?_)
  obtain ⟨rfl, hx1, hF1⟩ := h1
  have hm1 : ms_At s1.1 S := hB.2.1.on (fun q a b => hF1.2 q (by omega))
  obtain ⟨gs, M_o⟩ := hm1.o
  refine lj_aload_n (pc' := 458) C rfl dL_law_457 rfl ?_
  refine lj_aloadS (pc' := 459) C rfl dL_law_458 rfl ?_
  refine lj_iload_n (pc' := 460) C rfl dL_law_459 rfl ?_
  refine lj_iconst (pc' := 461) (v := nI 1) C kc_1 dL_law_460 rfl ?_
  refine lj_iadd (pc' := 462) C dL_law_461 rfl ?_
  refine lj_topi (nI_add i 1) ?_
  refine lj_sld (pc' := 463) (j := i + 1) C (by omega) (by omega) dL_law_462 rfl ?_
  refine lj_callV (pc' := 466) C lv_L_68 (y_all hm1 hS (xs (i + 1))) M_o rfl rfl (by decide) (Nat.le_of_ble_eq_true rfl) (Nat.le_of_ble_eq_true rfl) (Nat.le_of_ble_eq_true rfl) dL_law_463 rfl (fun r2 s2 h2 => ?_)
  obtain ⟨rfl, hm2, hF2⟩ := h2
  refine lj_icmp_eq (pc' := 469) (tgt := 860) C dL_law_466 (by decide) rfl (fun _ => ?_) (fun h => absurd rfl h)
  exact nx _ s2 ⟨hx1.on (fun q hq => hF2.2 q (by omega)), hm2, hS, hF2.1.trans (hF1.1.trans hB.2.2.2)⟩
theorem lj_c_next {i : Nat} {S : sp_S} {σ : ax_S} (C : lj_C p s m meth c b L xs x) (hL : L ≤ 320) (hi : i + 5 ≤ L) (hB : bo_At σ S) (nx : lj_nx p l e s m below meth c b x i) : lj_J p l e s m below meth c b x 75 1535 471 [some (.retAddr 3), some (.ref 0), some (.ref 56), some (.int (nI i))] [] σ := by
  have hS := hB.2.2.1
  refine lj_aload_n (pc' := 472) C rfl dL_law_471 rfl ?_
  refine lj_aloadS (pc' := 473) C rfl dL_law_472 rfl ?_
  refine lj_iload_n (pc' := 474) C rfl dL_law_473 rfl ?_
  refine lj_iconst (pc' := 475) (v := nI 1) C kc_1 dL_law_474 rfl ?_
  refine lj_iadd (pc' := 476) C dL_law_475 rfl ?_
  refine lj_topi (nI_add i 1) ?_
  refine lj_sld (pc' := 477) (j := i + 1) C (by omega) (by omega) dL_law_476 rfl ?_
  refine lj_aloadS (pc' := 478) C rfl dL_law_477 rfl ?_
  refine lj_iload_n (pc' := 479) C rfl dL_law_478 rfl ?_
  refine lj_iconst (pc' := 480) (v := nI 2) C kc_2 dL_law_479 rfl ?_
  refine lj_iadd (pc' := 481) C dL_law_480 rfl ?_
  refine lj_topi (nI_add i 2) ?_
  refine lj_sld (pc' := 482) (j := i + 2) C (by omega) (by omega) dL_law_481 rfl ?_
  obtain ⟨fs, X_o⟩ := hB.1.o
  refine lj_callV (pc' := 485) C lv_L_69 (x_next hB.1 hS (xs (i + 1)) (xs (i + 2))) X_o rfl rfl (by decide) (Nat.le_of_ble_eq_true rfl) (Nat.le_of_ble_eq_true rfl) (Nat.le_of_ble_eq_true rfl) dL_law_482 rfl (fun r1 s1 h1 => ?_)
  obtain ⟨rfl, hx1, hF1⟩ := h1
  have hm1 : ms_At s1.1 S := hB.2.1.on (fun q a b => hF1.2 q (by omega))
  obtain ⟨gs, M_o⟩ := hm1.o
  refine lj_aload_n (pc' := 486) C rfl dL_law_485 rfl ?_
  refine lj_aloadS (pc' := 487) C rfl dL_law_486 rfl ?_
  refine lj_iload_n (pc' := 488) C rfl dL_law_487 rfl ?_
  refine lj_iconst (pc' := 489) (v := nI 1) C kc_1 dL_law_488 rfl ?_
  refine lj_iadd (pc' := 490) C dL_law_489 rfl ?_
  refine lj_topi (nI_add i 1) ?_
  refine lj_sld (pc' := 491) (j := i + 1) C (by omega) (by omega) dL_law_490 rfl ?_
  refine lj_aloadS (pc' := 492) C rfl dL_law_491 rfl ?_
  refine lj_iload_n (pc' := 493) C rfl dL_law_492 rfl ?_
  refine lj_iconst (pc' := 494) (v := nI 2) C kc_2 dL_law_493 rfl ?_
  refine lj_iadd (pc' := 495) C dL_law_494 rfl ?_
  refine lj_topi (nI_add i 2) ?_
  refine lj_sld (pc' := 496) (j := i + 2) C (by omega) (by omega) dL_law_495 rfl ?_
  refine lj_callV (pc' := 499) C lv_L_72 (y_next hm1 hS (xs (i + 1)) (xs (i + 2))) M_o rfl rfl (by decide) (Nat.le_of_ble_eq_true rfl) (Nat.le_of_ble_eq_true rfl) (Nat.le_of_ble_eq_true rfl) dL_law_496 rfl (fun r2 s2 h2 => ?_)
  obtain ⟨rfl, hm2, hF2⟩ := h2
  refine lj_icmp_eq (pc' := 502) (tgt := 860) C dL_law_499 (by decide) rfl (fun _ => ?_) (fun h => absurd rfl h)
  exact nx _ s2 ⟨hx1.on (fun q hq => hF2.2 q (by omega)), hm2, hS, hF2.1.trans (hF1.1.trans hB.2.2.2)⟩
theorem lj_c_fewest {i : Nat} {S : sp_S} {σ : ax_S} (C : lj_C p s m meth c b L xs x) (hL : L ≤ 320) (hi : i + 5 ≤ L) (hB : bo_At σ S) (nx : lj_nx p l e s m below meth c b x i) : lj_J p l e s m below meth c b x 75 1535 504 [some (.retAddr 3), some (.ref 0), some (.ref 56), some (.int (nI i))] [] σ := by
  have hS := hB.2.2.1
  refine lj_aload_n (pc' := 505) C rfl dL_law_504 rfl ?_
  refine lj_aloadS (pc' := 506) C rfl dL_law_505 rfl ?_
  refine lj_iload_n (pc' := 507) C rfl dL_law_506 rfl ?_
  refine lj_iconst (pc' := 508) (v := nI 1) C kc_1 dL_law_507 rfl ?_
  refine lj_iadd (pc' := 509) C dL_law_508 rfl ?_
  refine lj_topi (nI_add i 1) ?_
  refine lj_sld (pc' := 510) (j := i + 1) C (by omega) (by omega) dL_law_509 rfl ?_
  refine lj_aloadS (pc' := 511) C rfl dL_law_510 rfl ?_
  refine lj_iload_n (pc' := 512) C rfl dL_law_511 rfl ?_
  refine lj_iconst (pc' := 513) (v := nI 2) C kc_2 dL_law_512 rfl ?_
  refine lj_iadd (pc' := 514) C dL_law_513 rfl ?_
  refine lj_topi (nI_add i 2) ?_
  refine lj_sld (pc' := 515) (j := i + 2) C (by omega) (by omega) dL_law_514 rfl ?_
  obtain ⟨fs, X_o⟩ := hB.1.o
  refine lj_callV (pc' := 518) C lv_L_73 (x_fewest hB.1 hS (xs (i + 1)) (xs (i + 2))) X_o rfl rfl (by decide) (Nat.le_of_ble_eq_true rfl) (Nat.le_of_ble_eq_true rfl) (Nat.le_of_ble_eq_true rfl) dL_law_515 rfl (fun r1 s1 h1 => ?_)
  obtain ⟨rfl, hx1, hF1⟩ := h1
  have hm1 : ms_At s1.1 S := hB.2.1.on (fun q a b => hF1.2 q (by omega))
  obtain ⟨gs, M_o⟩ := hm1.o
  refine lj_aload_n (pc' := 519) C rfl dL_law_518 rfl ?_
  refine lj_aloadS (pc' := 520) C rfl dL_law_519 rfl ?_
  refine lj_iload_n (pc' := 521) C rfl dL_law_520 rfl ?_
  refine lj_iconst (pc' := 522) (v := nI 1) C kc_1 dL_law_521 rfl ?_
  refine lj_iadd (pc' := 523) C dL_law_522 rfl ?_
  refine lj_topi (nI_add i 1) ?_
  refine lj_sld (pc' := 524) (j := i + 1) C (by omega) (by omega) dL_law_523 rfl ?_
  refine lj_aloadS (pc' := 525) C rfl dL_law_524 rfl ?_
  refine lj_iload_n (pc' := 526) C rfl dL_law_525 rfl ?_
  refine lj_iconst (pc' := 527) (v := nI 2) C kc_2 dL_law_526 rfl ?_
  refine lj_iadd (pc' := 528) C dL_law_527 rfl ?_
  refine lj_topi (nI_add i 2) ?_
  refine lj_sld (pc' := 529) (j := i + 2) C (by omega) (by omega) dL_law_528 rfl ?_
  refine lj_callV (pc' := 532) C lv_L_76 (y_fewest hm1 hS (xs (i + 1)) (xs (i + 2))) M_o rfl rfl (by decide) (Nat.le_of_ble_eq_true rfl) (Nat.le_of_ble_eq_true rfl) (Nat.le_of_ble_eq_true rfl) dL_law_529 rfl (fun r2 s2 h2 => ?_)
  obtain ⟨rfl, hm2, hF2⟩ := h2
  refine lj_icmp_eq (pc' := 535) (tgt := 860) C dL_law_532 (by decide) rfl (fun _ => ?_) (fun h => absurd rfl h)
  exact nx _ s2 ⟨hx1.on (fun q hq => hF2.2 q (by omega)), hm2, hS, hF2.1.trans (hF1.1.trans hB.2.2.2)⟩
theorem lj_c_cancel {i : Nat} {S : sp_S} {σ : ax_S} (C : lj_C p s m meth c b L xs x) (hL : L ≤ 320) (hi : i + 5 ≤ L) (hB : bo_At σ S) (nx : lj_nx p l e s m below meth c b x i) : lj_J p l e s m below meth c b x 75 1535 537 [some (.retAddr 3), some (.ref 0), some (.ref 56), some (.int (nI i))] [] σ := by
  have hS := hB.2.2.1
  refine lj_aload_n (pc' := 538) C rfl dL_law_537 rfl ?_
  refine lj_aloadS (pc' := 539) C rfl dL_law_538 rfl ?_
  refine lj_iload_n (pc' := 540) C rfl dL_law_539 rfl ?_
  refine lj_iconst (pc' := 541) (v := nI 1) C kc_1 dL_law_540 rfl ?_
  refine lj_iadd (pc' := 542) C dL_law_541 rfl ?_
  refine lj_topi (nI_add i 1) ?_
  refine lj_sld (pc' := 543) (j := i + 1) C (by omega) (by omega) dL_law_542 rfl ?_
  refine lj_aloadS (pc' := 544) C rfl dL_law_543 rfl ?_
  refine lj_iload_n (pc' := 545) C rfl dL_law_544 rfl ?_
  refine lj_iconst (pc' := 546) (v := nI 2) C kc_2 dL_law_545 rfl ?_
  refine lj_iadd (pc' := 547) C dL_law_546 rfl ?_
  refine lj_topi (nI_add i 2) ?_
  refine lj_sld (pc' := 548) (j := i + 2) C (by omega) (by omega) dL_law_547 rfl ?_
  obtain ⟨fs, X_o⟩ := hB.1.o
  refine lj_callV (pc' := 551) C lv_L_77 (x_cancel hB.1 hS (xs (i + 1)) (xs (i + 2))) X_o rfl rfl (by decide) (Nat.le_of_ble_eq_true rfl) (Nat.le_of_ble_eq_true rfl) (Nat.le_of_ble_eq_true rfl) dL_law_548 rfl (fun r1 s1 h1 => ?_)
  obtain ⟨rfl, hx1, hF1⟩ := h1
  have hm1 : ms_At s1.1 S := hB.2.1.on (fun q a b => hF1.2 q (by omega))
  obtain ⟨gs, M_o⟩ := hm1.o
  refine lj_aload_n (pc' := 552) C rfl dL_law_551 rfl ?_
  refine lj_aloadS (pc' := 553) C rfl dL_law_552 rfl ?_
  refine lj_iload_n (pc' := 554) C rfl dL_law_553 rfl ?_
  refine lj_iconst (pc' := 555) (v := nI 1) C kc_1 dL_law_554 rfl ?_
  refine lj_iadd (pc' := 556) C dL_law_555 rfl ?_
  refine lj_topi (nI_add i 1) ?_
  refine lj_sld (pc' := 557) (j := i + 1) C (by omega) (by omega) dL_law_556 rfl ?_
  refine lj_aloadS (pc' := 558) C rfl dL_law_557 rfl ?_
  refine lj_iload_n (pc' := 559) C rfl dL_law_558 rfl ?_
  refine lj_iconst (pc' := 560) (v := nI 2) C kc_2 dL_law_559 rfl ?_
  refine lj_iadd (pc' := 561) C dL_law_560 rfl ?_
  refine lj_topi (nI_add i 2) ?_
  refine lj_sld (pc' := 562) (j := i + 2) C (by omega) (by omega) dL_law_561 rfl ?_
  refine lj_callV (pc' := 565) C lv_L_80 (y_cancel hm1 hS (xs (i + 1)) (xs (i + 2))) M_o rfl rfl (by decide) (Nat.le_of_ble_eq_true rfl) (Nat.le_of_ble_eq_true rfl) (Nat.le_of_ble_eq_true rfl) dL_law_562 rfl (fun r2 s2 h2 => ?_)
  obtain ⟨rfl, hm2, hF2⟩ := h2
  refine lj_icmp_eq (pc' := 568) (tgt := 860) C dL_law_565 (by decide) rfl (fun _ => ?_) (fun h => absurd rfl h)
  exact nx _ s2 ⟨hx1.on (fun q hq => hF2.2 q (by omega)), hm2, hS, hF2.1.trans (hF1.1.trans hB.2.2.2)⟩
theorem lj_c_sail {i : Nat} {S : sp_S} {σ : ax_S} (C : lj_C p s m meth c b L xs x) (hL : L ≤ 320) (hi : i + 5 ≤ L) (hB : bo_At σ S) (nx : lj_nx p l e s m below meth c b x i) : lj_J p l e s m below meth c b x 75 1535 570 [some (.retAddr 3), some (.ref 0), some (.ref 56), some (.int (nI i))] [] σ := by
  have hS := hB.2.2.1
  refine lj_aload_n (pc' := 571) C rfl dL_law_570 rfl ?_
  refine lj_aloadS (pc' := 572) C rfl dL_law_571 rfl ?_
  refine lj_iload_n (pc' := 573) C rfl dL_law_572 rfl ?_
  refine lj_iconst (pc' := 574) (v := nI 1) C kc_1 dL_law_573 rfl ?_
  refine lj_iadd (pc' := 575) C dL_law_574 rfl ?_
  refine lj_topi (nI_add i 1) ?_
  refine lj_sld (pc' := 576) (j := i + 1) C (by omega) (by omega) dL_law_575 rfl ?_
  refine lj_aloadS (pc' := 577) C rfl dL_law_576 rfl ?_
  refine lj_iload_n (pc' := 578) C rfl dL_law_577 rfl ?_
  refine lj_iconst (pc' := 579) (v := nI 2) C kc_2 dL_law_578 rfl ?_
  refine lj_iadd (pc' := 580) C dL_law_579 rfl ?_
  refine lj_topi (nI_add i 2) ?_
  refine lj_sld (pc' := 581) (j := i + 2) C (by omega) (by omega) dL_law_580 rfl ?_
  obtain ⟨fs, X_o⟩ := hB.1.o
  refine lj_callV (pc' := 584) C lv_L_81 (x_sail hB.1 hS (xs (i + 1)) (xs (i + 2))) X_o rfl rfl (by decide) (Nat.le_of_ble_eq_true rfl) (Nat.le_of_ble_eq_true rfl) (Nat.le_of_ble_eq_true rfl) dL_law_581 rfl (fun r1 s1 h1 => ?_)
  obtain ⟨rfl, hx1, hF1⟩ := h1
  have hm1 : ms_At s1.1 S := hB.2.1.on (fun q a b => hF1.2 q (by omega))
  obtain ⟨gs, M_o⟩ := hm1.o
  refine lj_aload_n (pc' := 585) C rfl dL_law_584 rfl ?_
  refine lj_aloadS (pc' := 586) C rfl dL_law_585 rfl ?_
  refine lj_iload_n (pc' := 587) C rfl dL_law_586 rfl ?_
  refine lj_iconst (pc' := 588) (v := nI 1) C kc_1 dL_law_587 rfl ?_
  refine lj_iadd (pc' := 589) C dL_law_588 rfl ?_
  refine lj_topi (nI_add i 1) ?_
  refine lj_sld (pc' := 590) (j := i + 1) C (by omega) (by omega) dL_law_589 rfl ?_
  refine lj_aloadS (pc' := 591) C rfl dL_law_590 rfl ?_
  refine lj_iload_n (pc' := 592) C rfl dL_law_591 rfl ?_
  refine lj_iconst (pc' := 593) (v := nI 2) C kc_2 dL_law_592 rfl ?_
  refine lj_iadd (pc' := 594) C dL_law_593 rfl ?_
  refine lj_topi (nI_add i 2) ?_
  refine lj_sld (pc' := 595) (j := i + 2) C (by omega) (by omega) dL_law_594 rfl ?_
  refine lj_callV (pc' := 598) C lv_L_84 (y_sail hm1 hS (xs (i + 1)) (xs (i + 2))) M_o rfl rfl (by decide) (Nat.le_of_ble_eq_true rfl) (Nat.le_of_ble_eq_true rfl) (Nat.le_of_ble_eq_true rfl) dL_law_595 rfl (fun r2 s2 h2 => ?_)
  obtain ⟨rfl, hm2, hF2⟩ := h2
  refine lj_icmp_eq (pc' := 601) (tgt := 860) C dL_law_598 (by decide) rfl (fun _ => ?_) (fun h => absurd rfl h)
  exact nx _ s2 ⟨hx1.on (fun q hq => hF2.2 q (by omega)), hm2, hS, hF2.1.trans (hF1.1.trans hB.2.2.2)⟩
theorem lj_c_see {i : Nat} {S : sp_S} {σ : ax_S} (C : lj_C p s m meth c b L xs x) (hL : L ≤ 320) (hi : i + 5 ≤ L) (hB : bo_At σ S) (nx : lj_nx p l e s m below meth c b x i) : lj_J p l e s m below meth c b x 75 1535 603 [some (.retAddr 3), some (.ref 0), some (.ref 56), some (.int (nI i))] [] σ := by
  have hS := hB.2.2.1
  refine lj_aload_n (pc' := 604) C rfl dL_law_603 rfl ?_
  refine lj_aloadS (pc' := 605) C rfl dL_law_604 rfl ?_
  refine lj_iload_n (pc' := 606) C rfl dL_law_605 rfl ?_
  refine lj_iconst (pc' := 607) (v := nI 1) C kc_1 dL_law_606 rfl ?_
  refine lj_iadd (pc' := 608) C dL_law_607 rfl ?_
  refine lj_topi (nI_add i 1) ?_
  refine lj_sld (pc' := 609) (j := i + 1) C (by omega) (by omega) dL_law_608 rfl ?_
  refine lj_aloadS (pc' := 610) C rfl dL_law_609 rfl ?_
  refine lj_iload_n (pc' := 611) C rfl dL_law_610 rfl ?_
  refine lj_iconst (pc' := 612) (v := nI 2) C kc_2 dL_law_611 rfl ?_
  refine lj_iadd (pc' := 613) C dL_law_612 rfl ?_
  refine lj_topi (nI_add i 2) ?_
  refine lj_sld (pc' := 614) (j := i + 2) C (by omega) (by omega) dL_law_613 rfl ?_
  refine lj_aloadS (pc' := 615) C rfl dL_law_614 rfl ?_
  refine lj_iload_n (pc' := 616) C rfl dL_law_615 rfl ?_
  refine lj_iconst (pc' := 617) (v := nI 3) C kc_3 dL_law_616 rfl ?_
  refine lj_iadd (pc' := 618) C dL_law_617 rfl ?_
  refine lj_topi (nI_add i 3) ?_
  refine lj_sld (pc' := 619) (j := i + 3) C (by omega) (by omega) dL_law_618 rfl ?_
  refine lj_aloadS (pc' := 620) C rfl dL_law_619 rfl ?_
  refine lj_iload_n (pc' := 621) C rfl dL_law_620 rfl ?_
  refine lj_iconst (pc' := 622) (v := nI 4) C kc_4 dL_law_621 rfl ?_
  refine lj_iadd (pc' := 623) C dL_law_622 rfl ?_
  refine lj_topi (nI_add i 4) ?_
  refine lj_sld (pc' := 624) (j := i + 4) C (by omega) (by omega) dL_law_623 rfl ?_
  obtain ⟨fs, X_o⟩ := hB.1.o
  refine lj_callV (pc' := 627) C lv_L_85 (x_see hB.1 hS (xs (i + 1)) (xs (i + 2)) (xs (i + 3)) (xs (i + 4))) X_o rfl rfl (by decide) (Nat.le_of_ble_eq_true rfl) (Nat.le_of_ble_eq_true rfl) (Nat.le_of_ble_eq_true rfl) dL_law_624 rfl (fun r1 s1 h1 => ?_)
  obtain ⟨rfl, hx1, hF1⟩ := h1
  have hm1 : ms_At s1.1 S := hB.2.1.on (fun q a b => hF1.2 q (by omega))
  obtain ⟨gs, M_o⟩ := hm1.o
  refine lj_aload_n (pc' := 628) C rfl dL_law_627 rfl ?_
  refine lj_aloadS (pc' := 629) C rfl dL_law_628 rfl ?_
  refine lj_iload_n (pc' := 630) C rfl dL_law_629 rfl ?_
  refine lj_iconst (pc' := 631) (v := nI 1) C kc_1 dL_law_630 rfl ?_
  refine lj_iadd (pc' := 632) C dL_law_631 rfl ?_
  refine lj_topi (nI_add i 1) ?_
  refine lj_sld (pc' := 633) (j := i + 1) C (by omega) (by omega) dL_law_632 rfl ?_
  refine lj_aloadS (pc' := 634) C rfl dL_law_633 rfl ?_
  refine lj_iload_n (pc' := 635) C rfl dL_law_634 rfl ?_
  refine lj_iconst (pc' := 636) (v := nI 2) C kc_2 dL_law_635 rfl ?_
  refine lj_iadd (pc' := 637) C dL_law_636 rfl ?_
  refine lj_topi (nI_add i 2) ?_
  refine lj_sld (pc' := 638) (j := i + 2) C (by omega) (by omega) dL_law_637 rfl ?_
  refine lj_aloadS (pc' := 639) C rfl dL_law_638 rfl ?_
  refine lj_iload_n (pc' := 640) C rfl dL_law_639 rfl ?_
  refine lj_iconst (pc' := 641) (v := nI 3) C kc_3 dL_law_640 rfl ?_
  refine lj_iadd (pc' := 642) C dL_law_641 rfl ?_
  refine lj_topi (nI_add i 3) ?_
  refine lj_sld (pc' := 643) (j := i + 3) C (by omega) (by omega) dL_law_642 rfl ?_
  refine lj_aloadS (pc' := 644) C rfl dL_law_643 rfl ?_
  refine lj_iload_n (pc' := 645) C rfl dL_law_644 rfl ?_
  refine lj_iconst (pc' := 646) (v := nI 4) C kc_4 dL_law_645 rfl ?_
  refine lj_iadd (pc' := 647) C dL_law_646 rfl ?_
  refine lj_topi (nI_add i 4) ?_
  refine lj_sld (pc' := 648) (j := i + 4) C (by omega) (by omega) dL_law_647 rfl ?_
  refine lj_callV (pc' := 651) C lv_L_89 (y_see hm1 hS (xs (i + 1)) (xs (i + 2)) (xs (i + 3)) (xs (i + 4))) M_o rfl rfl (by decide) (Nat.le_of_ble_eq_true rfl) (Nat.le_of_ble_eq_true rfl) (Nat.le_of_ble_eq_true rfl) dL_law_648 rfl (fun r2 s2 h2 => ?_)
  obtain ⟨rfl, hm2, hF2⟩ := h2
  refine lj_icmp_eq (pc' := 654) (tgt := 860) C dL_law_651 (by decide) rfl (fun _ => ?_) (fun h => absurd rfl h)
  exact nx _ s2 ⟨hx1.on (fun q hq => hF2.2 q (by omega)), hm2, ok_see hS _ _ _ _, hF2.1.trans (hF1.1.trans hB.2.2.2)⟩
theorem lj_c_forget {i : Nat} {S : sp_S} {σ : ax_S} (C : lj_C p s m meth c b L xs x) (hL : L ≤ 320) (hi : i + 5 ≤ L) (hB : bo_At σ S) (nx : lj_nx p l e s m below meth c b x i) : lj_J p l e s m below meth c b x 75 1535 656 [some (.retAddr 3), some (.ref 0), some (.ref 56), some (.int (nI i))] [] σ := by
  have hS := hB.2.2.1
  refine lj_aload_n (pc' := 657) C rfl dL_law_656 rfl ?_
  obtain ⟨fs, X_o⟩ := hB.1.o
  refine lj_callV (pc' := 660) C lv_L_90 (x_forget hB.1 hS ) X_o rfl rfl (by decide) (Nat.le_of_ble_eq_true rfl) (Nat.le_of_ble_eq_true rfl) (Nat.le_of_ble_eq_true rfl) dL_law_657 rfl (fun r1 s1 h1 => ?_)
  obtain ⟨rfl, hx1, hF1⟩ := h1
  have hm1 : ms_At s1.1 S := hB.2.1.on (fun q a b => hF1.2 q (by omega))
  obtain ⟨gs, M_o⟩ := hm1.o
  refine lj_aload_n (pc' := 661) C rfl dL_law_660 rfl ?_
  refine lj_callV (pc' := 664) C lv_L_93 (y_forget hm1 hS ) M_o rfl rfl (by decide) (Nat.le_of_ble_eq_true rfl) (Nat.le_of_ble_eq_true rfl) (Nat.le_of_ble_eq_true rfl) dL_law_661 rfl (fun r2 s2 h2 => ?_)
  obtain ⟨rfl, hm2, hF2⟩ := h2
  refine lj_icmp_eq (pc' := 667) (tgt := 860) C dL_law_664 (by decide) rfl (fun _ => ?_) (fun h => absurd rfl h)
  exact nx _ s2 ⟨hx1.on (fun q hq => hF2.2 q (by omega)), hm2, ok_forget hS, hF2.1.trans (hF1.1.trans hB.2.2.2)⟩
theorem lj_c_fits {i : Nat} {S : sp_S} {σ : ax_S} (C : lj_C p s m meth c b L xs x) (hL : L ≤ 320) (hi : i + 5 ≤ L) (hB : bo_At σ S) (nx : lj_nx p l e s m below meth c b x i) : lj_J p l e s m below meth c b x 75 1535 669 [some (.retAddr 3), some (.ref 0), some (.ref 56), some (.int (nI i))] [] σ := by
  have hS := hB.2.2.1
  refine lj_aload_n (pc' := 670) C rfl dL_law_669 rfl ?_
  refine lj_aloadS (pc' := 671) C rfl dL_law_670 rfl ?_
  refine lj_iload_n (pc' := 672) C rfl dL_law_671 rfl ?_
  refine lj_iconst (pc' := 673) (v := nI 1) C kc_1 dL_law_672 rfl ?_
  refine lj_iadd (pc' := 674) C dL_law_673 rfl ?_
  refine lj_topi (nI_add i 1) ?_
  refine lj_sld (pc' := 675) (j := i + 1) C (by omega) (by omega) dL_law_674 rfl ?_
  refine lj_aloadS (pc' := 676) C rfl dL_law_675 rfl ?_
  refine lj_iload_n (pc' := 677) C rfl dL_law_676 rfl ?_
  refine lj_iconst (pc' := 678) (v := nI 2) C kc_2 dL_law_677 rfl ?_
  refine lj_iadd (pc' := 679) C dL_law_678 rfl ?_
  refine lj_topi (nI_add i 2) ?_
  refine lj_sld (pc' := 680) (j := i + 2) C (by omega) (by omega) dL_law_679 rfl ?_
  obtain ⟨fs, X_o⟩ := hB.1.o
  refine lj_callV (pc' := 683) C lv_L_94 (x_fits hB.1 hS (xs (i + 1)) (xs (i + 2))) X_o rfl rfl (by decide) (Nat.le_of_ble_eq_true rfl) (Nat.le_of_ble_eq_true rfl) (Nat.le_of_ble_eq_true rfl) dL_law_680 rfl (fun r1 s1 h1 => ?_)
  obtain ⟨rfl, hx1, hF1⟩ := h1
  have hm1 : ms_At s1.1 S := hB.2.1.on (fun q a b => hF1.2 q (by omega))
  obtain ⟨gs, M_o⟩ := hm1.o
  refine lj_aload_n (pc' := 684) C rfl dL_law_683 rfl ?_
  refine lj_aloadS (pc' := 685) C rfl dL_law_684 rfl ?_
  refine lj_iload_n (pc' := 686) C rfl dL_law_685 rfl ?_
  refine lj_iconst (pc' := 687) (v := nI 1) C kc_1 dL_law_686 rfl ?_
  refine lj_iadd (pc' := 688) C dL_law_687 rfl ?_
  refine lj_topi (nI_add i 1) ?_
  refine lj_sld (pc' := 689) (j := i + 1) C (by omega) (by omega) dL_law_688 rfl ?_
  refine lj_aloadS (pc' := 690) C rfl dL_law_689 rfl ?_
  refine lj_iload_n (pc' := 691) C rfl dL_law_690 rfl ?_
  refine lj_iconst (pc' := 692) (v := nI 2) C kc_2 dL_law_691 rfl ?_
  refine lj_iadd (pc' := 693) C dL_law_692 rfl ?_
  refine lj_topi (nI_add i 2) ?_
  refine lj_sld (pc' := 694) (j := i + 2) C (by omega) (by omega) dL_law_693 rfl ?_
  refine lj_callV (pc' := 697) C lv_L_97 (y_fits hm1 hS (xs (i + 1)) (xs (i + 2))) M_o rfl rfl (by decide) (Nat.le_of_ble_eq_true rfl) (Nat.le_of_ble_eq_true rfl) (Nat.le_of_ble_eq_true rfl) dL_law_694 rfl (fun r2 s2 h2 => ?_)
  obtain ⟨rfl, hm2, hF2⟩ := h2
  refine lj_icmp_eq (pc' := 700) (tgt := 860) C dL_law_697 (by decide) rfl (fun _ => ?_) (fun h => absurd rfl h)
  exact nx _ s2 ⟨hx1.on (fun q hq => hF2.2 q (by omega)), hm2, hS, hF2.1.trans (hF1.1.trans hB.2.2.2)⟩
theorem lj_c_towns {i : Nat} {S : sp_S} {σ : ax_S} (C : lj_C p s m meth c b L xs x) (hL : L ≤ 320) (hi : i + 5 ≤ L) (hB : bo_At σ S) (nx : lj_nx p l e s m below meth c b x i) : lj_J p l e s m below meth c b x 75 1535 702 [some (.retAddr 3), some (.ref 0), some (.ref 56), some (.int (nI i))] [] σ := by
  have hS := hB.2.2.1
  refine lj_aload_n (pc' := 703) C rfl dL_law_702 rfl ?_
  refine lj_aloadS (pc' := 704) C rfl dL_law_703 rfl ?_
  refine lj_iload_n (pc' := 705) C rfl dL_law_704 rfl ?_
  refine lj_iconst (pc' := 706) (v := nI 1) C kc_1 dL_law_705 rfl ?_
  refine lj_iadd (pc' := 707) C dL_law_706 rfl ?_
  refine lj_topi (nI_add i 1) ?_
  refine lj_sld (pc' := 708) (j := i + 1) C (by omega) (by omega) dL_law_707 rfl ?_
  obtain ⟨fs, X_o⟩ := hB.1.o
  refine lj_callV (pc' := 711) C lv_L_98 (x_towns hB.1 hS (xs (i + 1))) X_o rfl rfl (by decide) (Nat.le_of_ble_eq_true rfl) (Nat.le_of_ble_eq_true rfl) (Nat.le_of_ble_eq_true rfl) dL_law_708 rfl (fun r1 s1 h1 => ?_)
  obtain ⟨rfl, hx1, hF1⟩ := h1
  have hm1 : ms_At s1.1 S := hB.2.1.on (fun q a b => hF1.2 q (by omega))
  obtain ⟨gs, M_o⟩ := hm1.o
  refine lj_aload_n (pc' := 712) C rfl dL_law_711 rfl ?_
  refine lj_aloadS (pc' := 713) C rfl dL_law_712 rfl ?_
  refine lj_iload_n (pc' := 714) C rfl dL_law_713 rfl ?_
  refine lj_iconst (pc' := 715) (v := nI 1) C kc_1 dL_law_714 rfl ?_
  refine lj_iadd (pc' := 716) C dL_law_715 rfl ?_
  refine lj_topi (nI_add i 1) ?_
  refine lj_sld (pc' := 717) (j := i + 1) C (by omega) (by omega) dL_law_716 rfl ?_
  refine lj_callV (pc' := 720) C lv_L_101 (y_towns hm1 hS (xs (i + 1))) M_o rfl rfl (by decide) (Nat.le_of_ble_eq_true rfl) (Nat.le_of_ble_eq_true rfl) (Nat.le_of_ble_eq_true rfl) dL_law_717 rfl (fun r2 s2 h2 => ?_)
  obtain ⟨rfl, hm2, hF2⟩ := h2
  refine lj_icmp_eq (pc' := 723) (tgt := 860) C dL_law_720 (by decide) rfl (fun _ => ?_) (fun h => absurd rfl h)
  exact nx _ s2 ⟨hx1.on (fun q hq => hF2.2 q (by omega)), hm2, hS, hF2.1.trans (hF1.1.trans hB.2.2.2)⟩
theorem lj_c_miscount {i : Nat} {S : sp_S} {σ : ax_S} (C : lj_C p s m meth c b L xs x) (hL : L ≤ 320) (hi : i + 5 ≤ L) (hB : bo_At σ S) (nx : lj_nx p l e s m below meth c b x i) : lj_J p l e s m below meth c b x 75 1535 725 [some (.retAddr 3), some (.ref 0), some (.ref 56), some (.int (nI i))] [] σ := by
  have hS := hB.2.2.1
  refine lj_aload_n (pc' := 726) C rfl dL_law_725 rfl ?_
  refine lj_aloadS (pc' := 727) C rfl dL_law_726 rfl ?_
  refine lj_iload_n (pc' := 728) C rfl dL_law_727 rfl ?_
  refine lj_iconst (pc' := 729) (v := nI 1) C kc_1 dL_law_728 rfl ?_
  refine lj_iadd (pc' := 730) C dL_law_729 rfl ?_
  refine lj_topi (nI_add i 1) ?_
  refine lj_sld (pc' := 731) (j := i + 1) C (by omega) (by omega) dL_law_730 rfl ?_
  refine lj_aloadS (pc' := 732) C rfl dL_law_731 rfl ?_
  refine lj_iload_n (pc' := 733) C rfl dL_law_732 rfl ?_
  refine lj_iconst (pc' := 734) (v := nI 2) C kc_2 dL_law_733 rfl ?_
  refine lj_iadd (pc' := 735) C dL_law_734 rfl ?_
  refine lj_topi (nI_add i 2) ?_
  refine lj_sld (pc' := 736) (j := i + 2) C (by omega) (by omega) dL_law_735 rfl ?_
  refine lj_aloadS (pc' := 737) C rfl dL_law_736 rfl ?_
  refine lj_iload_n (pc' := 738) C rfl dL_law_737 rfl ?_
  refine lj_iconst (pc' := 739) (v := nI 3) C kc_3 dL_law_738 rfl ?_
  refine lj_iadd (pc' := 740) C dL_law_739 rfl ?_
  refine lj_topi (nI_add i 3) ?_
  refine lj_sld (pc' := 741) (j := i + 3) C (by omega) (by omega) dL_law_740 rfl ?_
  obtain ⟨fs, X_o⟩ := hB.1.o
  refine lj_callV (pc' := 744) C lv_L_102 (x_miscount hB.1 hS (xs (i + 1)) (xs (i + 2)) (xs (i + 3))) X_o rfl rfl (by decide) (Nat.le_of_ble_eq_true rfl) (Nat.le_of_ble_eq_true rfl) (Nat.le_of_ble_eq_true rfl) dL_law_741 rfl (fun r1 s1 h1 => ?_)
  obtain ⟨rfl, hx1, hF1⟩ := h1
  have hm1 : ms_At s1.1 S := hB.2.1.on (fun q a b => hF1.2 q (by omega))
  obtain ⟨gs, M_o⟩ := hm1.o
  refine lj_aload_n (pc' := 745) C rfl dL_law_744 rfl ?_
  refine lj_aloadS (pc' := 746) C rfl dL_law_745 rfl ?_
  refine lj_iload_n (pc' := 747) C rfl dL_law_746 rfl ?_
  refine lj_iconst (pc' := 748) (v := nI 1) C kc_1 dL_law_747 rfl ?_
  refine lj_iadd (pc' := 749) C dL_law_748 rfl ?_
  refine lj_topi (nI_add i 1) ?_
  refine lj_sld (pc' := 750) (j := i + 1) C (by omega) (by omega) dL_law_749 rfl ?_
  refine lj_aloadS (pc' := 751) C rfl dL_law_750 rfl ?_
  refine lj_iload_n (pc' := 752) C rfl dL_law_751 rfl ?_
  refine lj_iconst (pc' := 753) (v := nI 2) C kc_2 dL_law_752 rfl ?_
  refine lj_iadd (pc' := 754) C dL_law_753 rfl ?_
  refine lj_topi (nI_add i 2) ?_
  refine lj_sld (pc' := 755) (j := i + 2) C (by omega) (by omega) dL_law_754 rfl ?_
  refine lj_aloadS (pc' := 756) C rfl dL_law_755 rfl ?_
  refine lj_iload_n (pc' := 757) C rfl dL_law_756 rfl ?_
  refine lj_iconst (pc' := 758) (v := nI 3) C kc_3 dL_law_757 rfl ?_
  refine lj_iadd (pc' := 759) C dL_law_758 rfl ?_
  refine lj_topi (nI_add i 3) ?_
  refine lj_sld (pc' := 760) (j := i + 3) C (by omega) (by omega) dL_law_759 rfl ?_
  refine lj_callV (pc' := 763) C lv_L_105 (y_miscount hm1 hS (xs (i + 1)) (xs (i + 2)) (xs (i + 3))) M_o rfl rfl (by decide) (Nat.le_of_ble_eq_true rfl) (Nat.le_of_ble_eq_true rfl) (Nat.le_of_ble_eq_true rfl) dL_law_760 rfl (fun r2 s2 h2 => ?_)
  obtain ⟨rfl, hm2, hF2⟩ := h2
  refine lj_icmp_eq (pc' := 766) (tgt := 860) C dL_law_763 (by decide) rfl (fun _ => ?_) (fun h => absurd rfl h)
  exact nx _ s2 ⟨hx1.on (fun q hq => hF2.2 q (by omega)), hm2, hS, hF2.1.trans (hF1.1.trans hB.2.2.2)⟩
theorem lj_c_year {i : Nat} {S : sp_S} {σ : ax_S} (C : lj_C p s m meth c b L xs x) (hL : L ≤ 320) (hi : i + 5 ≤ L) (hB : bo_At σ S) (nx : lj_nx p l e s m below meth c b x i) : lj_J p l e s m below meth c b x 75 1535 768 [some (.retAddr 3), some (.ref 0), some (.ref 56), some (.int (nI i))] [] σ := by
  have hS := hB.2.2.1
  refine lj_aload_n (pc' := 769) C rfl dL_law_768 rfl ?_
  refine lj_aloadS (pc' := 770) C rfl dL_law_769 rfl ?_
  refine lj_iload_n (pc' := 771) C rfl dL_law_770 rfl ?_
  refine lj_iconst (pc' := 772) (v := nI 1) C kc_1 dL_law_771 rfl ?_
  refine lj_iadd (pc' := 773) C dL_law_772 rfl ?_
  refine lj_topi (nI_add i 1) ?_
  refine lj_sld (pc' := 774) (j := i + 1) C (by omega) (by omega) dL_law_773 rfl ?_
  refine lj_aloadS (pc' := 775) C rfl dL_law_774 rfl ?_
  refine lj_iload_n (pc' := 776) C rfl dL_law_775 rfl ?_
  refine lj_iconst (pc' := 777) (v := nI 2) C kc_2 dL_law_776 rfl ?_
  refine lj_iadd (pc' := 778) C dL_law_777 rfl ?_
  refine lj_topi (nI_add i 2) ?_
  refine lj_sld (pc' := 779) (j := i + 2) C (by omega) (by omega) dL_law_778 rfl ?_
  refine lj_aloadS (pc' := 780) C rfl dL_law_779 rfl ?_
  refine lj_iload_n (pc' := 781) C rfl dL_law_780 rfl ?_
  refine lj_iconst (pc' := 782) (v := nI 3) C kc_3 dL_law_781 rfl ?_
  refine lj_iadd (pc' := 783) C dL_law_782 rfl ?_
  refine lj_topi (nI_add i 3) ?_
  refine lj_sld (pc' := 784) (j := i + 3) C (by omega) (by omega) dL_law_783 rfl ?_
  obtain ⟨fs, X_o⟩ := hB.1.o
  refine lj_callV (pc' := 787) C lv_L_106 (x_year hB.1 hS (xs (i + 1)) (xs (i + 2)) (xs (i + 3))) X_o rfl rfl (by decide) (Nat.le_of_ble_eq_true rfl) (Nat.le_of_ble_eq_true rfl) (Nat.le_of_ble_eq_true rfl) dL_law_784 rfl (fun r1 s1 h1 => ?_)
  obtain ⟨rfl, hx1, hF1⟩ := h1
  have hm1 : ms_At s1.1 S := hB.2.1.on (fun q a b => hF1.2 q (by omega))
  obtain ⟨gs, M_o⟩ := hm1.o
  refine lj_aload_n (pc' := 788) C rfl dL_law_787 rfl ?_
  refine lj_aloadS (pc' := 789) C rfl dL_law_788 rfl ?_
  refine lj_iload_n (pc' := 790) C rfl dL_law_789 rfl ?_
  refine lj_iconst (pc' := 791) (v := nI 1) C kc_1 dL_law_790 rfl ?_
  refine lj_iadd (pc' := 792) C dL_law_791 rfl ?_
  refine lj_topi (nI_add i 1) ?_
  refine lj_sld (pc' := 793) (j := i + 1) C (by omega) (by omega) dL_law_792 rfl ?_
  refine lj_aloadS (pc' := 794) C rfl dL_law_793 rfl ?_
  refine lj_iload_n (pc' := 795) C rfl dL_law_794 rfl ?_
  refine lj_iconst (pc' := 796) (v := nI 2) C kc_2 dL_law_795 rfl ?_
  refine lj_iadd (pc' := 797) C dL_law_796 rfl ?_
  refine lj_topi (nI_add i 2) ?_
  refine lj_sld (pc' := 798) (j := i + 2) C (by omega) (by omega) dL_law_797 rfl ?_
  refine lj_aloadS (pc' := 799) C rfl dL_law_798 rfl ?_
  refine lj_iload_n (pc' := 800) C rfl dL_law_799 rfl ?_
  refine lj_iconst (pc' := 801) (v := nI 3) C kc_3 dL_law_800 rfl ?_
  refine lj_iadd (pc' := 802) C dL_law_801 rfl ?_
  refine lj_topi (nI_add i 3) ?_
  refine lj_sld (pc' := 803) (j := i + 3) C (by omega) (by omega) dL_law_802 rfl ?_
  refine lj_callV (pc' := 806) C lv_L_109 (y_year hm1 hS (xs (i + 1)) (xs (i + 2)) (xs (i + 3))) M_o rfl rfl (by decide) (Nat.le_of_ble_eq_true rfl) (Nat.le_of_ble_eq_true rfl) (Nat.le_of_ble_eq_true rfl) dL_law_803 rfl (fun r2 s2 h2 => ?_)
  obtain ⟨rfl, hm2, hF2⟩ := h2
  refine lj_icmp_eq (pc' := 809) (tgt := 860) C dL_law_806 (by decide) rfl (fun _ => ?_) (fun h => absurd rfl h)
  exact nx _ s2 ⟨hx1.on (fun q hq => hF2.2 q (by omega)), hm2, hS, hF2.1.trans (hF1.1.trans hB.2.2.2)⟩
theorem lj_c_keep {i : Nat} {S : sp_S} {σ : ax_S} (C : lj_C p s m meth c b L xs x) (hL : L ≤ 320) (hi : i + 5 ≤ L) (hB : bo_At σ S) (nx : lj_nx p l e s m below meth c b x i) : lj_J p l e s m below meth c b x 75 1535 811 [some (.retAddr 3), some (.ref 0), some (.ref 56), some (.int (nI i))] [] σ := by
  have hS := hB.2.2.1
  refine lj_aload_n (pc' := 812) C rfl dL_law_811 rfl ?_
  obtain ⟨fs, X_o⟩ := hB.1.o
  refine lj_callV (pc' := 815) C lv_L_110 (x_keep hB.1 hS ) X_o rfl rfl (by decide) (Nat.le_of_ble_eq_true rfl) (Nat.le_of_ble_eq_true rfl) (Nat.le_of_ble_eq_true rfl) dL_law_812 rfl (fun r1 s1 h1 => ?_)
  obtain ⟨rfl, hx1, hF1⟩ := h1
  have hm1 : ms_At s1.1 S := hB.2.1.on (fun q a b => hF1.2 q (by omega))
  obtain ⟨gs, M_o⟩ := hm1.o
  refine lj_aload_n (pc' := 816) C rfl dL_law_815 rfl ?_
  refine lj_callV (pc' := 819) C lv_L_113 (y_keep hm1 hS ) M_o rfl rfl (by decide) (Nat.le_of_ble_eq_true rfl) (Nat.le_of_ble_eq_true rfl) (Nat.le_of_ble_eq_true rfl) dL_law_816 rfl (fun r2 s2 h2 => ?_)
  obtain ⟨rfl, hm2, hF2⟩ := h2
  refine lj_icmp_eq (pc' := 822) (tgt := 860) C dL_law_819 (by decide) rfl (fun _ => ?_) (fun h => absurd rfl h)
  exact nx _ s2 ⟨hx1.on (fun q hq => hF2.2 q (by omega)), hm2, ok_keep hS, hF2.1.trans (hF1.1.trans hB.2.2.2)⟩
theorem lj_c_back {i : Nat} {S : sp_S} {σ : ax_S} (C : lj_C p s m meth c b L xs x) (hL : L ≤ 320) (hi : i + 5 ≤ L) (hB : bo_At σ S) (nx : lj_nx p l e s m below meth c b x i) : lj_J p l e s m below meth c b x 75 1535 824 [some (.retAddr 3), some (.ref 0), some (.ref 56), some (.int (nI i))] [] σ := by
  have hS := hB.2.2.1
  refine lj_aload_n (pc' := 825) C rfl dL_law_824 rfl ?_
  obtain ⟨fs, X_o⟩ := hB.1.o
  refine lj_callV (pc' := 828) C lv_L_114 (x_back hB.1 hS ) X_o rfl rfl (by decide) (Nat.le_of_ble_eq_true rfl) (Nat.le_of_ble_eq_true rfl) (Nat.le_of_ble_eq_true rfl) dL_law_825 rfl (fun r1 s1 h1 => ?_)
  obtain ⟨rfl, hx1, hF1⟩ := h1
  have hm1 : ms_At s1.1 S := hB.2.1.on (fun q a b => hF1.2 q (by omega))
  obtain ⟨gs, M_o⟩ := hm1.o
  refine lj_aload_n (pc' := 829) C rfl dL_law_828 rfl ?_
  refine lj_callV (pc' := 832) C lv_L_117 (y_back hm1 hS ) M_o rfl rfl (by decide) (Nat.le_of_ble_eq_true rfl) (Nat.le_of_ble_eq_true rfl) (Nat.le_of_ble_eq_true rfl) dL_law_829 rfl (fun r2 s2 h2 => ?_)
  obtain ⟨rfl, hm2, hF2⟩ := h2
  refine lj_icmp_eq (pc' := 835) (tgt := 860) C dL_law_832 (by decide) rfl (fun _ => ?_) (fun h => absurd rfl h)
  exact nx _ s2 ⟨hx1.on (fun q hq => hF2.2 q (by omega)), hm2, ok_back hS, hF2.1.trans (hF1.1.trans hB.2.2.2)⟩
theorem lj_c_count {i : Nat} {S : sp_S} {σ : ax_S} (C : lj_C p s m meth c b L xs x) (hL : L ≤ 320) (hi : i + 5 ≤ L) (hB : bo_At σ S) (nx : lj_nx p l e s m below meth c b x i) : lj_J p l e s m below meth c b x 75 1535 837 [some (.retAddr 3), some (.ref 0), some (.ref 56), some (.int (nI i))] [] σ := by
  have hS := hB.2.2.1
  refine lj_aload_n (pc' := 838) C rfl dL_law_837 rfl ?_
  refine lj_aloadS (pc' := 839) C rfl dL_law_838 rfl ?_
  refine lj_iload_n (pc' := 840) C rfl dL_law_839 rfl ?_
  refine lj_iconst (pc' := 841) (v := nI 1) C kc_1 dL_law_840 rfl ?_
  refine lj_iadd (pc' := 842) C dL_law_841 rfl ?_
  refine lj_topi (nI_add i 1) ?_
  refine lj_sld (pc' := 843) (j := i + 1) C (by omega) (by omega) dL_law_842 rfl ?_
  obtain ⟨fs, X_o⟩ := hB.1.o
  refine lj_callV (pc' := 846) C lv_L_118 (x_count hB.1 hS (xs (i + 1))) X_o rfl rfl (by decide) (Nat.le_of_ble_eq_true rfl) (Nat.le_of_ble_eq_true rfl) (Nat.le_of_ble_eq_true rfl) dL_law_843 rfl (fun r1 s1 h1 => ?_)
  obtain ⟨rfl, hx1, hF1⟩ := h1
  have hm1 : ms_At s1.1 S := hB.2.1.on (fun q a b => hF1.2 q (by omega))
  obtain ⟨gs, M_o⟩ := hm1.o
  refine lj_aload_n (pc' := 847) C rfl dL_law_846 rfl ?_
  refine lj_aloadS (pc' := 848) C rfl dL_law_847 rfl ?_
  refine lj_iload_n (pc' := 849) C rfl dL_law_848 rfl ?_
  refine lj_iconst (pc' := 850) (v := nI 1) C kc_1 dL_law_849 rfl ?_
  refine lj_iadd (pc' := 851) C dL_law_850 rfl ?_
  refine lj_topi (nI_add i 1) ?_
  refine lj_sld (pc' := 852) (j := i + 1) C (by omega) (by omega) dL_law_851 rfl ?_
  refine lj_callV (pc' := 855) C lv_L_121 (y_count hm1 hS (xs (i + 1))) M_o rfl rfl (by decide) (Nat.le_of_ble_eq_true rfl) (Nat.le_of_ble_eq_true rfl) (Nat.le_of_ble_eq_true rfl) dL_law_852 rfl (fun r2 s2 h2 => ?_)
  obtain ⟨rfl, hm2, hF2⟩ := h2
  refine lj_icmp_eq (pc' := 858) (tgt := 860) C dL_law_855 (by decide) rfl (fun _ => ?_) (fun h => absurd rfl h)
  exact nx _ s2 ⟨hx1.on (fun q hq => hF2.2 q (by omega)), hm2, hS, hF2.1.trans (hF1.1.trans hB.2.2.2)⟩
end LL
