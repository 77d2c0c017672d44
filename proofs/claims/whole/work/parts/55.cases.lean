theorem INV.heads {a b : Nat → Nat} {cI cB cS : ClassId} {wc wm : va_W} (h : INV a b cI cB cS wc wm) : (∃ fs, wc[0]? = some (a 0, .inr (4, fs))) ∧ ∃ fs, wm[0]? = some (b 0, .inr (5, fs)) := by
  obtain ⟨tr, fa, hs, sl, g, sc, si, nj, nc, wl, s0, st, nr, kd, ag, de, ta, we, rC, rH, so, sn, ce, hS, iS, dn, rn, hC, hM, -⟩ := h
  obtain ⟨tl, tf, tc, ln, lw, ss, sx, un, en, se, tk, od, ve, vd, bo, rfl⟩ := hC
  obtain ⟨n_at, n_rm, n_rj, n_rc, n_nw, n_ov, n_rl, n_rJ, n_rK, n_ho, n_vd, n_iE, n_rw, n_fo, rfl⟩ := hM
  exact ⟨⟨_, rfl⟩, _, rfl⟩
theorem lc_self (x : Int64) : lg_cmp x x = 0 := by
  unfold lg_cmp
  rw [if_neg (Int64.lt_irrefl), if_pos rfl]
set_option maxHeartbeats 4000000 in
set_option maxRecDepth 100000 in
theorem law_c0 {zp : Program} {l : Launch} {ze : Env} {zs : State} {zm : MethodId} {zav : Array Value} {zb : List Frame} {zt : Method} {zc : Code} {D : va_G} {cI cB cS : ClassId} {A : Nat → Prop} {Q : State → Prop} (C : Cx zp zs zm zt zc D cI cB cS cL_law 4 RL (some .boolean)) {x0 L : Nat} {xs : Nat → Int32} (hX : va_X x0 L xs zs zs.heap) (hbl : x0 < zs.heap.size) (hbA : ¬ A x0) (hL : L ≤ 384) {a b : Nat → Nat} {i : Nat} (hi : i + 6 ≤ L) {wc wm : va_W} (hI : INV a b cI cB cS wc wm) (kk : ∀ wc wm, INV a b cI cB cS wc wm → V zp l ze room_1 zs zm zav zb zt zc D (IM A zs) Q 46 806 4 (wc ++ wm) [(3, .int (nI i)), (2, .ref (b 0)), (1, .ref (a 0)), (0, .ref x0)] 1179 []) : V zp l ze room_1 zs zm zav zb zt zc D (IM A zs) Q 46 806 4 (wc ++ wm) [(3, .int (nI i)), (2, .ref (b 0)), (1, .ref (a 0)), (0, .ref x0)] 172 [] := by
  obtain ⟨⟨f1, e1⟩, f2, e2⟩ := hI.heads
  obtain ⟨P1, P2, m1, m2, hh⟩ := inv_court (l := l) (D := D) hI (xs (i + 1)) (xs (i + 2)) (xs (i + 3)) (xs (i + 4))
  refine v_aload_n C dL_law_172 2 rfl ?_
  refine v_aload_n C dL_law_173 3 rfl ?_
  refine v_iload_n C dL_law_174 0 rfl ?_
  refine v_iconst C 1 dL_law_175 (by decide) ?_
  refine v_iadd C dL_law_176 ?_
  refine v_sld C hX hbl hbA (i + 1) (nI_add i 1) (by omega) (by omega) dL_law_177 ?_
  refine v_aload_n C dL_law_178 3 rfl ?_
  refine v_iload_n C dL_law_179 0 rfl ?_
  refine v_iconst C 2 dL_law_180 (by decide) ?_
  refine v_iadd C dL_law_181 ?_
  refine v_sld C hX hbl hbA (i + 2) (nI_add i 2) (by omega) (by omega) dL_law_182 ?_
  refine v_aload_n C dL_law_183 3 rfl ?_
  refine v_iload_n C dL_law_184 0 rfl ?_
  refine v_iconst C 3 dL_law_185 (by decide) ?_
  refine v_iadd C dL_law_186 ?_
  refine v_sld C hX hbl hbA (i + 3) (nI_add i 3) (by omega) (by omega) dL_law_187 ?_
  refine v_aload_n C dL_law_188 3 rfl ?_
  refine v_iload_n C dL_law_189 0 rfl ?_
  refine v_iconst C 4 dL_law_190 (by decide) ?_
  refine v_iadd C dL_law_191 ?_
  refine v_sld C hX hbl hbA (i + 4) (nI_add i 4) (by omega) (by omega) dL_law_192 ?_
  refine v_cM C l_L_13 m1 (by decide) dL_law_193 e1 rfl rfl (rest := []) rfl (Nat.le_of_ble_eq_true rfl) (by decide) (fun r1 w1 p1 => ?_)
  refine v_aload_n C dL_law_196 1 rfl ?_
  refine v_aload_n C dL_law_197 3 rfl ?_
  refine v_iload_n C dL_law_198 0 rfl ?_
  refine v_iconst C 1 dL_law_199 (by decide) ?_
  refine v_iadd C dL_law_200 ?_
  refine v_sld C hX hbl hbA (i + 1) (nI_add i 1) (by omega) (by omega) dL_law_201 ?_
  refine v_aload_n C dL_law_202 3 rfl ?_
  refine v_iload_n C dL_law_203 0 rfl ?_
  refine v_iconst C 2 dL_law_204 (by decide) ?_
  refine v_iadd C dL_law_205 ?_
  refine v_sld C hX hbl hbA (i + 2) (nI_add i 2) (by omega) (by omega) dL_law_206 ?_
  refine v_aload_n C dL_law_207 3 rfl ?_
  refine v_iload_n C dL_law_208 0 rfl ?_
  refine v_iconst C 3 dL_law_209 (by decide) ?_
  refine v_iadd C dL_law_210 ?_
  refine v_sld C hX hbl hbA (i + 3) (nI_add i 3) (by omega) (by omega) dL_law_211 ?_
  refine v_aload_n C dL_law_212 3 rfl ?_
  refine v_iload_n C dL_law_213 0 rfl ?_
  refine v_iconst C 4 dL_law_214 (by decide) ?_
  refine v_iadd C dL_law_215 ?_
  refine v_sld C hX hbl hbA (i + 4) (nI_add i 4) (by omega) (by omega) dL_law_216 ?_
  refine v_cM C l_L_17 m2 (by decide) dL_law_217 e2 rfl rfl (rest := [.int r1]) rfl (Nat.le_of_ble_eq_true rfl) (by decide) (fun r2 w2 p2 => ?_)
  obtain ⟨rfl, hI2⟩ := hh r1 w1 r2 w2 p1 p2
  exact v_icmp_eq C 1179 dL_law_220 (by decide) (fun _ => kk w1 w2 hI2) (fun h => absurd rfl h)
set_option maxHeartbeats 4000000 in
set_option maxRecDepth 100000 in
theorem law_c1 {zp : Program} {l : Launch} {ze : Env} {zs : State} {zm : MethodId} {zav : Array Value} {zb : List Frame} {zt : Method} {zc : Code} {D : va_G} {cI cB cS : ClassId} {A : Nat → Prop} {Q : State → Prop} (C : Cx zp zs zm zt zc D cI cB cS cL_law 4 RL (some .boolean)) {x0 L : Nat} {xs : Nat → Int32} (hX : va_X x0 L xs zs zs.heap) (hbl : x0 < zs.heap.size) (hbA : ¬ A x0) (hL : L ≤ 384) {a b : Nat → Nat} {i : Nat} (hi : i + 6 ≤ L) {wc wm : va_W} (hI : INV a b cI cB cS wc wm) (kk : ∀ wc wm, INV a b cI cB cS wc wm → V zp l ze room_1 zs zm zav zb zt zc D (IM A zs) Q 46 806 4 (wc ++ wm) [(3, .int (nI i)), (2, .ref (b 0)), (1, .ref (a 0)), (0, .ref x0)] 1179 []) : V zp l ze room_1 zs zm zav zb zt zc D (IM A zs) Q 46 806 4 (wc ++ wm) [(3, .int (nI i)), (2, .ref (b 0)), (1, .ref (a 0)), (0, .ref x0)] 225 [] := by
  obtain ⟨⟨f1, e1⟩, f2, e2⟩ := hI.heads
  obtain ⟨P1, P2, m1, m2, hh⟩ := inv_ofJuror (l := l) (D := D) hI (xs (i + 1)) (xs (i + 2))
  refine v_aload_n C dL_law_225 2 rfl ?_
  refine v_aload_n C dL_law_226 3 rfl ?_
  refine v_iload_n C dL_law_227 0 rfl ?_
  refine v_iconst C 1 dL_law_228 (by decide) ?_
  refine v_iadd C dL_law_229 ?_
  refine v_sld C hX hbl hbA (i + 1) (nI_add i 1) (by omega) (by omega) dL_law_230 ?_
  refine v_aload_n C dL_law_231 3 rfl ?_
  refine v_iload_n C dL_law_232 0 rfl ?_
  refine v_iconst C 2 dL_law_233 (by decide) ?_
  refine v_iadd C dL_law_234 ?_
  refine v_sld C hX hbl hbA (i + 2) (nI_add i 2) (by omega) (by omega) dL_law_235 ?_
  refine v_cM C l_L_18 m1 (by decide) dL_law_236 e1 rfl rfl (rest := []) rfl (Nat.le_of_ble_eq_true rfl) (by decide) (fun r1 w1 p1 => ?_)
  refine v_aload_n C dL_law_239 1 rfl ?_
  refine v_aload_n C dL_law_240 3 rfl ?_
  refine v_iload_n C dL_law_241 0 rfl ?_
  refine v_iconst C 1 dL_law_242 (by decide) ?_
  refine v_iadd C dL_law_243 ?_
  refine v_sld C hX hbl hbA (i + 1) (nI_add i 1) (by omega) (by omega) dL_law_244 ?_
  refine v_aload_n C dL_law_245 3 rfl ?_
  refine v_iload_n C dL_law_246 0 rfl ?_
  refine v_iconst C 2 dL_law_247 (by decide) ?_
  refine v_iadd C dL_law_248 ?_
  refine v_sld C hX hbl hbA (i + 2) (nI_add i 2) (by omega) (by omega) dL_law_249 ?_
  refine v_cM C l_L_22 m2 (by decide) dL_law_250 e2 rfl rfl (rest := [.int r1]) rfl (Nat.le_of_ble_eq_true rfl) (by decide) (fun r2 w2 p2 => ?_)
  obtain ⟨rfl, hI2⟩ := hh r1 w1 r2 w2 p1 p2
  exact v_icmp_eq C 1179 dL_law_253 (by decide) (fun _ => kk w1 w2 hI2) (fun h => absurd rfl h)
set_option maxHeartbeats 4000000 in
set_option maxRecDepth 100000 in
theorem law_c2 {zp : Program} {l : Launch} {ze : Env} {zs : State} {zm : MethodId} {zav : Array Value} {zb : List Frame} {zt : Method} {zc : Code} {D : va_G} {cI cB cS : ClassId} {A : Nat → Prop} {Q : State → Prop} (C : Cx zp zs zm zt zc D cI cB cS cL_law 4 RL (some .boolean)) {x0 L : Nat} {xs : Nat → Int32} (hX : va_X x0 L xs zs zs.heap) (hbl : x0 < zs.heap.size) (hbA : ¬ A x0) (hL : L ≤ 384) {a b : Nat → Nat} {i : Nat} (hi : i + 6 ≤ L) {wc wm : va_W} (hI : INV a b cI cB cS wc wm) (kk : ∀ wc wm, INV a b cI cB cS wc wm → V zp l ze room_1 zs zm zav zb zt zc D (IM A zs) Q 46 806 4 (wc ++ wm) [(3, .int (nI i)), (2, .ref (b 0)), (1, .ref (a 0)), (0, .ref x0)] 1179 []) : V zp l ze room_1 zs zm zav zb zt zc D (IM A zs) Q 46 806 4 (wc ++ wm) [(3, .int (nI i)), (2, .ref (b 0)), (1, .ref (a 0)), (0, .ref x0)] 258 [] := by
  obtain ⟨⟨f1, e1⟩, f2, e2⟩ := hI.heads
  obtain ⟨P1, P2, m1, m2, hh⟩ := inv_ofCase (l := l) (D := D) hI (xs (i + 1)) (xs (i + 2))
  refine v_aload_n C dL_law_258 2 rfl ?_
  refine v_aload_n C dL_law_259 3 rfl ?_
  refine v_iload_n C dL_law_260 0 rfl ?_
  refine v_iconst C 1 dL_law_261 (by decide) ?_
  refine v_iadd C dL_law_262 ?_
  refine v_sld C hX hbl hbA (i + 1) (nI_add i 1) (by omega) (by omega) dL_law_263 ?_
  refine v_aload_n C dL_law_264 3 rfl ?_
  refine v_iload_n C dL_law_265 0 rfl ?_
  refine v_iconst C 2 dL_law_266 (by decide) ?_
  refine v_iadd C dL_law_267 ?_
  refine v_sld C hX hbl hbA (i + 2) (nI_add i 2) (by omega) (by omega) dL_law_268 ?_
  refine v_cM C l_L_23 m1 (by decide) dL_law_269 e1 rfl rfl (rest := []) rfl (Nat.le_of_ble_eq_true rfl) (by decide) (fun r1 w1 p1 => ?_)
  refine v_aload_n C dL_law_272 1 rfl ?_
  refine v_aload_n C dL_law_273 3 rfl ?_
  refine v_iload_n C dL_law_274 0 rfl ?_
  refine v_iconst C 1 dL_law_275 (by decide) ?_
  refine v_iadd C dL_law_276 ?_
  refine v_sld C hX hbl hbA (i + 1) (nI_add i 1) (by omega) (by omega) dL_law_277 ?_
  refine v_aload_n C dL_law_278 3 rfl ?_
  refine v_iload_n C dL_law_279 0 rfl ?_
  refine v_iconst C 2 dL_law_280 (by decide) ?_
  refine v_iadd C dL_law_281 ?_
  refine v_sld C hX hbl hbA (i + 2) (nI_add i 2) (by omega) (by omega) dL_law_282 ?_
  refine v_cM C l_L_26 m2 (by decide) dL_law_283 e2 rfl rfl (rest := [.int r1]) rfl (Nat.le_of_ble_eq_true rfl) (by decide) (fun r2 w2 p2 => ?_)
  obtain ⟨rfl, hI2⟩ := hh r1 w1 r2 w2 p1 p2
  exact v_icmp_eq C 1179 dL_law_286 (by decide) (fun _ => kk w1 w2 hI2) (fun h => absurd rfl h)
set_option maxHeartbeats 4000000 in
set_option maxRecDepth 100000 in
theorem law_c3 {zp : Program} {l : Launch} {ze : Env} {zs : State} {zm : MethodId} {zav : Array Value} {zb : List Frame} {zt : Method} {zc : Code} {D : va_G} {cI cB cS : ClassId} {A : Nat → Prop} {Q : State → Prop} (C : Cx zp zs zm zt zc D cI cB cS cL_law 4 RL (some .boolean)) {x0 L : Nat} {xs : Nat → Int32} (hX : va_X x0 L xs zs zs.heap) (hbl : x0 < zs.heap.size) (hbA : ¬ A x0) (hL : L ≤ 384) {a b : Nat → Nat} {i : Nat} (hi : i + 6 ≤ L) {wc wm : va_W} (hI : INV a b cI cB cS wc wm) (kk : ∀ wc wm, INV a b cI cB cS wc wm → V zp l ze room_1 zs zm zav zb zt zc D (IM A zs) Q 46 806 4 (wc ++ wm) [(3, .int (nI i)), (2, .ref (b 0)), (1, .ref (a 0)), (0, .ref x0)] 1179 []) : V zp l ze room_1 zs zm zav zb zt zc D (IM A zs) Q 46 806 4 (wc ++ wm) [(3, .int (nI i)), (2, .ref (b 0)), (1, .ref (a 0)), (0, .ref x0)] 291 [] := by
  obtain ⟨⟨f1, e1⟩, f2, e2⟩ := hI.heads
  obtain ⟨P1, P2, m1, m2, hh⟩ := inv_chalk (l := l) (D := D) hI (xs (i + 1))
  refine v_aload_n C dL_law_291 2 rfl ?_
  refine v_aload_n C dL_law_292 3 rfl ?_
  refine v_iload_n C dL_law_293 0 rfl ?_
  refine v_iconst C 1 dL_law_294 (by decide) ?_
  refine v_iadd C dL_law_295 ?_
  refine v_sld C hX hbl hbA (i + 1) (nI_add i 1) (by omega) (by omega) dL_law_296 ?_
  refine v_cM C l_L_27 m1 (by decide) dL_law_297 e1 rfl rfl (rest := []) rfl (Nat.le_of_ble_eq_true rfl) (by decide) (fun r1 w1 p1 => ?_)
  refine v_aload_n C dL_law_300 1 rfl ?_
  refine v_aload_n C dL_law_301 3 rfl ?_
  refine v_iload_n C dL_law_302 0 rfl ?_
  refine v_iconst C 1 dL_law_303 (by decide) ?_
  refine v_iadd C dL_law_304 ?_
  refine v_sld C hX hbl hbA (i + 1) (nI_add i 1) (by omega) (by omega) dL_law_305 ?_
  refine v_cM C l_L_31 m2 (by decide) dL_law_306 e2 rfl rfl (rest := [.int r1]) rfl (Nat.le_of_ble_eq_true rfl) (by decide) (fun r2 w2 p2 => ?_)
  obtain ⟨rfl, hI2⟩ := hh r1 w1 r2 w2 p1 p2
  exact v_icmp_eq C 1179 dL_law_309 (by decide) (fun _ => kk w1 w2 hI2) (fun h => absurd rfl h)
set_option maxHeartbeats 4000000 in
set_option maxRecDepth 100000 in
theorem law_c4 {zp : Program} {l : Launch} {ze : Env} {zs : State} {zm : MethodId} {zav : Array Value} {zb : List Frame} {zt : Method} {zc : Code} {D : va_G} {cI cB cS : ClassId} {A : Nat → Prop} {Q : State → Prop} (C : Cx zp zs zm zt zc D cI cB cS cL_law 4 RL (some .boolean)) {x0 L : Nat} {xs : Nat → Int32} (hX : va_X x0 L xs zs zs.heap) (hbl : x0 < zs.heap.size) (hbA : ¬ A x0) (hL : L ≤ 384) {a b : Nat → Nat} {i : Nat} (hi : i + 6 ≤ L) {wc wm : va_W} (hI : INV a b cI cB cS wc wm) (kk : ∀ wc wm, INV a b cI cB cS wc wm → V zp l ze room_1 zs zm zav zb zt zc D (IM A zs) Q 46 806 4 (wc ++ wm) [(3, .int (nI i)), (2, .ref (b 0)), (1, .ref (a 0)), (0, .ref x0)] 1179 []) : V zp l ze room_1 zs zm zav zb zt zc D (IM A zs) Q 46 806 4 (wc ++ wm) [(3, .int (nI i)), (2, .ref (b 0)), (1, .ref (a 0)), (0, .ref x0)] 314 [] := by
  obtain ⟨⟨f1, e1⟩, f2, e2⟩ := hI.heads
  by_cases hz : xs (i + 2) = 0
  · obtain ⟨P1, P2, m1, m2, hh⟩ := inv_treat0 (l := l) (D := D) hI (xs (i + 1))
    refine v_aload_n C dL_law_314 2 rfl ?_
    refine v_aload_n C dL_law_315 3 rfl ?_
    refine v_iload_n C dL_law_316 0 rfl ?_
    refine v_iconst C 1 dL_law_317 (by decide) ?_
    refine v_iadd C dL_law_318 ?_
    refine v_sld C hX hbl hbA (i + 1) (nI_add i 1) (by omega) (by omega) dL_law_319 ?_
    refine v_aload_n C dL_law_320 3 rfl ?_
    refine v_iload_n C dL_law_321 0 rfl ?_
    refine v_iconst C 2 dL_law_322 (by decide) ?_
    refine v_iadd C dL_law_323 ?_
    refine v_sld C hX hbl hbA (i + 2) (nI_add i 2) (by omega) (by omega) dL_law_324 ?_
    refine v_if_eq C 332 dL_law_325 (by decide) (fun _ => ?_) (fun h => absurd hz h)
    refine v_iconst C 0 dL_law_332 (by decide) ?_
    refine v_cM C l_L_32 m1 (by decide) dL_law_333 e1 rfl rfl (rest := []) rfl (Nat.le_of_ble_eq_true rfl) (by decide) (fun r1 w1 p1 => ?_)
    refine v_aload_n C dL_law_336 1 rfl ?_
    refine v_aload_n C dL_law_337 3 rfl ?_
    refine v_iload_n C dL_law_338 0 rfl ?_
    refine v_iconst C 1 dL_law_339 (by decide) ?_
    refine v_iadd C dL_law_340 ?_
    refine v_sld C hX hbl hbA (i + 1) (nI_add i 1) (by omega) (by omega) dL_law_341 ?_
    refine v_aload_n C dL_law_342 3 rfl ?_
    refine v_iload_n C dL_law_343 0 rfl ?_
    refine v_iconst C 2 dL_law_344 (by decide) ?_
    refine v_iadd C dL_law_345 ?_
    refine v_sld C hX hbl hbA (i + 2) (nI_add i 2) (by omega) (by omega) dL_law_346 ?_
    refine v_if_eq C 354 dL_law_347 (by decide) (fun _ => ?_) (fun h => absurd hz h)
    refine v_iconst C 0 dL_law_354 (by decide) ?_
    refine v_cM C l_L_36 m2 (by decide) dL_law_355 e2 rfl rfl (rest := [.int r1]) rfl (Nat.le_of_ble_eq_true rfl) (by decide) (fun r2 w2 p2 => ?_)
    obtain ⟨rfl, hI2⟩ := hh r1 w1 r2 w2 p1 p2
    exact v_icmp_eq C 1179 dL_law_358 (by decide) (fun _ => kk w1 w2 hI2) (fun h => absurd rfl h)
  · obtain ⟨P1, P2, m1, m2, hh⟩ := inv_treat1 (l := l) (D := D) hI (xs (i + 1))
    refine v_aload_n C dL_law_314 2 rfl ?_
    refine v_aload_n C dL_law_315 3 rfl ?_
    refine v_iload_n C dL_law_316 0 rfl ?_
    refine v_iconst C 1 dL_law_317 (by decide) ?_
    refine v_iadd C dL_law_318 ?_
    refine v_sld C hX hbl hbA (i + 1) (nI_add i 1) (by omega) (by omega) dL_law_319 ?_
    refine v_aload_n C dL_law_320 3 rfl ?_
    refine v_iload_n C dL_law_321 0 rfl ?_
    refine v_iconst C 2 dL_law_322 (by decide) ?_
    refine v_iadd C dL_law_323 ?_
    refine v_sld C hX hbl hbA (i + 2) (nI_add i 2) (by omega) (by omega) dL_law_324 ?_
    refine v_if_eq C 332 dL_law_325 (by decide) (fun h => absurd h hz) (fun _ => ?_)
    refine v_iconst C 1 dL_law_328 (by decide) ?_
    refine v_goto C 333 dL_law_329 (by decide) ?_
    refine v_cM C l_L_32 m1 (by decide) dL_law_333 e1 rfl rfl (rest := []) rfl (Nat.le_of_ble_eq_true rfl) (by decide) (fun r1 w1 p1 => ?_)
    refine v_aload_n C dL_law_336 1 rfl ?_
    refine v_aload_n C dL_law_337 3 rfl ?_
    refine v_iload_n C dL_law_338 0 rfl ?_
    refine v_iconst C 1 dL_law_339 (by decide) ?_
    refine v_iadd C dL_law_340 ?_
    refine v_sld C hX hbl hbA (i + 1) (nI_add i 1) (by omega) (by omega) dL_law_341 ?_
    refine v_aload_n C dL_law_342 3 rfl ?_
    refine v_iload_n C dL_law_343 0 rfl ?_
    refine v_iconst C 2 dL_law_344 (by decide) ?_
    refine v_iadd C dL_law_345 ?_
    refine v_sld C hX hbl hbA (i + 2) (nI_add i 2) (by omega) (by omega) dL_law_346 ?_
    refine v_if_eq C 354 dL_law_347 (by decide) (fun h => absurd h hz) (fun _ => ?_)
    refine v_iconst C 1 dL_law_350 (by decide) ?_
    refine v_goto C 355 dL_law_351 (by decide) ?_
    refine v_cM C l_L_36 m2 (by decide) dL_law_355 e2 rfl rfl (rest := [.int r1]) rfl (Nat.le_of_ble_eq_true rfl) (by decide) (fun r2 w2 p2 => ?_)
    obtain ⟨rfl, hI2⟩ := hh r1 w1 r2 w2 p1 p2
    exact v_icmp_eq C 1179 dL_law_358 (by decide) (fun _ => kk w1 w2 hI2) (fun h => absurd rfl h)
set_option maxHeartbeats 4000000 in
set_option maxRecDepth 100000 in
theorem law_c5 {zp : Program} {l : Launch} {ze : Env} {zs : State} {zm : MethodId} {zav : Array Value} {zb : List Frame} {zt : Method} {zc : Code} {D : va_G} {cI cB cS : ClassId} {A : Nat → Prop} {Q : State → Prop} (C : Cx zp zs zm zt zc D cI cB cS cL_law 4 RL (some .boolean)) {x0 L : Nat} {xs : Nat → Int32} (hX : va_X x0 L xs zs zs.heap) (hbl : x0 < zs.heap.size) (hbA : ¬ A x0) (hL : L ≤ 384) {a b : Nat → Nat} {i : Nat} (hi : i + 6 ≤ L) {wc wm : va_W} (hI : INV a b cI cB cS wc wm) (kk : ∀ wc wm, INV a b cI cB cS wc wm → V zp l ze room_1 zs zm zav zb zt zc D (IM A zs) Q 46 806 4 (wc ++ wm) [(3, .int (nI i)), (2, .ref (b 0)), (1, .ref (a 0)), (0, .ref x0)] 1179 []) : V zp l ze room_1 zs zm zav zb zt zc D (IM A zs) Q 46 806 4 (wc ++ wm) [(3, .int (nI i)), (2, .ref (b 0)), (1, .ref (a 0)), (0, .ref x0)] 363 [] := by
  obtain ⟨⟨f1, e1⟩, f2, e2⟩ := hI.heads
  by_cases hz : xs (i + 2) = 0
  · obtain ⟨P1, P2, m1, m2, hh⟩ := inv_strike0 (l := l) (D := D) hI (xs (i + 1))
    refine v_aload_n C dL_law_363 2 rfl ?_
    refine v_aload_n C dL_law_364 3 rfl ?_
    refine v_iload_n C dL_law_365 0 rfl ?_
    refine v_iconst C 1 dL_law_366 (by decide) ?_
    refine v_iadd C dL_law_367 ?_
    refine v_sld C hX hbl hbA (i + 1) (nI_add i 1) (by omega) (by omega) dL_law_368 ?_
    refine v_aload_n C dL_law_369 3 rfl ?_
    refine v_iload_n C dL_law_370 0 rfl ?_
    refine v_iconst C 2 dL_law_371 (by decide) ?_
    refine v_iadd C dL_law_372 ?_
    refine v_sld C hX hbl hbA (i + 2) (nI_add i 2) (by omega) (by omega) dL_law_373 ?_
    refine v_if_eq C 381 dL_law_374 (by decide) (fun _ => ?_) (fun h => absurd hz h)
    refine v_iconst C 0 dL_law_381 (by decide) ?_
    refine v_cM C l_L_37 m1 (by decide) dL_law_382 e1 rfl rfl (rest := []) rfl (Nat.le_of_ble_eq_true rfl) (by decide) (fun r1 w1 p1 => ?_)
    refine v_aload_n C dL_law_385 1 rfl ?_
    refine v_aload_n C dL_law_386 3 rfl ?_
    refine v_iload_n C dL_law_387 0 rfl ?_
    refine v_iconst C 1 dL_law_388 (by decide) ?_
    refine v_iadd C dL_law_389 ?_
    refine v_sld C hX hbl hbA (i + 1) (nI_add i 1) (by omega) (by omega) dL_law_390 ?_
    refine v_aload_n C dL_law_391 3 rfl ?_
    refine v_iload_n C dL_law_392 0 rfl ?_
    refine v_iconst C 2 dL_law_393 (by decide) ?_
    refine v_iadd C dL_law_394 ?_
    refine v_sld C hX hbl hbA (i + 2) (nI_add i 2) (by omega) (by omega) dL_law_395 ?_
    refine v_if_eq C 403 dL_law_396 (by decide) (fun _ => ?_) (fun h => absurd hz h)
    refine v_iconst C 0 dL_law_403 (by decide) ?_
    refine v_cM C l_L_40 m2 (by decide) dL_law_404 e2 rfl rfl (rest := [.int r1]) rfl (Nat.le_of_ble_eq_true rfl) (by decide) (fun r2 w2 p2 => ?_)
    obtain ⟨rfl, hI2⟩ := hh r1 w1 r2 w2 p1 p2
    exact v_icmp_eq C 1179 dL_law_407 (by decide) (fun _ => kk w1 w2 hI2) (fun h => absurd rfl h)
  · obtain ⟨P1, P2, m1, m2, hh⟩ := inv_strike1 (l := l) (D := D) hI (xs (i + 1))
    refine v_aload_n C dL_law_363 2 rfl ?_
    refine v_aload_n C dL_law_364 3 rfl ?_
    refine v_iload_n C dL_law_365 0 rfl ?_
    refine v_iconst C 1 dL_law_366 (by decide) ?_
    refine v_iadd C dL_law_367 ?_
    refine v_sld C hX hbl hbA (i + 1) (nI_add i 1) (by omega) (by omega) dL_law_368 ?_
    refine v_aload_n C dL_law_369 3 rfl ?_
    refine v_iload_n C dL_law_370 0 rfl ?_
    refine v_iconst C 2 dL_law_371 (by decide) ?_
    refine v_iadd C dL_law_372 ?_
    refine v_sld C hX hbl hbA (i + 2) (nI_add i 2) (by omega) (by omega) dL_law_373 ?_
    refine v_if_eq C 381 dL_law_374 (by decide) (fun h => absurd h hz) (fun _ => ?_)
    refine v_iconst C 1 dL_law_377 (by decide) ?_
    refine v_goto C 382 dL_law_378 (by decide) ?_
    refine v_cM C l_L_37 m1 (by decide) dL_law_382 e1 rfl rfl (rest := []) rfl (Nat.le_of_ble_eq_true rfl) (by decide) (fun r1 w1 p1 => ?_)
    refine v_aload_n C dL_law_385 1 rfl ?_
    refine v_aload_n C dL_law_386 3 rfl ?_
    refine v_iload_n C dL_law_387 0 rfl ?_
    refine v_iconst C 1 dL_law_388 (by decide) ?_
    refine v_iadd C dL_law_389 ?_
    refine v_sld C hX hbl hbA (i + 1) (nI_add i 1) (by omega) (by omega) dL_law_390 ?_
    refine v_aload_n C dL_law_391 3 rfl ?_
    refine v_iload_n C dL_law_392 0 rfl ?_
    refine v_iconst C 2 dL_law_393 (by decide) ?_
    refine v_iadd C dL_law_394 ?_
    refine v_sld C hX hbl hbA (i + 2) (nI_add i 2) (by omega) (by omega) dL_law_395 ?_
    refine v_if_eq C 403 dL_law_396 (by decide) (fun h => absurd h hz) (fun _ => ?_)
    refine v_iconst C 1 dL_law_399 (by decide) ?_
    refine v_goto C 404 dL_law_400 (by decide) ?_
    refine v_cM C l_L_40 m2 (by decide) dL_law_404 e2 rfl rfl (rest := [.int r1]) rfl (Nat.le_of_ble_eq_true rfl) (by decide) (fun r2 w2 p2 => ?_)
    obtain ⟨rfl, hI2⟩ := hh r1 w1 r2 w2 p1 p2
    exact v_icmp_eq C 1179 dL_law_407 (by decide) (fun _ => kk w1 w2 hI2) (fun h => absurd rfl h)
set_option maxHeartbeats 4000000 in
set_option maxRecDepth 100000 in
theorem law_c6 {zp : Program} {l : Launch} {ze : Env} {zs : State} {zm : MethodId} {zav : Array Value} {zb : List Frame} {zt : Method} {zc : Code} {D : va_G} {cI cB cS : ClassId} {A : Nat → Prop} {Q : State → Prop} (C : Cx zp zs zm zt zc D cI cB cS cL_law 4 RL (some .boolean)) {x0 L : Nat} {xs : Nat → Int32} (hX : va_X x0 L xs zs zs.heap) (hbl : x0 < zs.heap.size) (hbA : ¬ A x0) (hL : L ≤ 384) {a b : Nat → Nat} {i : Nat} (hi : i + 6 ≤ L) {wc wm : va_W} (hI : INV a b cI cB cS wc wm) (kk : ∀ wc wm, INV a b cI cB cS wc wm → V zp l ze room_1 zs zm zav zb zt zc D (IM A zs) Q 46 806 4 (wc ++ wm) [(3, .int (nI i)), (2, .ref (b 0)), (1, .ref (a 0)), (0, .ref x0)] 1179 []) : V zp l ze room_1 zs zm zav zb zt zc D (IM A zs) Q 46 806 4 (wc ++ wm) [(3, .int (nI i)), (2, .ref (b 0)), (1, .ref (a 0)), (0, .ref x0)] 412 [] := by
  obtain ⟨⟨f1, e1⟩, f2, e2⟩ := hI.heads
  obtain ⟨P1, P2, m1, m2, hh⟩ := inv_minutes (l := l) (D := D) hI (xs (i + 1))
  refine v_aload_n C dL_law_412 2 rfl ?_
  refine v_aload_n C dL_law_413 3 rfl ?_
  refine v_iload_n C dL_law_414 0 rfl ?_
  refine v_iconst C 1 dL_law_415 (by decide) ?_
  refine v_iadd C dL_law_416 ?_
  refine v_sld C hX hbl hbA (i + 1) (nI_add i 1) (by omega) (by omega) dL_law_417 ?_
  refine v_cM C l_L_41 m1 (by decide) dL_law_418 e1 rfl rfl (rest := []) rfl (Nat.le_of_ble_eq_true rfl) (by decide) (fun r1 w1 p1 => ?_)
  refine v_aload_n C dL_law_421 1 rfl ?_
  refine v_aload_n C dL_law_422 3 rfl ?_
  refine v_iload_n C dL_law_423 0 rfl ?_
  refine v_iconst C 1 dL_law_424 (by decide) ?_
  refine v_iadd C dL_law_425 ?_
  refine v_sld C hX hbl hbA (i + 1) (nI_add i 1) (by omega) (by omega) dL_law_426 ?_
  refine v_cM C l_L_44 m2 (by decide) dL_law_427 e2 rfl rfl (rest := [.int r1]) rfl (Nat.le_of_ble_eq_true rfl) (by decide) (fun r2 w2 p2 => ?_)
  obtain ⟨rfl, hI2⟩ := hh r1 w1 r2 w2 p1 p2
  exact v_icmp_eq C 1179 dL_law_430 (by decide) (fun _ => kk w1 w2 hI2) (fun h => absurd rfl h)
set_option maxHeartbeats 4000000 in
set_option maxRecDepth 100000 in
theorem law_c7 {zp : Program} {l : Launch} {ze : Env} {zs : State} {zm : MethodId} {zav : Array Value} {zb : List Frame} {zt : Method} {zc : Code} {D : va_G} {cI cB cS : ClassId} {A : Nat → Prop} {Q : State → Prop} (C : Cx zp zs zm zt zc D cI cB cS cL_law 4 RL (some .boolean)) {x0 L : Nat} {xs : Nat → Int32} (hX : va_X x0 L xs zs zs.heap) (hbl : x0 < zs.heap.size) (hbA : ¬ A x0) (hL : L ≤ 384) {a b : Nat → Nat} {i : Nat} (hi : i + 6 ≤ L) {wc wm : va_W} (hI : INV a b cI cB cS wc wm) (kk : ∀ wc wm, INV a b cI cB cS wc wm → V zp l ze room_1 zs zm zav zb zt zc D (IM A zs) Q 46 806 4 (wc ++ wm) [(3, .int (nI i)), (2, .ref (b 0)), (1, .ref (a 0)), (0, .ref x0)] 1179 []) : V zp l ze room_1 zs zm zav zb zt zc D (IM A zs) Q 46 806 4 (wc ++ wm) [(3, .int (nI i)), (2, .ref (b 0)), (1, .ref (a 0)), (0, .ref x0)] 435 [] := by
  obtain ⟨⟨f1, e1⟩, f2, e2⟩ := hI.heads
  obtain ⟨P1, P2, m1, m2, hh⟩ := inv_sitting (l := l) (D := D) hI (xs (i + 1)) (xs (i + 2)) (xs (i + 3)) (xs (i + 4)) (xs (i + 5))
  refine v_aload_n C dL_law_435 2 rfl ?_
  refine v_aload_n C dL_law_436 3 rfl ?_
  refine v_iload_n C dL_law_437 0 rfl ?_
  refine v_iconst C 1 dL_law_438 (by decide) ?_
  refine v_iadd C dL_law_439 ?_
  refine v_sld C hX hbl hbA (i + 1) (nI_add i 1) (by omega) (by omega) dL_law_440 ?_
  refine v_aload_n C dL_law_441 3 rfl ?_
  refine v_iload_n C dL_law_442 0 rfl ?_
  refine v_iconst C 2 dL_law_443 (by decide) ?_
  refine v_iadd C dL_law_444 ?_
  refine v_sld C hX hbl hbA (i + 2) (nI_add i 2) (by omega) (by omega) dL_law_445 ?_
  refine v_aload_n C dL_law_446 3 rfl ?_
  refine v_iload_n C dL_law_447 0 rfl ?_
  refine v_iconst C 3 dL_law_448 (by decide) ?_
  refine v_iadd C dL_law_449 ?_
  refine v_sld C hX hbl hbA (i + 3) (nI_add i 3) (by omega) (by omega) dL_law_450 ?_
  refine v_aload_n C dL_law_451 3 rfl ?_
  refine v_iload_n C dL_law_452 0 rfl ?_
  refine v_iconst C 4 dL_law_453 (by decide) ?_
  refine v_iadd C dL_law_454 ?_
  refine v_sld C hX hbl hbA (i + 4) (nI_add i 4) (by omega) (by omega) dL_law_455 ?_
  refine v_aload_n C dL_law_456 3 rfl ?_
  refine v_iload_n C dL_law_457 0 rfl ?_
  refine v_iconst C 5 dL_law_458 (by decide) ?_
  refine v_iadd C dL_law_459 ?_
  refine v_sld C hX hbl hbA (i + 5) (nI_add i 5) (by omega) (by omega) dL_law_460 ?_
  refine v_cM C l_L_45 m1 (by decide) dL_law_461 e1 rfl rfl (rest := []) rfl (Nat.le_of_ble_eq_true rfl) (by decide) (fun r1 w1 p1 => ?_)
  refine v_aload_n C dL_law_464 1 rfl ?_
  refine v_aload_n C dL_law_465 3 rfl ?_
  refine v_iload_n C dL_law_466 0 rfl ?_
  refine v_iconst C 1 dL_law_467 (by decide) ?_
  refine v_iadd C dL_law_468 ?_
  refine v_sld C hX hbl hbA (i + 1) (nI_add i 1) (by omega) (by omega) dL_law_469 ?_
  refine v_aload_n C dL_law_470 3 rfl ?_
  refine v_iload_n C dL_law_471 0 rfl ?_
  refine v_iconst C 2 dL_law_472 (by decide) ?_
  refine v_iadd C dL_law_473 ?_
  refine v_sld C hX hbl hbA (i + 2) (nI_add i 2) (by omega) (by omega) dL_law_474 ?_
  refine v_aload_n C dL_law_475 3 rfl ?_
  refine v_iload_n C dL_law_476 0 rfl ?_
  refine v_iconst C 3 dL_law_477 (by decide) ?_
  refine v_iadd C dL_law_478 ?_
  refine v_sld C hX hbl hbA (i + 3) (nI_add i 3) (by omega) (by omega) dL_law_479 ?_
  refine v_aload_n C dL_law_480 3 rfl ?_
  refine v_iload_n C dL_law_481 0 rfl ?_
  refine v_iconst C 4 dL_law_482 (by decide) ?_
  refine v_iadd C dL_law_483 ?_
  refine v_sld C hX hbl hbA (i + 4) (nI_add i 4) (by omega) (by omega) dL_law_484 ?_
  refine v_aload_n C dL_law_485 3 rfl ?_
  refine v_iload_n C dL_law_486 0 rfl ?_
  refine v_iconst C 5 dL_law_487 (by decide) ?_
  refine v_iadd C dL_law_488 ?_
  refine v_sld C hX hbl hbA (i + 5) (nI_add i 5) (by omega) (by omega) dL_law_489 ?_
  refine v_cM C l_L_49 m2 (by decide) dL_law_490 e2 rfl rfl (rest := [.int r1]) rfl (Nat.le_of_ble_eq_true rfl) (by decide) (fun r2 w2 p2 => ?_)
  obtain ⟨rfl, hI2⟩ := hh r1 w1 r2 w2 p1 p2
  exact v_icmp_eq C 1179 dL_law_493 (by decide) (fun _ => kk w1 w2 hI2) (fun h => absurd rfl h)
set_option maxHeartbeats 4000000 in
set_option maxRecDepth 100000 in
theorem law_c8 {zp : Program} {l : Launch} {ze : Env} {zs : State} {zm : MethodId} {zav : Array Value} {zb : List Frame} {zt : Method} {zc : Code} {D : va_G} {cI cB cS : ClassId} {A : Nat → Prop} {Q : State → Prop} (C : Cx zp zs zm zt zc D cI cB cS cL_law 4 RL (some .boolean)) {x0 L : Nat} {xs : Nat → Int32} (hX : va_X x0 L xs zs zs.heap) (hbl : x0 < zs.heap.size) (hbA : ¬ A x0) (hL : L ≤ 384) {a b : Nat → Nat} {i : Nat} (hi : i + 6 ≤ L) {wc wm : va_W} (hI : INV a b cI cB cS wc wm) (kk : ∀ wc wm, INV a b cI cB cS wc wm → V zp l ze room_1 zs zm zav zb zt zc D (IM A zs) Q 46 806 4 (wc ++ wm) [(3, .int (nI i)), (2, .ref (b 0)), (1, .ref (a 0)), (0, .ref x0)] 1179 []) : V zp l ze room_1 zs zm zav zb zt zc D (IM A zs) Q 46 806 4 (wc ++ wm) [(3, .int (nI i)), (2, .ref (b 0)), (1, .ref (a 0)), (0, .ref x0)] 498 [] := by
  obtain ⟨⟨f1, e1⟩, f2, e2⟩ := hI.heads
  obtain ⟨P1, P2, m1, m2, hh⟩ := inv_votes (l := l) (D := D) hI (xs (i + 1)) (xs (i + 2))
  refine v_aload_n C dL_law_498 2 rfl ?_
  refine v_aload_n C dL_law_499 3 rfl ?_
  refine v_iload_n C dL_law_500 0 rfl ?_
  refine v_iconst C 1 dL_law_501 (by decide) ?_
  refine v_iadd C dL_law_502 ?_
  refine v_sld C hX hbl hbA (i + 1) (nI_add i 1) (by omega) (by omega) dL_law_503 ?_
  refine v_aload_n C dL_law_504 3 rfl ?_
  refine v_iload_n C dL_law_505 0 rfl ?_
  refine v_iconst C 2 dL_law_506 (by decide) ?_
  refine v_iadd C dL_law_507 ?_
  refine v_sld C hX hbl hbA (i + 2) (nI_add i 2) (by omega) (by omega) dL_law_508 ?_
  refine v_cM C l_L_50 m1 (by decide) dL_law_509 e1 rfl rfl (rest := []) rfl (Nat.le_of_ble_eq_true rfl) (by decide) (fun r1 w1 p1 => ?_)
  refine v_aload_n C dL_law_512 1 rfl ?_
  refine v_aload_n C dL_law_513 3 rfl ?_
  refine v_iload_n C dL_law_514 0 rfl ?_
  refine v_iconst C 1 dL_law_515 (by decide) ?_
  refine v_iadd C dL_law_516 ?_
  refine v_sld C hX hbl hbA (i + 1) (nI_add i 1) (by omega) (by omega) dL_law_517 ?_
  refine v_aload_n C dL_law_518 3 rfl ?_
  refine v_iload_n C dL_law_519 0 rfl ?_
  refine v_iconst C 2 dL_law_520 (by decide) ?_
  refine v_iadd C dL_law_521 ?_
  refine v_sld C hX hbl hbA (i + 2) (nI_add i 2) (by omega) (by omega) dL_law_522 ?_
  refine v_cM C l_L_53 m2 (by decide) dL_law_523 e2 rfl rfl (rest := [.int r1]) rfl (Nat.le_of_ble_eq_true rfl) (by decide) (fun r2 w2 p2 => ?_)
  obtain ⟨rfl, hI2⟩ := hh r1 w1 r2 w2 p1 p2
  exact v_icmp_eq C 1179 dL_law_526 (by decide) (fun _ => kk w1 w2 hI2) (fun h => absurd rfl h)
set_option maxHeartbeats 4000000 in
set_option maxRecDepth 100000 in
theorem law_c9 {zp : Program} {l : Launch} {ze : Env} {zs : State} {zm : MethodId} {zav : Array Value} {zb : List Frame} {zt : Method} {zc : Code} {D : va_G} {cI cB cS : ClassId} {A : Nat → Prop} {Q : State → Prop} (C : Cx zp zs zm zt zc D cI cB cS cL_law 4 RL (some .boolean)) {x0 L : Nat} {xs : Nat → Int32} (hX : va_X x0 L xs zs zs.heap) (hbl : x0 < zs.heap.size) (hbA : ¬ A x0) (hL : L ≤ 384) {a b : Nat → Nat} {i : Nat} (hi : i + 6 ≤ L) {wc wm : va_W} (hI : INV a b cI cB cS wc wm) (kk : ∀ wc wm, INV a b cI cB cS wc wm → V zp l ze room_1 zs zm zav zb zt zc D (IM A zs) Q 46 806 4 (wc ++ wm) [(3, .int (nI i)), (2, .ref (b 0)), (1, .ref (a 0)), (0, .ref x0)] 1179 []) : V zp l ze room_1 zs zm zav zb zt zc D (IM A zs) Q 46 806 4 (wc ++ wm) [(3, .int (nI i)), (2, .ref (b 0)), (1, .ref (a 0)), (0, .ref x0)] 531 [] := by
  obtain ⟨⟨f1, e1⟩, f2, e2⟩ := hI.heads
  obtain ⟨P1, P2, m1, m2, hh⟩ := inv_most (l := l) (D := D) hI (xs (i + 1))
  refine v_aload_n C dL_law_531 2 rfl ?_
  refine v_aload_n C dL_law_532 3 rfl ?_
  refine v_iload_n C dL_law_533 0 rfl ?_
  refine v_iconst C 1 dL_law_534 (by decide) ?_
  refine v_iadd C dL_law_535 ?_
  refine v_sld C hX hbl hbA (i + 1) (nI_add i 1) (by omega) (by omega) dL_law_536 ?_
  refine v_cM C l_L_54 m1 (by decide) dL_law_537 e1 rfl rfl (rest := []) rfl (Nat.le_of_ble_eq_true rfl) (by decide) (fun r1 w1 p1 => ?_)
  refine v_aload_n C dL_law_540 1 rfl ?_
  refine v_aload_n C dL_law_541 3 rfl ?_
  refine v_iload_n C dL_law_542 0 rfl ?_
  refine v_iconst C 1 dL_law_543 (by decide) ?_
  refine v_iadd C dL_law_544 ?_
  refine v_sld C hX hbl hbA (i + 1) (nI_add i 1) (by omega) (by omega) dL_law_545 ?_
  refine v_cM C l_L_57 m2 (by decide) dL_law_546 e2 rfl rfl (rest := [.int r1]) rfl (Nat.le_of_ble_eq_true rfl) (by decide) (fun r2 w2 p2 => ?_)
  obtain ⟨rfl, hI2⟩ := hh r1 w1 r2 w2 p1 p2
  exact v_icmp_eq C 1179 dL_law_549 (by decide) (fun _ => kk w1 w2 hI2) (fun h => absurd rfl h)
set_option maxHeartbeats 4000000 in
set_option maxRecDepth 100000 in
theorem law_c10 {zp : Program} {l : Launch} {ze : Env} {zs : State} {zm : MethodId} {zav : Array Value} {zb : List Frame} {zt : Method} {zc : Code} {D : va_G} {cI cB cS : ClassId} {A : Nat → Prop} {Q : State → Prop} (C : Cx zp zs zm zt zc D cI cB cS cL_law 4 RL (some .boolean)) {x0 L : Nat} {xs : Nat → Int32} (hX : va_X x0 L xs zs zs.heap) (hbl : x0 < zs.heap.size) (hbA : ¬ A x0) (hL : L ≤ 384) {a b : Nat → Nat} {i : Nat} (hi : i + 6 ≤ L) {wc wm : va_W} (hI : INV a b cI cB cS wc wm) (kk : ∀ wc wm, INV a b cI cB cS wc wm → V zp l ze room_1 zs zm zav zb zt zc D (IM A zs) Q 46 806 4 (wc ++ wm) [(3, .int (nI i)), (2, .ref (b 0)), (1, .ref (a 0)), (0, .ref x0)] 1179 []) : V zp l ze room_1 zs zm zav zb zt zc D (IM A zs) Q 46 806 4 (wc ++ wm) [(3, .int (nI i)), (2, .ref (b 0)), (1, .ref (a 0)), (0, .ref x0)] 554 [] := by
  obtain ⟨⟨f1, e1⟩, f2, e2⟩ := hI.heads
  obtain ⟨P1, P2, m1, m2, hh⟩ := inv_delay (l := l) (D := D) hI (xs (i + 1))
  refine v_aload_n C dL_law_554 2 rfl ?_
  refine v_aload_n C dL_law_555 3 rfl ?_
  refine v_iload_n C dL_law_556 0 rfl ?_
  refine v_iconst C 1 dL_law_557 (by decide) ?_
  refine v_iadd C dL_law_558 ?_
  refine v_sld C hX hbl hbA (i + 1) (nI_add i 1) (by omega) (by omega) dL_law_559 ?_
  refine v_cM C l_L_58 m1 (by decide) dL_law_560 e1 rfl rfl (rest := []) rfl (Nat.le_of_ble_eq_true rfl) (by decide) (fun r1 w1 p1 => ?_)
  refine v_aload_n C dL_law_563 1 rfl ?_
  refine v_aload_n C dL_law_564 3 rfl ?_
  refine v_iload_n C dL_law_565 0 rfl ?_
  refine v_iconst C 1 dL_law_566 (by decide) ?_
  refine v_iadd C dL_law_567 ?_
  refine v_sld C hX hbl hbA (i + 1) (nI_add i 1) (by omega) (by omega) dL_law_568 ?_
  refine v_cM C l_L_61 m2 (by decide) dL_law_569 e2 rfl rfl (rest := [.int r1]) rfl (Nat.le_of_ble_eq_true rfl) (by decide) (fun r2 w2 p2 => ?_)
  obtain ⟨rfl, hI2⟩ := hh r1 w1 r2 w2 p1 p2
  exact v_icmp_eq C 1179 dL_law_572 (by decide) (fun _ => kk w1 w2 hI2) (fun h => absurd rfl h)
set_option maxHeartbeats 4000000 in
set_option maxRecDepth 100000 in
theorem law_c11 {zp : Program} {l : Launch} {ze : Env} {zs : State} {zm : MethodId} {zav : Array Value} {zb : List Frame} {zt : Method} {zc : Code} {D : va_G} {cI cB cS : ClassId} {A : Nat → Prop} {Q : State → Prop} (C : Cx zp zs zm zt zc D cI cB cS cL_law 4 RL (some .boolean)) {x0 L : Nat} {xs : Nat → Int32} (hX : va_X x0 L xs zs zs.heap) (hbl : x0 < zs.heap.size) (hbA : ¬ A x0) (hL : L ≤ 384) {a b : Nat → Nat} {i : Nat} (hi : i + 6 ≤ L) {wc wm : va_W} (hI : INV a b cI cB cS wc wm) (kk : ∀ wc wm, INV a b cI cB cS wc wm → V zp l ze room_1 zs zm zav zb zt zc D (IM A zs) Q 46 806 4 (wc ++ wm) [(3, .int (nI i)), (2, .ref (b 0)), (1, .ref (a 0)), (0, .ref x0)] 1179 []) : V zp l ze room_1 zs zm zav zb zt zc D (IM A zs) Q 46 806 4 (wc ++ wm) [(3, .int (nI i)), (2, .ref (b 0)), (1, .ref (a 0)), (0, .ref x0)] 577 [] := by
  obtain ⟨⟨f1, e1⟩, f2, e2⟩ := hI.heads
  obtain ⟨P1, P2, m1, m2, hh⟩ := inv_bribe (l := l) (D := D) hI (xs (i + 1)) (xs (i + 2)) (xs (i + 3)) (xs (i + 4)) (xs (i + 5))
  refine v_aload_n C dL_law_577 2 rfl ?_
  refine v_aload_n C dL_law_578 3 rfl ?_
  refine v_iload_n C dL_law_579 0 rfl ?_
  refine v_iconst C 1 dL_law_580 (by decide) ?_
  refine v_iadd C dL_law_581 ?_
  refine v_sld C hX hbl hbA (i + 1) (nI_add i 1) (by omega) (by omega) dL_law_582 ?_
  refine v_aload_n C dL_law_583 3 rfl ?_
  refine v_iload_n C dL_law_584 0 rfl ?_
  refine v_iconst C 2 dL_law_585 (by decide) ?_
  refine v_iadd C dL_law_586 ?_
  refine v_sld C hX hbl hbA (i + 2) (nI_add i 2) (by omega) (by omega) dL_law_587 ?_
  refine v_aload_n C dL_law_588 3 rfl ?_
  refine v_iload_n C dL_law_589 0 rfl ?_
  refine v_iconst C 3 dL_law_590 (by decide) ?_
  refine v_iadd C dL_law_591 ?_
  refine v_sld C hX hbl hbA (i + 3) (nI_add i 3) (by omega) (by omega) dL_law_592 ?_
  refine v_aload_n C dL_law_593 3 rfl ?_
  refine v_iload_n C dL_law_594 0 rfl ?_
  refine v_iconst C 4 dL_law_595 (by decide) ?_
  refine v_iadd C dL_law_596 ?_
  refine v_sld C hX hbl hbA (i + 4) (nI_add i 4) (by omega) (by omega) dL_law_597 ?_
  refine v_aload_n C dL_law_598 3 rfl ?_
  refine v_iload_n C dL_law_599 0 rfl ?_
  refine v_iconst C 5 dL_law_600 (by decide) ?_
  refine v_iadd C dL_law_601 ?_
  refine v_sld C hX hbl hbA (i + 5) (nI_add i 5) (by omega) (by omega) dL_law_602 ?_
  refine v_cM C l_L_62 m1 (by decide) dL_law_603 e1 rfl rfl (rest := []) rfl (Nat.le_of_ble_eq_true rfl) (by decide) (fun r1 w1 p1 => ?_)
  refine v_aload_n C dL_law_606 1 rfl ?_
  refine v_aload_n C dL_law_607 3 rfl ?_
  refine v_iload_n C dL_law_608 0 rfl ?_
  refine v_iconst C 1 dL_law_609 (by decide) ?_
  refine v_iadd C dL_law_610 ?_
  refine v_sld C hX hbl hbA (i + 1) (nI_add i 1) (by omega) (by omega) dL_law_611 ?_
  refine v_aload_n C dL_law_612 3 rfl ?_
  refine v_iload_n C dL_law_613 0 rfl ?_
  refine v_iconst C 2 dL_law_614 (by decide) ?_
  refine v_iadd C dL_law_615 ?_
  refine v_sld C hX hbl hbA (i + 2) (nI_add i 2) (by omega) (by omega) dL_law_616 ?_
  refine v_aload_n C dL_law_617 3 rfl ?_
  refine v_iload_n C dL_law_618 0 rfl ?_
  refine v_iconst C 3 dL_law_619 (by decide) ?_
  refine v_iadd C dL_law_620 ?_
  refine v_sld C hX hbl hbA (i + 3) (nI_add i 3) (by omega) (by omega) dL_law_621 ?_
  refine v_aload_n C dL_law_622 3 rfl ?_
  refine v_iload_n C dL_law_623 0 rfl ?_
  refine v_iconst C 4 dL_law_624 (by decide) ?_
  refine v_iadd C dL_law_625 ?_
  refine v_sld C hX hbl hbA (i + 4) (nI_add i 4) (by omega) (by omega) dL_law_626 ?_
  refine v_aload_n C dL_law_627 3 rfl ?_
  refine v_iload_n C dL_law_628 0 rfl ?_
  refine v_iconst C 5 dL_law_629 (by decide) ?_
  refine v_iadd C dL_law_630 ?_
  refine v_sld C hX hbl hbA (i + 5) (nI_add i 5) (by omega) (by omega) dL_law_631 ?_
  refine v_cM C l_L_65 m2 (by decide) dL_law_632 e2 rfl rfl (rest := [.int r1]) rfl (Nat.le_of_ble_eq_true rfl) (by decide) (fun r2 w2 p2 => ?_)
  obtain ⟨rfl, hI2⟩ := hh r1 w1 r2 w2 p1 p2
  exact v_icmp_eq C 1179 dL_law_635 (by decide) (fun _ => kk w1 w2 hI2) (fun h => absurd rfl h)
set_option maxHeartbeats 4000000 in
set_option maxRecDepth 100000 in
theorem law_c12 {zp : Program} {l : Launch} {ze : Env} {zs : State} {zm : MethodId} {zav : Array Value} {zb : List Frame} {zt : Method} {zc : Code} {D : va_G} {cI cB cS : ClassId} {A : Nat → Prop} {Q : State → Prop} (C : Cx zp zs zm zt zc D cI cB cS cL_law 4 RL (some .boolean)) {x0 L : Nat} {xs : Nat → Int32} (hX : va_X x0 L xs zs zs.heap) (hbl : x0 < zs.heap.size) (hbA : ¬ A x0) (hL : L ≤ 384) {a b : Nat → Nat} {i : Nat} (hi : i + 6 ≤ L) {wc wm : va_W} (hI : INV a b cI cB cS wc wm) (kk : ∀ wc wm, INV a b cI cB cS wc wm → V zp l ze room_1 zs zm zav zb zt zc D (IM A zs) Q 46 806 4 (wc ++ wm) [(3, .int (nI i)), (2, .ref (b 0)), (1, .ref (a 0)), (0, .ref x0)] 1179 []) : V zp l ze room_1 zs zm zav zb zt zc D (IM A zs) Q 46 806 4 (wc ++ wm) [(3, .int (nI i)), (2, .ref (b 0)), (1, .ref (a 0)), (0, .ref x0)] 640 [] := by
  obtain ⟨⟨f1, e1⟩, f2, e2⟩ := hI.heads
  obtain ⟨P1, P2, m1, m2, hh⟩ := inv_strikes (l := l) (D := D) hI (xs (i + 1))
  refine v_aload_n C dL_law_640 2 rfl ?_
  refine v_aload_n C dL_law_641 3 rfl ?_
  refine v_iload_n C dL_law_642 0 rfl ?_
  refine v_iconst C 1 dL_law_643 (by decide) ?_
  refine v_iadd C dL_law_644 ?_
  refine v_sld C hX hbl hbA (i + 1) (nI_add i 1) (by omega) (by omega) dL_law_645 ?_
  refine v_cM C l_L_66 m1 (by decide) dL_law_646 e1 rfl rfl (rest := []) rfl (Nat.le_of_ble_eq_true rfl) (by decide) (fun r1 w1 p1 => ?_)
  refine v_aload_n C dL_law_649 1 rfl ?_
  refine v_aload_n C dL_law_650 3 rfl ?_
  refine v_iload_n C dL_law_651 0 rfl ?_
  refine v_iconst C 1 dL_law_652 (by decide) ?_
  refine v_iadd C dL_law_653 ?_
  refine v_sld C hX hbl hbA (i + 1) (nI_add i 1) (by omega) (by omega) dL_law_654 ?_
  refine v_cM C l_L_69 m2 (by decide) dL_law_655 e2 rfl rfl (rest := [.int r1]) rfl (Nat.le_of_ble_eq_true rfl) (by decide) (fun r2 w2 p2 => ?_)
  obtain ⟨rfl, hI2⟩ := hh r1 w1 r2 w2 p1 p2
  exact v_icmp_eq C 1179 dL_law_658 (by decide) (fun _ => kk w1 w2 hI2) (fun h => absurd rfl h)
set_option maxHeartbeats 4000000 in
set_option maxRecDepth 100000 in
theorem law_c13 {zp : Program} {l : Launch} {ze : Env} {zs : State} {zm : MethodId} {zav : Array Value} {zb : List Frame} {zt : Method} {zc : Code} {D : va_G} {cI cB cS : ClassId} {A : Nat → Prop} {Q : State → Prop} (C : Cx zp zs zm zt zc D cI cB cS cL_law 4 RL (some .boolean)) {x0 L : Nat} {xs : Nat → Int32} (hX : va_X x0 L xs zs zs.heap) (hbl : x0 < zs.heap.size) (hbA : ¬ A x0) (hL : L ≤ 384) {a b : Nat → Nat} {i : Nat} (hi : i + 6 ≤ L) {wc wm : va_W} (hI : INV a b cI cB cS wc wm) (kk : ∀ wc wm, INV a b cI cB cS wc wm → V zp l ze room_1 zs zm zav zb zt zc D (IM A zs) Q 46 806 4 (wc ++ wm) [(3, .int (nI i)), (2, .ref (b 0)), (1, .ref (a 0)), (0, .ref x0)] 1179 []) : V zp l ze room_1 zs zm zav zb zt zc D (IM A zs) Q 46 806 4 (wc ++ wm) [(3, .int (nI i)), (2, .ref (b 0)), (1, .ref (a 0)), (0, .ref x0)] 663 [] := by
  obtain ⟨⟨f1, e1⟩, f2, e2⟩ := hI.heads
  obtain ⟨P1, P2, m1, m2, hh⟩ := inv_worth (l := l) (D := D) hI (xs (i + 1))
  refine v_aload_n C dL_law_663 2 rfl ?_
  refine v_aload_n C dL_law_664 3 rfl ?_
  refine v_iload_n C dL_law_665 0 rfl ?_
  refine v_iconst C 1 dL_law_666 (by decide) ?_
  refine v_iadd C dL_law_667 ?_
  refine v_sld C hX hbl hbA (i + 1) (nI_add i 1) (by omega) (by omega) dL_law_668 ?_
  refine v_cM C l_L_70 m1 (by decide) dL_law_669 e1 rfl rfl (rest := []) rfl (Nat.le_of_ble_eq_true rfl) (by decide) (fun r1 w1 p1 => ?_)
  refine v_aload_n C dL_law_672 1 rfl ?_
  refine v_aload_n C dL_law_673 3 rfl ?_
  refine v_iload_n C dL_law_674 0 rfl ?_
  refine v_iconst C 1 dL_law_675 (by decide) ?_
  refine v_iadd C dL_law_676 ?_
  refine v_sld C hX hbl hbA (i + 1) (nI_add i 1) (by omega) (by omega) dL_law_677 ?_
  refine v_cM C l_L_73 m2 (by decide) dL_law_678 e2 rfl rfl (rest := [.int r1]) rfl (Nat.le_of_ble_eq_true rfl) (by decide) (fun r2 w2 p2 => ?_)
  obtain ⟨rfl, hI2⟩ := hh r1 w1 r2 w2 p1 p2
  exact v_icmp_eq C 1179 dL_law_681 (by decide) (fun _ => kk w1 w2 hI2) (fun h => absurd rfl h)
set_option maxHeartbeats 4000000 in
set_option maxRecDepth 100000 in
theorem law_c14 {zp : Program} {l : Launch} {ze : Env} {zs : State} {zm : MethodId} {zav : Array Value} {zb : List Frame} {zt : Method} {zc : Code} {D : va_G} {cI cB cS : ClassId} {A : Nat → Prop} {Q : State → Prop} (C : Cx zp zs zm zt zc D cI cB cS cL_law 4 RL (some .boolean)) {x0 L : Nat} {xs : Nat → Int32} (hX : va_X x0 L xs zs zs.heap) (hbl : x0 < zs.heap.size) (hbA : ¬ A x0) (hL : L ≤ 384) {a b : Nat → Nat} {i : Nat} (hi : i + 6 ≤ L) {wc wm : va_W} (hI : INV a b cI cB cS wc wm) (kk : ∀ wc wm, INV a b cI cB cS wc wm → V zp l ze room_1 zs zm zav zb zt zc D (IM A zs) Q 46 806 4 (wc ++ wm) [(3, .int (nI i)), (2, .ref (b 0)), (1, .ref (a 0)), (0, .ref x0)] 1179 []) : V zp l ze room_1 zs zm zav zb zt zc D (IM A zs) Q 46 806 4 (wc ++ wm) [(3, .int (nI i)), (2, .ref (b 0)), (1, .ref (a 0)), (0, .ref x0)] 686 [] := by
  obtain ⟨⟨f1, e1⟩, f2, e2⟩ := hI.heads
  obtain ⟨P1, P2, m1, m2, hh⟩ := inv_reading (l := l) (D := D) hI (xs (i + 1)) (xs (i + 2))
  refine v_aload_n C dL_law_686 2 rfl ?_
  refine v_aload_n C dL_law_687 3 rfl ?_
  refine v_iload_n C dL_law_688 0 rfl ?_
  refine v_iconst C 1 dL_law_689 (by decide) ?_
  refine v_iadd C dL_law_690 ?_
  refine v_sld C hX hbl hbA (i + 1) (nI_add i 1) (by omega) (by omega) dL_law_691 ?_
  refine v_aload_n C dL_law_692 3 rfl ?_
  refine v_iload_n C dL_law_693 0 rfl ?_
  refine v_iconst C 2 dL_law_694 (by decide) ?_
  refine v_iadd C dL_law_695 ?_
  refine v_sld C hX hbl hbA (i + 2) (nI_add i 2) (by omega) (by omega) dL_law_696 ?_
  refine v_cM C l_L_74 m1 (by decide) dL_law_697 e1 rfl rfl (rest := []) rfl (Nat.le_of_ble_eq_true rfl) (by decide) (fun r1 w1 p1 => ?_)
  refine v_aload_n C dL_law_700 1 rfl ?_
  refine v_aload_n C dL_law_701 3 rfl ?_
  refine v_iload_n C dL_law_702 0 rfl ?_
  refine v_iconst C 1 dL_law_703 (by decide) ?_
  refine v_iadd C dL_law_704 ?_
  refine v_sld C hX hbl hbA (i + 1) (nI_add i 1) (by omega) (by omega) dL_law_705 ?_
  refine v_aload_n C dL_law_706 3 rfl ?_
  refine v_iload_n C dL_law_707 0 rfl ?_
  refine v_iconst C 2 dL_law_708 (by decide) ?_
  refine v_iadd C dL_law_709 ?_
  refine v_sld C hX hbl hbA (i + 2) (nI_add i 2) (by omega) (by omega) dL_law_710 ?_
  refine v_cM C l_L_77 m2 (by decide) dL_law_711 e2 rfl rfl (rest := [.int r1]) rfl (Nat.le_of_ble_eq_true rfl) (by decide) (fun r2 w2 p2 => ?_)
  obtain ⟨rfl, hI2⟩ := hh r1 w1 r2 w2 p1 p2
  exact v_icmp_eq C 1179 dL_law_714 (by decide) (fun _ => kk w1 w2 hI2) (fun h => absurd rfl h)
set_option maxHeartbeats 4000000 in
set_option maxRecDepth 100000 in
theorem law_c15 {zp : Program} {l : Launch} {ze : Env} {zs : State} {zm : MethodId} {zav : Array Value} {zb : List Frame} {zt : Method} {zc : Code} {D : va_G} {cI cB cS : ClassId} {A : Nat → Prop} {Q : State → Prop} (C : Cx zp zs zm zt zc D cI cB cS cL_law 4 RL (some .boolean)) {x0 L : Nat} {xs : Nat → Int32} (hX : va_X x0 L xs zs zs.heap) (hbl : x0 < zs.heap.size) (hbA : ¬ A x0) (hL : L ≤ 384) {a b : Nat → Nat} {i : Nat} (hi : i + 6 ≤ L) {wc wm : va_W} (hI : INV a b cI cB cS wc wm) (kk : ∀ wc wm, INV a b cI cB cS wc wm → V zp l ze room_1 zs zm zav zb zt zc D (IM A zs) Q 46 806 4 (wc ++ wm) [(3, .int (nI i)), (2, .ref (b 0)), (1, .ref (a 0)), (0, .ref x0)] 1179 []) : V zp l ze room_1 zs zm zav zb zt zc D (IM A zs) Q 46 806 4 (wc ++ wm) [(3, .int (nI i)), (2, .ref (b 0)), (1, .ref (a 0)), (0, .ref x0)] 719 [] := by
  obtain ⟨⟨f1, e1⟩, f2, e2⟩ := hI.heads
  obtain ⟨P1, P2, m1, m2, hh⟩ := inv_back (l := l) (D := D) hI (xs (i + 1))
  refine v_aload_n C dL_law_719 2 rfl ?_
  refine v_aload_n C dL_law_720 3 rfl ?_
  refine v_iload_n C dL_law_721 0 rfl ?_
  refine v_iconst C 1 dL_law_722 (by decide) ?_
  refine v_iadd C dL_law_723 ?_
  refine v_sld C hX hbl hbA (i + 1) (nI_add i 1) (by omega) (by omega) dL_law_724 ?_
  refine v_cM C l_L_78 m1 (by decide) dL_law_725 e1 rfl rfl (rest := []) rfl (Nat.le_of_ble_eq_true rfl) (by decide) (fun r1 w1 p1 => ?_)
  refine v_aload_n C dL_law_728 1 rfl ?_
  refine v_aload_n C dL_law_729 3 rfl ?_
  refine v_iload_n C dL_law_730 0 rfl ?_
  refine v_iconst C 1 dL_law_731 (by decide) ?_
  refine v_iadd C dL_law_732 ?_
  refine v_sld C hX hbl hbA (i + 1) (nI_add i 1) (by omega) (by omega) dL_law_733 ?_
  refine v_cM C l_L_81 m2 (by decide) dL_law_734 e2 rfl rfl (rest := [.int r1]) rfl (Nat.le_of_ble_eq_true rfl) (by decide) (fun r2 w2 p2 => ?_)
  obtain ⟨rfl, hI2⟩ := hh r1 w1 r2 w2 p1 p2
  exact v_icmp_eq C 1179 dL_law_737 (by decide) (fun _ => kk w1 w2 hI2) (fun h => absurd rfl h)
set_option maxHeartbeats 4000000 in
set_option maxRecDepth 100000 in
theorem law_c16 {zp : Program} {l : Launch} {ze : Env} {zs : State} {zm : MethodId} {zav : Array Value} {zb : List Frame} {zt : Method} {zc : Code} {D : va_G} {cI cB cS : ClassId} {A : Nat → Prop} {Q : State → Prop} (C : Cx zp zs zm zt zc D cI cB cS cL_law 4 RL (some .boolean)) {x0 L : Nat} {xs : Nat → Int32} (hX : va_X x0 L xs zs zs.heap) (hbl : x0 < zs.heap.size) (hbA : ¬ A x0) (hL : L ≤ 384) {a b : Nat → Nat} {i : Nat} (hi : i + 6 ≤ L) {wc wm : va_W} (hI : INV a b cI cB cS wc wm) (kk : ∀ wc wm, INV a b cI cB cS wc wm → V zp l ze room_1 zs zm zav zb zt zc D (IM A zs) Q 46 806 4 (wc ++ wm) [(3, .int (nI i)), (2, .ref (b 0)), (1, .ref (a 0)), (0, .ref x0)] 1179 []) : V zp l ze room_1 zs zm zav zb zt zc D (IM A zs) Q 46 806 4 (wc ++ wm) [(3, .int (nI i)), (2, .ref (b 0)), (1, .ref (a 0)), (0, .ref x0)] 742 [] := by
  obtain ⟨⟨f1, e1⟩, f2, e2⟩ := hI.heads
  obtain ⟨P1, P2, m1, m2, hh⟩ := inv_codes (l := l) (D := D) hI (xs (i + 1))
  refine v_aload_n C dL_law_742 2 rfl ?_
  refine v_aload_n C dL_law_743 3 rfl ?_
  refine v_iload_n C dL_law_744 0 rfl ?_
  refine v_iconst C 1 dL_law_745 (by decide) ?_
  refine v_iadd C dL_law_746 ?_
  refine v_sld C hX hbl hbA (i + 1) (nI_add i 1) (by omega) (by omega) dL_law_747 ?_
  refine v_cM C l_L_82 m1 (by decide) dL_law_748 e1 rfl rfl (rest := []) rfl (Nat.le_of_ble_eq_true rfl) (by decide) (fun r1 w1 p1 => ?_)
  refine v_aload_n C dL_law_751 1 rfl ?_
  refine v_aload_n C dL_law_752 3 rfl ?_
  refine v_iload_n C dL_law_753 0 rfl ?_
  refine v_iconst C 1 dL_law_754 (by decide) ?_
  refine v_iadd C dL_law_755 ?_
  refine v_sld C hX hbl hbA (i + 1) (nI_add i 1) (by omega) (by omega) dL_law_756 ?_
  refine v_cM C l_L_85 m2 (by decide) dL_law_757 e2 rfl rfl (rest := [.int r1]) rfl (Nat.le_of_ble_eq_true rfl) (by decide) (fun r2 w2 p2 => ?_)
  obtain ⟨rfl, hI2⟩ := hh r1 w1 r2 w2 p1 p2
  exact v_icmp_eq C 1179 dL_law_760 (by decide) (fun _ => kk w1 w2 hI2) (fun h => absurd rfl h)
set_option maxHeartbeats 4000000 in
set_option maxRecDepth 100000 in
theorem law_c17 {zp : Program} {l : Launch} {ze : Env} {zs : State} {zm : MethodId} {zav : Array Value} {zb : List Frame} {zt : Method} {zc : Code} {D : va_G} {cI cB cS : ClassId} {A : Nat → Prop} {Q : State → Prop} (C : Cx zp zs zm zt zc D cI cB cS cL_law 4 RL (some .boolean)) {x0 L : Nat} {xs : Nat → Int32} (hX : va_X x0 L xs zs zs.heap) (hbl : x0 < zs.heap.size) (hbA : ¬ A x0) (hL : L ≤ 384) {a b : Nat → Nat} {i : Nat} (hi : i + 6 ≤ L) {wc wm : va_W} (hI : INV a b cI cB cS wc wm) (kk : ∀ wc wm, INV a b cI cB cS wc wm → V zp l ze room_1 zs zm zav zb zt zc D (IM A zs) Q 46 806 4 (wc ++ wm) [(3, .int (nI i)), (2, .ref (b 0)), (1, .ref (a 0)), (0, .ref x0)] 1179 []) : V zp l ze room_1 zs zm zav zb zt zc D (IM A zs) Q 46 806 4 (wc ++ wm) [(3, .int (nI i)), (2, .ref (b 0)), (1, .ref (a 0)), (0, .ref x0)] 765 [] := by
  obtain ⟨⟨f1, e1⟩, f2, e2⟩ := hI.heads
  obtain ⟨P1, P2, m1, m2, hh⟩ := inv_kinds (l := l) (D := D) hI (xs (i + 1))
  refine v_aload_n C dL_law_765 2 rfl ?_
  refine v_aload_n C dL_law_766 3 rfl ?_
  refine v_iload_n C dL_law_767 0 rfl ?_
  refine v_iconst C 1 dL_law_768 (by decide) ?_
  refine v_iadd C dL_law_769 ?_
  refine v_sld C hX hbl hbA (i + 1) (nI_add i 1) (by omega) (by omega) dL_law_770 ?_
  refine v_cM C l_L_86 m1 (by decide) dL_law_771 e1 rfl rfl (rest := []) rfl (Nat.le_of_ble_eq_true rfl) (by decide) (fun r1 w1 p1 => ?_)
  refine v_aload_n C dL_law_774 1 rfl ?_
  refine v_aload_n C dL_law_775 3 rfl ?_
  refine v_iload_n C dL_law_776 0 rfl ?_
  refine v_iconst C 1 dL_law_777 (by decide) ?_
  refine v_iadd C dL_law_778 ?_
  refine v_sld C hX hbl hbA (i + 1) (nI_add i 1) (by omega) (by omega) dL_law_779 ?_
  refine v_cM C l_L_89 m2 (by decide) dL_law_780 e2 rfl rfl (rest := [.int r1]) rfl (Nat.le_of_ble_eq_true rfl) (by decide) (fun r2 w2 p2 => ?_)
  obtain ⟨rfl, hI2⟩ := hh r1 w1 r2 w2 p1 p2
  exact v_icmp_eq C 1179 dL_law_783 (by decide) (fun _ => kk w1 w2 hI2) (fun h => absurd rfl h)
set_option maxHeartbeats 4000000 in
set_option maxRecDepth 100000 in
theorem law_c18 {zp : Program} {l : Launch} {ze : Env} {zs : State} {zm : MethodId} {zav : Array Value} {zb : List Frame} {zt : Method} {zc : Code} {D : va_G} {cI cB cS : ClassId} {A : Nat → Prop} {Q : State → Prop} (C : Cx zp zs zm zt zc D cI cB cS cL_law 4 RL (some .boolean)) {x0 L : Nat} {xs : Nat → Int32} (hX : va_X x0 L xs zs zs.heap) (hbl : x0 < zs.heap.size) (hbA : ¬ A x0) (hL : L ≤ 384) {a b : Nat → Nat} {i : Nat} (hi : i + 6 ≤ L) {wc wm : va_W} (hI : INV a b cI cB cS wc wm) (kk : ∀ wc wm, INV a b cI cB cS wc wm → V zp l ze room_1 zs zm zav zb zt zc D (IM A zs) Q 46 806 4 (wc ++ wm) [(3, .int (nI i)), (2, .ref (b 0)), (1, .ref (a 0)), (0, .ref x0)] 1179 []) : V zp l ze room_1 zs zm zav zb zt zc D (IM A zs) Q 46 806 4 (wc ++ wm) [(3, .int (nI i)), (2, .ref (b 0)), (1, .ref (a 0)), (0, .ref x0)] 788 [] := by
  obtain ⟨⟨f1, e1⟩, f2, e2⟩ := hI.heads
  obtain ⟨P1, P2, m1, m2, hh⟩ := inv_treated (l := l) (D := D) hI 
  refine v_aload_n C dL_law_788 2 rfl ?_
  refine v_cM C l_L_90 m1 (by decide) dL_law_789 e1 rfl rfl (rest := []) rfl (Nat.le_of_ble_eq_true rfl) (by decide) (fun r1 w1 p1 => ?_)
  refine v_aload_n C dL_law_792 1 rfl ?_
  refine v_cM C l_L_94 m2 (by decide) dL_law_793 e2 rfl rfl (rest := [.int r1]) rfl (Nat.le_of_ble_eq_true rfl) (by decide) (fun r2 w2 p2 => ?_)
  obtain ⟨rfl, hI2⟩ := hh r1 w1 r2 w2 p1 p2
  exact v_icmp_eq C 1179 dL_law_796 (by decide) (fun _ => kk w1 w2 hI2) (fun h => absurd rfl h)
set_option maxHeartbeats 4000000 in
set_option maxRecDepth 100000 in
theorem law_c19 {zp : Program} {l : Launch} {ze : Env} {zs : State} {zm : MethodId} {zav : Array Value} {zb : List Frame} {zt : Method} {zc : Code} {D : va_G} {cI cB cS : ClassId} {A : Nat → Prop} {Q : State → Prop} (C : Cx zp zs zm zt zc D cI cB cS cL_law 4 RL (some .boolean)) {x0 L : Nat} {xs : Nat → Int32} (hX : va_X x0 L xs zs zs.heap) (hbl : x0 < zs.heap.size) (hbA : ¬ A x0) (hL : L ≤ 384) {a b : Nat → Nat} {i : Nat} (hi : i + 6 ≤ L) {wc wm : va_W} (hI : INV a b cI cB cS wc wm) (kk : ∀ wc wm, INV a b cI cB cS wc wm → V zp l ze room_1 zs zm zav zb zt zc D (IM A zs) Q 46 806 4 (wc ++ wm) [(3, .int (nI i)), (2, .ref (b 0)), (1, .ref (a 0)), (0, .ref x0)] 1179 []) : V zp l ze room_1 zs zm zav zb zt zc D (IM A zs) Q 46 806 4 (wc ++ wm) [(3, .int (nI i)), (2, .ref (b 0)), (1, .ref (a 0)), (0, .ref x0)] 801 [] := by
  obtain ⟨⟨f1, e1⟩, f2, e2⟩ := hI.heads
  obtain ⟨P1, P2, m1, m2, hh⟩ := inv_odds (l := l) (D := D) hI (xs (i + 1)) (xs (i + 2))
  refine v_aload_n C dL_law_801 2 rfl ?_
  refine v_aload_n C dL_law_802 3 rfl ?_
  refine v_iload_n C dL_law_803 0 rfl ?_
  refine v_iconst C 1 dL_law_804 (by decide) ?_
  refine v_iadd C dL_law_805 ?_
  refine v_sld C hX hbl hbA (i + 1) (nI_add i 1) (by omega) (by omega) dL_law_806 ?_
  refine v_aload_n C dL_law_807 3 rfl ?_
  refine v_iload_n C dL_law_808 0 rfl ?_
  refine v_iconst C 2 dL_law_809 (by decide) ?_
  refine v_iadd C dL_law_810 ?_
  refine v_sld C hX hbl hbA (i + 2) (nI_add i 2) (by omega) (by omega) dL_law_811 ?_
  refine v_cMl C l_L_95 m1 (by decide) dL_law_812 e1 rfl rfl (rest := []) rfl (Nat.le_of_ble_eq_true rfl) (by decide) (fun r1 w1 p1 => ?_)
  refine v_aload_n C dL_law_815 1 rfl ?_
  refine v_aload_n C dL_law_816 3 rfl ?_
  refine v_iload_n C dL_law_817 0 rfl ?_
  refine v_iconst C 1 dL_law_818 (by decide) ?_
  refine v_iadd C dL_law_819 ?_
  refine v_sld C hX hbl hbA (i + 1) (nI_add i 1) (by omega) (by omega) dL_law_820 ?_
  refine v_aload_n C dL_law_821 3 rfl ?_
  refine v_iload_n C dL_law_822 0 rfl ?_
  refine v_iconst C 2 dL_law_823 (by decide) ?_
  refine v_iadd C dL_law_824 ?_
  refine v_sld C hX hbl hbA (i + 2) (nI_add i 2) (by omega) (by omega) dL_law_825 ?_
  refine v_cMl C l_L_99 m2 (by decide) dL_law_826 e2 rfl rfl (rest := [.long r1]) rfl (Nat.le_of_ble_eq_true rfl) (by decide) (fun r2 w2 p2 => ?_)
  obtain ⟨rfl, hI2⟩ := hh r1 w1 r2 w2 p1 p2
  refine v_lcmp C dL_law_829 ?_
  refine v_eqi 0 (lc_self r1) ?_
  exact v_if_eq C 1179 dL_law_830 (by decide) (fun _ => kk w1 w2 hI2) (fun h => absurd rfl h)
set_option maxHeartbeats 4000000 in
set_option maxRecDepth 100000 in
theorem law_c20 {zp : Program} {l : Launch} {ze : Env} {zs : State} {zm : MethodId} {zav : Array Value} {zb : List Frame} {zt : Method} {zc : Code} {D : va_G} {cI cB cS : ClassId} {A : Nat → Prop} {Q : State → Prop} (C : Cx zp zs zm zt zc D cI cB cS cL_law 4 RL (some .boolean)) {x0 L : Nat} {xs : Nat → Int32} (hX : va_X x0 L xs zs zs.heap) (hbl : x0 < zs.heap.size) (hbA : ¬ A x0) (hL : L ≤ 384) {a b : Nat → Nat} {i : Nat} (hi : i + 6 ≤ L) {wc wm : va_W} (hI : INV a b cI cB cS wc wm) (kk : ∀ wc wm, INV a b cI cB cS wc wm → V zp l ze room_1 zs zm zav zb zt zc D (IM A zs) Q 46 806 4 (wc ++ wm) [(3, .int (nI i)), (2, .ref (b 0)), (1, .ref (a 0)), (0, .ref x0)] 1179 []) : V zp l ze room_1 zs zm zav zb zt zc D (IM A zs) Q 46 806 4 (wc ++ wm) [(3, .int (nI i)), (2, .ref (b 0)), (1, .ref (a 0)), (0, .ref x0)] 835 [] := by
  obtain ⟨⟨f1, e1⟩, f2, e2⟩ := hI.heads
  obtain ⟨P1, P2, m1, m2, hh⟩ := inv_sheet (l := l) (D := D) hI (xs (i + 1)) (xs (i + 2)) (xs (i + 3))
  refine v_aload_n C dL_law_835 2 rfl ?_
  refine v_aload_n C dL_law_836 3 rfl ?_
  refine v_iload_n C dL_law_837 0 rfl ?_
  refine v_iconst C 1 dL_law_838 (by decide) ?_
  refine v_iadd C dL_law_839 ?_
  refine v_sld C hX hbl hbA (i + 1) (nI_add i 1) (by omega) (by omega) dL_law_840 ?_
  refine v_aload_n C dL_law_841 3 rfl ?_
  refine v_iload_n C dL_law_842 0 rfl ?_
  refine v_iconst C 2 dL_law_843 (by decide) ?_
  refine v_iadd C dL_law_844 ?_
  refine v_sld C hX hbl hbA (i + 2) (nI_add i 2) (by omega) (by omega) dL_law_845 ?_
  refine v_aload_n C dL_law_846 3 rfl ?_
  refine v_iload_n C dL_law_847 0 rfl ?_
  refine v_iconst C 3 dL_law_848 (by decide) ?_
  refine v_iadd C dL_law_849 ?_
  refine v_sld C hX hbl hbA (i + 3) (nI_add i 3) (by omega) (by omega) dL_law_850 ?_
  refine v_cM C l_L_100 m1 (by decide) dL_law_851 e1 rfl rfl (rest := []) rfl (Nat.le_of_ble_eq_true rfl) (by decide) (fun r1 w1 p1 => ?_)
  refine v_aload_n C dL_law_854 1 rfl ?_
  refine v_aload_n C dL_law_855 3 rfl ?_
  refine v_iload_n C dL_law_856 0 rfl ?_
  refine v_iconst C 1 dL_law_857 (by decide) ?_
  refine v_iadd C dL_law_858 ?_
  refine v_sld C hX hbl hbA (i + 1) (nI_add i 1) (by omega) (by omega) dL_law_859 ?_
  refine v_aload_n C dL_law_860 3 rfl ?_
  refine v_iload_n C dL_law_861 0 rfl ?_
  refine v_iconst C 2 dL_law_862 (by decide) ?_
  refine v_iadd C dL_law_863 ?_
  refine v_sld C hX hbl hbA (i + 2) (nI_add i 2) (by omega) (by omega) dL_law_864 ?_
  refine v_aload_n C dL_law_865 3 rfl ?_
  refine v_iload_n C dL_law_866 0 rfl ?_
  refine v_iconst C 3 dL_law_867 (by decide) ?_
  refine v_iadd C dL_law_868 ?_
  refine v_sld C hX hbl hbA (i + 3) (nI_add i 3) (by omega) (by omega) dL_law_869 ?_
  refine v_cM C l_L_104 m2 (by decide) dL_law_870 e2 rfl rfl (rest := [.int r1]) rfl (Nat.le_of_ble_eq_true rfl) (by decide) (fun r2 w2 p2 => ?_)
  obtain ⟨rfl, hI2⟩ := hh r1 w1 r2 w2 p1 p2
  exact v_icmp_eq C 1179 dL_law_873 (by decide) (fun _ => kk w1 w2 hI2) (fun h => absurd rfl h)
set_option maxHeartbeats 4000000 in
set_option maxRecDepth 100000 in
theorem law_c21 {zp : Program} {l : Launch} {ze : Env} {zs : State} {zm : MethodId} {zav : Array Value} {zb : List Frame} {zt : Method} {zc : Code} {D : va_G} {cI cB cS : ClassId} {A : Nat → Prop} {Q : State → Prop} (C : Cx zp zs zm zt zc D cI cB cS cL_law 4 RL (some .boolean)) {x0 L : Nat} {xs : Nat → Int32} (hX : va_X x0 L xs zs zs.heap) (hbl : x0 < zs.heap.size) (hbA : ¬ A x0) (hL : L ≤ 384) {a b : Nat → Nat} {i : Nat} (hi : i + 6 ≤ L) {wc wm : va_W} (hI : INV a b cI cB cS wc wm) (kk : ∀ wc wm, INV a b cI cB cS wc wm → V zp l ze room_1 zs zm zav zb zt zc D (IM A zs) Q 46 806 4 (wc ++ wm) [(3, .int (nI i)), (2, .ref (b 0)), (1, .ref (a 0)), (0, .ref x0)] 1179 []) : V zp l ze room_1 zs zm zav zb zt zc D (IM A zs) Q 46 806 4 (wc ++ wm) [(3, .int (nI i)), (2, .ref (b 0)), (1, .ref (a 0)), (0, .ref x0)] 878 [] := by
  obtain ⟨⟨f1, e1⟩, f2, e2⟩ := hI.heads
  obtain ⟨P1, P2, m1, m2, hh⟩ := inv_lose (l := l) (D := D) hI (xs (i + 1))
  refine v_aload_n C dL_law_878 2 rfl ?_
  refine v_aload_n C dL_law_879 3 rfl ?_
  refine v_iload_n C dL_law_880 0 rfl ?_
  refine v_iconst C 1 dL_law_881 (by decide) ?_
  refine v_iadd C dL_law_882 ?_
  refine v_sld C hX hbl hbA (i + 1) (nI_add i 1) (by omega) (by omega) dL_law_883 ?_
  refine v_cM C l_L_105 m1 (by decide) dL_law_884 e1 rfl rfl (rest := []) rfl (Nat.le_of_ble_eq_true rfl) (by decide) (fun r1 w1 p1 => ?_)
  refine v_aload_n C dL_law_887 1 rfl ?_
  refine v_aload_n C dL_law_888 3 rfl ?_
  refine v_iload_n C dL_law_889 0 rfl ?_
  refine v_iconst C 1 dL_law_890 (by decide) ?_
  refine v_iadd C dL_law_891 ?_
  refine v_sld C hX hbl hbA (i + 1) (nI_add i 1) (by omega) (by omega) dL_law_892 ?_
  refine v_cM C l_L_108 m2 (by decide) dL_law_893 e2 rfl rfl (rest := [.int r1]) rfl (Nat.le_of_ble_eq_true rfl) (by decide) (fun r2 w2 p2 => ?_)
  obtain ⟨rfl, hI2⟩ := hh r1 w1 r2 w2 p1 p2
  exact v_icmp_eq C 1179 dL_law_896 (by decide) (fun _ => kk w1 w2 hI2) (fun h => absurd rfl h)
set_option maxHeartbeats 4000000 in
set_option maxRecDepth 100000 in
theorem law_c22 {zp : Program} {l : Launch} {ze : Env} {zs : State} {zm : MethodId} {zav : Array Value} {zb : List Frame} {zt : Method} {zc : Code} {D : va_G} {cI cB cS : ClassId} {A : Nat → Prop} {Q : State → Prop} (C : Cx zp zs zm zt zc D cI cB cS cL_law 4 RL (some .boolean)) {x0 L : Nat} {xs : Nat → Int32} (hX : va_X x0 L xs zs zs.heap) (hbl : x0 < zs.heap.size) (hbA : ¬ A x0) (hL : L ≤ 384) {a b : Nat → Nat} {i : Nat} (hi : i + 6 ≤ L) {wc wm : va_W} (hI : INV a b cI cB cS wc wm) (kk : ∀ wc wm, INV a b cI cB cS wc wm → V zp l ze room_1 zs zm zav zb zt zc D (IM A zs) Q 46 806 4 (wc ++ wm) [(3, .int (nI i)), (2, .ref (b 0)), (1, .ref (a 0)), (0, .ref x0)] 1179 []) : V zp l ze room_1 zs zm zav zb zt zc D (IM A zs) Q 46 806 4 (wc ++ wm) [(3, .int (nI i)), (2, .ref (b 0)), (1, .ref (a 0)), (0, .ref x0)] 901 [] := by
  obtain ⟨⟨f1, e1⟩, f2, e2⟩ := hI.heads
  obtain ⟨P1, P2, m1, m2, hh⟩ := inv_put (l := l) (D := D) hI (xs (i + 1)) (xs (i + 2)) (xs (i + 3))
  refine v_aload_n C dL_law_901 2 rfl ?_
  refine v_aload_n C dL_law_902 3 rfl ?_
  refine v_iload_n C dL_law_903 0 rfl ?_
  refine v_iconst C 1 dL_law_904 (by decide) ?_
  refine v_iadd C dL_law_905 ?_
  refine v_sld C hX hbl hbA (i + 1) (nI_add i 1) (by omega) (by omega) dL_law_906 ?_
  refine v_aload_n C dL_law_907 3 rfl ?_
  refine v_iload_n C dL_law_908 0 rfl ?_
  refine v_iconst C 2 dL_law_909 (by decide) ?_
  refine v_iadd C dL_law_910 ?_
  refine v_sld C hX hbl hbA (i + 2) (nI_add i 2) (by omega) (by omega) dL_law_911 ?_
  refine v_aload_n C dL_law_912 3 rfl ?_
  refine v_iload_n C dL_law_913 0 rfl ?_
  refine v_iconst C 3 dL_law_914 (by decide) ?_
  refine v_iadd C dL_law_915 ?_
  refine v_sld C hX hbl hbA (i + 3) (nI_add i 3) (by omega) (by omega) dL_law_916 ?_
  refine v_cM C l_L_109 m1 (by decide) dL_law_917 e1 rfl rfl (rest := []) rfl (Nat.le_of_ble_eq_true rfl) (by decide) (fun r1 w1 p1 => ?_)
  refine v_aload_n C dL_law_920 1 rfl ?_
  refine v_aload_n C dL_law_921 3 rfl ?_
  refine v_iload_n C dL_law_922 0 rfl ?_
  refine v_iconst C 1 dL_law_923 (by decide) ?_
  refine v_iadd C dL_law_924 ?_
  refine v_sld C hX hbl hbA (i + 1) (nI_add i 1) (by omega) (by omega) dL_law_925 ?_
  refine v_aload_n C dL_law_926 3 rfl ?_
  refine v_iload_n C dL_law_927 0 rfl ?_
  refine v_iconst C 2 dL_law_928 (by decide) ?_
  refine v_iadd C dL_law_929 ?_
  refine v_sld C hX hbl hbA (i + 2) (nI_add i 2) (by omega) (by omega) dL_law_930 ?_
  refine v_aload_n C dL_law_931 3 rfl ?_
  refine v_iload_n C dL_law_932 0 rfl ?_
  refine v_iconst C 3 dL_law_933 (by decide) ?_
  refine v_iadd C dL_law_934 ?_
  refine v_sld C hX hbl hbA (i + 3) (nI_add i 3) (by omega) (by omega) dL_law_935 ?_
  refine v_cM C l_L_112 m2 (by decide) dL_law_936 e2 rfl rfl (rest := [.int r1]) rfl (Nat.le_of_ble_eq_true rfl) (by decide) (fun r2 w2 p2 => ?_)
  obtain ⟨rfl, hI2⟩ := hh r1 w1 r2 w2 p1 p2
  exact v_icmp_eq C 1179 dL_law_939 (by decide) (fun _ => kk w1 w2 hI2) (fun h => absurd rfl h)
set_option maxHeartbeats 4000000 in
set_option maxRecDepth 100000 in
theorem law_c23 {zp : Program} {l : Launch} {ze : Env} {zs : State} {zm : MethodId} {zav : Array Value} {zb : List Frame} {zt : Method} {zc : Code} {D : va_G} {cI cB cS : ClassId} {A : Nat → Prop} {Q : State → Prop} (C : Cx zp zs zm zt zc D cI cB cS cL_law 4 RL (some .boolean)) {x0 L : Nat} {xs : Nat → Int32} (hX : va_X x0 L xs zs zs.heap) (hbl : x0 < zs.heap.size) (hbA : ¬ A x0) (hL : L ≤ 384) {a b : Nat → Nat} {i : Nat} (hi : i + 6 ≤ L) {wc wm : va_W} (hI : INV a b cI cB cS wc wm) (kk : ∀ wc wm, INV a b cI cB cS wc wm → V zp l ze room_1 zs zm zav zb zt zc D (IM A zs) Q 46 806 4 (wc ++ wm) [(3, .int (nI i)), (2, .ref (b 0)), (1, .ref (a 0)), (0, .ref x0)] 1179 []) : V zp l ze room_1 zs zm zav zb zt zc D (IM A zs) Q 46 806 4 (wc ++ wm) [(3, .int (nI i)), (2, .ref (b 0)), (1, .ref (a 0)), (0, .ref x0)] 944 [] := by
  obtain ⟨⟨f1, e1⟩, f2, e2⟩ := hI.heads
  obtain ⟨P1, P2, m1, m2, hh⟩ := inv_cell (l := l) (D := D) hI (xs (i + 1)) (xs (i + 2)) (xs (i + 3))
  refine v_aload_n C dL_law_944 2 rfl ?_
  refine v_aload_n C dL_law_945 3 rfl ?_
  refine v_iload_n C dL_law_946 0 rfl ?_
  refine v_iconst C 1 dL_law_947 (by decide) ?_
  refine v_iadd C dL_law_948 ?_
  refine v_sld C hX hbl hbA (i + 1) (nI_add i 1) (by omega) (by omega) dL_law_949 ?_
  refine v_aload_n C dL_law_950 3 rfl ?_
  refine v_iload_n C dL_law_951 0 rfl ?_
  refine v_iconst C 2 dL_law_952 (by decide) ?_
  refine v_iadd C dL_law_953 ?_
  refine v_sld C hX hbl hbA (i + 2) (nI_add i 2) (by omega) (by omega) dL_law_954 ?_
  refine v_aload_n C dL_law_955 3 rfl ?_
  refine v_iload_n C dL_law_956 0 rfl ?_
  refine v_iconst C 3 dL_law_957 (by decide) ?_
  refine v_iadd C dL_law_958 ?_
  refine v_sld C hX hbl hbA (i + 3) (nI_add i 3) (by omega) (by omega) dL_law_959 ?_
  refine v_cMl C l_L_113 m1 (by decide) dL_law_960 e1 rfl rfl (rest := []) rfl (Nat.le_of_ble_eq_true rfl) (by decide) (fun r1 w1 p1 => ?_)
  refine v_aload_n C dL_law_963 1 rfl ?_
  refine v_aload_n C dL_law_964 3 rfl ?_
  refine v_iload_n C dL_law_965 0 rfl ?_
  refine v_iconst C 1 dL_law_966 (by decide) ?_
  refine v_iadd C dL_law_967 ?_
  refine v_sld C hX hbl hbA (i + 1) (nI_add i 1) (by omega) (by omega) dL_law_968 ?_
  refine v_aload_n C dL_law_969 3 rfl ?_
  refine v_iload_n C dL_law_970 0 rfl ?_
  refine v_iconst C 2 dL_law_971 (by decide) ?_
  refine v_iadd C dL_law_972 ?_
  refine v_sld C hX hbl hbA (i + 2) (nI_add i 2) (by omega) (by omega) dL_law_973 ?_
  refine v_aload_n C dL_law_974 3 rfl ?_
  refine v_iload_n C dL_law_975 0 rfl ?_
  refine v_iconst C 3 dL_law_976 (by decide) ?_
  refine v_iadd C dL_law_977 ?_
  refine v_sld C hX hbl hbA (i + 3) (nI_add i 3) (by omega) (by omega) dL_law_978 ?_
  refine v_cMl C l_L_117 m2 (by decide) dL_law_979 e2 rfl rfl (rest := [.long r1]) rfl (Nat.le_of_ble_eq_true rfl) (by decide) (fun r2 w2 p2 => ?_)
  obtain ⟨rfl, hI2⟩ := hh r1 w1 r2 w2 p1 p2
  refine v_lcmp C dL_law_982 ?_
  refine v_eqi 0 (lc_self r1) ?_
  exact v_if_eq C 1179 dL_law_983 (by decide) (fun _ => kk w1 w2 hI2) (fun h => absurd rfl h)
set_option maxHeartbeats 4000000 in
set_option maxRecDepth 100000 in
theorem law_c24 {zp : Program} {l : Launch} {ze : Env} {zs : State} {zm : MethodId} {zav : Array Value} {zb : List Frame} {zt : Method} {zc : Code} {D : va_G} {cI cB cS : ClassId} {A : Nat → Prop} {Q : State → Prop} (C : Cx zp zs zm zt zc D cI cB cS cL_law 4 RL (some .boolean)) {x0 L : Nat} {xs : Nat → Int32} (hX : va_X x0 L xs zs zs.heap) (hbl : x0 < zs.heap.size) (hbA : ¬ A x0) (hL : L ≤ 384) {a b : Nat → Nat} {i : Nat} (hi : i + 6 ≤ L) {wc wm : va_W} (hI : INV a b cI cB cS wc wm) (kk : ∀ wc wm, INV a b cI cB cS wc wm → V zp l ze room_1 zs zm zav zb zt zc D (IM A zs) Q 46 806 4 (wc ++ wm) [(3, .int (nI i)), (2, .ref (b 0)), (1, .ref (a 0)), (0, .ref x0)] 1179 []) : V zp l ze room_1 zs zm zav zb zt zc D (IM A zs) Q 46 806 4 (wc ++ wm) [(3, .int (nI i)), (2, .ref (b 0)), (1, .ref (a 0)), (0, .ref x0)] 988 [] := by
  obtain ⟨⟨f1, e1⟩, f2, e2⟩ := hI.heads
  obtain ⟨P1, P2, m1, m2, hh⟩ := inv_copy (l := l) (D := D) hI (xs (i + 1)) (xs (i + 2)) (xs (i + 3)) (xs (i + 4)) (xs (i + 5))
  refine v_aload_n C dL_law_988 2 rfl ?_
  refine v_aload_n C dL_law_989 3 rfl ?_
  refine v_iload_n C dL_law_990 0 rfl ?_
  refine v_iconst C 1 dL_law_991 (by decide) ?_
  refine v_iadd C dL_law_992 ?_
  refine v_sld C hX hbl hbA (i + 1) (nI_add i 1) (by omega) (by omega) dL_law_993 ?_
  refine v_aload_n C dL_law_994 3 rfl ?_
  refine v_iload_n C dL_law_995 0 rfl ?_
  refine v_iconst C 2 dL_law_996 (by decide) ?_
  refine v_iadd C dL_law_997 ?_
  refine v_sld C hX hbl hbA (i + 2) (nI_add i 2) (by omega) (by omega) dL_law_998 ?_
  refine v_aload_n C dL_law_999 3 rfl ?_
  refine v_iload_n C dL_law_1000 0 rfl ?_
  refine v_iconst C 3 dL_law_1001 (by decide) ?_
  refine v_iadd C dL_law_1002 ?_
  refine v_sld C hX hbl hbA (i + 3) (nI_add i 3) (by omega) (by omega) dL_law_1003 ?_
  refine v_aload_n C dL_law_1004 3 rfl ?_
  refine v_iload_n C dL_law_1005 0 rfl ?_
  refine v_iconst C 4 dL_law_1006 (by decide) ?_
  refine v_iadd C dL_law_1007 ?_
  refine v_sld C hX hbl hbA (i + 4) (nI_add i 4) (by omega) (by omega) dL_law_1008 ?_
  refine v_aload_n C dL_law_1009 3 rfl ?_
  refine v_iload_n C dL_law_1010 0 rfl ?_
  refine v_iconst C 5 dL_law_1011 (by decide) ?_
  refine v_iadd C dL_law_1012 ?_
  refine v_sld C hX hbl hbA (i + 5) (nI_add i 5) (by omega) (by omega) dL_law_1013 ?_
  refine v_cM C l_L_118 m1 (by decide) dL_law_1014 e1 rfl rfl (rest := []) rfl (Nat.le_of_ble_eq_true rfl) (by decide) (fun r1 w1 p1 => ?_)
  refine v_aload_n C dL_law_1017 1 rfl ?_
  refine v_aload_n C dL_law_1018 3 rfl ?_
  refine v_iload_n C dL_law_1019 0 rfl ?_
  refine v_iconst C 1 dL_law_1020 (by decide) ?_
  refine v_iadd C dL_law_1021 ?_
  refine v_sld C hX hbl hbA (i + 1) (nI_add i 1) (by omega) (by omega) dL_law_1022 ?_
  refine v_aload_n C dL_law_1023 3 rfl ?_
  refine v_iload_n C dL_law_1024 0 rfl ?_
  refine v_iconst C 2 dL_law_1025 (by decide) ?_
  refine v_iadd C dL_law_1026 ?_
  refine v_sld C hX hbl hbA (i + 2) (nI_add i 2) (by omega) (by omega) dL_law_1027 ?_
  refine v_aload_n C dL_law_1028 3 rfl ?_
  refine v_iload_n C dL_law_1029 0 rfl ?_
  refine v_iconst C 3 dL_law_1030 (by decide) ?_
  refine v_iadd C dL_law_1031 ?_
  refine v_sld C hX hbl hbA (i + 3) (nI_add i 3) (by omega) (by omega) dL_law_1032 ?_
  refine v_aload_n C dL_law_1033 3 rfl ?_
  refine v_iload_n C dL_law_1034 0 rfl ?_
  refine v_iconst C 4 dL_law_1035 (by decide) ?_
  refine v_iadd C dL_law_1036 ?_
  refine v_sld C hX hbl hbA (i + 4) (nI_add i 4) (by omega) (by omega) dL_law_1037 ?_
  refine v_aload_n C dL_law_1038 3 rfl ?_
  refine v_iload_n C dL_law_1039 0 rfl ?_
  refine v_iconst C 5 dL_law_1040 (by decide) ?_
  refine v_iadd C dL_law_1041 ?_
  refine v_sld C hX hbl hbA (i + 5) (nI_add i 5) (by omega) (by omega) dL_law_1042 ?_
  refine v_cM C l_L_121 m2 (by decide) dL_law_1043 e2 rfl rfl (rest := [.int r1]) rfl (Nat.le_of_ble_eq_true rfl) (by decide) (fun r2 w2 p2 => ?_)
  obtain ⟨rfl, hI2⟩ := hh r1 w1 r2 w2 p1 p2
  exact v_icmp_eq C 1179 dL_law_1046 (by decide) (fun _ => kk w1 w2 hI2) (fun h => absurd rfl h)
set_option maxHeartbeats 4000000 in
set_option maxRecDepth 100000 in
theorem law_c25 {zp : Program} {l : Launch} {ze : Env} {zs : State} {zm : MethodId} {zav : Array Value} {zb : List Frame} {zt : Method} {zc : Code} {D : va_G} {cI cB cS : ClassId} {A : Nat → Prop} {Q : State → Prop} (C : Cx zp zs zm zt zc D cI cB cS cL_law 4 RL (some .boolean)) {x0 L : Nat} {xs : Nat → Int32} (hX : va_X x0 L xs zs zs.heap) (hbl : x0 < zs.heap.size) (hbA : ¬ A x0) (hL : L ≤ 384) {a b : Nat → Nat} {i : Nat} (hi : i + 6 ≤ L) {wc wm : va_W} (hI : INV a b cI cB cS wc wm) (kk : ∀ wc wm, INV a b cI cB cS wc wm → V zp l ze room_1 zs zm zav zb zt zc D (IM A zs) Q 46 806 4 (wc ++ wm) [(3, .int (nI i)), (2, .ref (b 0)), (1, .ref (a 0)), (0, .ref x0)] 1179 []) : V zp l ze room_1 zs zm zav zb zt zc D (IM A zs) Q 46 806 4 (wc ++ wm) [(3, .int (nI i)), (2, .ref (b 0)), (1, .ref (a 0)), (0, .ref x0)] 1051 [] := by
  obtain ⟨⟨f1, e1⟩, f2, e2⟩ := hI.heads
  obtain ⟨P1, P2, m1, m2, hh⟩ := inv_tell (l := l) (D := D) hI (xs (i + 1))
  refine v_aload_n C dL_law_1051 2 rfl ?_
  refine v_aload_n C dL_law_1052 3 rfl ?_
  refine v_iload_n C dL_law_1053 0 rfl ?_
  refine v_iconst C 1 dL_law_1054 (by decide) ?_
  refine v_iadd C dL_law_1055 ?_
  refine v_sld C hX hbl hbA (i + 1) (nI_add i 1) (by omega) (by omega) dL_law_1056 ?_
  refine v_cM C l_L_122 m1 (by decide) dL_law_1057 e1 rfl rfl (rest := []) rfl (Nat.le_of_ble_eq_true rfl) (by decide) (fun r1 w1 p1 => ?_)
  refine v_aload_n C dL_law_1060 1 rfl ?_
  refine v_aload_n C dL_law_1061 3 rfl ?_
  refine v_iload_n C dL_law_1062 0 rfl ?_
  refine v_iconst C 1 dL_law_1063 (by decide) ?_
  refine v_iadd C dL_law_1064 ?_
  refine v_sld C hX hbl hbA (i + 1) (nI_add i 1) (by omega) (by omega) dL_law_1065 ?_
  refine v_cM C l_L_125 m2 (by decide) dL_law_1066 e2 rfl rfl (rest := [.int r1]) rfl (Nat.le_of_ble_eq_true rfl) (by decide) (fun r2 w2 p2 => ?_)
  obtain ⟨rfl, hI2⟩ := hh r1 w1 r2 w2 p1 p2
  exact v_icmp_eq C 1179 dL_law_1069 (by decide) (fun _ => kk w1 w2 hI2) (fun h => absurd rfl h)
set_option maxHeartbeats 4000000 in
set_option maxRecDepth 100000 in
theorem law_c26 {zp : Program} {l : Launch} {ze : Env} {zs : State} {zm : MethodId} {zav : Array Value} {zb : List Frame} {zt : Method} {zc : Code} {D : va_G} {cI cB cS : ClassId} {A : Nat → Prop} {Q : State → Prop} (C : Cx zp zs zm zt zc D cI cB cS cL_law 4 RL (some .boolean)) {x0 L : Nat} {xs : Nat → Int32} (hX : va_X x0 L xs zs zs.heap) (hbl : x0 < zs.heap.size) (hbA : ¬ A x0) (hL : L ≤ 384) {a b : Nat → Nat} {i : Nat} (hi : i + 6 ≤ L) {wc wm : va_W} (hI : INV a b cI cB cS wc wm) (kk : ∀ wc wm, INV a b cI cB cS wc wm → V zp l ze room_1 zs zm zav zb zt zc D (IM A zs) Q 46 806 4 (wc ++ wm) [(3, .int (nI i)), (2, .ref (b 0)), (1, .ref (a 0)), (0, .ref x0)] 1179 []) : V zp l ze room_1 zs zm zav zb zt zc D (IM A zs) Q 46 806 4 (wc ++ wm) [(3, .int (nI i)), (2, .ref (b 0)), (1, .ref (a 0)), (0, .ref x0)] 1074 [] := by
  obtain ⟨⟨f1, e1⟩, f2, e2⟩ := hI.heads
  obtain ⟨P1, P2, m1, m2, hh⟩ := inv_hush (l := l) (D := D) hI (xs (i + 1))
  refine v_aload_n C dL_law_1074 2 rfl ?_
  refine v_aload_n C dL_law_1075 3 rfl ?_
  refine v_iload_n C dL_law_1076 0 rfl ?_
  refine v_iconst C 1 dL_law_1077 (by decide) ?_
  refine v_iadd C dL_law_1078 ?_
  refine v_sld C hX hbl hbA (i + 1) (nI_add i 1) (by omega) (by omega) dL_law_1079 ?_
  refine v_cM C l_L_126 m1 (by decide) dL_law_1080 e1 rfl rfl (rest := []) rfl (Nat.le_of_ble_eq_true rfl) (by decide) (fun r1 w1 p1 => ?_)
  refine v_aload_n C dL_law_1083 1 rfl ?_
  refine v_aload_n C dL_law_1084 3 rfl ?_
  refine v_iload_n C dL_law_1085 0 rfl ?_
  refine v_iconst C 1 dL_law_1086 (by decide) ?_
  refine v_iadd C dL_law_1087 ?_
  refine v_sld C hX hbl hbA (i + 1) (nI_add i 1) (by omega) (by omega) dL_law_1088 ?_
  refine v_cM C l_L_129 m2 (by decide) dL_law_1089 e2 rfl rfl (rest := [.int r1]) rfl (Nat.le_of_ble_eq_true rfl) (by decide) (fun r2 w2 p2 => ?_)
  obtain ⟨rfl, hI2⟩ := hh r1 w1 r2 w2 p1 p2
  exact v_icmp_eq C 1179 dL_law_1092 (by decide) (fun _ => kk w1 w2 hI2) (fun h => absurd rfl h)
set_option maxHeartbeats 4000000 in
set_option maxRecDepth 100000 in
theorem law_c27 {zp : Program} {l : Launch} {ze : Env} {zs : State} {zm : MethodId} {zav : Array Value} {zb : List Frame} {zt : Method} {zc : Code} {D : va_G} {cI cB cS : ClassId} {A : Nat → Prop} {Q : State → Prop} (C : Cx zp zs zm zt zc D cI cB cS cL_law 4 RL (some .boolean)) {x0 L : Nat} {xs : Nat → Int32} (hX : va_X x0 L xs zs zs.heap) (hbl : x0 < zs.heap.size) (hbA : ¬ A x0) (hL : L ≤ 384) {a b : Nat → Nat} {i : Nat} (hi : i + 6 ≤ L) {wc wm : va_W} (hI : INV a b cI cB cS wc wm) (kk : ∀ wc wm, INV a b cI cB cS wc wm → V zp l ze room_1 zs zm zav zb zt zc D (IM A zs) Q 46 806 4 (wc ++ wm) [(3, .int (nI i)), (2, .ref (b 0)), (1, .ref (a 0)), (0, .ref x0)] 1179 []) : V zp l ze room_1 zs zm zav zb zt zc D (IM A zs) Q 46 806 4 (wc ++ wm) [(3, .int (nI i)), (2, .ref (b 0)), (1, .ref (a 0)), (0, .ref x0)] 1097 [] := by
  obtain ⟨⟨f1, e1⟩, f2, e2⟩ := hI.heads
  obtain ⟨P1, P2, m1, m2, hh⟩ := inv_as (l := l) (D := D) hI (xs (i + 1)) (xs (i + 2))
  refine v_aload_n C dL_law_1097 2 rfl ?_
  refine v_aload_n C dL_law_1098 3 rfl ?_
  refine v_iload_n C dL_law_1099 0 rfl ?_
  refine v_iconst C 1 dL_law_1100 (by decide) ?_
  refine v_iadd C dL_law_1101 ?_
  refine v_sld C hX hbl hbA (i + 1) (nI_add i 1) (by omega) (by omega) dL_law_1102 ?_
  refine v_aload_n C dL_law_1103 3 rfl ?_
  refine v_iload_n C dL_law_1104 0 rfl ?_
  refine v_iconst C 2 dL_law_1105 (by decide) ?_
  refine v_iadd C dL_law_1106 ?_
  refine v_sld C hX hbl hbA (i + 2) (nI_add i 2) (by omega) (by omega) dL_law_1107 ?_
  refine v_cM C l_L_130 m1 (by decide) dL_law_1108 e1 rfl rfl (rest := []) rfl (Nat.le_of_ble_eq_true rfl) (by decide) (fun r1 w1 p1 => ?_)
  refine v_aload_n C dL_law_1111 1 rfl ?_
  refine v_aload_n C dL_law_1112 3 rfl ?_
  refine v_iload_n C dL_law_1113 0 rfl ?_
  refine v_iconst C 1 dL_law_1114 (by decide) ?_
  refine v_iadd C dL_law_1115 ?_
  refine v_sld C hX hbl hbA (i + 1) (nI_add i 1) (by omega) (by omega) dL_law_1116 ?_
  refine v_aload_n C dL_law_1117 3 rfl ?_
  refine v_iload_n C dL_law_1118 0 rfl ?_
  refine v_iconst C 2 dL_law_1119 (by decide) ?_
  refine v_iadd C dL_law_1120 ?_
  refine v_sld C hX hbl hbA (i + 2) (nI_add i 2) (by omega) (by omega) dL_law_1121 ?_
  refine v_cM C l_L_133 m2 (by decide) dL_law_1122 e2 rfl rfl (rest := [.int r1]) rfl (Nat.le_of_ble_eq_true rfl) (by decide) (fun r2 w2 p2 => ?_)
  obtain ⟨rfl, hI2⟩ := hh r1 w1 r2 w2 p1 p2
  exact v_icmp_eq C 1179 dL_law_1125 (by decide) (fun _ => kk w1 w2 hI2) (fun h => absurd rfl h)
set_option maxHeartbeats 4000000 in
set_option maxRecDepth 100000 in
theorem law_c28 {zp : Program} {l : Launch} {ze : Env} {zs : State} {zm : MethodId} {zav : Array Value} {zb : List Frame} {zt : Method} {zc : Code} {D : va_G} {cI cB cS : ClassId} {A : Nat → Prop} {Q : State → Prop} (C : Cx zp zs zm zt zc D cI cB cS cL_law 4 RL (some .boolean)) {x0 L : Nat} {xs : Nat → Int32} (hX : va_X x0 L xs zs zs.heap) (hbl : x0 < zs.heap.size) (hbA : ¬ A x0) (hL : L ≤ 384) {a b : Nat → Nat} {i : Nat} (hi : i + 6 ≤ L) {wc wm : va_W} (hI : INV a b cI cB cS wc wm) (kk : ∀ wc wm, INV a b cI cB cS wc wm → V zp l ze room_1 zs zm zav zb zt zc D (IM A zs) Q 46 806 4 (wc ++ wm) [(3, .int (nI i)), (2, .ref (b 0)), (1, .ref (a 0)), (0, .ref x0)] 1179 []) : V zp l ze room_1 zs zm zav zb zt zc D (IM A zs) Q 46 806 4 (wc ++ wm) [(3, .int (nI i)), (2, .ref (b 0)), (1, .ref (a 0)), (0, .ref x0)] 1130 [] := by
  obtain ⟨⟨f1, e1⟩, f2, e2⟩ := hI.heads
  obtain ⟨P1, P2, m1, m2, hh⟩ := inv_trace (l := l) (D := D) hI 
  refine v_aload_n C dL_law_1130 2 rfl ?_
  refine v_cM C l_L_134 m1 (by decide) dL_law_1131 e1 rfl rfl (rest := []) rfl (Nat.le_of_ble_eq_true rfl) (by decide) (fun r1 w1 p1 => ?_)
  refine v_aload_n C dL_law_1134 1 rfl ?_
  refine v_cM C l_L_137 m2 (by decide) dL_law_1135 e2 rfl rfl (rest := [.int r1]) rfl (Nat.le_of_ble_eq_true rfl) (by decide) (fun r2 w2 p2 => ?_)
  obtain ⟨rfl, hI2⟩ := hh r1 w1 r2 w2 p1 p2
  exact v_icmp_eq C 1179 dL_law_1138 (by decide) (fun _ => kk w1 w2 hI2) (fun h => absurd rfl h)
set_option maxHeartbeats 4000000 in
set_option maxRecDepth 100000 in
theorem law_c29 {zp : Program} {l : Launch} {ze : Env} {zs : State} {zm : MethodId} {zav : Array Value} {zb : List Frame} {zt : Method} {zc : Code} {D : va_G} {cI cB cS : ClassId} {A : Nat → Prop} {Q : State → Prop} (C : Cx zp zs zm zt zc D cI cB cS cL_law 4 RL (some .boolean)) {x0 L : Nat} {xs : Nat → Int32} (hX : va_X x0 L xs zs zs.heap) (hbl : x0 < zs.heap.size) (hbA : ¬ A x0) (hL : L ≤ 384) {a b : Nat → Nat} {i : Nat} (hi : i + 6 ≤ L) {wc wm : va_W} (hI : INV a b cI cB cS wc wm) (kk : ∀ wc wm, INV a b cI cB cS wc wm → V zp l ze room_1 zs zm zav zb zt zc D (IM A zs) Q 46 806 4 (wc ++ wm) [(3, .int (nI i)), (2, .ref (b 0)), (1, .ref (a 0)), (0, .ref x0)] 1179 []) : V zp l ze room_1 zs zm zav zb zt zc D (IM A zs) Q 46 806 4 (wc ++ wm) [(3, .int (nI i)), (2, .ref (b 0)), (1, .ref (a 0)), (0, .ref x0)] 1143 [] := by
  obtain ⟨⟨f1, e1⟩, f2, e2⟩ := hI.heads
  obtain ⟨P1, P2, m1, m2, hh⟩ := inv_fault (l := l) (D := D) hI 
  refine v_aload_n C dL_law_1143 2 rfl ?_
  refine v_cM C l_L_138 m1 (by decide) dL_law_1144 e1 rfl rfl (rest := []) rfl (Nat.le_of_ble_eq_true rfl) (by decide) (fun r1 w1 p1 => ?_)
  refine v_aload_n C dL_law_1147 1 rfl ?_
  refine v_cM C l_L_141 m2 (by decide) dL_law_1148 e2 rfl rfl (rest := [.int r1]) rfl (Nat.le_of_ble_eq_true rfl) (by decide) (fun r2 w2 p2 => ?_)
  obtain ⟨rfl, hI2⟩ := hh r1 w1 r2 w2 p1 p2
  exact v_icmp_eq C 1179 dL_law_1151 (by decide) (fun _ => kk w1 w2 hI2) (fun h => absurd rfl h)
set_option maxHeartbeats 4000000 in
set_option maxRecDepth 100000 in
theorem law_c30 {zp : Program} {l : Launch} {ze : Env} {zs : State} {zm : MethodId} {zav : Array Value} {zb : List Frame} {zt : Method} {zc : Code} {D : va_G} {cI cB cS : ClassId} {A : Nat → Prop} {Q : State → Prop} (C : Cx zp zs zm zt zc D cI cB cS cL_law 4 RL (some .boolean)) {x0 L : Nat} {xs : Nat → Int32} (hX : va_X x0 L xs zs zs.heap) (hbl : x0 < zs.heap.size) (hbA : ¬ A x0) (hL : L ≤ 384) {a b : Nat → Nat} {i : Nat} (hi : i + 6 ≤ L) {wc wm : va_W} (hI : INV a b cI cB cS wc wm) (kk : ∀ wc wm, INV a b cI cB cS wc wm → V zp l ze room_1 zs zm zav zb zt zc D (IM A zs) Q 46 806 4 (wc ++ wm) [(3, .int (nI i)), (2, .ref (b 0)), (1, .ref (a 0)), (0, .ref x0)] 1179 []) : V zp l ze room_1 zs zm zav zb zt zc D (IM A zs) Q 46 806 4 (wc ++ wm) [(3, .int (nI i)), (2, .ref (b 0)), (1, .ref (a 0)), (0, .ref x0)] 1156 [] := by
  obtain ⟨⟨f1, e1⟩, f2, e2⟩ := hI.heads
  obtain ⟨P1, P2, m1, m2, hh⟩ := inv_many (l := l) (D := D) hI (xs (i + 1))
  refine v_aload_n C dL_law_1156 2 rfl ?_
  refine v_aload_n C dL_law_1157 3 rfl ?_
  refine v_iload_n C dL_law_1158 0 rfl ?_
  refine v_iconst C 1 dL_law_1159 (by decide) ?_
  refine v_iadd C dL_law_1160 ?_
  refine v_sld C hX hbl hbA (i + 1) (nI_add i 1) (by omega) (by omega) dL_law_1161 ?_
  refine v_cM C l_L_142 m1 (by decide) dL_law_1162 e1 rfl rfl (rest := []) rfl (Nat.le_of_ble_eq_true rfl) (by decide) (fun r1 w1 p1 => ?_)
  refine v_aload_n C dL_law_1165 1 rfl ?_
  refine v_aload_n C dL_law_1166 3 rfl ?_
  refine v_iload_n C dL_law_1167 0 rfl ?_
  refine v_iconst C 1 dL_law_1168 (by decide) ?_
  refine v_iadd C dL_law_1169 ?_
  refine v_sld C hX hbl hbA (i + 1) (nI_add i 1) (by omega) (by omega) dL_law_1170 ?_
  refine v_cM C l_L_145 m2 (by decide) dL_law_1171 e2 rfl rfl (rest := [.int r1]) rfl (Nat.le_of_ble_eq_true rfl) (by decide) (fun r2 w2 p2 => ?_)
  obtain ⟨rfl, hI2⟩ := hh r1 w1 r2 w2 p1 p2
  exact v_icmp_eq C 1179 dL_law_1174 (by decide) (fun _ => kk w1 w2 hI2) (fun h => absurd rfl h)
