set_option maxHeartbeats 800000 in
set_option maxRecDepth 100000 in
theorem L_record (g : zG) (b L n0 : Nat) (xs : Nat → Int32) (nm : String) (hg : g.2.2.2 = n0) (hL : L ≤ 3072) (x m : Nat) (w : sW) (H : zH) (hI : LI x m w H) (i : Nat) (hi : i + 6 ≤ L) (ce sl : Nat) (hce : ce ≤ 500000) (hsl : sl ≤ 7000000) (K : ∀ (H' : zH) (w' : sW), LI x m w' H' → zZ g (YL b L n0 xs nm) QL 1286 [(3, .int (nI i)), (2, .ref m), (1, .ref x), (0, .ref b)] [] H' (ce + 35) (sl + 1018)) : zZ g (YL b L n0 xs nm) QL 172 [(3, .int (nI i)), (2, .ref m), (1, .ref x), (0, .ref b)] [] H ce sl := by
  refine z_aload_n dL_law_172 rfl rfl ?_
  refine z_aload_n dL_law_173 rfl rfl ?_
  refine z_iload_n dL_law_174 rfl rfl ?_
  refine z_iconst (v := nI 1) dL_law_175 rfl (by decide) ?_
  refine z_iadd dL_law_176 rfl ?_
  refine z_sld hg dL_law_177 rfl (in_j 1 (by decide) hi hL) ?_
  refine z_aload_n dL_law_178 rfl rfl ?_
  refine z_iload_n dL_law_179 rfl rfl ?_
  refine z_iconst (v := nI 2) dL_law_180 rfl (by decide) ?_
  refine z_iadd dL_law_181 rfl ?_
  refine z_sld hg dL_law_182 rfl (in_j 2 (by decide) hi hL) ?_
  refine z_aload_n dL_law_183 rfl rfl ?_
  refine z_iload_n dL_law_184 rfl rfl ?_
  refine z_iconst (v := nI 3) dL_law_185 rfl (by decide) ?_
  refine z_iadd dL_law_186 rfl ?_
  refine z_sld hg dL_law_187 rfl (in_j 3 (by decide) hi hL) ?_
  obtain ⟨hC, S, hS, hM⟩ := id hI
  obtain ⟨fs, hx⟩ := RepC_x hC
  refine zc_L_13 rfl dL_law_188 rfl hx (C_record g H x m w hC _ _ _) rfl rfl ⟨(Nat.le_of_ble_eq_true rfl), (Nat.le_of_ble_eq_true rfl)⟩ ⟨by show ce + 4 ≤ 600000; omega, by show sl + 125 ≤ 7302250; omega⟩ (Nat.le_of_ble_eq_true rfl) (fun v1 h1 e1 => ?_)
  obtain ⟨rfl, hC1, hk1⟩ := e1
  refine zZ_h (mUp m S h1) (mUp_kept hS hk1) ?_
  refine z_aload_n dL_law_191 rfl rfl ?_
  refine z_aload_n dL_law_192 rfl rfl ?_
  refine z_iload_n dL_law_193 rfl rfl ?_
  refine z_iconst (v := nI 1) dL_law_194 rfl (by decide) ?_
  refine z_iadd dL_law_195 rfl ?_
  refine z_sld hg dL_law_196 rfl (in_j 1 (by decide) hi hL) ?_
  refine z_aload_n dL_law_197 rfl rfl ?_
  refine z_iload_n dL_law_198 rfl rfl ?_
  refine z_iconst (v := nI 2) dL_law_199 rfl (by decide) ?_
  refine z_iadd dL_law_200 rfl ?_
  refine z_sld hg dL_law_201 rfl (in_j 2 (by decide) hi hL) ?_
  refine z_aload_n dL_law_202 rfl rfl ?_
  refine z_iload_n dL_law_203 rfl rfl ?_
  refine z_iconst (v := nI 3) dL_law_204 rfl (by decide) ?_
  refine z_iadd dL_law_205 rfl ?_
  refine z_sld hg dL_law_206 rfl (in_j 3 (by decide) hi hL) ?_
  refine zc_L_17 rfl dL_law_207 rfl mo_recv (R_record g h1 m S w hM _ _ _) rfl rfl ⟨(Nat.le_of_ble_eq_true rfl), (Nat.le_of_ble_eq_true rfl)⟩ ⟨by show ce + 4 + 0 ≤ 600000; omega, by show sl + 125 + 0 ≤ 7302250; omega⟩ (Nat.le_of_ble_eq_true rfl) (fun v2 h2 e2 => ?_)
  obtain ⟨S2, rfl, rfl, hM2⟩ := e2
  exact z_icmp_eq (tgt := 1286) dL_law_210 rfl (by decide) (fun _ => z_widen (by show ce + 4 + 0 ≤ ce + 35; omega) (by show sl + 125 + 0 ≤ sl + 1018; omega) (K _ _ ⟨RepC_m S2 hC1, S2, (mUp_mUp _ _ _ _).symm, hM2⟩)) (fun c => absurd rfl c)

set_option maxHeartbeats 800000 in
set_option maxRecDepth 100000 in
theorem L_share (g : zG) (b L n0 : Nat) (xs : Nat → Int32) (nm : String) (hg : g.2.2.2 = n0) (hL : L ≤ 3072) (x m : Nat) (w : sW) (H : zH) (hI : LI x m w H) (i : Nat) (hi : i + 6 ≤ L) (ce sl : Nat) (hce : ce ≤ 500000) (hsl : sl ≤ 7000000) (K : ∀ (H' : zH) (w' : sW), LI x m w' H' → zZ g (YL b L n0 xs nm) QL 1286 [(3, .int (nI i)), (2, .ref m), (1, .ref x), (0, .ref b)] [] H' (ce + 35) (sl + 1018)) : zZ g (YL b L n0 xs nm) QL 215 [(3, .int (nI i)), (2, .ref m), (1, .ref x), (0, .ref b)] [] H ce sl := by
  refine z_aload_n dL_law_215 rfl rfl ?_
  refine z_aload_n dL_law_216 rfl rfl ?_
  refine z_iload_n dL_law_217 rfl rfl ?_
  refine z_iconst (v := nI 1) dL_law_218 rfl (by decide) ?_
  refine z_iadd dL_law_219 rfl ?_
  refine z_sld hg dL_law_220 rfl (in_j 1 (by decide) hi hL) ?_
  refine z_aload_n dL_law_221 rfl rfl ?_
  refine z_iload_n dL_law_222 rfl rfl ?_
  refine z_iconst (v := nI 2) dL_law_223 rfl (by decide) ?_
  refine z_iadd dL_law_224 rfl ?_
  refine z_sld hg dL_law_225 rfl (in_j 2 (by decide) hi hL) ?_
  obtain ⟨hC, S, hS, hM⟩ := id hI
  obtain ⟨fs, hx⟩ := RepC_x hC
  refine zc_L_18 rfl dL_law_226 rfl hx (C_share g H x m w hC _ _) rfl rfl ⟨(Nat.le_of_ble_eq_true rfl), (Nat.le_of_ble_eq_true rfl)⟩ ⟨by show ce + 0 ≤ 600000; omega, by show sl + 0 ≤ 7302250; omega⟩ (Nat.le_of_ble_eq_true rfl) (fun v1 h1 e1 => ?_)
  obtain ⟨rfl, hC1, hk1⟩ := e1
  refine zZ_h (mUp m S h1) (mUp_kept hS hk1) ?_
  refine z_aload_n dL_law_229 rfl rfl ?_
  refine z_aload_n dL_law_230 rfl rfl ?_
  refine z_iload_n dL_law_231 rfl rfl ?_
  refine z_iconst (v := nI 1) dL_law_232 rfl (by decide) ?_
  refine z_iadd dL_law_233 rfl ?_
  refine z_sld hg dL_law_234 rfl (in_j 1 (by decide) hi hL) ?_
  refine z_aload_n dL_law_235 rfl rfl ?_
  refine z_iload_n dL_law_236 rfl rfl ?_
  refine z_iconst (v := nI 2) dL_law_237 rfl (by decide) ?_
  refine z_iadd dL_law_238 rfl ?_
  refine z_sld hg dL_law_239 rfl (in_j 2 (by decide) hi hL) ?_
  refine zc_L_22 rfl dL_law_240 rfl mo_recv (R_share g h1 m S w hM _ _) rfl rfl ⟨(Nat.le_of_ble_eq_true rfl), (Nat.le_of_ble_eq_true rfl)⟩ ⟨by show ce + 0 + 0 ≤ 600000; omega, by show sl + 0 + 0 ≤ 7302250; omega⟩ (Nat.le_of_ble_eq_true rfl) (fun v2 h2 e2 => ?_)
  obtain ⟨S2, rfl, rfl, hM2⟩ := e2
  exact z_icmp_eq (tgt := 1286) dL_law_243 rfl (by decide) (fun _ => z_widen (by show ce + 0 + 0 ≤ ce + 35; omega) (by show sl + 0 + 0 ≤ sl + 1018; omega) (K _ _ ⟨RepC_m S2 hC1, S2, (mUp_mUp _ _ _ _).symm, hM2⟩)) (fun c => absurd rfl c)

set_option maxHeartbeats 800000 in
set_option maxRecDepth 100000 in
theorem L_kind (g : zG) (b L n0 : Nat) (xs : Nat → Int32) (nm : String) (hg : g.2.2.2 = n0) (hL : L ≤ 3072) (x m : Nat) (w : sW) (H : zH) (hI : LI x m w H) (i : Nat) (hi : i + 6 ≤ L) (ce sl : Nat) (hce : ce ≤ 500000) (hsl : sl ≤ 7000000) (K : ∀ (H' : zH) (w' : sW), LI x m w' H' → zZ g (YL b L n0 xs nm) QL 1286 [(3, .int (nI i)), (2, .ref m), (1, .ref x), (0, .ref b)] [] H' (ce + 35) (sl + 1018)) : zZ g (YL b L n0 xs nm) QL 248 [(3, .int (nI i)), (2, .ref m), (1, .ref x), (0, .ref b)] [] H ce sl := by
  refine z_aload_n dL_law_248 rfl rfl ?_
  refine z_aload_n dL_law_249 rfl rfl ?_
  refine z_iload_n dL_law_250 rfl rfl ?_
  refine z_iconst (v := nI 1) dL_law_251 rfl (by decide) ?_
  refine z_iadd dL_law_252 rfl ?_
  refine z_sld hg dL_law_253 rfl (in_j 1 (by decide) hi hL) ?_
  refine z_aload_n dL_law_254 rfl rfl ?_
  refine z_iload_n dL_law_255 rfl rfl ?_
  refine z_iconst (v := nI 2) dL_law_256 rfl (by decide) ?_
  refine z_iadd dL_law_257 rfl ?_
  refine z_sld hg dL_law_258 rfl (in_j 2 (by decide) hi hL) ?_
  obtain ⟨hC, S, hS, hM⟩ := id hI
  obtain ⟨fs, hx⟩ := RepC_x hC
  refine zc_L_23 rfl dL_law_259 rfl hx (C_kind g H x m w hC _ _) rfl rfl ⟨(Nat.le_of_ble_eq_true rfl), (Nat.le_of_ble_eq_true rfl)⟩ ⟨by show ce + 0 ≤ 600000; omega, by show sl + 0 ≤ 7302250; omega⟩ (Nat.le_of_ble_eq_true rfl) (fun v1 h1 e1 => ?_)
  obtain ⟨rfl, hC1, hk1⟩ := e1
  refine zZ_h (mUp m S h1) (mUp_kept hS hk1) ?_
  refine z_aload_n dL_law_262 rfl rfl ?_
  refine z_aload_n dL_law_263 rfl rfl ?_
  refine z_iload_n dL_law_264 rfl rfl ?_
  refine z_iconst (v := nI 1) dL_law_265 rfl (by decide) ?_
  refine z_iadd dL_law_266 rfl ?_
  refine z_sld hg dL_law_267 rfl (in_j 1 (by decide) hi hL) ?_
  refine z_aload_n dL_law_268 rfl rfl ?_
  refine z_iload_n dL_law_269 rfl rfl ?_
  refine z_iconst (v := nI 2) dL_law_270 rfl (by decide) ?_
  refine z_iadd dL_law_271 rfl ?_
  refine z_sld hg dL_law_272 rfl (in_j 2 (by decide) hi hL) ?_
  refine zc_L_26 rfl dL_law_273 rfl mo_recv (R_kind g h1 m S w hM _ _) rfl rfl ⟨(Nat.le_of_ble_eq_true rfl), (Nat.le_of_ble_eq_true rfl)⟩ ⟨by show ce + 0 + 0 ≤ 600000; omega, by show sl + 0 + 0 ≤ 7302250; omega⟩ (Nat.le_of_ble_eq_true rfl) (fun v2 h2 e2 => ?_)
  obtain ⟨S2, rfl, rfl, hM2⟩ := e2
  exact z_icmp_eq (tgt := 1286) dL_law_276 rfl (by decide) (fun _ => z_widen (by show ce + 0 + 0 ≤ ce + 35; omega) (by show sl + 0 + 0 ≤ sl + 1018; omega) (K _ _ ⟨RepC_m S2 hC1, S2, (mUp_mUp _ _ _ _).symm, hM2⟩)) (fun c => absurd rfl c)

set_option maxHeartbeats 800000 in
set_option maxRecDepth 100000 in
theorem L_size (g : zG) (b L n0 : Nat) (xs : Nat → Int32) (nm : String) (hg : g.2.2.2 = n0) (hL : L ≤ 3072) (x m : Nat) (w : sW) (H : zH) (hI : LI x m w H) (i : Nat) (hi : i + 6 ≤ L) (ce sl : Nat) (hce : ce ≤ 500000) (hsl : sl ≤ 7000000) (K : ∀ (H' : zH) (w' : sW), LI x m w' H' → zZ g (YL b L n0 xs nm) QL 1286 [(3, .int (nI i)), (2, .ref m), (1, .ref x), (0, .ref b)] [] H' (ce + 35) (sl + 1018)) : zZ g (YL b L n0 xs nm) QL 281 [(3, .int (nI i)), (2, .ref m), (1, .ref x), (0, .ref b)] [] H ce sl := by
  refine z_aload_n dL_law_281 rfl rfl ?_
  refine z_aload_n dL_law_282 rfl rfl ?_
  refine z_iload_n dL_law_283 rfl rfl ?_
  refine z_iconst (v := nI 1) dL_law_284 rfl (by decide) ?_
  refine z_iadd dL_law_285 rfl ?_
  refine z_sld hg dL_law_286 rfl (in_j 1 (by decide) hi hL) ?_
  obtain ⟨hC, S, hS, hM⟩ := id hI
  obtain ⟨fs, hx⟩ := RepC_x hC
  refine zc_L_27 rfl dL_law_287 rfl hx (C_size g H x m w hC _) rfl rfl ⟨(Nat.le_of_ble_eq_true rfl), (Nat.le_of_ble_eq_true rfl)⟩ ⟨by show ce + 0 ≤ 600000; omega, by show sl + 0 ≤ 7302250; omega⟩ (Nat.le_of_ble_eq_true rfl) (fun v1 h1 e1 => ?_)
  obtain ⟨rfl, hC1, hk1⟩ := e1
  refine zZ_h (mUp m S h1) (mUp_kept hS hk1) ?_
  refine z_aload_n dL_law_290 rfl rfl ?_
  refine z_aload_n dL_law_291 rfl rfl ?_
  refine z_iload_n dL_law_292 rfl rfl ?_
  refine z_iconst (v := nI 1) dL_law_293 rfl (by decide) ?_
  refine z_iadd dL_law_294 rfl ?_
  refine z_sld hg dL_law_295 rfl (in_j 1 (by decide) hi hL) ?_
  refine zc_L_31 rfl dL_law_296 rfl mo_recv (R_size g h1 m S w hM _) rfl rfl ⟨(Nat.le_of_ble_eq_true rfl), (Nat.le_of_ble_eq_true rfl)⟩ ⟨by show ce + 0 + 0 ≤ 600000; omega, by show sl + 0 + 0 ≤ 7302250; omega⟩ (Nat.le_of_ble_eq_true rfl) (fun v2 h2 e2 => ?_)
  obtain ⟨S2, rfl, rfl, hM2⟩ := e2
  exact z_icmp_eq (tgt := 1286) dL_law_299 rfl (by decide) (fun _ => z_widen (by show ce + 0 + 0 ≤ ce + 35; omega) (by show sl + 0 + 0 ≤ sl + 1018; omega) (K _ _ ⟨RepC_m S2 hC1, S2, (mUp_mUp _ _ _ _).symm, hM2⟩)) (fun c => absurd rfl c)

set_option maxHeartbeats 800000 in
set_option maxRecDepth 100000 in
theorem L_ask (g : zG) (b L n0 : Nat) (xs : Nat → Int32) (nm : String) (hg : g.2.2.2 = n0) (hL : L ≤ 3072) (x m : Nat) (w : sW) (H : zH) (hI : LI x m w H) (i : Nat) (hi : i + 6 ≤ L) (ce sl : Nat) (hce : ce ≤ 500000) (hsl : sl ≤ 7000000) (K : ∀ (H' : zH) (w' : sW), LI x m w' H' → zZ g (YL b L n0 xs nm) QL 1286 [(3, .int (nI i)), (2, .ref m), (1, .ref x), (0, .ref b)] [] H' (ce + 35) (sl + 1018)) : zZ g (YL b L n0 xs nm) QL 304 [(3, .int (nI i)), (2, .ref m), (1, .ref x), (0, .ref b)] [] H ce sl := by
  refine z_aload_n dL_law_304 rfl rfl ?_
  refine z_aload_n dL_law_305 rfl rfl ?_
  refine z_iload_n dL_law_306 rfl rfl ?_
  refine z_iconst (v := nI 1) dL_law_307 rfl (by decide) ?_
  refine z_iadd dL_law_308 rfl ?_
  refine z_sld hg dL_law_309 rfl (in_j 1 (by decide) hi hL) ?_
  refine z_aload_n dL_law_310 rfl rfl ?_
  refine z_iload_n dL_law_311 rfl rfl ?_
  refine z_iconst (v := nI 2) dL_law_312 rfl (by decide) ?_
  refine z_iadd dL_law_313 rfl ?_
  refine z_sld hg dL_law_314 rfl (in_j 2 (by decide) hi hL) ?_
  refine z_aload_n dL_law_315 rfl rfl ?_
  refine z_iload_n dL_law_316 rfl rfl ?_
  refine z_iconst (v := nI 3) dL_law_317 rfl (by decide) ?_
  refine z_iadd dL_law_318 rfl ?_
  refine z_sld hg dL_law_319 rfl (in_j 3 (by decide) hi hL) ?_
  obtain ⟨hC, S, hS, hM⟩ := id hI
  obtain ⟨fs, hx⟩ := RepC_x hC
  refine zc_L_32 rfl dL_law_320 rfl hx (C_ask g H x m w hC _ _ _) rfl rfl ⟨(Nat.le_of_ble_eq_true rfl), (Nat.le_of_ble_eq_true rfl)⟩ ⟨by show ce + 0 ≤ 600000; omega, by show sl + 0 ≤ 7302250; omega⟩ (Nat.le_of_ble_eq_true rfl) (fun v1 h1 e1 => ?_)
  obtain ⟨rfl, hC1, hk1⟩ := e1
  refine zZ_h (mUp m S h1) (mUp_kept hS hk1) ?_
  refine z_aload_n dL_law_323 rfl rfl ?_
  refine z_aload_n dL_law_324 rfl rfl ?_
  refine z_iload_n dL_law_325 rfl rfl ?_
  refine z_iconst (v := nI 1) dL_law_326 rfl (by decide) ?_
  refine z_iadd dL_law_327 rfl ?_
  refine z_sld hg dL_law_328 rfl (in_j 1 (by decide) hi hL) ?_
  refine z_aload_n dL_law_329 rfl rfl ?_
  refine z_iload_n dL_law_330 rfl rfl ?_
  refine z_iconst (v := nI 2) dL_law_331 rfl (by decide) ?_
  refine z_iadd dL_law_332 rfl ?_
  refine z_sld hg dL_law_333 rfl (in_j 2 (by decide) hi hL) ?_
  refine z_aload_n dL_law_334 rfl rfl ?_
  refine z_iload_n dL_law_335 rfl rfl ?_
  refine z_iconst (v := nI 3) dL_law_336 rfl (by decide) ?_
  refine z_iadd dL_law_337 rfl ?_
  refine z_sld hg dL_law_338 rfl (in_j 3 (by decide) hi hL) ?_
  refine zc_L_35 rfl dL_law_339 rfl mo_recv (R_ask g h1 m S w hM _ _ _) rfl rfl ⟨(Nat.le_of_ble_eq_true rfl), (Nat.le_of_ble_eq_true rfl)⟩ ⟨by show ce + 0 + 0 ≤ 600000; omega, by show sl + 0 + 0 ≤ 7302250; omega⟩ (Nat.le_of_ble_eq_true rfl) (fun v2 h2 e2 => ?_)
  obtain ⟨S2, rfl, rfl, hM2⟩ := e2
  exact z_icmp_eq (tgt := 1286) dL_law_342 rfl (by decide) (fun _ => z_widen (by show ce + 0 + 0 ≤ ce + 35; omega) (by show sl + 0 + 0 ≤ sl + 1018; omega) (K _ _ ⟨RepC_m S2 hC1, S2, (mUp_mUp _ _ _ _).symm, hM2⟩)) (fun c => absurd rfl c)

set_option maxHeartbeats 800000 in
set_option maxRecDepth 100000 in
theorem L_box (g : zG) (b L n0 : Nat) (xs : Nat → Int32) (nm : String) (hg : g.2.2.2 = n0) (hL : L ≤ 3072) (x m : Nat) (w : sW) (H : zH) (hI : LI x m w H) (i : Nat) (hi : i + 6 ≤ L) (ce sl : Nat) (hce : ce ≤ 500000) (hsl : sl ≤ 7000000) (K : ∀ (H' : zH) (w' : sW), LI x m w' H' → zZ g (YL b L n0 xs nm) QL 1286 [(3, .int (nI i)), (2, .ref m), (1, .ref x), (0, .ref b)] [] H' (ce + 35) (sl + 1018)) : zZ g (YL b L n0 xs nm) QL 347 [(3, .int (nI i)), (2, .ref m), (1, .ref x), (0, .ref b)] [] H ce sl := by
  refine z_aload_n dL_law_347 rfl rfl ?_
  refine z_aload_n dL_law_348 rfl rfl ?_
  refine z_iload_n dL_law_349 rfl rfl ?_
  refine z_iconst (v := nI 1) dL_law_350 rfl (by decide) ?_
  refine z_iadd dL_law_351 rfl ?_
  refine z_sld hg dL_law_352 rfl (in_j 1 (by decide) hi hL) ?_
  refine z_aload_n dL_law_353 rfl rfl ?_
  refine z_iload_n dL_law_354 rfl rfl ?_
  refine z_iconst (v := nI 2) dL_law_355 rfl (by decide) ?_
  refine z_iadd dL_law_356 rfl ?_
  refine z_sld hg dL_law_357 rfl (in_j 2 (by decide) hi hL) ?_
  obtain ⟨hC, S, hS, hM⟩ := id hI
  obtain ⟨fs, hx⟩ := RepC_x hC
  refine zc_L_36 rfl dL_law_358 rfl hx (C_box g H x m w hC _ _) rfl rfl ⟨(Nat.le_of_ble_eq_true rfl), (Nat.le_of_ble_eq_true rfl)⟩ ⟨by show ce + 0 ≤ 600000; omega, by show sl + 0 ≤ 7302250; omega⟩ (Nat.le_of_ble_eq_true rfl) (fun v1 h1 e1 => ?_)
  obtain ⟨rfl, hC1, hk1⟩ := e1
  refine zZ_h (mUp m S h1) (mUp_kept hS hk1) ?_
  refine z_aload_n dL_law_361 rfl rfl ?_
  refine z_aload_n dL_law_362 rfl rfl ?_
  refine z_iload_n dL_law_363 rfl rfl ?_
  refine z_iconst (v := nI 1) dL_law_364 rfl (by decide) ?_
  refine z_iadd dL_law_365 rfl ?_
  refine z_sld hg dL_law_366 rfl (in_j 1 (by decide) hi hL) ?_
  refine z_aload_n dL_law_367 rfl rfl ?_
  refine z_iload_n dL_law_368 rfl rfl ?_
  refine z_iconst (v := nI 2) dL_law_369 rfl (by decide) ?_
  refine z_iadd dL_law_370 rfl ?_
  refine z_sld hg dL_law_371 rfl (in_j 2 (by decide) hi hL) ?_
  refine zc_L_39 rfl dL_law_372 rfl mo_recv (R_box g h1 m S w hM _ _) rfl rfl ⟨(Nat.le_of_ble_eq_true rfl), (Nat.le_of_ble_eq_true rfl)⟩ ⟨by show ce + 0 + 0 ≤ 600000; omega, by show sl + 0 + 0 ≤ 7302250; omega⟩ (Nat.le_of_ble_eq_true rfl) (fun v2 h2 e2 => ?_)
  obtain ⟨S2, rfl, rfl, hM2⟩ := e2
  exact z_icmp_eq (tgt := 1286) dL_law_375 rfl (by decide) (fun _ => z_widen (by show ce + 0 + 0 ≤ ce + 35; omega) (by show sl + 0 + 0 ≤ sl + 1018; omega) (K _ _ ⟨RepC_m S2 hC1, S2, (mUp_mUp _ _ _ _).symm, hM2⟩)) (fun c => absurd rfl c)

set_option maxHeartbeats 800000 in
set_option maxRecDepth 100000 in
theorem L_got (g : zG) (b L n0 : Nat) (xs : Nat → Int32) (nm : String) (hg : g.2.2.2 = n0) (hL : L ≤ 3072) (x m : Nat) (w : sW) (H : zH) (hI : LI x m w H) (i : Nat) (hi : i + 6 ≤ L) (ce sl : Nat) (hce : ce ≤ 500000) (hsl : sl ≤ 7000000) (K : ∀ (H' : zH) (w' : sW), LI x m w' H' → zZ g (YL b L n0 xs nm) QL 1286 [(3, .int (nI i)), (2, .ref m), (1, .ref x), (0, .ref b)] [] H' (ce + 35) (sl + 1018)) : zZ g (YL b L n0 xs nm) QL 380 [(3, .int (nI i)), (2, .ref m), (1, .ref x), (0, .ref b)] [] H ce sl := by
  refine z_aload_n dL_law_380 rfl rfl ?_
  obtain ⟨hC, S, hS, hM⟩ := id hI
  obtain ⟨fs, hx⟩ := RepC_x hC
  refine zc_L_40 rfl dL_law_381 rfl hx (C_got g H x m w hC ) rfl rfl ⟨(Nat.le_of_ble_eq_true rfl), (Nat.le_of_ble_eq_true rfl)⟩ ⟨by show ce + 0 ≤ 600000; omega, by show sl + 0 ≤ 7302250; omega⟩ (Nat.le_of_ble_eq_true rfl) (fun v1 h1 e1 => ?_)
  obtain ⟨rfl, rfl⟩ := e1
  have hk1 : ∀ q, m ≤ q → q < m + 20 → h1.2 q = h1.2 q := fun _ _ _ => rfl
  have hC1 := hC
  refine zZ_h (mUp m S h1) (mUp_kept hS hk1) ?_
  refine z_aload_n dL_law_384 rfl rfl ?_
  refine zc_L_44 rfl dL_law_385 rfl mo_recv (R_got g h1 m S w hM ) rfl rfl ⟨(Nat.le_of_ble_eq_true rfl), (Nat.le_of_ble_eq_true rfl)⟩ ⟨by show ce + 0 + 0 ≤ 600000; omega, by show sl + 0 + 0 ≤ 7302250; omega⟩ (Nat.le_of_ble_eq_true rfl) (fun v2 h2 e2 => ?_)
  obtain ⟨rfl, rfl⟩ := e2
  have hM2 := hM
  exact z_lc_eq (tgt := 1286) dL_law_388 rfl dL_law_389 (by decide) (fun _ => z_widen (by show ce + 0 + 0 ≤ ce + 35; omega) (by show sl + 0 + 0 ≤ sl + 1018; omega) (K _ _ ⟨RepC_m S hC1, S, (mUp_mUp _ _ _ _).symm, hM2⟩)) (fun c => absurd rfl c)

set_option maxHeartbeats 800000 in
set_option maxRecDepth 100000 in
theorem L_put (g : zG) (b L n0 : Nat) (xs : Nat → Int32) (nm : String) (hg : g.2.2.2 = n0) (hL : L ≤ 3072) (x m : Nat) (w : sW) (H : zH) (hI : LI x m w H) (i : Nat) (hi : i + 6 ≤ L) (ce sl : Nat) (hce : ce ≤ 500000) (hsl : sl ≤ 7000000) (K : ∀ (H' : zH) (w' : sW), LI x m w' H' → zZ g (YL b L n0 xs nm) QL 1286 [(3, .int (nI i)), (2, .ref m), (1, .ref x), (0, .ref b)] [] H' (ce + 35) (sl + 1018)) : zZ g (YL b L n0 xs nm) QL 394 [(3, .int (nI i)), (2, .ref m), (1, .ref x), (0, .ref b)] [] H ce sl := by
  refine z_aload_n dL_law_394 rfl rfl ?_
  refine z_aload_n dL_law_395 rfl rfl ?_
  refine z_iload_n dL_law_396 rfl rfl ?_
  refine z_iconst (v := nI 1) dL_law_397 rfl (by decide) ?_
  refine z_iadd dL_law_398 rfl ?_
  refine z_sld hg dL_law_399 rfl (in_j 1 (by decide) hi hL) ?_
  refine z_aload_n dL_law_400 rfl rfl ?_
  refine z_iload_n dL_law_401 rfl rfl ?_
  refine z_iconst (v := nI 2) dL_law_402 rfl (by decide) ?_
  refine z_iadd dL_law_403 rfl ?_
  refine z_sld hg dL_law_404 rfl (in_j 2 (by decide) hi hL) ?_
  refine z_aload_n dL_law_405 rfl rfl ?_
  refine z_iload_n dL_law_406 rfl rfl ?_
  refine z_iconst (v := nI 3) dL_law_407 rfl (by decide) ?_
  refine z_iadd dL_law_408 rfl ?_
  refine z_sld hg dL_law_409 rfl (in_j 3 (by decide) hi hL) ?_
  refine z_aload_n dL_law_410 rfl rfl ?_
  refine z_iload_n dL_law_411 rfl rfl ?_
  refine z_iconst (v := nI 4) dL_law_412 rfl (by decide) ?_
  refine z_iadd dL_law_413 rfl ?_
  refine z_sld hg dL_law_414 rfl (in_j 4 (by decide) hi hL) ?_
  obtain ⟨hC, S, hS, hM⟩ := id hI
  obtain ⟨fs, hx⟩ := RepC_x hC
  refine zc_L_45 rfl dL_law_415 rfl hx (C_put g H x m w hC _ _ _ _) rfl rfl ⟨(Nat.le_of_ble_eq_true rfl), (Nat.le_of_ble_eq_true rfl)⟩ ⟨by show ce + 0 ≤ 600000; omega, by show sl + 0 ≤ 7302250; omega⟩ (Nat.le_of_ble_eq_true rfl) (fun v1 h1 e1 => ?_)
  obtain ⟨rfl, hC1, hk1⟩ := e1
  refine zZ_h (mUp m S h1) (mUp_kept hS hk1) ?_
  refine z_aload_n dL_law_418 rfl rfl ?_
  refine z_aload_n dL_law_419 rfl rfl ?_
  refine z_iload_n dL_law_420 rfl rfl ?_
  refine z_iconst (v := nI 1) dL_law_421 rfl (by decide) ?_
  refine z_iadd dL_law_422 rfl ?_
  refine z_sld hg dL_law_423 rfl (in_j 1 (by decide) hi hL) ?_
  refine z_aload_n dL_law_424 rfl rfl ?_
  refine z_iload_n dL_law_425 rfl rfl ?_
  refine z_iconst (v := nI 2) dL_law_426 rfl (by decide) ?_
  refine z_iadd dL_law_427 rfl ?_
  refine z_sld hg dL_law_428 rfl (in_j 2 (by decide) hi hL) ?_
  refine z_aload_n dL_law_429 rfl rfl ?_
  refine z_iload_n dL_law_430 rfl rfl ?_
  refine z_iconst (v := nI 3) dL_law_431 rfl (by decide) ?_
  refine z_iadd dL_law_432 rfl ?_
  refine z_sld hg dL_law_433 rfl (in_j 3 (by decide) hi hL) ?_
  refine z_aload_n dL_law_434 rfl rfl ?_
  refine z_iload_n dL_law_435 rfl rfl ?_
  refine z_iconst (v := nI 4) dL_law_436 rfl (by decide) ?_
  refine z_iadd dL_law_437 rfl ?_
  refine z_sld hg dL_law_438 rfl (in_j 4 (by decide) hi hL) ?_
  refine zc_L_49 rfl dL_law_439 rfl mo_recv (R_put g h1 m S w hM _ _ _ _) rfl rfl ⟨(Nat.le_of_ble_eq_true rfl), (Nat.le_of_ble_eq_true rfl)⟩ ⟨by show ce + 0 + 0 ≤ 600000; omega, by show sl + 0 + 0 ≤ 7302250; omega⟩ (Nat.le_of_ble_eq_true rfl) (fun v2 h2 e2 => ?_)
  obtain ⟨S2, rfl, rfl, hM2⟩ := e2
  exact z_icmp_eq (tgt := 1286) dL_law_442 rfl (by decide) (fun _ => z_widen (by show ce + 0 + 0 ≤ ce + 35; omega) (by show sl + 0 + 0 ≤ sl + 1018; omega) (K _ _ ⟨RepC_m S2 hC1, S2, (mUp_mUp _ _ _ _).symm, hM2⟩)) (fun c => absurd rfl c)

set_option maxHeartbeats 800000 in
set_option maxRecDepth 100000 in
theorem L_lay (g : zG) (b L n0 : Nat) (xs : Nat → Int32) (nm : String) (hg : g.2.2.2 = n0) (hL : L ≤ 3072) (x m : Nat) (w : sW) (H : zH) (hI : LI x m w H) (i : Nat) (hi : i + 6 ≤ L) (ce sl : Nat) (hce : ce ≤ 500000) (hsl : sl ≤ 7000000) (K : ∀ (H' : zH) (w' : sW), LI x m w' H' → zZ g (YL b L n0 xs nm) QL 1286 [(3, .int (nI i)), (2, .ref m), (1, .ref x), (0, .ref b)] [] H' (ce + 35) (sl + 1018)) : zZ g (YL b L n0 xs nm) QL 447 [(3, .int (nI i)), (2, .ref m), (1, .ref x), (0, .ref b)] [] H ce sl := by
  refine z_aload_n dL_law_447 rfl rfl ?_
  refine z_aload_n dL_law_448 rfl rfl ?_
  refine z_iload_n dL_law_449 rfl rfl ?_
  refine z_iconst (v := nI 1) dL_law_450 rfl (by decide) ?_
  refine z_iadd dL_law_451 rfl ?_
  refine z_sld hg dL_law_452 rfl (in_j 1 (by decide) hi hL) ?_
  refine z_aload_n dL_law_453 rfl rfl ?_
  refine z_iload_n dL_law_454 rfl rfl ?_
  refine z_iconst (v := nI 2) dL_law_455 rfl (by decide) ?_
  refine z_iadd dL_law_456 rfl ?_
  refine z_sld hg dL_law_457 rfl (in_j 2 (by decide) hi hL) ?_
  refine z_aload_n dL_law_458 rfl rfl ?_
  refine z_iload_n dL_law_459 rfl rfl ?_
  refine z_iconst (v := nI 3) dL_law_460 rfl (by decide) ?_
  refine z_iadd dL_law_461 rfl ?_
  refine z_sld hg dL_law_462 rfl (in_j 3 (by decide) hi hL) ?_
  refine z_aload_n dL_law_463 rfl rfl ?_
  refine z_iload_n dL_law_464 rfl rfl ?_
  refine z_iconst (v := nI 4) dL_law_465 rfl (by decide) ?_
  refine z_iadd dL_law_466 rfl ?_
  refine z_sld hg dL_law_467 rfl (in_j 4 (by decide) hi hL) ?_
  obtain ⟨hC, S, hS, hM⟩ := id hI
  obtain ⟨fs, hx⟩ := RepC_x hC
  refine zc_L_50 rfl dL_law_468 rfl hx (C_lay g H x m w hC _ _ _ _) rfl rfl ⟨(Nat.le_of_ble_eq_true rfl), (Nat.le_of_ble_eq_true rfl)⟩ ⟨by show ce + 0 ≤ 600000; omega, by show sl + 0 ≤ 7302250; omega⟩ (Nat.le_of_ble_eq_true rfl) (fun v1 h1 e1 => ?_)
  obtain ⟨rfl, hC1, hk1⟩ := e1
  refine zZ_h (mUp m S h1) (mUp_kept hS hk1) ?_
  refine z_aload_n dL_law_471 rfl rfl ?_
  refine z_aload_n dL_law_472 rfl rfl ?_
  refine z_iload_n dL_law_473 rfl rfl ?_
  refine z_iconst (v := nI 1) dL_law_474 rfl (by decide) ?_
  refine z_iadd dL_law_475 rfl ?_
  refine z_sld hg dL_law_476 rfl (in_j 1 (by decide) hi hL) ?_
  refine z_aload_n dL_law_477 rfl rfl ?_
  refine z_iload_n dL_law_478 rfl rfl ?_
  refine z_iconst (v := nI 2) dL_law_479 rfl (by decide) ?_
  refine z_iadd dL_law_480 rfl ?_
  refine z_sld hg dL_law_481 rfl (in_j 2 (by decide) hi hL) ?_
  refine z_aload_n dL_law_482 rfl rfl ?_
  refine z_iload_n dL_law_483 rfl rfl ?_
  refine z_iconst (v := nI 3) dL_law_484 rfl (by decide) ?_
  refine z_iadd dL_law_485 rfl ?_
  refine z_sld hg dL_law_486 rfl (in_j 3 (by decide) hi hL) ?_
  refine z_aload_n dL_law_487 rfl rfl ?_
  refine z_iload_n dL_law_488 rfl rfl ?_
  refine z_iconst (v := nI 4) dL_law_489 rfl (by decide) ?_
  refine z_iadd dL_law_490 rfl ?_
  refine z_sld hg dL_law_491 rfl (in_j 4 (by decide) hi hL) ?_
  refine zc_L_53 rfl dL_law_492 rfl mo_recv (R_lay g h1 m S w hM _ _ _ _) rfl rfl ⟨(Nat.le_of_ble_eq_true rfl), (Nat.le_of_ble_eq_true rfl)⟩ ⟨by show ce + 0 + 0 ≤ 600000; omega, by show sl + 0 + 0 ≤ 7302250; omega⟩ (Nat.le_of_ble_eq_true rfl) (fun v2 h2 e2 => ?_)
  obtain ⟨S2, rfl, rfl, hM2⟩ := e2
  exact z_icmp_eq (tgt := 1286) dL_law_495 rfl (by decide) (fun _ => z_widen (by show ce + 0 + 0 ≤ ce + 35; omega) (by show sl + 0 + 0 ≤ sl + 1018; omega) (K _ _ ⟨RepC_m S2 hC1, S2, (mUp_mUp _ _ _ _).symm, hM2⟩)) (fun c => absurd rfl c)

set_option maxHeartbeats 800000 in
set_option maxRecDepth 100000 in
theorem L_fill (g : zG) (b L n0 : Nat) (xs : Nat → Int32) (nm : String) (hg : g.2.2.2 = n0) (hL : L ≤ 3072) (x m : Nat) (w : sW) (H : zH) (hI : LI x m w H) (i : Nat) (hi : i + 6 ≤ L) (ce sl : Nat) (hce : ce ≤ 500000) (hsl : sl ≤ 7000000) (K : ∀ (H' : zH) (w' : sW), LI x m w' H' → zZ g (YL b L n0 xs nm) QL 1286 [(3, .int (nI i)), (2, .ref m), (1, .ref x), (0, .ref b)] [] H' (ce + 35) (sl + 1018)) : zZ g (YL b L n0 xs nm) QL 500 [(3, .int (nI i)), (2, .ref m), (1, .ref x), (0, .ref b)] [] H ce sl := by
  refine z_aload_n dL_law_500 rfl rfl ?_
  refine z_aload_n dL_law_501 rfl rfl ?_
  refine z_iload_n dL_law_502 rfl rfl ?_
  refine z_iconst (v := nI 1) dL_law_503 rfl (by decide) ?_
  refine z_iadd dL_law_504 rfl ?_
  refine z_sld hg dL_law_505 rfl (in_j 1 (by decide) hi hL) ?_
  refine z_aload_n dL_law_506 rfl rfl ?_
  refine z_iload_n dL_law_507 rfl rfl ?_
  refine z_iconst (v := nI 2) dL_law_508 rfl (by decide) ?_
  refine z_iadd dL_law_509 rfl ?_
  refine z_sld hg dL_law_510 rfl (in_j 2 (by decide) hi hL) ?_
  refine z_aload_n dL_law_511 rfl rfl ?_
  refine z_iload_n dL_law_512 rfl rfl ?_
  refine z_iconst (v := nI 3) dL_law_513 rfl (by decide) ?_
  refine z_iadd dL_law_514 rfl ?_
  refine z_sld hg dL_law_515 rfl (in_j 3 (by decide) hi hL) ?_
  refine z_aload_n dL_law_516 rfl rfl ?_
  refine z_iload_n dL_law_517 rfl rfl ?_
  refine z_iconst (v := nI 4) dL_law_518 rfl (by decide) ?_
  refine z_iadd dL_law_519 rfl ?_
  refine z_sld hg dL_law_520 rfl (in_j 4 (by decide) hi hL) ?_
  refine z_aload_n dL_law_521 rfl rfl ?_
  refine z_iload_n dL_law_522 rfl rfl ?_
  refine z_iconst (v := nI 5) dL_law_523 rfl (by decide) ?_
  refine z_iadd dL_law_524 rfl ?_
  refine z_sld hg dL_law_525 rfl (in_j 5 (by decide) hi hL) ?_
  obtain ⟨hC, S, hS, hM⟩ := id hI
  obtain ⟨fs, hx⟩ := RepC_x hC
  refine zc_L_54 rfl dL_law_526 rfl hx (C_fill g H x m w hC _ _ _ _ _) rfl rfl ⟨(Nat.le_of_ble_eq_true rfl), (Nat.le_of_ble_eq_true rfl)⟩ ⟨by show ce + 0 ≤ 600000; omega, by show sl + 0 ≤ 7302250; omega⟩ (Nat.le_of_ble_eq_true rfl) (fun v1 h1 e1 => ?_)
  obtain ⟨rfl, hC1, hk1⟩ := e1
  refine zZ_h (mUp m S h1) (mUp_kept hS hk1) ?_
  refine z_aload_n dL_law_529 rfl rfl ?_
  refine z_aload_n dL_law_530 rfl rfl ?_
  refine z_iload_n dL_law_531 rfl rfl ?_
  refine z_iconst (v := nI 1) dL_law_532 rfl (by decide) ?_
  refine z_iadd dL_law_533 rfl ?_
  refine z_sld hg dL_law_534 rfl (in_j 1 (by decide) hi hL) ?_
  refine z_aload_n dL_law_535 rfl rfl ?_
  refine z_iload_n dL_law_536 rfl rfl ?_
  refine z_iconst (v := nI 2) dL_law_537 rfl (by decide) ?_
  refine z_iadd dL_law_538 rfl ?_
  refine z_sld hg dL_law_539 rfl (in_j 2 (by decide) hi hL) ?_
  refine z_aload_n dL_law_540 rfl rfl ?_
  refine z_iload_n dL_law_541 rfl rfl ?_
  refine z_iconst (v := nI 3) dL_law_542 rfl (by decide) ?_
  refine z_iadd dL_law_543 rfl ?_
  refine z_sld hg dL_law_544 rfl (in_j 3 (by decide) hi hL) ?_
  refine z_aload_n dL_law_545 rfl rfl ?_
  refine z_iload_n dL_law_546 rfl rfl ?_
  refine z_iconst (v := nI 4) dL_law_547 rfl (by decide) ?_
  refine z_iadd dL_law_548 rfl ?_
  refine z_sld hg dL_law_549 rfl (in_j 4 (by decide) hi hL) ?_
  refine z_aload_n dL_law_550 rfl rfl ?_
  refine z_iload_n dL_law_551 rfl rfl ?_
  refine z_iconst (v := nI 5) dL_law_552 rfl (by decide) ?_
  refine z_iadd dL_law_553 rfl ?_
  refine z_sld hg dL_law_554 rfl (in_j 5 (by decide) hi hL) ?_
  refine zc_L_58 rfl dL_law_555 rfl mo_recv (R_fill g h1 m S w hM _ _ _ _ _) rfl rfl ⟨(Nat.le_of_ble_eq_true rfl), (Nat.le_of_ble_eq_true rfl)⟩ ⟨by show ce + 0 + 0 ≤ 600000; omega, by show sl + 0 + 0 ≤ 7302250; omega⟩ (Nat.le_of_ble_eq_true rfl) (fun v2 h2 e2 => ?_)
  obtain ⟨S2, rfl, rfl, hM2⟩ := e2
  exact z_icmp_eq (tgt := 1286) dL_law_558 rfl (by decide) (fun _ => z_widen (by show ce + 0 + 0 ≤ ce + 35; omega) (by show sl + 0 + 0 ≤ sl + 1018; omega) (K _ _ ⟨RepC_m S2 hC1, S2, (mUp_mUp _ _ _ _).symm, hM2⟩)) (fun c => absurd rfl c)

set_option maxHeartbeats 800000 in
set_option maxRecDepth 100000 in
theorem L_move (g : zG) (b L n0 : Nat) (xs : Nat → Int32) (nm : String) (hg : g.2.2.2 = n0) (hL : L ≤ 3072) (x m : Nat) (w : sW) (H : zH) (hI : LI x m w H) (i : Nat) (hi : i + 6 ≤ L) (ce sl : Nat) (hce : ce ≤ 500000) (hsl : sl ≤ 7000000) (K : ∀ (H' : zH) (w' : sW), LI x m w' H' → zZ g (YL b L n0 xs nm) QL 1286 [(3, .int (nI i)), (2, .ref m), (1, .ref x), (0, .ref b)] [] H' (ce + 35) (sl + 1018)) : zZ g (YL b L n0 xs nm) QL 563 [(3, .int (nI i)), (2, .ref m), (1, .ref x), (0, .ref b)] [] H ce sl := by
  refine z_aload_n dL_law_563 rfl rfl ?_
  refine z_aload_n dL_law_564 rfl rfl ?_
  refine z_iload_n dL_law_565 rfl rfl ?_
  refine z_iconst (v := nI 1) dL_law_566 rfl (by decide) ?_
  refine z_iadd dL_law_567 rfl ?_
  refine z_sld hg dL_law_568 rfl (in_j 1 (by decide) hi hL) ?_
  refine z_aload_n dL_law_569 rfl rfl ?_
  refine z_iload_n dL_law_570 rfl rfl ?_
  refine z_iconst (v := nI 2) dL_law_571 rfl (by decide) ?_
  refine z_iadd dL_law_572 rfl ?_
  refine z_sld hg dL_law_573 rfl (in_j 2 (by decide) hi hL) ?_
  refine z_aload_n dL_law_574 rfl rfl ?_
  refine z_iload_n dL_law_575 rfl rfl ?_
  refine z_iconst (v := nI 3) dL_law_576 rfl (by decide) ?_
  refine z_iadd dL_law_577 rfl ?_
  refine z_sld hg dL_law_578 rfl (in_j 3 (by decide) hi hL) ?_
  refine z_aload_n dL_law_579 rfl rfl ?_
  refine z_iload_n dL_law_580 rfl rfl ?_
  refine z_iconst (v := nI 4) dL_law_581 rfl (by decide) ?_
  refine z_iadd dL_law_582 rfl ?_
  refine z_sld hg dL_law_583 rfl (in_j 4 (by decide) hi hL) ?_
  refine z_aload_n dL_law_584 rfl rfl ?_
  refine z_iload_n dL_law_585 rfl rfl ?_
  refine z_iconst (v := nI 5) dL_law_586 rfl (by decide) ?_
  refine z_iadd dL_law_587 rfl ?_
  refine z_sld hg dL_law_588 rfl (in_j 5 (by decide) hi hL) ?_
  obtain ⟨hC, S, hS, hM⟩ := id hI
  obtain ⟨fs, hx⟩ := RepC_x hC
  refine zc_L_59 rfl dL_law_589 rfl hx (C_move g H x m w hC _ _ _ _ _) rfl rfl ⟨(Nat.le_of_ble_eq_true rfl), (Nat.le_of_ble_eq_true rfl)⟩ ⟨by show ce + 0 ≤ 600000; omega, by show sl + 0 ≤ 7302250; omega⟩ (Nat.le_of_ble_eq_true rfl) (fun v1 h1 e1 => ?_)
  obtain ⟨rfl, hC1, hk1⟩ := e1
  refine zZ_h (mUp m S h1) (mUp_kept hS hk1) ?_
  refine z_aload_n dL_law_592 rfl rfl ?_
  refine z_aload_n dL_law_593 rfl rfl ?_
  refine z_iload_n dL_law_594 rfl rfl ?_
  refine z_iconst (v := nI 1) dL_law_595 rfl (by decide) ?_
  refine z_iadd dL_law_596 rfl ?_
  refine z_sld hg dL_law_597 rfl (in_j 1 (by decide) hi hL) ?_
  refine z_aload_n dL_law_598 rfl rfl ?_
  refine z_iload_n dL_law_599 rfl rfl ?_
  refine z_iconst (v := nI 2) dL_law_600 rfl (by decide) ?_
  refine z_iadd dL_law_601 rfl ?_
  refine z_sld hg dL_law_602 rfl (in_j 2 (by decide) hi hL) ?_
  refine z_aload_n dL_law_603 rfl rfl ?_
  refine z_iload_n dL_law_604 rfl rfl ?_
  refine z_iconst (v := nI 3) dL_law_605 rfl (by decide) ?_
  refine z_iadd dL_law_606 rfl ?_
  refine z_sld hg dL_law_607 rfl (in_j 3 (by decide) hi hL) ?_
  refine z_aload_n dL_law_608 rfl rfl ?_
  refine z_iload_n dL_law_609 rfl rfl ?_
  refine z_iconst (v := nI 4) dL_law_610 rfl (by decide) ?_
  refine z_iadd dL_law_611 rfl ?_
  refine z_sld hg dL_law_612 rfl (in_j 4 (by decide) hi hL) ?_
  refine z_aload_n dL_law_613 rfl rfl ?_
  refine z_iload_n dL_law_614 rfl rfl ?_
  refine z_iconst (v := nI 5) dL_law_615 rfl (by decide) ?_
  refine z_iadd dL_law_616 rfl ?_
  refine z_sld hg dL_law_617 rfl (in_j 5 (by decide) hi hL) ?_
  refine zc_L_62 rfl dL_law_618 rfl mo_recv (R_move g h1 m S w hM _ _ _ _ _) rfl rfl ⟨(Nat.le_of_ble_eq_true rfl), (Nat.le_of_ble_eq_true rfl)⟩ ⟨by show ce + 0 + 0 ≤ 600000; omega, by show sl + 0 + 0 ≤ 7302250; omega⟩ (Nat.le_of_ble_eq_true rfl) (fun v2 h2 e2 => ?_)
  obtain ⟨S2, rfl, rfl, hM2⟩ := e2
  exact z_icmp_eq (tgt := 1286) dL_law_621 rfl (by decide) (fun _ => z_widen (by show ce + 0 + 0 ≤ ce + 35; omega) (by show sl + 0 + 0 ≤ sl + 1018; omega) (K _ _ ⟨RepC_m S2 hC1, S2, (mUp_mUp _ _ _ _).symm, hM2⟩)) (fun c => absurd rfl c)

set_option maxHeartbeats 800000 in
set_option maxRecDepth 100000 in
theorem L_torn (g : zG) (b L n0 : Nat) (xs : Nat → Int32) (nm : String) (hg : g.2.2.2 = n0) (hL : L ≤ 3072) (x m : Nat) (w : sW) (H : zH) (hI : LI x m w H) (i : Nat) (hi : i + 6 ≤ L) (ce sl : Nat) (hce : ce ≤ 500000) (hsl : sl ≤ 7000000) (K : ∀ (H' : zH) (w' : sW), LI x m w' H' → zZ g (YL b L n0 xs nm) QL 1286 [(3, .int (nI i)), (2, .ref m), (1, .ref x), (0, .ref b)] [] H' (ce + 35) (sl + 1018)) : zZ g (YL b L n0 xs nm) QL 626 [(3, .int (nI i)), (2, .ref m), (1, .ref x), (0, .ref b)] [] H ce sl := by
  refine z_aload_n dL_law_626 rfl rfl ?_
  obtain ⟨hC, S, hS, hM⟩ := id hI
  obtain ⟨fs, hx⟩ := RepC_x hC
  refine zc_L_63 rfl dL_law_627 rfl hx (C_torn g H x m w hC ) rfl rfl ⟨(Nat.le_of_ble_eq_true rfl), (Nat.le_of_ble_eq_true rfl)⟩ ⟨by show ce + 0 ≤ 600000; omega, by show sl + 0 ≤ 7302250; omega⟩ (Nat.le_of_ble_eq_true rfl) (fun v1 h1 e1 => ?_)
  obtain ⟨rfl, rfl⟩ := e1
  have hk1 : ∀ q, m ≤ q → q < m + 20 → h1.2 q = h1.2 q := fun _ _ _ => rfl
  have hC1 := hC
  refine zZ_h (mUp m S h1) (mUp_kept hS hk1) ?_
  refine z_aload_n dL_law_630 rfl rfl ?_
  refine zc_L_67 rfl dL_law_631 rfl mo_recv (R_torn g h1 m S w hM ) rfl rfl ⟨(Nat.le_of_ble_eq_true rfl), (Nat.le_of_ble_eq_true rfl)⟩ ⟨by show ce + 0 + 0 ≤ 600000; omega, by show sl + 0 + 0 ≤ 7302250; omega⟩ (Nat.le_of_ble_eq_true rfl) (fun v2 h2 e2 => ?_)
  obtain ⟨rfl, rfl⟩ := e2
  have hM2 := hM
  exact z_icmp_eq (tgt := 1286) dL_law_634 rfl (by decide) (fun _ => z_widen (by show ce + 0 + 0 ≤ ce + 35; omega) (by show sl + 0 + 0 ≤ sl + 1018; omega) (K _ _ ⟨RepC_m S hC1, S, (mUp_mUp _ _ _ _).symm, hM2⟩)) (fun c => absurd rfl c)

set_option maxHeartbeats 800000 in
set_option maxRecDepth 100000 in
theorem L_sum (g : zG) (b L n0 : Nat) (xs : Nat → Int32) (nm : String) (hg : g.2.2.2 = n0) (hL : L ≤ 3072) (x m : Nat) (w : sW) (H : zH) (hI : LI x m w H) (i : Nat) (hi : i + 6 ≤ L) (ce sl : Nat) (hce : ce ≤ 500000) (hsl : sl ≤ 7000000) (K : ∀ (H' : zH) (w' : sW), LI x m w' H' → zZ g (YL b L n0 xs nm) QL 1286 [(3, .int (nI i)), (2, .ref m), (1, .ref x), (0, .ref b)] [] H' (ce + 35) (sl + 1018)) : zZ g (YL b L n0 xs nm) QL 639 [(3, .int (nI i)), (2, .ref m), (1, .ref x), (0, .ref b)] [] H ce sl := by
  refine z_aload_n dL_law_639 rfl rfl ?_
  refine z_aload_n dL_law_640 rfl rfl ?_
  refine z_iload_n dL_law_641 rfl rfl ?_
  refine z_iconst (v := nI 1) dL_law_642 rfl (by decide) ?_
  refine z_iadd dL_law_643 rfl ?_
  refine z_sld hg dL_law_644 rfl (in_j 1 (by decide) hi hL) ?_
  refine z_aload_n dL_law_645 rfl rfl ?_
  refine z_iload_n dL_law_646 rfl rfl ?_
  refine z_iconst (v := nI 2) dL_law_647 rfl (by decide) ?_
  refine z_iadd dL_law_648 rfl ?_
  refine z_sld hg dL_law_649 rfl (in_j 2 (by decide) hi hL) ?_
  obtain ⟨hC, S, hS, hM⟩ := id hI
  obtain ⟨fs, hx⟩ := RepC_x hC
  refine zc_L_68 rfl dL_law_650 rfl hx (C_sum g H x m w hC _ _) rfl rfl ⟨(Nat.le_of_ble_eq_true rfl), (Nat.le_of_ble_eq_true rfl)⟩ ⟨by show ce + 0 ≤ 600000; omega, by show sl + 0 ≤ 7302250; omega⟩ (Nat.le_of_ble_eq_true rfl) (fun v1 h1 e1 => ?_)
  obtain ⟨rfl, hC1, hk1⟩ := e1
  refine zZ_h (mUp m S h1) (mUp_kept hS hk1) ?_
  refine z_aload_n dL_law_653 rfl rfl ?_
  refine z_aload_n dL_law_654 rfl rfl ?_
  refine z_iload_n dL_law_655 rfl rfl ?_
  refine z_iconst (v := nI 1) dL_law_656 rfl (by decide) ?_
  refine z_iadd dL_law_657 rfl ?_
  refine z_sld hg dL_law_658 rfl (in_j 1 (by decide) hi hL) ?_
  refine z_aload_n dL_law_659 rfl rfl ?_
  refine z_iload_n dL_law_660 rfl rfl ?_
  refine z_iconst (v := nI 2) dL_law_661 rfl (by decide) ?_
  refine z_iadd dL_law_662 rfl ?_
  refine z_sld hg dL_law_663 rfl (in_j 2 (by decide) hi hL) ?_
  refine zc_L_71 rfl dL_law_664 rfl mo_recv (R_sum g h1 m S w hM _ _) rfl rfl ⟨(Nat.le_of_ble_eq_true rfl), (Nat.le_of_ble_eq_true rfl)⟩ ⟨by show ce + 0 + 0 ≤ 600000; omega, by show sl + 0 + 0 ≤ 7302250; omega⟩ (Nat.le_of_ble_eq_true rfl) (fun v2 h2 e2 => ?_)
  obtain ⟨S2, rfl, rfl, hM2⟩ := e2
  exact z_icmp_eq (tgt := 1286) dL_law_667 rfl (by decide) (fun _ => z_widen (by show ce + 0 + 0 ≤ ce + 35; omega) (by show sl + 0 + 0 ≤ sl + 1018; omega) (K _ _ ⟨RepC_m S2 hC1, S2, (mUp_mUp _ _ _ _).symm, hM2⟩)) (fun c => absurd rfl c)

set_option maxHeartbeats 800000 in
set_option maxRecDepth 100000 in
theorem L_rate (g : zG) (b L n0 : Nat) (xs : Nat → Int32) (nm : String) (hg : g.2.2.2 = n0) (hL : L ≤ 3072) (x m : Nat) (w : sW) (H : zH) (hI : LI x m w H) (i : Nat) (hi : i + 6 ≤ L) (ce sl : Nat) (hce : ce ≤ 500000) (hsl : sl ≤ 7000000) (K : ∀ (H' : zH) (w' : sW), LI x m w' H' → zZ g (YL b L n0 xs nm) QL 1286 [(3, .int (nI i)), (2, .ref m), (1, .ref x), (0, .ref b)] [] H' (ce + 35) (sl + 1018)) : zZ g (YL b L n0 xs nm) QL 672 [(3, .int (nI i)), (2, .ref m), (1, .ref x), (0, .ref b)] [] H ce sl := by
  refine z_aload_n dL_law_672 rfl rfl ?_
  refine z_aload_n dL_law_673 rfl rfl ?_
  refine z_iload_n dL_law_674 rfl rfl ?_
  refine z_iconst (v := nI 1) dL_law_675 rfl (by decide) ?_
  refine z_iadd dL_law_676 rfl ?_
  refine z_sld hg dL_law_677 rfl (in_j 1 (by decide) hi hL) ?_
  refine z_aload_n dL_law_678 rfl rfl ?_
  refine z_iload_n dL_law_679 rfl rfl ?_
  refine z_iconst (v := nI 2) dL_law_680 rfl (by decide) ?_
  refine z_iadd dL_law_681 rfl ?_
  refine z_sld hg dL_law_682 rfl (in_j 2 (by decide) hi hL) ?_
  obtain ⟨hC, S, hS, hM⟩ := id hI
  obtain ⟨fs, hx⟩ := RepC_x hC
  refine zc_L_72 rfl dL_law_683 rfl hx (C_rate g H x m w hC _ _) rfl rfl ⟨(Nat.le_of_ble_eq_true rfl), (Nat.le_of_ble_eq_true rfl)⟩ ⟨by show ce + 0 ≤ 600000; omega, by show sl + 0 ≤ 7302250; omega⟩ (Nat.le_of_ble_eq_true rfl) (fun v1 h1 e1 => ?_)
  obtain ⟨rfl, hC1, hk1⟩ := e1
  refine zZ_h (mUp m S h1) (mUp_kept hS hk1) ?_
  refine z_aload_n dL_law_686 rfl rfl ?_
  refine z_aload_n dL_law_687 rfl rfl ?_
  refine z_iload_n dL_law_688 rfl rfl ?_
  refine z_iconst (v := nI 1) dL_law_689 rfl (by decide) ?_
  refine z_iadd dL_law_690 rfl ?_
  refine z_sld hg dL_law_691 rfl (in_j 1 (by decide) hi hL) ?_
  refine z_aload_n dL_law_692 rfl rfl ?_
  refine z_iload_n dL_law_693 rfl rfl ?_
  refine z_iconst (v := nI 2) dL_law_694 rfl (by decide) ?_
  refine z_iadd dL_law_695 rfl ?_
  refine z_sld hg dL_law_696 rfl (in_j 2 (by decide) hi hL) ?_
  refine zc_L_75 rfl dL_law_697 rfl mo_recv (R_rate g h1 m S w hM _ _) rfl rfl ⟨(Nat.le_of_ble_eq_true rfl), (Nat.le_of_ble_eq_true rfl)⟩ ⟨by show ce + 0 + 0 ≤ 600000; omega, by show sl + 0 + 0 ≤ 7302250; omega⟩ (Nat.le_of_ble_eq_true rfl) (fun v2 h2 e2 => ?_)
  obtain ⟨S2, rfl, rfl, hM2⟩ := e2
  exact z_icmp_eq (tgt := 1286) dL_law_700 rfl (by decide) (fun _ => z_widen (by show ce + 0 + 0 ≤ ce + 35; omega) (by show sl + 0 + 0 ≤ sl + 1018; omega) (K _ _ ⟨RepC_m S2 hC1, S2, (mUp_mUp _ _ _ _).symm, hM2⟩)) (fun c => absurd rfl c)

set_option maxHeartbeats 800000 in
set_option maxRecDepth 100000 in
theorem L_like (g : zG) (b L n0 : Nat) (xs : Nat → Int32) (nm : String) (hg : g.2.2.2 = n0) (hL : L ≤ 3072) (x m : Nat) (w : sW) (H : zH) (hI : LI x m w H) (i : Nat) (hi : i + 6 ≤ L) (ce sl : Nat) (hce : ce ≤ 500000) (hsl : sl ≤ 7000000) (K : ∀ (H' : zH) (w' : sW), LI x m w' H' → zZ g (YL b L n0 xs nm) QL 1286 [(3, .int (nI i)), (2, .ref m), (1, .ref x), (0, .ref b)] [] H' (ce + 35) (sl + 1018)) : zZ g (YL b L n0 xs nm) QL 705 [(3, .int (nI i)), (2, .ref m), (1, .ref x), (0, .ref b)] [] H ce sl := by
  refine z_aload_n dL_law_705 rfl rfl ?_
  refine z_aload_n dL_law_706 rfl rfl ?_
  refine z_iload_n dL_law_707 rfl rfl ?_
  refine z_iconst (v := nI 1) dL_law_708 rfl (by decide) ?_
  refine z_iadd dL_law_709 rfl ?_
  refine z_sld hg dL_law_710 rfl (in_j 1 (by decide) hi hL) ?_
  refine z_aload_n dL_law_711 rfl rfl ?_
  refine z_iload_n dL_law_712 rfl rfl ?_
  refine z_iconst (v := nI 2) dL_law_713 rfl (by decide) ?_
  refine z_iadd dL_law_714 rfl ?_
  refine z_sld hg dL_law_715 rfl (in_j 2 (by decide) hi hL) ?_
  refine z_aload_n dL_law_716 rfl rfl ?_
  refine z_iload_n dL_law_717 rfl rfl ?_
  refine z_iconst (v := nI 3) dL_law_718 rfl (by decide) ?_
  refine z_iadd dL_law_719 rfl ?_
  refine z_sld hg dL_law_720 rfl (in_j 3 (by decide) hi hL) ?_
  refine z_aload_n dL_law_721 rfl rfl ?_
  refine z_iload_n dL_law_722 rfl rfl ?_
  refine z_iconst (v := nI 4) dL_law_723 rfl (by decide) ?_
  refine z_iadd dL_law_724 rfl ?_
  refine z_sld hg dL_law_725 rfl (in_j 4 (by decide) hi hL) ?_
  obtain ⟨hC, S, hS, hM⟩ := id hI
  obtain ⟨fs, hx⟩ := RepC_x hC
  refine zc_L_76 rfl dL_law_726 rfl hx (C_like g H x m w hC _ _ _ _) rfl rfl ⟨(Nat.le_of_ble_eq_true rfl), (Nat.le_of_ble_eq_true rfl)⟩ ⟨by show ce + 0 ≤ 600000; omega, by show sl + 0 ≤ 7302250; omega⟩ (Nat.le_of_ble_eq_true rfl) (fun v1 h1 e1 => ?_)
  obtain ⟨rfl, hC1, hk1⟩ := e1
  refine zZ_h (mUp m S h1) (mUp_kept hS hk1) ?_
  refine z_aload_n dL_law_729 rfl rfl ?_
  refine z_aload_n dL_law_730 rfl rfl ?_
  refine z_iload_n dL_law_731 rfl rfl ?_
  refine z_iconst (v := nI 1) dL_law_732 rfl (by decide) ?_
  refine z_iadd dL_law_733 rfl ?_
  refine z_sld hg dL_law_734 rfl (in_j 1 (by decide) hi hL) ?_
  refine z_aload_n dL_law_735 rfl rfl ?_
  refine z_iload_n dL_law_736 rfl rfl ?_
  refine z_iconst (v := nI 2) dL_law_737 rfl (by decide) ?_
  refine z_iadd dL_law_738 rfl ?_
  refine z_sld hg dL_law_739 rfl (in_j 2 (by decide) hi hL) ?_
  refine z_aload_n dL_law_740 rfl rfl ?_
  refine z_iload_n dL_law_741 rfl rfl ?_
  refine z_iconst (v := nI 3) dL_law_742 rfl (by decide) ?_
  refine z_iadd dL_law_743 rfl ?_
  refine z_sld hg dL_law_744 rfl (in_j 3 (by decide) hi hL) ?_
  refine z_aload_n dL_law_745 rfl rfl ?_
  refine z_iload_n dL_law_746 rfl rfl ?_
  refine z_iconst (v := nI 4) dL_law_747 rfl (by decide) ?_
  refine z_iadd dL_law_748 rfl ?_
  refine z_sld hg dL_law_749 rfl (in_j 4 (by decide) hi hL) ?_
  refine zc_L_79 rfl dL_law_750 rfl mo_recv (R_like g h1 m S w hM _ _ _ _) rfl rfl ⟨(Nat.le_of_ble_eq_true rfl), (Nat.le_of_ble_eq_true rfl)⟩ ⟨by show ce + 0 + 0 ≤ 600000; omega, by show sl + 0 + 0 ≤ 7302250; omega⟩ (Nat.le_of_ble_eq_true rfl) (fun v2 h2 e2 => ?_)
  obtain ⟨S2, rfl, rfl, hM2⟩ := e2
  exact z_icmp_eq (tgt := 1286) dL_law_753 rfl (by decide) (fun _ => z_widen (by show ce + 0 + 0 ≤ ce + 35; omega) (by show sl + 0 + 0 ≤ sl + 1018; omega) (K _ _ ⟨RepC_m S2 hC1, S2, (mUp_mUp _ _ _ _).symm, hM2⟩)) (fun c => absurd rfl c)

set_option maxHeartbeats 800000 in
set_option maxRecDepth 100000 in
theorem L_compare (g : zG) (b L n0 : Nat) (xs : Nat → Int32) (nm : String) (hg : g.2.2.2 = n0) (hL : L ≤ 3072) (x m : Nat) (w : sW) (H : zH) (hI : LI x m w H) (i : Nat) (hi : i + 6 ≤ L) (ce sl : Nat) (hce : ce ≤ 500000) (hsl : sl ≤ 7000000) (K : ∀ (H' : zH) (w' : sW), LI x m w' H' → zZ g (YL b L n0 xs nm) QL 1286 [(3, .int (nI i)), (2, .ref m), (1, .ref x), (0, .ref b)] [] H' (ce + 35) (sl + 1018)) : zZ g (YL b L n0 xs nm) QL 758 [(3, .int (nI i)), (2, .ref m), (1, .ref x), (0, .ref b)] [] H ce sl := by
  refine z_aload_n dL_law_758 rfl rfl ?_
  refine z_aload_n dL_law_759 rfl rfl ?_
  refine z_iload_n dL_law_760 rfl rfl ?_
  refine z_iconst (v := nI 1) dL_law_761 rfl (by decide) ?_
  refine z_iadd dL_law_762 rfl ?_
  refine z_sld hg dL_law_763 rfl (in_j 1 (by decide) hi hL) ?_
  refine z_aload_n dL_law_764 rfl rfl ?_
  refine z_iload_n dL_law_765 rfl rfl ?_
  refine z_iconst (v := nI 2) dL_law_766 rfl (by decide) ?_
  refine z_iadd dL_law_767 rfl ?_
  refine z_sld hg dL_law_768 rfl (in_j 2 (by decide) hi hL) ?_
  obtain ⟨hC, S, hS, hM⟩ := id hI
  obtain ⟨fs, hx⟩ := RepC_x hC
  refine zc_L_80 rfl dL_law_769 rfl hx (C_compare g H x m w hC _ _) rfl rfl ⟨(Nat.le_of_ble_eq_true rfl), (Nat.le_of_ble_eq_true rfl)⟩ ⟨by show ce + 14 ≤ 600000; omega, by show sl + 459 ≤ 7302250; omega⟩ (Nat.le_of_ble_eq_true rfl) (fun v1 h1 e1 => ?_)
  obtain ⟨rfl, hC1, hk1⟩ := e1
  refine zZ_h (mUp m S h1) (mUp_kept hS hk1) ?_
  refine z_aload_n dL_law_772 rfl rfl ?_
  refine z_aload_n dL_law_773 rfl rfl ?_
  refine z_iload_n dL_law_774 rfl rfl ?_
  refine z_iconst (v := nI 1) dL_law_775 rfl (by decide) ?_
  refine z_iadd dL_law_776 rfl ?_
  refine z_sld hg dL_law_777 rfl (in_j 1 (by decide) hi hL) ?_
  refine z_aload_n dL_law_778 rfl rfl ?_
  refine z_iload_n dL_law_779 rfl rfl ?_
  refine z_iconst (v := nI 2) dL_law_780 rfl (by decide) ?_
  refine z_iadd dL_law_781 rfl ?_
  refine z_sld hg dL_law_782 rfl (in_j 2 (by decide) hi hL) ?_
  refine zc_L_83 rfl dL_law_783 rfl mo_recv (R_compare g h1 m S w hM _ _) rfl rfl ⟨(Nat.le_of_ble_eq_true rfl), (Nat.le_of_ble_eq_true rfl)⟩ ⟨by show ce + 14 + 0 ≤ 600000; omega, by show sl + 459 + 0 ≤ 7302250; omega⟩ (Nat.le_of_ble_eq_true rfl) (fun v2 h2 e2 => ?_)
  obtain ⟨S2, rfl, rfl, hM2⟩ := e2
  exact z_icmp_eq (tgt := 1286) dL_law_786 rfl (by decide) (fun _ => z_widen (by show ce + 14 + 0 ≤ ce + 35; omega) (by show sl + 459 + 0 ≤ sl + 1018; omega) (K _ _ ⟨RepC_m S2 hC1, S2, (mUp_mUp _ _ _ _).symm, hM2⟩)) (fun c => absurd rfl c)

