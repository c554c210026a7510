/-! the law's cases -/
section LK
variable {p : Program} {l : Launch} {e : Env} {s : State} {m : MethodId} {below : List Frame} {meth : Method} {c : Code} {Q : State → Prop} {b L : Nat} {xs : Nat → Int32} {A : Nat → Prop} {G : gT} {h0 m0 ho : Nat} {mh : Nat → Nat} {F i j : Nat}
set_option maxHeartbeats 4000000 in
set_option maxRecDepth 100000 in
theorem lk_take (hF : 1048600 < F) (X : LCx p l s m c b L xs A G) (hi : i + 5 ≤ L) (hj : j ≤ 511) (hK1 : KN p l e s m below meth c b A G h0 m0 ho mh Q 1506 i (j + 1)) : KN p l e s m below meth c b A G h0 m0 ho mh Q 152 i j := by
  intro h σ μ fo M Cc Nn H locs ls hI hSm hM hC hN hl
  obtain ⟨S, hK, hA, hbA, hZ, hNc, hX, hbl, hL, htr⟩ := X
  have hx := S.1
  have hb := S.2.1
  have hts := S.2.2.2.2
  have hown := S.2.2.2.1
  obtain ⟨r, σ1, C, N, μ1, f1, f2, ft, hAf⟩ := C_take (F := F) hF (by omega) (xs (i + 1)) (xs (i + 2)) (xs (i + 3)) (xs (i + 4)) hSm
  obtain ⟨⟨M1, hSm1, hm1, hm2⟩, hli, hC1, hN1⟩ := hAf
  have hpo := pot_le hSm1
  refine lv_aload_n hx hb dL_law_152 rfl (lv_at hl 1 rfl) ?_
  refine l_arg hx hb hX hbl hbA hI.2.2 (k := 1) (lv_at hl 0 rfl) (lv_at hl 4 rfl) (by decide) (by omega) hL dL_law_153 dL_law_154 dL_law_156 dL_law_157 dL_law_158 ?_
  refine l_arg hx hb hX hbl hbA hI.2.2 (k := 2) (lv_at hl 0 rfl) (lv_at hl 4 rfl) (by decide) (by omega) hL dL_law_159 dL_law_160 dL_law_162 dL_law_163 dL_law_164 ?_
  refine l_arg hx hb hX hbl hbA hI.2.2 (k := 3) (lv_at hl 0 rfl) (lv_at hl 4 rfl) (by decide) (by omega) hL dL_law_165 dL_law_166 dL_law_168 dL_law_169 dL_law_170 ?_
  refine l_arg hx hb hX hbl hbA hI.2.2 (k := 4) (lv_at hl 0 rfl) (lv_at hl 4 rfl) (by decide) (by omega) hL dL_law_171 dL_law_172 dL_law_174 dL_law_175 dL_law_176 ?_
  refine lc_s S hK hA hZ hNc hI (As := [.int (xs (i + 1)), .int (xs (i + 2)), .int (xs (i + 3)), .int (xs (i + 4))]) (rest := []) (kL_take l htr G h0 h H.size F σ (xs (i + 1)) (xs (i + 2)) (xs (i + 3)) (xs (i + 4)) r σ1 C N f1) (vx_cwSW 5 hts gL_law_L_take rfl rfl rfl nL_take ⟨Nat.le_of_ble_eq_true rfl, Nat.le_of_ble_eq_true rfl⟩) rfl hl.1 rfl (Nat.le_of_ble_eq_true rfl) dL_law_177 ⟨by show _ ≤ 601024; omega, by show _ ≤ 7293000; omega⟩ (fun h H locs hI => ?_)
  refine lv_istore (lv' := [(5, .int (xC r)), (0, .ref b), (1, .ref h0), (2, .ref m0), (3, .ref ho), (4, .int (nI i))]) hx hb dL_law_180 hl (by decide) rfl (fun ls hl => ?_)
  refine lv_aload_n hx hb dL_law_182 rfl (lv_at hl 3 rfl) ?_
  refine l_arg hx hb hX hbl hbA hI.2.2 (k := 1) (lv_at hl 1 rfl) (lv_at hl 5 rfl) (by decide) (by omega) hL dL_law_183 dL_law_184 dL_law_186 dL_law_187 dL_law_188 ?_
  refine l_arg hx hb hX hbl hbA hI.2.2 (k := 2) (lv_at hl 1 rfl) (lv_at hl 5 rfl) (by decide) (by omega) hL dL_law_189 dL_law_190 dL_law_192 dL_law_193 dL_law_194 ?_
  refine l_arg hx hb hX hbl hbA hI.2.2 (k := 3) (lv_at hl 1 rfl) (lv_at hl 5 rfl) (by decide) (by omega) hL dL_law_195 dL_law_196 dL_law_198 dL_law_199 dL_law_200 ?_
  refine l_arg hx hb hX hbl hbA hI.2.2 (k := 4) (lv_at hl 1 rfl) (lv_at hl 5 rfl) (by decide) (by omega) hL dL_law_201 dL_law_202 dL_law_204 dL_law_205 dL_law_206 ?_
  refine lm_v S hK hA hI (As := [.int (xs (i + 1)), .int (xs (i + 2)), .int (xs (i + 3)), .int (xs (i + 4))]) (rest := []) (kX1_take l G m0 mh H.size F μ (xs (i + 1)) (xs (i + 2)) (xs (i + 3)) (xs (i + 4)) μ1 f2) (cwV 4 hts gL_law_X1_take rfl rfl rfl nX1_take ⟨Nat.le_of_ble_eq_true rfl, Nat.le_of_ble_eq_true rfl⟩) rfl hl.1 rfl (Nat.le_of_ble_eq_true rfl) dL_law_207 ⟨by show _ ≤ 601024; omega, by show _ ≤ 7293000; omega⟩ (fun H locs hI => ?_)
  refine lv_aload_n hx hb dL_law_210 rfl (lv_at hl 3 rfl) ?_
  refine lm_i S hK hA hI (As := []) (rest := []) (kX1_thrown l G m0 mh H.size F μ1 (m_thrown μ1) μ1 rfl) (cwV 0 hts gL_law_X1_thrown rfl rfl rfl nX1_thrown ⟨Nat.le_of_ble_eq_true rfl, Nat.le_of_ble_eq_true rfl⟩) rfl hl.1 rfl (Nat.le_of_ble_eq_true rfl) dL_law_211 ⟨by show _ ≤ 601024; omega, by show _ ≤ 7293000; omega⟩ (fun H locs hI => ?_)
  refine lv_iload hx hb dL_law_214 (lv_at hl 0 rfl) ?_
  refine lv_icmp_eq (tgt := 221) hx hb dL_law_216 (by decide) (fun c1 => ?_) (fun c1 => absurd ft c1)
  refine lv_goto (tgt := 1506) hx hb dL_law_221 (by decide) ?_
  exact hK1 h σ1 μ1 fo M1 _ _ H locs ls hI hSm1 (by omega) (by omega) (by omega) (lv_sub hl [1, 2, 3, 4, 5] rfl)
set_option maxHeartbeats 4000000 in
set_option maxRecDepth 100000 in
theorem lk_copy (hF : 1048600 < F) (X : LCx p l s m c b L xs A G) (hi : i + 5 ≤ L) (hj : j ≤ 511) (hK1 : KN p l e s m below meth c b A G h0 m0 ho mh Q 1506 i (j + 1)) : KN p l e s m below meth c b A G h0 m0 ho mh Q 224 i j := by
  intro h σ μ fo M Cc Nn H locs ls hI hSm hM hC hN hl
  obtain ⟨S, hK, hA, hbA, hZ, hNc, hX, hbl, hL, htr⟩ := X
  have hx := S.1
  have hb := S.2.1
  have hts := S.2.2.2.2
  have hown := S.2.2.2.1
  obtain ⟨r, σ1, C, N, μ1, f1, f2, ft, hk1, hAf⟩ := C_copy (F := F) (xs (i + 1)) (xs (i + 2)) hSm
  obtain ⟨⟨M1, hSm1, hm1, hm2⟩, hli, hC1, hN1⟩ := hAf
  have hpo := pot_le hSm1
  refine lv_aload_n hx hb dL_law_224 rfl (lv_at hl 1 rfl) ?_
  refine l_arg hx hb hX hbl hbA hI.2.2 (k := 1) (lv_at hl 0 rfl) (lv_at hl 4 rfl) (by decide) (by omega) hL dL_law_225 dL_law_226 dL_law_228 dL_law_229 dL_law_230 ?_
  refine l_arg hx hb hX hbl hbA hI.2.2 (k := 2) (lv_at hl 0 rfl) (lv_at hl 4 rfl) (by decide) (by omega) hL dL_law_231 dL_law_232 dL_law_234 dL_law_235 dL_law_236 ?_
  refine lc_s S hK hA hZ hNc hI (As := [.int (xs (i + 1)), .int (xs (i + 2))]) (rest := []) (kL_copy l htr G h0 h H.size F σ (xs (i + 1)) (xs (i + 2)) r σ1 C N hk1 f1) (vx_cwSW 3 hts gL_law_L_copy rfl rfl rfl nL_copy ⟨Nat.le_of_ble_eq_true rfl, Nat.le_of_ble_eq_true rfl⟩) rfl hl.1 rfl (Nat.le_of_ble_eq_true rfl) dL_law_237 ⟨by show _ ≤ 601024; omega, by show _ ≤ 7293000; omega⟩ (fun h H locs hI => ?_)
  refine lv_istore (lv' := [(5, .int (xC r)), (0, .ref b), (1, .ref h0), (2, .ref m0), (3, .ref ho), (4, .int (nI i))]) hx hb dL_law_240 hl (by decide) rfl (fun ls hl => ?_)
  refine lv_aload_n hx hb dL_law_242 rfl (lv_at hl 3 rfl) ?_
  refine l_arg hx hb hX hbl hbA hI.2.2 (k := 1) (lv_at hl 1 rfl) (lv_at hl 5 rfl) (by decide) (by omega) hL dL_law_243 dL_law_244 dL_law_246 dL_law_247 dL_law_248 ?_
  refine l_arg hx hb hX hbl hbA hI.2.2 (k := 2) (lv_at hl 1 rfl) (lv_at hl 5 rfl) (by decide) (by omega) hL dL_law_249 dL_law_250 dL_law_252 dL_law_253 dL_law_254 ?_
  refine lm_v S hK hA hI (As := [.int (xs (i + 1)), .int (xs (i + 2))]) (rest := []) (kX1_copy l G m0 mh H.size F μ (xs (i + 1)) (xs (i + 2)) μ1 f2) (cwV 2 hts gL_law_X1_copy rfl rfl rfl nX1_copy ⟨Nat.le_of_ble_eq_true rfl, Nat.le_of_ble_eq_true rfl⟩) rfl hl.1 rfl (Nat.le_of_ble_eq_true rfl) dL_law_255 ⟨by show _ ≤ 601024; omega, by show _ ≤ 7293000; omega⟩ (fun H locs hI => ?_)
  refine lv_aload_n hx hb dL_law_258 rfl (lv_at hl 3 rfl) ?_
  refine lm_i S hK hA hI (As := []) (rest := []) (kX1_thrown l G m0 mh H.size F μ1 (m_thrown μ1) μ1 rfl) (cwV 0 hts gL_law_X1_thrown rfl rfl rfl nX1_thrown ⟨Nat.le_of_ble_eq_true rfl, Nat.le_of_ble_eq_true rfl⟩) rfl hl.1 rfl (Nat.le_of_ble_eq_true rfl) dL_law_259 ⟨by show _ ≤ 601024; omega, by show _ ≤ 7293000; omega⟩ (fun H locs hI => ?_)
  refine lv_iload hx hb dL_law_262 (lv_at hl 0 rfl) ?_
  refine lv_icmp_eq (tgt := 269) hx hb dL_law_264 (by decide) (fun c1 => ?_) (fun c1 => absurd ft c1)
  refine lv_goto (tgt := 1506) hx hb dL_law_269 (by decide) ?_
  exact hK1 h σ1 μ1 fo M1 _ _ H locs ls hI hSm1 (by omega) (by omega) (by omega) (lv_sub hl [1, 2, 3, 4, 5] rfl)
set_option maxHeartbeats 4000000 in
set_option maxRecDepth 100000 in
theorem lk_drop (hF : 1048600 < F) (X : LCx p l s m c b L xs A G) (hi : i + 5 ≤ L) (hj : j ≤ 511) (hK1 : KN p l e s m below meth c b A G h0 m0 ho mh Q 1506 i (j + 1)) : KN p l e s m below meth c b A G h0 m0 ho mh Q 272 i j := by
  intro h σ μ fo M Cc Nn H locs ls hI hSm hM hC hN hl
  obtain ⟨S, hK, hA, hbA, hZ, hNc, hX, hbl, hL, htr⟩ := X
  have hx := S.1
  have hb := S.2.1
  have hts := S.2.2.2.2
  have hown := S.2.2.2.1
  obtain ⟨r, σ1, C, N, μ1, f1, f2, ft, hk1, hAf⟩ := C_drop (F := F) (xs (i + 1)) hSm
  obtain ⟨⟨M1, hSm1, hm1, hm2⟩, hli, hC1, hN1⟩ := hAf
  have hpo := pot_le hSm1
  refine lv_aload_n hx hb dL_law_272 rfl (lv_at hl 1 rfl) ?_
  refine l_arg hx hb hX hbl hbA hI.2.2 (k := 1) (lv_at hl 0 rfl) (lv_at hl 4 rfl) (by decide) (by omega) hL dL_law_273 dL_law_274 dL_law_276 dL_law_277 dL_law_278 ?_
  refine lc_s S hK hA hZ hNc hI (As := [.int (xs (i + 1))]) (rest := []) (kL_drop l htr G h0 h H.size F σ (xs (i + 1)) r σ1 C N hk1 f1) (vx_cwSW 2 hts gL_law_L_drop rfl rfl rfl nL_drop ⟨Nat.le_of_ble_eq_true rfl, Nat.le_of_ble_eq_true rfl⟩) rfl hl.1 rfl (Nat.le_of_ble_eq_true rfl) dL_law_279 ⟨by show _ ≤ 601024; omega, by show _ ≤ 7293000; omega⟩ (fun h H locs hI => ?_)
  refine lv_istore (lv' := [(5, .int (xC r)), (0, .ref b), (1, .ref h0), (2, .ref m0), (3, .ref ho), (4, .int (nI i))]) hx hb dL_law_282 hl (by decide) rfl (fun ls hl => ?_)
  refine lv_aload_n hx hb dL_law_284 rfl (lv_at hl 3 rfl) ?_
  refine l_arg hx hb hX hbl hbA hI.2.2 (k := 1) (lv_at hl 1 rfl) (lv_at hl 5 rfl) (by decide) (by omega) hL dL_law_285 dL_law_286 dL_law_288 dL_law_289 dL_law_290 ?_
  refine lm_v S hK hA hI (As := [.int (xs (i + 1))]) (rest := []) (kX1_drop l G m0 mh H.size F μ (xs (i + 1)) μ1 f2) (cwV 1 hts gL_law_X1_drop rfl rfl rfl nX1_drop ⟨Nat.le_of_ble_eq_true rfl, Nat.le_of_ble_eq_true rfl⟩) rfl hl.1 rfl (Nat.le_of_ble_eq_true rfl) dL_law_291 ⟨by show _ ≤ 601024; omega, by show _ ≤ 7293000; omega⟩ (fun H locs hI => ?_)
  refine lv_aload_n hx hb dL_law_294 rfl (lv_at hl 3 rfl) ?_
  refine lm_i S hK hA hI (As := []) (rest := []) (kX1_thrown l G m0 mh H.size F μ1 (m_thrown μ1) μ1 rfl) (cwV 0 hts gL_law_X1_thrown rfl rfl rfl nX1_thrown ⟨Nat.le_of_ble_eq_true rfl, Nat.le_of_ble_eq_true rfl⟩) rfl hl.1 rfl (Nat.le_of_ble_eq_true rfl) dL_law_295 ⟨by show _ ≤ 601024; omega, by show _ ≤ 7293000; omega⟩ (fun H locs hI => ?_)
  refine lv_iload hx hb dL_law_298 (lv_at hl 0 rfl) ?_
  refine lv_icmp_eq (tgt := 305) hx hb dL_law_300 (by decide) (fun c1 => ?_) (fun c1 => absurd ft c1)
  refine lv_goto (tgt := 1506) hx hb dL_law_305 (by decide) ?_
  exact hK1 h σ1 μ1 fo M1 _ _ H locs ls hI hSm1 (by omega) (by omega) (by omega) (lv_sub hl [1, 2, 3, 4, 5] rfl)
set_option maxHeartbeats 4000000 in
set_option maxRecDepth 100000 in
theorem lk_kind (hF : 1048600 < F) (X : LCx p l s m c b L xs A G) (hi : i + 5 ≤ L) (hj : j ≤ 511) (hK1 : KN p l e s m below meth c b A G h0 m0 ho mh Q 1506 i (j + 1)) : KN p l e s m below meth c b A G h0 m0 ho mh Q 308 i j := by
  intro h σ μ fo M Cc Nn H locs ls hI hSm hM hC hN hl
  obtain ⟨S, hK, hA, hbA, hZ, hNc, hX, hbl, hL, htr⟩ := X
  have hx := S.1
  have hb := S.2.1
  have hts := S.2.2.2.2
  have hown := S.2.2.2.1
  obtain ⟨r, σ1, C, N, a1, μ1, f1, f2, ft, hk1, hab, hAf⟩ := C_kind (F := F) (xs (i + 1)) hSm
  obtain ⟨⟨M1, hSm1, hm1, hm2⟩, hli, hC1, hN1⟩ := hAf
  have hpo := pot_le hSm1
  refine lv_aload_n hx hb dL_law_308 rfl (lv_at hl 1 rfl) ?_
  refine l_arg hx hb hX hbl hbA hI.2.2 (k := 1) (lv_at hl 0 rfl) (lv_at hl 4 rfl) (by decide) (by omega) hL dL_law_309 dL_law_310 dL_law_312 dL_law_313 dL_law_314 ?_
  refine lv_aload_n hx hb dL_law_315 rfl (lv_at hl 3 rfl) ?_
  refine lc_o S hK hA hZ hNc hI (As := [.int (xs (i + 1)), .ref ho]) (rest := []) (kL_kind l htr G h0 h ho fo H.size F σ (xs (i + 1)) r σ1 C N hk1 f1) (vx_cwSW 3 hts gL_law_L_kind rfl rfl rfl nL_kind ⟨Nat.le_of_ble_eq_true rfl, Nat.le_of_ble_eq_true rfl⟩) rfl hl.1 rfl (Nat.le_of_ble_eq_true rfl) dL_law_316 ⟨by show _ ≤ 601024; omega, by show _ ≤ 7293000; omega⟩ (fun h H locs hI => ?_)
  refine lv_istore (lv' := [(5, .int (xC r)), (0, .ref b), (1, .ref h0), (2, .ref m0), (3, .ref ho), (4, .int (nI i))]) hx hb dL_law_319 hl (by decide) rfl (fun ls hl => ?_)
  refine lv_aload_n hx hb dL_law_321 rfl (lv_at hl 3 rfl) ?_
  refine l_arg hx hb hX hbl hbA hI.2.2 (k := 1) (lv_at hl 1 rfl) (lv_at hl 5 rfl) (by decide) (by omega) hL dL_law_322 dL_law_323 dL_law_325 dL_law_326 dL_law_327 ?_
  refine lm_i S hK hA hI (As := [.int (xs (i + 1))]) (rest := []) (kX1_kind l G m0 mh H.size F μ (xs (i + 1)) a1 μ1 f2) (cwV 1 hts gL_law_X1_kind rfl rfl rfl nX1_kind ⟨Nat.le_of_ble_eq_true rfl, Nat.le_of_ble_eq_true rfl⟩) rfl hl.1 rfl (Nat.le_of_ble_eq_true rfl) dL_law_328 ⟨by show _ ≤ 601024; omega, by show _ ≤ 7293000; omega⟩ (fun H locs hI => ?_)
  refine lv_istore (lv' := [(6, .int a1), (5, .int (xC r)), (0, .ref b), (1, .ref h0), (2, .ref m0), (3, .ref ho), (4, .int (nI i))]) hx hb dL_law_331 hl (by decide) rfl (fun ls hl => ?_)
  refine lv_aload_n hx hb dL_law_333 rfl (lv_at hl 4 rfl) ?_
  refine lm_i S hK hA hI (As := []) (rest := []) (kX1_thrown l G m0 mh H.size F μ1 (m_thrown μ1) μ1 rfl) (cwV 0 hts gL_law_X1_thrown rfl rfl rfl nX1_thrown ⟨Nat.le_of_ble_eq_true rfl, Nat.le_of_ble_eq_true rfl⟩) rfl hl.1 rfl (Nat.le_of_ble_eq_true rfl) dL_law_334 ⟨by show _ ≤ 601024; omega, by show _ ≤ 7293000; omega⟩ (fun H locs hI => ?_)
  refine lv_iload hx hb dL_law_337 (lv_at hl 1 rfl) ?_
  refine lv_icmp_eq (tgt := 344) hx hb dL_law_339 (by decide) (fun c1 => ?_) (fun c1 => absurd ft c1)
  refine lv_iload hx hb dL_law_344 (lv_at hl 1 rfl) ?_
  refine lv_if_ne (tgt := 361) hx hb dL_law_346 (by decide) (fun c2 => ?_) (fun c2 => ?_)
  · refine lv_goto (tgt := 1506) hx hb dL_law_361 (by decide) ?_
    exact hK1 h σ1 μ1 (oOut Int32.toInt64 r fo) M1 _ _ H locs ls hI hSm1 (by omega) (by omega) (by omega) (lv_sub hl [2, 3, 4, 5, 6] rfl)
  · refine lv_aload_n hx hb dL_law_349 rfl (lv_at hl 5 rfl) ?_
    refine lv_iconst (v := 0) hx hb dL_law_350 (by decide) ?_
    refine va_lald hx hb hK hI.1 23 1 rfl rfl (show vp_in (0 : Int32) 1 from vp_in_nI (n := 0) (by omega) (by omega)) dL_law_351 ?_
    refine lv_iload hx hb dL_law_352 (lv_at hl 0 rfl) ?_
    refine lv_i2l (v := a1.toInt64) hx hb dL_law_354 rfl ?_
    refine W.lcmp hx hb dL_law_355 ?_
    refine lv_if_eq (tgt := 361) hx hb dL_law_356 (by decide) (fun _ => ?_) (fun c9 => absurd (oOut_cmp c2 (fun a e => by rw [hab a e])) c9)
    refine lv_goto (tgt := 1506) hx hb dL_law_361 (by decide) ?_
    exact hK1 h σ1 μ1 (oOut Int32.toInt64 r fo) M1 _ _ H locs ls hI hSm1 (by omega) (by omega) (by omega) (lv_sub hl [2, 3, 4, 5, 6] rfl)
set_option maxHeartbeats 4000000 in
set_option maxRecDepth 100000 in
theorem lk_same (hF : 1048600 < F) (X : LCx p l s m c b L xs A G) (hi : i + 5 ≤ L) (hj : j ≤ 511) (hK1 : KN p l e s m below meth c b A G h0 m0 ho mh Q 1506 i (j + 1)) : KN p l e s m below meth c b A G h0 m0 ho mh Q 364 i j := by
  intro h σ μ fo M Cc Nn H locs ls hI hSm hM hC hN hl
  obtain ⟨S, hK, hA, hbA, hZ, hNc, hX, hbl, hL, htr⟩ := X
  have hx := S.1
  have hb := S.2.1
  have hts := S.2.2.2.2
  have hown := S.2.2.2.1
  obtain ⟨r, σ1, C, N, a1, μ1, f1, f2, ft, hk1, hab, hAf⟩ := C_same (F := F) (xs (i + 1)) (xs (i + 2)) hSm
  obtain ⟨⟨M1, hSm1, hm1, hm2⟩, hli, hC1, hN1⟩ := hAf
  have hpo := pot_le hSm1
  refine lv_aload_n hx hb dL_law_364 rfl (lv_at hl 1 rfl) ?_
  refine l_arg hx hb hX hbl hbA hI.2.2 (k := 1) (lv_at hl 0 rfl) (lv_at hl 4 rfl) (by decide) (by omega) hL dL_law_365 dL_law_366 dL_law_368 dL_law_369 dL_law_370 ?_
  refine l_arg hx hb hX hbl hbA hI.2.2 (k := 2) (lv_at hl 0 rfl) (lv_at hl 4 rfl) (by decide) (by omega) hL dL_law_371 dL_law_372 dL_law_374 dL_law_375 dL_law_376 ?_
  refine lv_aload_n hx hb dL_law_377 rfl (lv_at hl 3 rfl) ?_
  refine lc_o S hK hA hZ hNc hI (As := [.int (xs (i + 1)), .int (xs (i + 2)), .ref ho]) (rest := []) (kL_same l htr G h0 h ho fo H.size F σ (xs (i + 1)) (xs (i + 2)) r σ1 C N hk1 f1) (vx_cwSW 4 hts gL_law_L_same rfl rfl rfl nL_same ⟨Nat.le_of_ble_eq_true rfl, Nat.le_of_ble_eq_true rfl⟩) rfl hl.1 rfl (Nat.le_of_ble_eq_true rfl) dL_law_378 ⟨by show _ ≤ 601024; omega, by show _ ≤ 7293000; omega⟩ (fun h H locs hI => ?_)
  refine lv_istore (lv' := [(5, .int (xC r)), (0, .ref b), (1, .ref h0), (2, .ref m0), (3, .ref ho), (4, .int (nI i))]) hx hb dL_law_381 hl (by decide) rfl (fun ls hl => ?_)
  refine lv_aload_n hx hb dL_law_383 rfl (lv_at hl 3 rfl) ?_
  refine l_arg hx hb hX hbl hbA hI.2.2 (k := 1) (lv_at hl 1 rfl) (lv_at hl 5 rfl) (by decide) (by omega) hL dL_law_384 dL_law_385 dL_law_387 dL_law_388 dL_law_389 ?_
  refine l_arg hx hb hX hbl hbA hI.2.2 (k := 2) (lv_at hl 1 rfl) (lv_at hl 5 rfl) (by decide) (by omega) hL dL_law_390 dL_law_391 dL_law_393 dL_law_394 dL_law_395 ?_
  refine lm_i S hK hA hI (As := [.int (xs (i + 1)), .int (xs (i + 2))]) (rest := []) (kX1_same l G m0 mh H.size F μ (xs (i + 1)) (xs (i + 2)) a1 μ1 f2) (cwV 2 hts gL_law_X1_same rfl rfl rfl nX1_same ⟨Nat.le_of_ble_eq_true rfl, Nat.le_of_ble_eq_true rfl⟩) rfl hl.1 rfl (Nat.le_of_ble_eq_true rfl) dL_law_396 ⟨by show _ ≤ 601024; omega, by show _ ≤ 7293000; omega⟩ (fun H locs hI => ?_)
  refine lv_istore (lv' := [(6, .int a1), (5, .int (xC r)), (0, .ref b), (1, .ref h0), (2, .ref m0), (3, .ref ho), (4, .int (nI i))]) hx hb dL_law_399 hl (by decide) rfl (fun ls hl => ?_)
  refine lv_aload_n hx hb dL_law_401 rfl (lv_at hl 4 rfl) ?_
  refine lm_i S hK hA hI (As := []) (rest := []) (kX1_thrown l G m0 mh H.size F μ1 (m_thrown μ1) μ1 rfl) (cwV 0 hts gL_law_X1_thrown rfl rfl rfl nX1_thrown ⟨Nat.le_of_ble_eq_true rfl, Nat.le_of_ble_eq_true rfl⟩) rfl hl.1 rfl (Nat.le_of_ble_eq_true rfl) dL_law_402 ⟨by show _ ≤ 601024; omega, by show _ ≤ 7293000; omega⟩ (fun H locs hI => ?_)
  refine lv_iload hx hb dL_law_405 (lv_at hl 1 rfl) ?_
  refine lv_icmp_eq (tgt := 412) hx hb dL_law_407 (by decide) (fun c1 => ?_) (fun c1 => absurd ft c1)
  refine lv_iload hx hb dL_law_412 (lv_at hl 1 rfl) ?_
  refine lv_if_ne (tgt := 436) hx hb dL_law_414 (by decide) (fun c2 => ?_) (fun c2 => ?_)
  · refine lv_goto (tgt := 1506) hx hb dL_law_436 (by decide) ?_
    exact hK1 h σ1 μ1 (oOut zL r fo) M1 _ _ H locs ls hI hSm1 (by omega) (by omega) (by omega) (lv_sub hl [2, 3, 4, 5, 6] rfl)
  · refine lv_aload_n hx hb dL_law_417 rfl (lv_at hl 5 rfl) ?_
    refine lv_iconst (v := 0) hx hb dL_law_418 (by decide) ?_
    refine va_lald hx hb hK hI.1 23 1 rfl rfl (show vp_in (0 : Int32) 1 from vp_in_nI (n := 0) (by omega) (by omega)) dL_law_419 ?_
    refine lv_iload hx hb dL_law_420 (lv_at hl 0 rfl) ?_
    refine lv_if_eq (tgt := 429) hx hb dL_law_422 (by decide) (fun c3 => ?_) (fun c3 => ?_)
    · refine lv_lconst (v := 0) hx hb dL_law_429 (by decide) ?_
      refine W.lcmp hx hb dL_law_430 ?_
      refine lv_if_eq (tgt := 436) hx hb dL_law_431 (by decide) (fun _ => ?_) (fun c9 => absurd (oOut_cmp c2 (fun a e => by rw [hab a e]; exact cIf_t c3)) c9)
      refine lv_goto (tgt := 1506) hx hb dL_law_436 (by decide) ?_
      exact hK1 h σ1 μ1 (oOut zL r fo) M1 _ _ H locs ls hI hSm1 (by omega) (by omega) (by omega) (lv_sub hl [2, 3, 4, 5, 6] rfl)
    · refine lv_lconst (v := 1) hx hb dL_law_425 (by decide) ?_
      refine lv_goto (tgt := 430) hx hb dL_law_426 (by decide) ?_
      refine W.lcmp hx hb dL_law_430 ?_
      refine lv_if_eq (tgt := 436) hx hb dL_law_431 (by decide) (fun _ => ?_) (fun c9 => absurd (oOut_cmp c2 (fun a e => by rw [hab a e]; exact cIf_f c3)) c9)
      refine lv_goto (tgt := 1506) hx hb dL_law_436 (by decide) ?_
      exact hK1 h σ1 μ1 (oOut zL r fo) M1 _ _ H locs ls hI hSm1 (by omega) (by omega) (by omega) (lv_sub hl [2, 3, 4, 5, 6] rfl)
set_option maxHeartbeats 4000000 in
set_option maxRecDepth 100000 in
theorem lk_tie (hF : 1048600 < F) (X : LCx p l s m c b L xs A G) (hi : i + 5 ≤ L) (hj : j ≤ 511) (hK1 : KN p l e s m below meth c b A G h0 m0 ho mh Q 1506 i (j + 1)) : KN p l e s m below meth c b A G h0 m0 ho mh Q 439 i j := by
  intro h σ μ fo M Cc Nn H locs ls hI hSm hM hC hN hl
  obtain ⟨S, hK, hA, hbA, hZ, hNc, hX, hbl, hL, htr⟩ := X
  have hx := S.1
  have hb := S.2.1
  have hts := S.2.2.2.2
  have hown := S.2.2.2.1
  obtain ⟨r, σ1, C, N, μ1, f1, f2, ft, hk1, hAf⟩ := C_tie (F := F) (xs (i + 1)) (xs (i + 2)) (xs (i + 3)) hSm
  obtain ⟨⟨M1, hSm1, hm1, hm2⟩, hli, hC1, hN1⟩ := hAf
  have hpo := pot_le hSm1
  refine lv_aload_n hx hb dL_law_439 rfl (lv_at hl 1 rfl) ?_
  refine l_arg hx hb hX hbl hbA hI.2.2 (k := 1) (lv_at hl 0 rfl) (lv_at hl 4 rfl) (by decide) (by omega) hL dL_law_440 dL_law_441 dL_law_443 dL_law_444 dL_law_445 ?_
  refine l_arg hx hb hX hbl hbA hI.2.2 (k := 2) (lv_at hl 0 rfl) (lv_at hl 4 rfl) (by decide) (by omega) hL dL_law_446 dL_law_447 dL_law_449 dL_law_450 dL_law_451 ?_
  refine l_arg hx hb hX hbl hbA hI.2.2 (k := 3) (lv_at hl 0 rfl) (lv_at hl 4 rfl) (by decide) (by omega) hL dL_law_452 dL_law_453 dL_law_455 dL_law_456 dL_law_457 ?_
  refine lc_s S hK hA hZ hNc hI (As := [.int (xs (i + 1)), .int (xs (i + 2)), .int (xs (i + 3))]) (rest := []) (kL_tie l htr G h0 h H.size F σ (xs (i + 1)) (xs (i + 2)) (xs (i + 3)) r σ1 C N hk1 f1) (vx_cwSW 4 hts gL_law_L_tie rfl rfl rfl nL_tie ⟨Nat.le_of_ble_eq_true rfl, Nat.le_of_ble_eq_true rfl⟩) rfl hl.1 rfl (Nat.le_of_ble_eq_true rfl) dL_law_458 ⟨by show _ ≤ 601024; omega, by show _ ≤ 7293000; omega⟩ (fun h H locs hI => ?_)
  refine lv_istore (lv' := [(5, .int (xC r)), (0, .ref b), (1, .ref h0), (2, .ref m0), (3, .ref ho), (4, .int (nI i))]) hx hb dL_law_461 hl (by decide) rfl (fun ls hl => ?_)
  refine lv_aload_n hx hb dL_law_463 rfl (lv_at hl 3 rfl) ?_
  refine l_arg hx hb hX hbl hbA hI.2.2 (k := 1) (lv_at hl 1 rfl) (lv_at hl 5 rfl) (by decide) (by omega) hL dL_law_464 dL_law_465 dL_law_467 dL_law_468 dL_law_469 ?_
  refine l_arg hx hb hX hbl hbA hI.2.2 (k := 2) (lv_at hl 1 rfl) (lv_at hl 5 rfl) (by decide) (by omega) hL dL_law_470 dL_law_471 dL_law_473 dL_law_474 dL_law_475 ?_
  refine l_arg hx hb hX hbl hbA hI.2.2 (k := 3) (lv_at hl 1 rfl) (lv_at hl 5 rfl) (by decide) (by omega) hL dL_law_476 dL_law_477 dL_law_479 dL_law_480 dL_law_481 ?_
  refine lm_v S hK hA hI (As := [.int (xs (i + 1)), .int (xs (i + 2)), .int (xs (i + 3))]) (rest := []) (kX1_tie l G m0 mh H.size F μ (xs (i + 1)) (xs (i + 2)) (xs (i + 3)) μ1 f2) (cwV 3 hts gL_law_X1_tie rfl rfl rfl nX1_tie ⟨Nat.le_of_ble_eq_true rfl, Nat.le_of_ble_eq_true rfl⟩) rfl hl.1 rfl (Nat.le_of_ble_eq_true rfl) dL_law_482 ⟨by show _ ≤ 601024; omega, by show _ ≤ 7293000; omega⟩ (fun H locs hI => ?_)
  refine lv_aload_n hx hb dL_law_485 rfl (lv_at hl 3 rfl) ?_
  refine lm_i S hK hA hI (As := []) (rest := []) (kX1_thrown l G m0 mh H.size F μ1 (m_thrown μ1) μ1 rfl) (cwV 0 hts gL_law_X1_thrown rfl rfl rfl nX1_thrown ⟨Nat.le_of_ble_eq_true rfl, Nat.le_of_ble_eq_true rfl⟩) rfl hl.1 rfl (Nat.le_of_ble_eq_true rfl) dL_law_486 ⟨by show _ ≤ 601024; omega, by show _ ≤ 7293000; omega⟩ (fun H locs hI => ?_)
  refine lv_iload hx hb dL_law_489 (lv_at hl 0 rfl) ?_
  refine lv_icmp_eq (tgt := 496) hx hb dL_law_491 (by decide) (fun c1 => ?_) (fun c1 => absurd ft c1)
  refine lv_goto (tgt := 1506) hx hb dL_law_496 (by decide) ?_
  exact hK1 h σ1 μ1 fo M1 _ _ H locs ls hI hSm1 (by omega) (by omega) (by omega) (lv_sub hl [1, 2, 3, 4, 5] rfl)
end LK
