set_option maxHeartbeats 4000000 in
set_option maxRecDepth 100000 in
theorem lw_c0 {p : Program} {l : Launch} {e : Env} {s : State} {m : MethodId} {below : List Frame} {meth : Method} {c : Code} {H : Heap} {locs : List Loc} {cells slots : Nat} {Q : State → Prop} {b L : Nat} {xs : Nat → Int32} {ls : Array Slot} {G : ZG} {q1 q2 : Nat → Nat} {oa od n j : Nat} {σ τ : St} {κ : KC} {f : Nat → Int64} {μ : KM} {g : Nat → UInt64} (C : LC p l s m meth c G b L xs) (hn : n < 600) (hj : 8 * j + 8 ≤ L) (hi : Inv n σ τ) (hW : LW G (lwA s) q1 q2 oa od σ κ f τ μ g H) (hS : va_S (lwA s) s.heap H locs)
    (hl : lv_has ls 9 [(5, .int (zI ((8 * j : Nat) : Int))), (0, .ref b), (1, .ref (q1 0)), (2, .ref (q2 0)), (3, .ref oa), (4, .ref od)]) (hR : cells + 1 ≤ room_1.cells ∧ slots + 6 ≤ room_1.slots)
    (kk : LK p l e s m below meth c cells slots Q G b q1 q2 oa od n (8 * j)) : W p l e room_1 s m #[.ref b] below meth c H locs cells slots Q (F0 m 208 ls []) := by
  have Z := C.1
  have hst := C.2.1
  have hx := Z.1
  have hb := Z.2.1
  have hown := Z.2.2.2.1
  have hW9 := Z.2.2.2.2.1
  obtain ⟨k, bv, σ1, τ1, hI, hCL, hCM⟩ := j_pass l G hst hi hn q1 q2 oa κ f μ (xs (8 * j + 1))
  refine lv_aload_n hx hb dL_law_208 rfl (lv_at hl 2 rfl) ?_
  refine lv_aload_n hx hb dL_law_209 rfl (lv_at hl 1 rfl) ?_
  refine lv_iload hx hb dL_law_210 (lv_at hl 0 rfl) ?_
  refine zr_iconst hx hb dL_law_212 ?_
  refine zr_iadd hx hb dL_law_213 ?_
  refine zs_ld C hS (8 * j + 1) (by omega) (by omega) dL_law_214 ?_
  refine lv_aload_n hx hb dL_law_215 rfl (lv_at hl 4 rfl) ?_
  refine callL (rest := []) Z hW hS hl.1 hCL zW_pass km_L_137 rfl rfl ⟨⟨Nat.le_of_ble_eq_true rfl, Nat.le_of_ble_eq_true rfl⟩, hR.1, hR.2⟩ (Nat.le_of_ble_eq_true rfl) dL_law_216 (fun r u H locs hp hW hS => ?_)
  rw [hp.1]
  refine lv_istore (lv' := [(6, .int (zI k)), (5, .int (zI ((8 * j : Nat) : Int))), (0, .ref b), (1, .ref (q1 0)), (2, .ref (q2 0)), (3, .ref oa), (4, .ref od)]) hx hb dL_law_219 hl (by decide) rfl (fun ls hl => ?_)
  refine lv_aload_n hx hb dL_law_221 rfl (lv_at hl 4 rfl) ?_
  refine lv_aload_n hx hb dL_law_222 rfl (lv_at hl 2 rfl) ?_
  refine lv_iload hx hb dL_law_223 (lv_at hl 1 rfl) ?_
  refine zr_iconst hx hb dL_law_225 ?_
  refine zr_iadd hx hb dL_law_226 ?_
  refine zs_ld C hS (8 * j + 1) (by omega) (by omega) dL_law_227 ?_
  refine callM_I (rest := []) Z hW hS hl.1 hCM zY_X6_pass km_L_142 rfl rfl rfl ⟨⟨Nat.le_of_ble_eq_true rfl, Nat.le_of_ble_eq_true rfl⟩, hR.1, hR.2⟩ (Nat.le_of_ble_eq_true rfl) dL_law_228 (fun r u2 H locs hp2 hW hS => ?_)
  rw [hp2.1]
  refine lv_istore (lv' := [(7, .int bv), (6, .int (zI k)), (5, .int (zI ((8 * j : Nat) : Int))), (0, .ref b), (1, .ref (q1 0)), (2, .ref (q2 0)), (3, .ref oa), (4, .ref od)]) hx hb dL_law_231 hl (by decide) rfl (fun ls hl => ?_)
  refine lv_aload_n hx hb dL_law_233 rfl (lv_at hl 5 rfl) ?_
  refine callM_I (rest := []) Z hW hS hl.1 (lw_thr hp2.2) zY_X6_thrown km_L_143 rfl rfl rfl ⟨⟨Nat.le_of_ble_eq_true rfl, Nat.le_of_ble_eq_true rfl⟩, hR.1, hR.2⟩ (Nat.le_of_ble_eq_true rfl) dL_law_234 (fun r u3 H locs hp3 hW hS => ?_)
  rw [hp3]
  refine lv_iload hx hb dL_law_237 (lv_at hl 1 rfl) ?_
  refine lv_icmp_eq (tgt := 244) hx hb dL_law_239 (by decide) (fun _ => ?_) (fun h9 => absurd rfl h9)
  refine lv_iload hx hb dL_law_244 (lv_at hl 1 rfl) ?_
  refine lv_if_ne (tgt := 261) hx hb dL_law_246 (by decide) (fun _ => ?_) (fun h0 => ?_)
  · refine lv_goto (tgt := 2607) hx hb dL_law_261 (by decide) ?_
    exact kk σ1 τ1 _ _ _ _ H locs ls hI hW hS (lv_sub hl [2, 3, 4, 5, 6, 7] rfl)
  · have hv := hp.2 h0
    refine lv_aload_n hx hb dL_law_249 rfl (lv_at hl 6 rfl) ?_
    refine zr_iconst hx hb dL_law_250 ?_
    refine ldL Z hW.1.2.1 0 u.2 rfl 0 rfl (by decide) (by decide) dL_law_251 ?_
    rw [hv]
    refine lv_iload hx hb dL_law_252 (lv_at hl 0 rfl) ?_
    refine lv_i2l hx hb dL_law_254 rfl ?_
    refine W.lcmp hx hb dL_law_255 ?_
    rw [lg_cmp_self]
    refine lv_if_eq (tgt := 261) hx hb dL_law_256 (by decide) (fun _ => ?_) (fun h9 => absurd rfl h9)
    refine lv_goto (tgt := 2607) hx hb dL_law_261 (by decide) ?_
    exact kk σ1 τ1 _ _ _ _ H locs ls hI hW hS (lv_sub hl [2, 3, 4, 5, 6, 7] rfl)
set_option maxHeartbeats 4000000 in
set_option maxRecDepth 100000 in
theorem lw_c1 {p : Program} {l : Launch} {e : Env} {s : State} {m : MethodId} {below : List Frame} {meth : Method} {c : Code} {H : Heap} {locs : List Loc} {cells slots : Nat} {Q : State → Prop} {b L : Nat} {xs : Nat → Int32} {ls : Array Slot} {G : ZG} {q1 q2 : Nat → Nat} {oa od n j : Nat} {σ τ : St} {κ : KC} {f : Nat → Int64} {μ : KM} {g : Nat → UInt64} (C : LC p l s m meth c G b L xs) (hn : n < 600) (hj : 8 * j + 8 ≤ L) (hi : Inv n σ τ) (hW : LW G (lwA s) q1 q2 oa od σ κ f τ μ g H) (hS : va_S (lwA s) s.heap H locs)
    (hl : lv_has ls 9 [(5, .int (zI ((8 * j : Nat) : Int))), (0, .ref b), (1, .ref (q1 0)), (2, .ref (q2 0)), (3, .ref oa), (4, .ref od)]) (hR : cells + 1 ≤ room_1.cells ∧ slots + 6 ≤ room_1.slots)
    (kk : LK p l e s m below meth c cells slots Q G b q1 q2 oa od n (8 * j)) : W p l e room_1 s m #[.ref b] below meth c H locs cells slots Q (F0 m 264 ls []) := by
  have Z := C.1
  have hst := C.2.1
  have hx := Z.1
  have hb := Z.2.1
  have hown := Z.2.2.2.1
  have hW9 := Z.2.2.2.2.1
  refine lv_aload_n hx hb dL_law_264 rfl (lv_at hl 2 rfl) ?_
  refine callC (rest := []) Z hW hS hl.1 (⟨r_X5_now, Unit, _, _, ⟨(Nat.le_of_ble_eq_true rfl), (Nat.le_of_ble_eq_true rfl), (Nat.le_of_ble_eq_true rfl), (Nat.le_of_ble_eq_true rfl)⟩, m_X5_now l G q1 σ κ, fun _ _ hr => ⟨κ, hr, rfl⟩⟩ : CIv l G 0 0 yX5_now (wY yX5_now cX5_now 1 (some .int)) (wC G q1 σ κ) [.ref (q1 0)] (fun r (_ : KC) => r = zI ((σ.1 0 : Nat) : Int)) (fun u => wC G q1 σ u)) zY_X5_now km_L_146 rfl rfl rfl ⟨⟨Nat.le_of_ble_eq_true rfl, Nat.le_of_ble_eq_true rfl⟩, by omega, by omega⟩ (Nat.le_of_ble_eq_true rfl) dL_law_265 (fun r u H locs hp hW hS => ?_)
  rw [hp]
  refine lv_aload_n hx hb dL_law_268 rfl (lv_at hl 3 rfl) ?_
  refine callM_I (rest := [.int (zI ((σ.1 0 : Nat) : Int))]) Z hW hS hl.1 (⟨r_X6_now, Unit, _, _, ⟨(Nat.le_of_ble_eq_true rfl), (Nat.le_of_ble_eq_true rfl), (Nat.le_of_ble_eq_true rfl), (Nat.le_of_ble_eq_true rfl)⟩, m_X6_now l G q2 τ μ, fun _ _ hr => ⟨(0, μ.2), hr, rfl⟩⟩ : CIv l G 0 0 yX6_now (wY yX6_now cX6_now 1 (some .int)) (wM G q2 τ μ) [.ref (q2 0)] (fun r (_ : KM) => r = zI ((τ.1 0 : Nat) : Int)) (fun u => wM G q2 τ u)) zY_X6_now km_L_149 rfl rfl rfl ⟨⟨Nat.le_of_ble_eq_true rfl, Nat.le_of_ble_eq_true rfl⟩, by omega, by omega⟩ (Nat.le_of_ble_eq_true rfl) dL_law_269 (fun r u2 H locs hp2 hW hS => ?_)
  rw [hp2]
  refine lv_icmp_eq (tgt := 2607) hx hb dL_law_272 (by decide) (fun _ => ?_) (fun h9 => absurd (by rw [hi.1.1 0 (by omega)]) h9)
  refine W.widen (show cells ≤ cells + 1 by omega) (show slots ≤ slots + 6 by omega) ?_
  exact kk σ τ _ _ _ _ H locs ls hi.mono hW hS hl
set_option maxHeartbeats 4000000 in
set_option maxRecDepth 100000 in
theorem lw_c2 {p : Program} {l : Launch} {e : Env} {s : State} {m : MethodId} {below : List Frame} {meth : Method} {c : Code} {H : Heap} {locs : List Loc} {cells slots : Nat} {Q : State → Prop} {b L : Nat} {xs : Nat → Int32} {ls : Array Slot} {G : ZG} {q1 q2 : Nat → Nat} {oa od n j : Nat} {σ τ : St} {κ : KC} {f : Nat → Int64} {μ : KM} {g : Nat → UInt64} (C : LC p l s m meth c G b L xs) (hn : n < 600) (hj : 8 * j + 8 ≤ L) (hi : Inv n σ τ) (hW : LW G (lwA s) q1 q2 oa od σ κ f τ μ g H) (hS : va_S (lwA s) s.heap H locs)
    (hl : lv_has ls 9 [(5, .int (zI ((8 * j : Nat) : Int))), (0, .ref b), (1, .ref (q1 0)), (2, .ref (q2 0)), (3, .ref oa), (4, .ref od)]) (hR : cells + 1 ≤ room_1.cells ∧ slots + 6 ≤ room_1.slots)
    (kk : LK p l e s m below meth c cells slots Q G b q1 q2 oa od n (8 * j)) : W p l e room_1 s m #[.ref b] below meth c H locs cells slots Q (F0 m 277 ls []) := by
  have Z := C.1
  have hst := C.2.1
  have hx := Z.1
  have hb := Z.2.1
  have hown := Z.2.2.2.1
  have hW9 := Z.2.2.2.2.1
  obtain ⟨k, bv, σ1, τ1, hI, hCL, hCM⟩ := j_setThreshold l G hst hi hn q1 q2 oa κ f μ (xs (8 * j + 1))
  refine lv_aload_n hx hb dL_law_277 rfl (lv_at hl 2 rfl) ?_
  refine lv_aload_n hx hb dL_law_278 rfl (lv_at hl 1 rfl) ?_
  refine lv_iload hx hb dL_law_279 (lv_at hl 0 rfl) ?_
  refine zr_iconst hx hb dL_law_281 ?_
  refine zr_iadd hx hb dL_law_282 ?_
  refine zs_ld C hS (8 * j + 1) (by omega) (by omega) dL_law_283 ?_
  refine lv_aload_n hx hb dL_law_284 rfl (lv_at hl 4 rfl) ?_
  refine callL (rest := []) Z hW hS hl.1 hCL zW_setThreshold km_L_150 rfl rfl ⟨⟨Nat.le_of_ble_eq_true rfl, Nat.le_of_ble_eq_true rfl⟩, hR.1, hR.2⟩ (Nat.le_of_ble_eq_true rfl) dL_law_285 (fun r u H locs hp hW hS => ?_)
  rw [hp.1]
  refine lv_istore (lv' := [(6, .int (zI k)), (5, .int (zI ((8 * j : Nat) : Int))), (0, .ref b), (1, .ref (q1 0)), (2, .ref (q2 0)), (3, .ref oa), (4, .ref od)]) hx hb dL_law_288 hl (by decide) rfl (fun ls hl => ?_)
  refine lv_aload_n hx hb dL_law_290 rfl (lv_at hl 4 rfl) ?_
  refine lv_aload_n hx hb dL_law_291 rfl (lv_at hl 2 rfl) ?_
  refine lv_iload hx hb dL_law_292 (lv_at hl 1 rfl) ?_
  refine zr_iconst hx hb dL_law_294 ?_
  refine zr_iadd hx hb dL_law_295 ?_
  refine zs_ld C hS (8 * j + 1) (by omega) (by omega) dL_law_296 ?_
  refine callM_I (rest := []) Z hW hS hl.1 hCM zY_X6_setThreshold km_L_152 rfl rfl rfl ⟨⟨Nat.le_of_ble_eq_true rfl, Nat.le_of_ble_eq_true rfl⟩, hR.1, hR.2⟩ (Nat.le_of_ble_eq_true rfl) dL_law_297 (fun r u2 H locs hp2 hW hS => ?_)
  rw [hp2.1]
  refine lv_istore (lv' := [(7, .int bv), (6, .int (zI k)), (5, .int (zI ((8 * j : Nat) : Int))), (0, .ref b), (1, .ref (q1 0)), (2, .ref (q2 0)), (3, .ref oa), (4, .ref od)]) hx hb dL_law_300 hl (by decide) rfl (fun ls hl => ?_)
  refine lv_aload_n hx hb dL_law_302 rfl (lv_at hl 5 rfl) ?_
  refine callM_I (rest := []) Z hW hS hl.1 (lw_thr hp2.2) zY_X6_thrown km_L_143 rfl rfl rfl ⟨⟨Nat.le_of_ble_eq_true rfl, Nat.le_of_ble_eq_true rfl⟩, hR.1, hR.2⟩ (Nat.le_of_ble_eq_true rfl) dL_law_303 (fun r u3 H locs hp3 hW hS => ?_)
  rw [hp3]
  refine lv_iload hx hb dL_law_306 (lv_at hl 1 rfl) ?_
  refine lv_icmp_eq (tgt := 313) hx hb dL_law_308 (by decide) (fun _ => ?_) (fun h9 => absurd rfl h9)
  refine lv_iload hx hb dL_law_313 (lv_at hl 1 rfl) ?_
  refine lv_if_ne (tgt := 330) hx hb dL_law_315 (by decide) (fun _ => ?_) (fun h0 => ?_)
  · refine lv_goto (tgt := 2607) hx hb dL_law_330 (by decide) ?_
    exact kk σ1 τ1 _ _ _ _ H locs ls hI hW hS (lv_sub hl [2, 3, 4, 5, 6, 7] rfl)
  · have hv := hp.2 h0
    refine lv_aload_n hx hb dL_law_318 rfl (lv_at hl 6 rfl) ?_
    refine zr_iconst hx hb dL_law_319 ?_
    refine ldL Z hW.1.2.1 0 u.2 rfl 0 rfl (by decide) (by decide) dL_law_320 ?_
    rw [hv]
    refine lv_iload hx hb dL_law_321 (lv_at hl 0 rfl) ?_
    refine lv_i2l hx hb dL_law_323 rfl ?_
    refine W.lcmp hx hb dL_law_324 ?_
    rw [lg_cmp_self]
    refine lv_if_eq (tgt := 330) hx hb dL_law_325 (by decide) (fun _ => ?_) (fun h9 => absurd rfl h9)
    refine lv_goto (tgt := 2607) hx hb dL_law_330 (by decide) ?_
    exact kk σ1 τ1 _ _ _ _ H locs ls hI hW hS (lv_sub hl [2, 3, 4, 5, 6, 7] rfl)
set_option maxHeartbeats 4000000 in
set_option maxRecDepth 100000 in
theorem lw_c3 {p : Program} {l : Launch} {e : Env} {s : State} {m : MethodId} {below : List Frame} {meth : Method} {c : Code} {H : Heap} {locs : List Loc} {cells slots : Nat} {Q : State → Prop} {b L : Nat} {xs : Nat → Int32} {ls : Array Slot} {G : ZG} {q1 q2 : Nat → Nat} {oa od n j : Nat} {σ τ : St} {κ : KC} {f : Nat → Int64} {μ : KM} {g : Nat → UInt64} (C : LC p l s m meth c G b L xs) (hn : n < 600) (hj : 8 * j + 8 ≤ L) (hi : Inv n σ τ) (hW : LW G (lwA s) q1 q2 oa od σ κ f τ μ g H) (hS : va_S (lwA s) s.heap H locs)
    (hl : lv_has ls 9 [(5, .int (zI ((8 * j : Nat) : Int))), (0, .ref b), (1, .ref (q1 0)), (2, .ref (q2 0)), (3, .ref oa), (4, .ref od)]) (hR : cells + 1 ≤ room_1.cells ∧ slots + 6 ≤ room_1.slots)
    (kk : LK p l e s m below meth c cells slots Q G b q1 q2 oa od n (8 * j)) : W p l e room_1 s m #[.ref b] below meth c H locs cells slots Q (F0 m 333 ls []) := by
  have Z := C.1
  have hst := C.2.1
  have hx := Z.1
  have hb := Z.2.1
  have hown := Z.2.2.2.1
  have hW9 := Z.2.2.2.2.1
  obtain ⟨k, bv, σ1, τ1, hI, hCL, hCM⟩ := j_setWindow l G hst hi hn q1 q2 oa κ f μ (xs (8 * j + 1))
  refine lv_aload_n hx hb dL_law_333 rfl (lv_at hl 2 rfl) ?_
  refine lv_aload_n hx hb dL_law_334 rfl (lv_at hl 1 rfl) ?_
  refine lv_iload hx hb dL_law_335 (lv_at hl 0 rfl) ?_
  refine zr_iconst hx hb dL_law_337 ?_
  refine zr_iadd hx hb dL_law_338 ?_
  refine zs_ld C hS (8 * j + 1) (by omega) (by omega) dL_law_339 ?_
  refine lv_aload_n hx hb dL_law_340 rfl (lv_at hl 4 rfl) ?_
  refine callL (rest := []) Z hW hS hl.1 hCL zW_setWindow km_L_153 rfl rfl ⟨⟨Nat.le_of_ble_eq_true rfl, Nat.le_of_ble_eq_true rfl⟩, hR.1, hR.2⟩ (Nat.le_of_ble_eq_true rfl) dL_law_341 (fun r u H locs hp hW hS => ?_)
  rw [hp.1]
  refine lv_istore (lv' := [(6, .int (zI k)), (5, .int (zI ((8 * j : Nat) : Int))), (0, .ref b), (1, .ref (q1 0)), (2, .ref (q2 0)), (3, .ref oa), (4, .ref od)]) hx hb dL_law_344 hl (by decide) rfl (fun ls hl => ?_)
  refine lv_aload_n hx hb dL_law_346 rfl (lv_at hl 4 rfl) ?_
  refine lv_aload_n hx hb dL_law_347 rfl (lv_at hl 2 rfl) ?_
  refine lv_iload hx hb dL_law_348 (lv_at hl 1 rfl) ?_
  refine zr_iconst hx hb dL_law_350 ?_
  refine zr_iadd hx hb dL_law_351 ?_
  refine zs_ld C hS (8 * j + 1) (by omega) (by omega) dL_law_352 ?_
  refine callM_I (rest := []) Z hW hS hl.1 hCM zY_X6_setWindow km_L_155 rfl rfl rfl ⟨⟨Nat.le_of_ble_eq_true rfl, Nat.le_of_ble_eq_true rfl⟩, hR.1, hR.2⟩ (Nat.le_of_ble_eq_true rfl) dL_law_353 (fun r u2 H locs hp2 hW hS => ?_)
  rw [hp2.1]
  refine lv_istore (lv' := [(7, .int bv), (6, .int (zI k)), (5, .int (zI ((8 * j : Nat) : Int))), (0, .ref b), (1, .ref (q1 0)), (2, .ref (q2 0)), (3, .ref oa), (4, .ref od)]) hx hb dL_law_356 hl (by decide) rfl (fun ls hl => ?_)
  refine lv_aload_n hx hb dL_law_358 rfl (lv_at hl 5 rfl) ?_
  refine callM_I (rest := []) Z hW hS hl.1 (lw_thr hp2.2) zY_X6_thrown km_L_143 rfl rfl rfl ⟨⟨Nat.le_of_ble_eq_true rfl, Nat.le_of_ble_eq_true rfl⟩, hR.1, hR.2⟩ (Nat.le_of_ble_eq_true rfl) dL_law_359 (fun r u3 H locs hp3 hW hS => ?_)
  rw [hp3]
  refine lv_iload hx hb dL_law_362 (lv_at hl 1 rfl) ?_
  refine lv_icmp_eq (tgt := 369) hx hb dL_law_364 (by decide) (fun _ => ?_) (fun h9 => absurd rfl h9)
  refine lv_iload hx hb dL_law_369 (lv_at hl 1 rfl) ?_
  refine lv_if_ne (tgt := 386) hx hb dL_law_371 (by decide) (fun _ => ?_) (fun h0 => ?_)
  · refine lv_goto (tgt := 2607) hx hb dL_law_386 (by decide) ?_
    exact kk σ1 τ1 _ _ _ _ H locs ls hI hW hS (lv_sub hl [2, 3, 4, 5, 6, 7] rfl)
  · have hv := hp.2 h0
    refine lv_aload_n hx hb dL_law_374 rfl (lv_at hl 6 rfl) ?_
    refine zr_iconst hx hb dL_law_375 ?_
    refine ldL Z hW.1.2.1 0 u.2 rfl 0 rfl (by decide) (by decide) dL_law_376 ?_
    rw [hv]
    refine lv_iload hx hb dL_law_377 (lv_at hl 0 rfl) ?_
    refine lv_i2l hx hb dL_law_379 rfl ?_
    refine W.lcmp hx hb dL_law_380 ?_
    rw [lg_cmp_self]
    refine lv_if_eq (tgt := 386) hx hb dL_law_381 (by decide) (fun _ => ?_) (fun h9 => absurd rfl h9)
    refine lv_goto (tgt := 2607) hx hb dL_law_386 (by decide) ?_
    exact kk σ1 τ1 _ _ _ _ H locs ls hI hW hS (lv_sub hl [2, 3, 4, 5, 6, 7] rfl)
set_option maxHeartbeats 4000000 in
set_option maxRecDepth 100000 in
theorem lw_c4 {p : Program} {l : Launch} {e : Env} {s : State} {m : MethodId} {below : List Frame} {meth : Method} {c : Code} {H : Heap} {locs : List Loc} {cells slots : Nat} {Q : State → Prop} {b L : Nat} {xs : Nat → Int32} {ls : Array Slot} {G : ZG} {q1 q2 : Nat → Nat} {oa od n j : Nat} {σ τ : St} {κ : KC} {f : Nat → Int64} {μ : KM} {g : Nat → UInt64} (C : LC p l s m meth c G b L xs) (hn : n < 600) (hj : 8 * j + 8 ≤ L) (hi : Inv n σ τ) (hW : LW G (lwA s) q1 q2 oa od σ κ f τ μ g H) (hS : va_S (lwA s) s.heap H locs)
    (hl : lv_has ls 9 [(5, .int (zI ((8 * j : Nat) : Int))), (0, .ref b), (1, .ref (q1 0)), (2, .ref (q2 0)), (3, .ref oa), (4, .ref od)]) (hR : cells + 1 ≤ room_1.cells ∧ slots + 6 ≤ room_1.slots)
    (kk : LK p l e s m below meth c cells slots Q G b q1 q2 oa od n (8 * j)) : W p l e room_1 s m #[.ref b] below meth c H locs cells slots Q (F0 m 389 ls []) := by
  have Z := C.1
  have hst := C.2.1
  have hx := Z.1
  have hb := Z.2.1
  have hown := Z.2.2.2.1
  have hW9 := Z.2.2.2.2.1
  obtain ⟨k, bv, σ1, τ1, hI, hCL, hCM⟩ := j_likeness l G hst hi hn q1 q2 oa κ f μ (lwLong (xs (8 * j + 1)) (xs (8 * j + 2))) (lwLong (xs (8 * j + 3)) (xs (8 * j + 4)))
  refine lv_aload_n hx hb dL_law_389 rfl (lv_at hl 2 rfl) ?_
  refine lv_aload_n hx hb dL_law_390 rfl (lv_at hl 1 rfl) ?_
  refine lv_iload hx hb dL_law_391 (lv_at hl 0 rfl) ?_
  refine zr_iconst hx hb dL_law_393 ?_
  refine zr_iadd hx hb dL_law_394 ?_
  refine zs_ld C hS (8 * j + 1) (by omega) (by omega) dL_law_395 ?_
  refine lv_i2l hx hb dL_law_396 rfl ?_
  refine zr_bipush (n := 32) hx hb dL_law_397 (by decide +kernel) ?_
  refine lv_lshl hx hb dL_law_399 rfl ?_
  refine lv_aload_n hx hb dL_law_400 rfl (lv_at hl 1 rfl) ?_
  refine lv_iload hx hb dL_law_401 (lv_at hl 0 rfl) ?_
  refine zr_iconst hx hb dL_law_403 ?_
  refine zr_iadd hx hb dL_law_404 ?_
  refine zs_ld C hS (8 * j + 2) (by omega) (by omega) dL_law_405 ?_
  refine lv_i2l hx hb dL_law_406 rfl ?_
  refine lv_ldc2 (v := 4294967295) hx hb hown (hW9 _ kk_L_156) dL_law_407 ?_
  refine lv_land hx hb dL_law_410 ?_
  refine lv_lor hx hb dL_law_411 ?_
  refine lv_aload_n hx hb dL_law_412 rfl (lv_at hl 1 rfl) ?_
  refine lv_iload hx hb dL_law_413 (lv_at hl 0 rfl) ?_
  refine zr_iconst hx hb dL_law_415 ?_
  refine zr_iadd hx hb dL_law_416 ?_
  refine zs_ld C hS (8 * j + 3) (by omega) (by omega) dL_law_417 ?_
  refine lv_i2l hx hb dL_law_418 rfl ?_
  refine zr_bipush (n := 32) hx hb dL_law_419 (by decide +kernel) ?_
  refine lv_lshl hx hb dL_law_421 rfl ?_
  refine lv_aload_n hx hb dL_law_422 rfl (lv_at hl 1 rfl) ?_
  refine lv_iload hx hb dL_law_423 (lv_at hl 0 rfl) ?_
  refine zr_iconst hx hb dL_law_425 ?_
  refine zr_iadd hx hb dL_law_426 ?_
  refine zs_ld C hS (8 * j + 4) (by omega) (by omega) dL_law_427 ?_
  refine lv_i2l hx hb dL_law_428 rfl ?_
  refine lv_ldc2 (v := 4294967295) hx hb hown (hW9 _ kk_L_156) dL_law_429 ?_
  refine lv_land hx hb dL_law_432 ?_
  refine lv_lor hx hb dL_law_433 ?_
  refine lv_aload_n hx hb dL_law_434 rfl (lv_at hl 4 rfl) ?_
  refine callL (rest := []) Z hW hS hl.1 hCL zW_likeness km_L_158 rfl rfl ⟨⟨Nat.le_of_ble_eq_true rfl, Nat.le_of_ble_eq_true rfl⟩, hR.1, hR.2⟩ (Nat.le_of_ble_eq_true rfl) dL_law_435 (fun r u H locs hp hW hS => ?_)
  rw [hp.1]
  refine lv_istore (lv' := [(6, .int (zI k)), (5, .int (zI ((8 * j : Nat) : Int))), (0, .ref b), (1, .ref (q1 0)), (2, .ref (q2 0)), (3, .ref oa), (4, .ref od)]) hx hb dL_law_438 hl (by decide) rfl (fun ls hl => ?_)
  refine lv_aload_n hx hb dL_law_440 rfl (lv_at hl 4 rfl) ?_
  refine lv_aload_n hx hb dL_law_441 rfl (lv_at hl 2 rfl) ?_
  refine lv_iload hx hb dL_law_442 (lv_at hl 1 rfl) ?_
  refine zr_iconst hx hb dL_law_444 ?_
  refine zr_iadd hx hb dL_law_445 ?_
  refine zs_ld C hS (8 * j + 1) (by omega) (by omega) dL_law_446 ?_
  refine lv_i2l hx hb dL_law_447 rfl ?_
  refine zr_bipush (n := 32) hx hb dL_law_448 (by decide +kernel) ?_
  refine lv_lshl hx hb dL_law_450 rfl ?_
  refine lv_aload_n hx hb dL_law_451 rfl (lv_at hl 2 rfl) ?_
  refine lv_iload hx hb dL_law_452 (lv_at hl 1 rfl) ?_
  refine zr_iconst hx hb dL_law_454 ?_
  refine zr_iadd hx hb dL_law_455 ?_
  refine zs_ld C hS (8 * j + 2) (by omega) (by omega) dL_law_456 ?_
  refine lv_i2l hx hb dL_law_457 rfl ?_
  refine lv_ldc2 (v := 4294967295) hx hb hown (hW9 _ kk_L_156) dL_law_458 ?_
  refine lv_land hx hb dL_law_461 ?_
  refine lv_lor hx hb dL_law_462 ?_
  refine lv_aload_n hx hb dL_law_463 rfl (lv_at hl 2 rfl) ?_
  refine lv_iload hx hb dL_law_464 (lv_at hl 1 rfl) ?_
  refine zr_iconst hx hb dL_law_466 ?_
  refine zr_iadd hx hb dL_law_467 ?_
  refine zs_ld C hS (8 * j + 3) (by omega) (by omega) dL_law_468 ?_
  refine lv_i2l hx hb dL_law_469 rfl ?_
  refine zr_bipush (n := 32) hx hb dL_law_470 (by decide +kernel) ?_
  refine lv_lshl hx hb dL_law_472 rfl ?_
  refine lv_aload_n hx hb dL_law_473 rfl (lv_at hl 2 rfl) ?_
  refine lv_iload hx hb dL_law_474 (lv_at hl 1 rfl) ?_
  refine zr_iconst hx hb dL_law_476 ?_
  refine zr_iadd hx hb dL_law_477 ?_
  refine zs_ld C hS (8 * j + 4) (by omega) (by omega) dL_law_478 ?_
  refine lv_i2l hx hb dL_law_479 rfl ?_
  refine lv_ldc2 (v := 4294967295) hx hb hown (hW9 _ kk_L_156) dL_law_480 ?_
  refine lv_land hx hb dL_law_483 ?_
  refine lv_lor hx hb dL_law_484 ?_
  refine callM_I (rest := []) Z hW hS hl.1 hCM zY_X6_likeness km_L_161 rfl rfl rfl ⟨⟨Nat.le_of_ble_eq_true rfl, Nat.le_of_ble_eq_true rfl⟩, hR.1, hR.2⟩ (Nat.le_of_ble_eq_true rfl) dL_law_485 (fun r u2 H locs hp2 hW hS => ?_)
  rw [hp2.1]
  refine lv_istore (lv' := [(7, .int bv), (6, .int (zI k)), (5, .int (zI ((8 * j : Nat) : Int))), (0, .ref b), (1, .ref (q1 0)), (2, .ref (q2 0)), (3, .ref oa), (4, .ref od)]) hx hb dL_law_488 hl (by decide) rfl (fun ls hl => ?_)
  refine lv_aload_n hx hb dL_law_490 rfl (lv_at hl 5 rfl) ?_
  refine callM_I (rest := []) Z hW hS hl.1 (lw_thr hp2.2) zY_X6_thrown km_L_143 rfl rfl rfl ⟨⟨Nat.le_of_ble_eq_true rfl, Nat.le_of_ble_eq_true rfl⟩, hR.1, hR.2⟩ (Nat.le_of_ble_eq_true rfl) dL_law_491 (fun r u3 H locs hp3 hW hS => ?_)
  rw [hp3]
  refine lv_iload hx hb dL_law_494 (lv_at hl 1 rfl) ?_
  refine lv_icmp_eq (tgt := 501) hx hb dL_law_496 (by decide) (fun _ => ?_) (fun h9 => absurd rfl h9)
  refine lv_iload hx hb dL_law_501 (lv_at hl 1 rfl) ?_
  refine lv_if_ne (tgt := 518) hx hb dL_law_503 (by decide) (fun _ => ?_) (fun h0 => ?_)
  · refine lv_goto (tgt := 2607) hx hb dL_law_518 (by decide) ?_
    exact kk σ1 τ1 _ _ _ _ H locs ls hI hW hS (lv_sub hl [2, 3, 4, 5, 6, 7] rfl)
  · have hv := hp.2 h0
    refine lv_aload_n hx hb dL_law_506 rfl (lv_at hl 6 rfl) ?_
    refine zr_iconst hx hb dL_law_507 ?_
    refine ldL Z hW.1.2.1 0 u.2 rfl 0 rfl (by decide) (by decide) dL_law_508 ?_
    rw [hv]
    refine lv_iload hx hb dL_law_509 (lv_at hl 0 rfl) ?_
    refine lv_i2l hx hb dL_law_511 rfl ?_
    refine W.lcmp hx hb dL_law_512 ?_
    rw [lg_cmp_self]
    refine lv_if_eq (tgt := 518) hx hb dL_law_513 (by decide) (fun _ => ?_) (fun h9 => absurd rfl h9)
    refine lv_goto (tgt := 2607) hx hb dL_law_518 (by decide) ?_
    exact kk σ1 τ1 _ _ _ _ H locs ls hI hW hS (lv_sub hl [2, 3, 4, 5, 6, 7] rfl)
set_option maxHeartbeats 4000000 in
set_option maxRecDepth 100000 in
theorem lw_c5 {p : Program} {l : Launch} {e : Env} {s : State} {m : MethodId} {below : List Frame} {meth : Method} {c : Code} {H : Heap} {locs : List Loc} {cells slots : Nat} {Q : State → Prop} {b L : Nat} {xs : Nat → Int32} {ls : Array Slot} {G : ZG} {q1 q2 : Nat → Nat} {oa od n j : Nat} {σ τ : St} {κ : KC} {f : Nat → Int64} {μ : KM} {g : Nat → UInt64} (C : LC p l s m meth c G b L xs) (hn : n < 600) (hj : 8 * j + 8 ≤ L) (hi : Inv n σ τ) (hW : LW G (lwA s) q1 q2 oa od σ κ f τ μ g H) (hS : va_S (lwA s) s.heap H locs)
    (hl : lv_has ls 9 [(5, .int (zI ((8 * j : Nat) : Int))), (0, .ref b), (1, .ref (q1 0)), (2, .ref (q2 0)), (3, .ref oa), (4, .ref od)]) (hR : cells + 1 ≤ room_1.cells ∧ slots + 6 ≤ room_1.slots)
    (kk : LK p l e s m below meth c cells slots Q G b q1 q2 oa od n (8 * j)) : W p l e room_1 s m #[.ref b] below meth c H locs cells slots Q (F0 m 521 ls []) := by
  have Z := C.1
  have hst := C.2.1
  have hx := Z.1
  have hb := Z.2.1
  have hown := Z.2.2.2.1
  have hW9 := Z.2.2.2.2.1
  obtain ⟨k, bv, σ1, τ1, hI, hCL, hCM⟩ := j_addSource l G hst hi hn q1 q2 oa κ f μ 
  refine lv_aload_n hx hb dL_law_521 rfl (lv_at hl 2 rfl) ?_
  refine lv_aload_n hx hb dL_law_522 rfl (lv_at hl 4 rfl) ?_
  refine callL (rest := []) Z hW hS hl.1 hCL zW_addSource km_L_162 rfl rfl ⟨⟨Nat.le_of_ble_eq_true rfl, Nat.le_of_ble_eq_true rfl⟩, hR.1, hR.2⟩ (Nat.le_of_ble_eq_true rfl) dL_law_523 (fun r u H locs hp hW hS => ?_)
  rw [hp.1]
  refine lv_istore (lv' := [(6, .int (zI k)), (5, .int (zI ((8 * j : Nat) : Int))), (0, .ref b), (1, .ref (q1 0)), (2, .ref (q2 0)), (3, .ref oa), (4, .ref od)]) hx hb dL_law_526 hl (by decide) rfl (fun ls hl => ?_)
  refine lv_aload_n hx hb dL_law_528 rfl (lv_at hl 4 rfl) ?_
  refine callM_I (rest := []) Z hW hS hl.1 hCM zY_X6_addSource km_L_165 rfl rfl rfl ⟨⟨Nat.le_of_ble_eq_true rfl, Nat.le_of_ble_eq_true rfl⟩, hR.1, hR.2⟩ (Nat.le_of_ble_eq_true rfl) dL_law_529 (fun r u2 H locs hp2 hW hS => ?_)
  rw [hp2.1]
  refine lv_istore (lv' := [(7, .int bv), (6, .int (zI k)), (5, .int (zI ((8 * j : Nat) : Int))), (0, .ref b), (1, .ref (q1 0)), (2, .ref (q2 0)), (3, .ref oa), (4, .ref od)]) hx hb dL_law_532 hl (by decide) rfl (fun ls hl => ?_)
  refine lv_aload_n hx hb dL_law_534 rfl (lv_at hl 5 rfl) ?_
  refine callM_I (rest := []) Z hW hS hl.1 (lw_thr hp2.2) zY_X6_thrown km_L_143 rfl rfl rfl ⟨⟨Nat.le_of_ble_eq_true rfl, Nat.le_of_ble_eq_true rfl⟩, hR.1, hR.2⟩ (Nat.le_of_ble_eq_true rfl) dL_law_535 (fun r u3 H locs hp3 hW hS => ?_)
  rw [hp3]
  refine lv_iload hx hb dL_law_538 (lv_at hl 1 rfl) ?_
  refine lv_icmp_eq (tgt := 545) hx hb dL_law_540 (by decide) (fun _ => ?_) (fun h9 => absurd rfl h9)
  refine lv_iload hx hb dL_law_545 (lv_at hl 1 rfl) ?_
  refine lv_if_ne (tgt := 562) hx hb dL_law_547 (by decide) (fun _ => ?_) (fun h0 => ?_)
  · refine lv_goto (tgt := 2607) hx hb dL_law_562 (by decide) ?_
    exact kk σ1 τ1 _ _ _ _ H locs ls hI hW hS (lv_sub hl [2, 3, 4, 5, 6, 7] rfl)
  · have hv := hp.2 h0
    refine lv_aload_n hx hb dL_law_550 rfl (lv_at hl 6 rfl) ?_
    refine zr_iconst hx hb dL_law_551 ?_
    refine ldL Z hW.1.2.1 0 u.2 rfl 0 rfl (by decide) (by decide) dL_law_552 ?_
    rw [hv]
    refine lv_iload hx hb dL_law_553 (lv_at hl 0 rfl) ?_
    refine lv_i2l hx hb dL_law_555 rfl ?_
    refine W.lcmp hx hb dL_law_556 ?_
    rw [lg_cmp_self]
    refine lv_if_eq (tgt := 562) hx hb dL_law_557 (by decide) (fun _ => ?_) (fun h9 => absurd rfl h9)
    refine lv_goto (tgt := 2607) hx hb dL_law_562 (by decide) ?_
    exact kk σ1 τ1 _ _ _ _ H locs ls hI hW hS (lv_sub hl [2, 3, 4, 5, 6, 7] rfl)
set_option maxHeartbeats 4000000 in
set_option maxRecDepth 100000 in
theorem lw_c6 {p : Program} {l : Launch} {e : Env} {s : State} {m : MethodId} {below : List Frame} {meth : Method} {c : Code} {H : Heap} {locs : List Loc} {cells slots : Nat} {Q : State → Prop} {b L : Nat} {xs : Nat → Int32} {ls : Array Slot} {G : ZG} {q1 q2 : Nat → Nat} {oa od n j : Nat} {σ τ : St} {κ : KC} {f : Nat → Int64} {μ : KM} {g : Nat → UInt64} (C : LC p l s m meth c G b L xs) (hn : n < 600) (hj : 8 * j + 8 ≤ L) (hi : Inv n σ τ) (hW : LW G (lwA s) q1 q2 oa od σ κ f τ μ g H) (hS : va_S (lwA s) s.heap H locs)
    (hl : lv_has ls 9 [(5, .int (zI ((8 * j : Nat) : Int))), (0, .ref b), (1, .ref (q1 0)), (2, .ref (q2 0)), (3, .ref oa), (4, .ref od)]) (hR : cells + 1 ≤ room_1.cells ∧ slots + 6 ≤ room_1.slots)
    (kk : LK p l e s m below meth c cells slots Q G b q1 q2 oa od n (8 * j)) : W p l e room_1 s m #[.ref b] below meth c H locs cells slots Q (F0 m 565 ls []) := by
  have Z := C.1
  have hst := C.2.1
  have hx := Z.1
  have hb := Z.2.1
  have hown := Z.2.2.2.1
  have hW9 := Z.2.2.2.2.1
  obtain ⟨k, bv, σ1, τ1, hI, hCL, hCM⟩ := j_fetch l G hst hi hn q1 q2 oa κ f μ (xs (8 * j + 1)) (xs (8 * j + 2)) (xs (8 * j + 3)) (lwLong (xs (8 * j + 4)) (xs (8 * j + 5))) (xs (8 * j + 6))
  refine lv_aload_n hx hb dL_law_565 rfl (lv_at hl 2 rfl) ?_
  refine lv_aload_n hx hb dL_law_566 rfl (lv_at hl 1 rfl) ?_
  refine lv_iload hx hb dL_law_567 (lv_at hl 0 rfl) ?_
  refine zr_iconst hx hb dL_law_569 ?_
  refine zr_iadd hx hb dL_law_570 ?_
  refine zs_ld C hS (8 * j + 1) (by omega) (by omega) dL_law_571 ?_
  refine lv_aload_n hx hb dL_law_572 rfl (lv_at hl 1 rfl) ?_
  refine lv_iload hx hb dL_law_573 (lv_at hl 0 rfl) ?_
  refine zr_iconst hx hb dL_law_575 ?_
  refine zr_iadd hx hb dL_law_576 ?_
  refine zs_ld C hS (8 * j + 2) (by omega) (by omega) dL_law_577 ?_
  refine lv_aload_n hx hb dL_law_578 rfl (lv_at hl 1 rfl) ?_
  refine lv_iload hx hb dL_law_579 (lv_at hl 0 rfl) ?_
  refine zr_iconst hx hb dL_law_581 ?_
  refine zr_iadd hx hb dL_law_582 ?_
  refine zs_ld C hS (8 * j + 3) (by omega) (by omega) dL_law_583 ?_
  refine lv_aload_n hx hb dL_law_584 rfl (lv_at hl 1 rfl) ?_
  refine lv_iload hx hb dL_law_585 (lv_at hl 0 rfl) ?_
  refine zr_iconst hx hb dL_law_587 ?_
  refine zr_iadd hx hb dL_law_588 ?_
  refine zs_ld C hS (8 * j + 4) (by omega) (by omega) dL_law_589 ?_
  refine lv_i2l hx hb dL_law_590 rfl ?_
  refine zr_bipush (n := 32) hx hb dL_law_591 (by decide +kernel) ?_
  refine lv_lshl hx hb dL_law_593 rfl ?_
  refine lv_aload_n hx hb dL_law_594 rfl (lv_at hl 1 rfl) ?_
  refine lv_iload hx hb dL_law_595 (lv_at hl 0 rfl) ?_
  refine zr_iconst hx hb dL_law_597 ?_
  refine zr_iadd hx hb dL_law_598 ?_
  refine zs_ld C hS (8 * j + 5) (by omega) (by omega) dL_law_599 ?_
  refine lv_i2l hx hb dL_law_600 rfl ?_
  refine lv_ldc2 (v := 4294967295) hx hb hown (hW9 _ kk_L_156) dL_law_601 ?_
  refine lv_land hx hb dL_law_604 ?_
  refine lv_lor hx hb dL_law_605 ?_
  refine lv_aload_n hx hb dL_law_606 rfl (lv_at hl 1 rfl) ?_
  refine lv_iload hx hb dL_law_607 (lv_at hl 0 rfl) ?_
  refine zr_bipush (n := 6) hx hb dL_law_609 (by decide +kernel) ?_
  refine zr_iadd hx hb dL_law_611 ?_
  refine zs_ld C hS (8 * j + 6) (by omega) (by omega) dL_law_612 ?_
  refine lv_aload_n hx hb dL_law_613 rfl (lv_at hl 4 rfl) ?_
  refine callL (rest := []) Z hW hS hl.1 hCL zW_fetch km_L_166 rfl rfl ⟨⟨Nat.le_of_ble_eq_true rfl, Nat.le_of_ble_eq_true rfl⟩, hR.1, hR.2⟩ (Nat.le_of_ble_eq_true rfl) dL_law_614 (fun r u H locs hp hW hS => ?_)
  rw [hp.1]
  refine lv_istore (lv' := [(6, .int (zI k)), (5, .int (zI ((8 * j : Nat) : Int))), (0, .ref b), (1, .ref (q1 0)), (2, .ref (q2 0)), (3, .ref oa), (4, .ref od)]) hx hb dL_law_617 hl (by decide) rfl (fun ls hl => ?_)
  refine lv_aload_n hx hb dL_law_619 rfl (lv_at hl 4 rfl) ?_
  refine lv_aload_n hx hb dL_law_620 rfl (lv_at hl 2 rfl) ?_
  refine lv_iload hx hb dL_law_621 (lv_at hl 1 rfl) ?_
  refine zr_iconst hx hb dL_law_623 ?_
  refine zr_iadd hx hb dL_law_624 ?_
  refine zs_ld C hS (8 * j + 1) (by omega) (by omega) dL_law_625 ?_
  refine lv_aload_n hx hb dL_law_626 rfl (lv_at hl 2 rfl) ?_
  refine lv_iload hx hb dL_law_627 (lv_at hl 1 rfl) ?_
  refine zr_iconst hx hb dL_law_629 ?_
  refine zr_iadd hx hb dL_law_630 ?_
  refine zs_ld C hS (8 * j + 2) (by omega) (by omega) dL_law_631 ?_
  refine lv_aload_n hx hb dL_law_632 rfl (lv_at hl 2 rfl) ?_
  refine lv_iload hx hb dL_law_633 (lv_at hl 1 rfl) ?_
  refine zr_iconst hx hb dL_law_635 ?_
  refine zr_iadd hx hb dL_law_636 ?_
  refine zs_ld C hS (8 * j + 3) (by omega) (by omega) dL_law_637 ?_
  refine lv_aload_n hx hb dL_law_638 rfl (lv_at hl 2 rfl) ?_
  refine lv_iload hx hb dL_law_639 (lv_at hl 1 rfl) ?_
  refine zr_iconst hx hb dL_law_641 ?_
  refine zr_iadd hx hb dL_law_642 ?_
  refine zs_ld C hS (8 * j + 4) (by omega) (by omega) dL_law_643 ?_
  refine lv_i2l hx hb dL_law_644 rfl ?_
  refine zr_bipush (n := 32) hx hb dL_law_645 (by decide +kernel) ?_
  refine lv_lshl hx hb dL_law_647 rfl ?_
  refine lv_aload_n hx hb dL_law_648 rfl (lv_at hl 2 rfl) ?_
  refine lv_iload hx hb dL_law_649 (lv_at hl 1 rfl) ?_
  refine zr_iconst hx hb dL_law_651 ?_
  refine zr_iadd hx hb dL_law_652 ?_
  refine zs_ld C hS (8 * j + 5) (by omega) (by omega) dL_law_653 ?_
  refine lv_i2l hx hb dL_law_654 rfl ?_
  refine lv_ldc2 (v := 4294967295) hx hb hown (hW9 _ kk_L_156) dL_law_655 ?_
  refine lv_land hx hb dL_law_658 ?_
  refine lv_lor hx hb dL_law_659 ?_
  refine lv_aload_n hx hb dL_law_660 rfl (lv_at hl 2 rfl) ?_
  refine lv_iload hx hb dL_law_661 (lv_at hl 1 rfl) ?_
  refine zr_bipush (n := 6) hx hb dL_law_663 (by decide +kernel) ?_
  refine zr_iadd hx hb dL_law_665 ?_
  refine zs_ld C hS (8 * j + 6) (by omega) (by omega) dL_law_666 ?_
  refine callM_I (rest := []) Z hW hS hl.1 hCM zY_X6_fetch km_L_169 rfl rfl rfl ⟨⟨Nat.le_of_ble_eq_true rfl, Nat.le_of_ble_eq_true rfl⟩, hR.1, hR.2⟩ (Nat.le_of_ble_eq_true rfl) dL_law_667 (fun r u2 H locs hp2 hW hS => ?_)
  rw [hp2.1]
  refine lv_istore (lv' := [(7, .int bv), (6, .int (zI k)), (5, .int (zI ((8 * j : Nat) : Int))), (0, .ref b), (1, .ref (q1 0)), (2, .ref (q2 0)), (3, .ref oa), (4, .ref od)]) hx hb dL_law_670 hl (by decide) rfl (fun ls hl => ?_)
  refine lv_aload_n hx hb dL_law_672 rfl (lv_at hl 5 rfl) ?_
  refine callM_I (rest := []) Z hW hS hl.1 (lw_thr hp2.2) zY_X6_thrown km_L_143 rfl rfl rfl ⟨⟨Nat.le_of_ble_eq_true rfl, Nat.le_of_ble_eq_true rfl⟩, hR.1, hR.2⟩ (Nat.le_of_ble_eq_true rfl) dL_law_673 (fun r u3 H locs hp3 hW hS => ?_)
  rw [hp3]
  refine lv_iload hx hb dL_law_676 (lv_at hl 1 rfl) ?_
  refine lv_icmp_eq (tgt := 683) hx hb dL_law_678 (by decide) (fun _ => ?_) (fun h9 => absurd rfl h9)
  refine lv_iload hx hb dL_law_683 (lv_at hl 1 rfl) ?_
  refine lv_if_ne (tgt := 700) hx hb dL_law_685 (by decide) (fun _ => ?_) (fun h0 => ?_)
  · refine lv_goto (tgt := 2607) hx hb dL_law_700 (by decide) ?_
    exact kk σ1 τ1 _ _ _ _ H locs ls hI hW hS (lv_sub hl [2, 3, 4, 5, 6, 7] rfl)
  · have hv := hp.2 h0
    refine lv_aload_n hx hb dL_law_688 rfl (lv_at hl 6 rfl) ?_
    refine zr_iconst hx hb dL_law_689 ?_
    refine ldL Z hW.1.2.1 0 u.2 rfl 0 rfl (by decide) (by decide) dL_law_690 ?_
    rw [hv]
    refine lv_iload hx hb dL_law_691 (lv_at hl 0 rfl) ?_
    refine lv_i2l hx hb dL_law_693 rfl ?_
    refine W.lcmp hx hb dL_law_694 ?_
    rw [lg_cmp_self]
    refine lv_if_eq (tgt := 700) hx hb dL_law_695 (by decide) (fun _ => ?_) (fun h9 => absurd rfl h9)
    refine lv_goto (tgt := 2607) hx hb dL_law_700 (by decide) ?_
    exact kk σ1 τ1 _ _ _ _ H locs ls hI hW hS (lv_sub hl [2, 3, 4, 5, 6, 7] rfl)
set_option maxHeartbeats 4000000 in
set_option maxRecDepth 100000 in
theorem lw_c7 {p : Program} {l : Launch} {e : Env} {s : State} {m : MethodId} {below : List Frame} {meth : Method} {c : Code} {H : Heap} {locs : List Loc} {cells slots : Nat} {Q : State → Prop} {b L : Nat} {xs : Nat → Int32} {ls : Array Slot} {G : ZG} {q1 q2 : Nat → Nat} {oa od n j : Nat} {σ τ : St} {κ : KC} {f : Nat → Int64} {μ : KM} {g : Nat → UInt64} (C : LC p l s m meth c G b L xs) (hn : n < 600) (hj : 8 * j + 8 ≤ L) (hi : Inv n σ τ) (hW : LW G (lwA s) q1 q2 oa od σ κ f τ μ g H) (hS : va_S (lwA s) s.heap H locs)
    (hl : lv_has ls 9 [(5, .int (zI ((8 * j : Nat) : Int))), (0, .ref b), (1, .ref (q1 0)), (2, .ref (q2 0)), (3, .ref oa), (4, .ref od)]) (hR : cells + 1 ≤ room_1.cells ∧ slots + 6 ≤ room_1.slots)
    (kk : LK p l e s m below meth c cells slots Q G b q1 q2 oa od n (8 * j)) : W p l e room_1 s m #[.ref b] below meth c H locs cells slots Q (F0 m 703 ls []) := by
  have Z := C.1
  have hst := C.2.1
  have hx := Z.1
  have hb := Z.2.1
  have hown := Z.2.2.2.1
  have hW9 := Z.2.2.2.2.1
  refine lv_aload_n hx hb dL_law_703 rfl (lv_at hl 2 rfl) ?_
  refine callC (rest := []) Z hW hS hl.1 (⟨r_X5_items, Unit, _, _, ⟨(Nat.le_of_ble_eq_true rfl), (Nat.le_of_ble_eq_true rfl), (Nat.le_of_ble_eq_true rfl), (Nat.le_of_ble_eq_true rfl)⟩, m_X5_items l G q1 σ κ, fun _ _ hr => ⟨κ, hr, rfl⟩⟩ : CIv l G 0 0 yX5_items (wY yX5_items cX5_items 1 (some .int)) (wC G q1 σ κ) [.ref (q1 0)] (fun r (_ : KC) => r = zI ((σ.1 4 : Nat) : Int)) (fun u => wC G q1 σ u)) zY_X5_items km_L_170 rfl rfl rfl ⟨⟨Nat.le_of_ble_eq_true rfl, Nat.le_of_ble_eq_true rfl⟩, by omega, by omega⟩ (Nat.le_of_ble_eq_true rfl) dL_law_704 (fun r u H locs hp hW hS => ?_)
  rw [hp]
  refine lv_aload_n hx hb dL_law_707 rfl (lv_at hl 3 rfl) ?_
  refine callM_I (rest := [.int (zI ((σ.1 4 : Nat) : Int))]) Z hW hS hl.1 (⟨r_X6_items, Unit, _, _, ⟨(Nat.le_of_ble_eq_true rfl), (Nat.le_of_ble_eq_true rfl), (Nat.le_of_ble_eq_true rfl), (Nat.le_of_ble_eq_true rfl)⟩, m_X6_items l G q2 τ μ, fun _ _ hr => ⟨(0, μ.2), hr, rfl⟩⟩ : CIv l G 0 0 yX6_items (wY yX6_items cX6_items 1 (some .int)) (wM G q2 τ μ) [.ref (q2 0)] (fun r (_ : KM) => r = zI ((τ.1 4 : Nat) : Int)) (fun u => wM G q2 τ u)) zY_X6_items km_L_173 rfl rfl rfl ⟨⟨Nat.le_of_ble_eq_true rfl, Nat.le_of_ble_eq_true rfl⟩, by omega, by omega⟩ (Nat.le_of_ble_eq_true rfl) dL_law_708 (fun r u2 H locs hp2 hW hS => ?_)
  rw [hp2]
  refine lv_icmp_eq (tgt := 2607) hx hb dL_law_711 (by decide) (fun _ => ?_) (fun h9 => absurd (by rw [hi.1.1 4 (by omega)]) h9)
  refine W.widen (show cells ≤ cells + 1 by omega) (show slots ≤ slots + 6 by omega) ?_
  exact kk σ τ _ _ _ _ H locs ls hi.mono hW hS hl
set_option maxHeartbeats 4000000 in
set_option maxRecDepth 100000 in
theorem lw_c8 {p : Program} {l : Launch} {e : Env} {s : State} {m : MethodId} {below : List Frame} {meth : Method} {c : Code} {H : Heap} {locs : List Loc} {cells slots : Nat} {Q : State → Prop} {b L : Nat} {xs : Nat → Int32} {ls : Array Slot} {G : ZG} {q1 q2 : Nat → Nat} {oa od n j : Nat} {σ τ : St} {κ : KC} {f : Nat → Int64} {μ : KM} {g : Nat → UInt64} (C : LC p l s m meth c G b L xs) (hn : n < 600) (hj : 8 * j + 8 ≤ L) (hi : Inv n σ τ) (hW : LW G (lwA s) q1 q2 oa od σ κ f τ μ g H) (hS : va_S (lwA s) s.heap H locs)
    (hl : lv_has ls 9 [(5, .int (zI ((8 * j : Nat) : Int))), (0, .ref b), (1, .ref (q1 0)), (2, .ref (q2 0)), (3, .ref oa), (4, .ref od)]) (hR : cells + 1 ≤ room_1.cells ∧ slots + 6 ≤ room_1.slots)
    (kk : LK p l e s m below meth c cells slots Q G b q1 q2 oa od n (8 * j)) : W p l e room_1 s m #[.ref b] below meth c H locs cells slots Q (F0 m 716 ls []) := by
  have Z := C.1
  have hst := C.2.1
  have hx := Z.1
  have hb := Z.2.1
  have hown := Z.2.2.2.1
  have hW9 := Z.2.2.2.2.1
  obtain ⟨k, bv, σ1, τ1, hI, hCL, hCM⟩ := j_withIdentifier l G hst hi hn q1 q2 oa κ f μ (xs (8 * j + 1)) (xs (8 * j + 2))
  refine lv_aload_n hx hb dL_law_716 rfl (lv_at hl 2 rfl) ?_
  refine lv_aload_n hx hb dL_law_717 rfl (lv_at hl 1 rfl) ?_
  refine lv_iload hx hb dL_law_718 (lv_at hl 0 rfl) ?_
  refine zr_iconst hx hb dL_law_720 ?_
  refine zr_iadd hx hb dL_law_721 ?_
  refine zs_ld C hS (8 * j + 1) (by omega) (by omega) dL_law_722 ?_
  refine lv_aload_n hx hb dL_law_723 rfl (lv_at hl 1 rfl) ?_
  refine lv_iload hx hb dL_law_724 (lv_at hl 0 rfl) ?_
  refine zr_iconst hx hb dL_law_726 ?_
  refine zr_iadd hx hb dL_law_727 ?_
  refine zs_ld C hS (8 * j + 2) (by omega) (by omega) dL_law_728 ?_
  refine lv_aload_n hx hb dL_law_729 rfl (lv_at hl 4 rfl) ?_
  refine callL (rest := []) Z hW hS hl.1 hCL zW_withIdentifier km_L_174 rfl rfl ⟨⟨Nat.le_of_ble_eq_true rfl, Nat.le_of_ble_eq_true rfl⟩, hR.1, hR.2⟩ (Nat.le_of_ble_eq_true rfl) dL_law_730 (fun r u H locs hp hW hS => ?_)
  rw [hp.1]
  refine lv_istore (lv' := [(6, .int (zI k)), (5, .int (zI ((8 * j : Nat) : Int))), (0, .ref b), (1, .ref (q1 0)), (2, .ref (q2 0)), (3, .ref oa), (4, .ref od)]) hx hb dL_law_733 hl (by decide) rfl (fun ls hl => ?_)
  refine lv_aload_n hx hb dL_law_735 rfl (lv_at hl 4 rfl) ?_
  refine lv_aload_n hx hb dL_law_736 rfl (lv_at hl 2 rfl) ?_
  refine lv_iload hx hb dL_law_737 (lv_at hl 1 rfl) ?_
  refine zr_iconst hx hb dL_law_739 ?_
  refine zr_iadd hx hb dL_law_740 ?_
  refine zs_ld C hS (8 * j + 1) (by omega) (by omega) dL_law_741 ?_
  refine lv_aload_n hx hb dL_law_742 rfl (lv_at hl 2 rfl) ?_
  refine lv_iload hx hb dL_law_743 (lv_at hl 1 rfl) ?_
  refine zr_iconst hx hb dL_law_745 ?_
  refine zr_iadd hx hb dL_law_746 ?_
  refine zs_ld C hS (8 * j + 2) (by omega) (by omega) dL_law_747 ?_
  refine callM_I (rest := []) Z hW hS hl.1 hCM zY_X6_withIdentifier km_L_177 rfl rfl rfl ⟨⟨Nat.le_of_ble_eq_true rfl, Nat.le_of_ble_eq_true rfl⟩, hR.1, hR.2⟩ (Nat.le_of_ble_eq_true rfl) dL_law_748 (fun r u2 H locs hp2 hW hS => ?_)
  rw [hp2.1]
  refine lv_istore (lv' := [(7, .int bv), (6, .int (zI k)), (5, .int (zI ((8 * j : Nat) : Int))), (0, .ref b), (1, .ref (q1 0)), (2, .ref (q2 0)), (3, .ref oa), (4, .ref od)]) hx hb dL_law_751 hl (by decide) rfl (fun ls hl => ?_)
  refine lv_aload_n hx hb dL_law_753 rfl (lv_at hl 5 rfl) ?_
  refine callM_I (rest := []) Z hW hS hl.1 (lw_thr hp2.2) zY_X6_thrown km_L_143 rfl rfl rfl ⟨⟨Nat.le_of_ble_eq_true rfl, Nat.le_of_ble_eq_true rfl⟩, hR.1, hR.2⟩ (Nat.le_of_ble_eq_true rfl) dL_law_754 (fun r u3 H locs hp3 hW hS => ?_)
  rw [hp3]
  refine lv_iload hx hb dL_law_757 (lv_at hl 1 rfl) ?_
  refine lv_icmp_eq (tgt := 764) hx hb dL_law_759 (by decide) (fun _ => ?_) (fun h9 => absurd rfl h9)
  refine lv_iload hx hb dL_law_764 (lv_at hl 1 rfl) ?_
  refine lv_if_ne (tgt := 781) hx hb dL_law_766 (by decide) (fun _ => ?_) (fun h0 => ?_)
  · refine lv_goto (tgt := 2607) hx hb dL_law_781 (by decide) ?_
    exact kk σ1 τ1 _ _ _ _ H locs ls hI hW hS (lv_sub hl [2, 3, 4, 5, 6, 7] rfl)
  · have hv := hp.2 h0
    refine lv_aload_n hx hb dL_law_769 rfl (lv_at hl 6 rfl) ?_
    refine zr_iconst hx hb dL_law_770 ?_
    refine ldL Z hW.1.2.1 0 u.2 rfl 0 rfl (by decide) (by decide) dL_law_771 ?_
    rw [hv]
    refine lv_iload hx hb dL_law_772 (lv_at hl 0 rfl) ?_
    refine lv_i2l hx hb dL_law_774 rfl ?_
    refine W.lcmp hx hb dL_law_775 ?_
    rw [lg_cmp_self]
    refine lv_if_eq (tgt := 781) hx hb dL_law_776 (by decide) (fun _ => ?_) (fun h9 => absurd rfl h9)
    refine lv_goto (tgt := 2607) hx hb dL_law_781 (by decide) ?_
    exact kk σ1 τ1 _ _ _ _ H locs ls hI hW hS (lv_sub hl [2, 3, 4, 5, 6, 7] rfl)
set_option maxHeartbeats 4000000 in
set_option maxRecDepth 100000 in
theorem lw_c9 {p : Program} {l : Launch} {e : Env} {s : State} {m : MethodId} {below : List Frame} {meth : Method} {c : Code} {H : Heap} {locs : List Loc} {cells slots : Nat} {Q : State → Prop} {b L : Nat} {xs : Nat → Int32} {ls : Array Slot} {G : ZG} {q1 q2 : Nat → Nat} {oa od n j : Nat} {σ τ : St} {κ : KC} {f : Nat → Int64} {μ : KM} {g : Nat → UInt64} (C : LC p l s m meth c G b L xs) (hn : n < 600) (hj : 8 * j + 8 ≤ L) (hi : Inv n σ τ) (hW : LW G (lwA s) q1 q2 oa od σ κ f τ μ g H) (hS : va_S (lwA s) s.heap H locs)
    (hl : lv_has ls 9 [(5, .int (zI ((8 * j : Nat) : Int))), (0, .ref b), (1, .ref (q1 0)), (2, .ref (q2 0)), (3, .ref oa), (4, .ref od)]) (hR : cells + 1 ≤ room_1.cells ∧ slots + 6 ≤ room_1.slots)
    (kk : LK p l e s m below meth c cells slots Q G b q1 q2 oa od n (8 * j)) : W p l e room_1 s m #[.ref b] below meth c H locs cells slots Q (F0 m 784 ls []) := by
  have Z := C.1
  have hst := C.2.1
  have hx := Z.1
  have hb := Z.2.1
  have hown := Z.2.2.2.1
  have hW9 := Z.2.2.2.2.1
  obtain ⟨k, bv, σ1, τ1, hI, hCL, hCM⟩ := j_withLink l G hst hi hn q1 q2 oa κ f μ (xs (8 * j + 1))
  refine lv_aload_n hx hb dL_law_784 rfl (lv_at hl 2 rfl) ?_
  refine lv_aload_n hx hb dL_law_785 rfl (lv_at hl 1 rfl) ?_
  refine lv_iload hx hb dL_law_786 (lv_at hl 0 rfl) ?_
  refine zr_iconst hx hb dL_law_788 ?_
  refine zr_iadd hx hb dL_law_789 ?_
  refine zs_ld C hS (8 * j + 1) (by omega) (by omega) dL_law_790 ?_
  refine lv_aload_n hx hb dL_law_791 rfl (lv_at hl 4 rfl) ?_
  refine callL (rest := []) Z hW hS hl.1 hCL zW_withLink km_L_178 rfl rfl ⟨⟨Nat.le_of_ble_eq_true rfl, Nat.le_of_ble_eq_true rfl⟩, hR.1, hR.2⟩ (Nat.le_of_ble_eq_true rfl) dL_law_792 (fun r u H locs hp hW hS => ?_)
  rw [hp.1]
  refine lv_istore (lv' := [(6, .int (zI k)), (5, .int (zI ((8 * j : Nat) : Int))), (0, .ref b), (1, .ref (q1 0)), (2, .ref (q2 0)), (3, .ref oa), (4, .ref od)]) hx hb dL_law_795 hl (by decide) rfl (fun ls hl => ?_)
  refine lv_aload_n hx hb dL_law_797 rfl (lv_at hl 4 rfl) ?_
  refine lv_aload_n hx hb dL_law_798 rfl (lv_at hl 2 rfl) ?_
  refine lv_iload hx hb dL_law_799 (lv_at hl 1 rfl) ?_
  refine zr_iconst hx hb dL_law_801 ?_
  refine zr_iadd hx hb dL_law_802 ?_
  refine zs_ld C hS (8 * j + 1) (by omega) (by omega) dL_law_803 ?_
  refine callM_I (rest := []) Z hW hS hl.1 hCM zY_X6_withLink km_L_180 rfl rfl rfl ⟨⟨Nat.le_of_ble_eq_true rfl, Nat.le_of_ble_eq_true rfl⟩, hR.1, hR.2⟩ (Nat.le_of_ble_eq_true rfl) dL_law_804 (fun r u2 H locs hp2 hW hS => ?_)
  rw [hp2.1]
  refine lv_istore (lv' := [(7, .int bv), (6, .int (zI k)), (5, .int (zI ((8 * j : Nat) : Int))), (0, .ref b), (1, .ref (q1 0)), (2, .ref (q2 0)), (3, .ref oa), (4, .ref od)]) hx hb dL_law_807 hl (by decide) rfl (fun ls hl => ?_)
  refine lv_aload_n hx hb dL_law_809 rfl (lv_at hl 5 rfl) ?_
  refine callM_I (rest := []) Z hW hS hl.1 (lw_thr hp2.2) zY_X6_thrown km_L_143 rfl rfl rfl ⟨⟨Nat.le_of_ble_eq_true rfl, Nat.le_of_ble_eq_true rfl⟩, hR.1, hR.2⟩ (Nat.le_of_ble_eq_true rfl) dL_law_810 (fun r u3 H locs hp3 hW hS => ?_)
  rw [hp3]
  refine lv_iload hx hb dL_law_813 (lv_at hl 1 rfl) ?_
  refine lv_icmp_eq (tgt := 820) hx hb dL_law_815 (by decide) (fun _ => ?_) (fun h9 => absurd rfl h9)
  refine lv_iload hx hb dL_law_820 (lv_at hl 1 rfl) ?_
  refine lv_if_ne (tgt := 837) hx hb dL_law_822 (by decide) (fun _ => ?_) (fun h0 => ?_)
  · refine lv_goto (tgt := 2607) hx hb dL_law_837 (by decide) ?_
    exact kk σ1 τ1 _ _ _ _ H locs ls hI hW hS (lv_sub hl [2, 3, 4, 5, 6, 7] rfl)
  · have hv := hp.2 h0
    refine lv_aload_n hx hb dL_law_825 rfl (lv_at hl 6 rfl) ?_
    refine zr_iconst hx hb dL_law_826 ?_
    refine ldL Z hW.1.2.1 0 u.2 rfl 0 rfl (by decide) (by decide) dL_law_827 ?_
    rw [hv]
    refine lv_iload hx hb dL_law_828 (lv_at hl 0 rfl) ?_
    refine lv_i2l hx hb dL_law_830 rfl ?_
    refine W.lcmp hx hb dL_law_831 ?_
    rw [lg_cmp_self]
    refine lv_if_eq (tgt := 837) hx hb dL_law_832 (by decide) (fun _ => ?_) (fun h9 => absurd rfl h9)
    refine lv_goto (tgt := 2607) hx hb dL_law_837 (by decide) ?_
    exact kk σ1 τ1 _ _ _ _ H locs ls hI hW hS (lv_sub hl [2, 3, 4, 5, 6, 7] rfl)
set_option maxHeartbeats 4000000 in
set_option maxRecDepth 100000 in
theorem lw_c10 {p : Program} {l : Launch} {e : Env} {s : State} {m : MethodId} {below : List Frame} {meth : Method} {c : Code} {H : Heap} {locs : List Loc} {cells slots : Nat} {Q : State → Prop} {b L : Nat} {xs : Nat → Int32} {ls : Array Slot} {G : ZG} {q1 q2 : Nat → Nat} {oa od n j : Nat} {σ τ : St} {κ : KC} {f : Nat → Int64} {μ : KM} {g : Nat → UInt64} (C : LC p l s m meth c G b L xs) (hn : n < 600) (hj : 8 * j + 8 ≤ L) (hi : Inv n σ τ) (hW : LW G (lwA s) q1 q2 oa od σ κ f τ μ g H) (hS : va_S (lwA s) s.heap H locs)
    (hl : lv_has ls 9 [(5, .int (zI ((8 * j : Nat) : Int))), (0, .ref b), (1, .ref (q1 0)), (2, .ref (q2 0)), (3, .ref oa), (4, .ref od)]) (hR : cells + 1 ≤ room_1.cells ∧ slots + 6 ≤ room_1.slots)
    (kk : LK p l e s m below meth c cells slots Q G b q1 q2 oa od n (8 * j)) : W p l e room_1 s m #[.ref b] below meth c H locs cells slots Q (F0 m 840 ls []) := by
  have Z := C.1
  have hst := C.2.1
  have hx := Z.1
  have hb := Z.2.1
  have hown := Z.2.2.2.1
  have hW9 := Z.2.2.2.2.1
  obtain ⟨k, bv, σ1, τ1, hI, hCL, hCM⟩ := j_title l G hst hi hn q1 q2 oa κ f μ (xs (8 * j + 1)) (xs (8 * j + 2))
  refine lv_aload_n hx hb dL_law_840 rfl (lv_at hl 2 rfl) ?_
  refine lv_aload_n hx hb dL_law_841 rfl (lv_at hl 1 rfl) ?_
  refine lv_iload hx hb dL_law_842 (lv_at hl 0 rfl) ?_
  refine zr_iconst hx hb dL_law_844 ?_
  refine zr_iadd hx hb dL_law_845 ?_
  refine zs_ld C hS (8 * j + 1) (by omega) (by omega) dL_law_846 ?_
  refine lv_aload_n hx hb dL_law_847 rfl (lv_at hl 1 rfl) ?_
  refine lv_iload hx hb dL_law_848 (lv_at hl 0 rfl) ?_
  refine zr_iconst hx hb dL_law_850 ?_
  refine zr_iadd hx hb dL_law_851 ?_
  refine zs_ld C hS (8 * j + 2) (by omega) (by omega) dL_law_852 ?_
  refine lv_aload_n hx hb dL_law_853 rfl (lv_at hl 4 rfl) ?_
  refine callL (rest := []) Z hW hS hl.1 hCL zW_title km_L_181 rfl rfl ⟨⟨Nat.le_of_ble_eq_true rfl, Nat.le_of_ble_eq_true rfl⟩, hR.1, hR.2⟩ (Nat.le_of_ble_eq_true rfl) dL_law_854 (fun r u H locs hp hW hS => ?_)
  rw [hp.1]
  refine lv_istore (lv' := [(6, .int (zI k)), (5, .int (zI ((8 * j : Nat) : Int))), (0, .ref b), (1, .ref (q1 0)), (2, .ref (q2 0)), (3, .ref oa), (4, .ref od)]) hx hb dL_law_857 hl (by decide) rfl (fun ls hl => ?_)
  refine lv_aload_n hx hb dL_law_859 rfl (lv_at hl 4 rfl) ?_
  refine lv_aload_n hx hb dL_law_860 rfl (lv_at hl 2 rfl) ?_
  refine lv_iload hx hb dL_law_861 (lv_at hl 1 rfl) ?_
  refine zr_iconst hx hb dL_law_863 ?_
  refine zr_iadd hx hb dL_law_864 ?_
  refine zs_ld C hS (8 * j + 1) (by omega) (by omega) dL_law_865 ?_
  refine lv_aload_n hx hb dL_law_866 rfl (lv_at hl 2 rfl) ?_
  refine lv_iload hx hb dL_law_867 (lv_at hl 1 rfl) ?_
  refine zr_iconst hx hb dL_law_869 ?_
  refine zr_iadd hx hb dL_law_870 ?_
  refine zs_ld C hS (8 * j + 2) (by omega) (by omega) dL_law_871 ?_
  refine callM_L (rest := []) Z hW hS hl.1 hCM zY_X6_title km_L_183 rfl rfl rfl ⟨⟨Nat.le_of_ble_eq_true rfl, Nat.le_of_ble_eq_true rfl⟩, hR.1, hR.2⟩ (Nat.le_of_ble_eq_true rfl) dL_law_872 (fun r u2 H locs hp2 hW hS => ?_)
  rw [hp2.1]
  refine lv_lstore (lv' := [(7, .long bv), (6, .int (zI k)), (5, .int (zI ((8 * j : Nat) : Int))), (0, .ref b), (1, .ref (q1 0)), (2, .ref (q2 0)), (3, .ref oa), (4, .ref od)]) hx hb dL_law_875 hl (by decide) rfl (fun ls hl => ?_)
  refine lv_aload_n hx hb dL_law_877 rfl (lv_at hl 5 rfl) ?_
  refine callM_I (rest := []) Z hW hS hl.1 (lw_thr hp2.2) zY_X6_thrown km_L_143 rfl rfl rfl ⟨⟨Nat.le_of_ble_eq_true rfl, Nat.le_of_ble_eq_true rfl⟩, hR.1, hR.2⟩ (Nat.le_of_ble_eq_true rfl) dL_law_878 (fun r u3 H locs hp3 hW hS => ?_)
  rw [hp3]
  refine lv_iload hx hb dL_law_881 (lv_at hl 1 rfl) ?_
  refine lv_icmp_eq (tgt := 888) hx hb dL_law_883 (by decide) (fun _ => ?_) (fun h9 => absurd rfl h9)
  refine lv_iload hx hb dL_law_888 (lv_at hl 1 rfl) ?_
  refine lv_if_ne (tgt := 904) hx hb dL_law_890 (by decide) (fun _ => ?_) (fun h0 => ?_)
  · refine lv_goto (tgt := 2607) hx hb dL_law_904 (by decide) ?_
    exact kk σ1 τ1 _ _ _ _ H locs ls hI hW hS (lv_sub hl [2, 3, 4, 5, 6, 7] rfl)
  · have hv := hp.2 h0
    refine lv_aload_n hx hb dL_law_893 rfl (lv_at hl 6 rfl) ?_
    refine zr_iconst hx hb dL_law_894 ?_
    refine ldL Z hW.1.2.1 0 u.2 rfl 0 rfl (by decide) (by decide) dL_law_895 ?_
    rw [hv]
    refine lv_lload hx hb dL_law_896 (lv_at hl 0 rfl) ?_
    refine W.lcmp hx hb dL_law_898 ?_
    rw [lg_cmp_self]
    refine lv_if_eq (tgt := 904) hx hb dL_law_899 (by decide) (fun _ => ?_) (fun h9 => absurd rfl h9)
    refine lv_goto (tgt := 2607) hx hb dL_law_904 (by decide) ?_
    exact kk σ1 τ1 _ _ _ _ H locs ls hI hW hS (lv_sub hl [2, 3, 4, 5, 6, 7] rfl)
set_option maxHeartbeats 4000000 in
set_option maxRecDepth 100000 in
theorem lw_c11 {p : Program} {l : Launch} {e : Env} {s : State} {m : MethodId} {below : List Frame} {meth : Method} {c : Code} {H : Heap} {locs : List Loc} {cells slots : Nat} {Q : State → Prop} {b L : Nat} {xs : Nat → Int32} {ls : Array Slot} {G : ZG} {q1 q2 : Nat → Nat} {oa od n j : Nat} {σ τ : St} {κ : KC} {f : Nat → Int64} {μ : KM} {g : Nat → UInt64} (C : LC p l s m meth c G b L xs) (hn : n < 600) (hj : 8 * j + 8 ≤ L) (hi : Inv n σ τ) (hW : LW G (lwA s) q1 q2 oa od σ κ f τ μ g H) (hS : va_S (lwA s) s.heap H locs)
    (hl : lv_has ls 9 [(5, .int (zI ((8 * j : Nat) : Int))), (0, .ref b), (1, .ref (q1 0)), (2, .ref (q2 0)), (3, .ref oa), (4, .ref od)]) (hR : cells + 1 ≤ room_1.cells ∧ slots + 6 ≤ room_1.slots)
    (kk : LK p l e s m below meth c cells slots Q G b q1 q2 oa od n (8 * j)) : W p l e room_1 s m #[.ref b] below meth c H locs cells slots Q (F0 m 907 ls []) := by
  have Z := C.1
  have hst := C.2.1
  have hx := Z.1
  have hb := Z.2.1
  have hown := Z.2.2.2.1
  have hW9 := Z.2.2.2.2.1
  obtain ⟨k, bv, σ1, τ1, hI, hCL, hCM⟩ := j_versions l G hst hi hn q1 q2 oa κ f μ (xs (8 * j + 1))
  refine lv_aload_n hx hb dL_law_907 rfl (lv_at hl 2 rfl) ?_
  refine lv_aload_n hx hb dL_law_908 rfl (lv_at hl 1 rfl) ?_
  refine lv_iload hx hb dL_law_909 (lv_at hl 0 rfl) ?_
  refine zr_iconst hx hb dL_law_911 ?_
  refine zr_iadd hx hb dL_law_912 ?_
  refine zs_ld C hS (8 * j + 1) (by omega) (by omega) dL_law_913 ?_
  refine lv_aload_n hx hb dL_law_914 rfl (lv_at hl 4 rfl) ?_
  refine callL (rest := []) Z hW hS hl.1 hCL zW_versions km_L_184 rfl rfl ⟨⟨Nat.le_of_ble_eq_true rfl, Nat.le_of_ble_eq_true rfl⟩, hR.1, hR.2⟩ (Nat.le_of_ble_eq_true rfl) dL_law_915 (fun r u H locs hp hW hS => ?_)
  rw [hp.1]
  refine lv_istore (lv' := [(6, .int (zI k)), (5, .int (zI ((8 * j : Nat) : Int))), (0, .ref b), (1, .ref (q1 0)), (2, .ref (q2 0)), (3, .ref oa), (4, .ref od)]) hx hb dL_law_918 hl (by decide) rfl (fun ls hl => ?_)
  refine lv_aload_n hx hb dL_law_920 rfl (lv_at hl 4 rfl) ?_
  refine lv_aload_n hx hb dL_law_921 rfl (lv_at hl 2 rfl) ?_
  refine lv_iload hx hb dL_law_922 (lv_at hl 1 rfl) ?_
  refine zr_iconst hx hb dL_law_924 ?_
  refine zr_iadd hx hb dL_law_925 ?_
  refine zs_ld C hS (8 * j + 1) (by omega) (by omega) dL_law_926 ?_
  refine callM_I (rest := []) Z hW hS hl.1 hCM zY_X6_versions km_L_186 rfl rfl rfl ⟨⟨Nat.le_of_ble_eq_true rfl, Nat.le_of_ble_eq_true rfl⟩, hR.1, hR.2⟩ (Nat.le_of_ble_eq_true rfl) dL_law_927 (fun r u2 H locs hp2 hW hS => ?_)
  rw [hp2.1]
  refine lv_istore (lv' := [(7, .int bv), (6, .int (zI k)), (5, .int (zI ((8 * j : Nat) : Int))), (0, .ref b), (1, .ref (q1 0)), (2, .ref (q2 0)), (3, .ref oa), (4, .ref od)]) hx hb dL_law_930 hl (by decide) rfl (fun ls hl => ?_)
  refine lv_aload_n hx hb dL_law_932 rfl (lv_at hl 5 rfl) ?_
  refine callM_I (rest := []) Z hW hS hl.1 (lw_thr hp2.2) zY_X6_thrown km_L_143 rfl rfl rfl ⟨⟨Nat.le_of_ble_eq_true rfl, Nat.le_of_ble_eq_true rfl⟩, hR.1, hR.2⟩ (Nat.le_of_ble_eq_true rfl) dL_law_933 (fun r u3 H locs hp3 hW hS => ?_)
  rw [hp3]
  refine lv_iload hx hb dL_law_936 (lv_at hl 1 rfl) ?_
  refine lv_icmp_eq (tgt := 943) hx hb dL_law_938 (by decide) (fun _ => ?_) (fun h9 => absurd rfl h9)
  refine lv_iload hx hb dL_law_943 (lv_at hl 1 rfl) ?_
  refine lv_if_ne (tgt := 960) hx hb dL_law_945 (by decide) (fun _ => ?_) (fun h0 => ?_)
  · refine lv_goto (tgt := 2607) hx hb dL_law_960 (by decide) ?_
    exact kk σ1 τ1 _ _ _ _ H locs ls hI hW hS (lv_sub hl [2, 3, 4, 5, 6, 7] rfl)
  · have hv := hp.2 h0
    refine lv_aload_n hx hb dL_law_948 rfl (lv_at hl 6 rfl) ?_
    refine zr_iconst hx hb dL_law_949 ?_
    refine ldL Z hW.1.2.1 0 u.2 rfl 0 rfl (by decide) (by decide) dL_law_950 ?_
    rw [hv]
    refine lv_iload hx hb dL_law_951 (lv_at hl 0 rfl) ?_
    refine lv_i2l hx hb dL_law_953 rfl ?_
    refine W.lcmp hx hb dL_law_954 ?_
    rw [lg_cmp_self]
    refine lv_if_eq (tgt := 960) hx hb dL_law_955 (by decide) (fun _ => ?_) (fun h9 => absurd rfl h9)
    refine lv_goto (tgt := 2607) hx hb dL_law_960 (by decide) ?_
    exact kk σ1 τ1 _ _ _ _ H locs ls hI hW hS (lv_sub hl [2, 3, 4, 5, 6, 7] rfl)
set_option maxHeartbeats 4000000 in
set_option maxRecDepth 100000 in
theorem lw_c12 {p : Program} {l : Launch} {e : Env} {s : State} {m : MethodId} {below : List Frame} {meth : Method} {c : Code} {H : Heap} {locs : List Loc} {cells slots : Nat} {Q : State → Prop} {b L : Nat} {xs : Nat → Int32} {ls : Array Slot} {G : ZG} {q1 q2 : Nat → Nat} {oa od n j : Nat} {σ τ : St} {κ : KC} {f : Nat → Int64} {μ : KM} {g : Nat → UInt64} (C : LC p l s m meth c G b L xs) (hn : n < 600) (hj : 8 * j + 8 ≤ L) (hi : Inv n σ τ) (hW : LW G (lwA s) q1 q2 oa od σ κ f τ μ g H) (hS : va_S (lwA s) s.heap H locs)
    (hl : lv_has ls 9 [(5, .int (zI ((8 * j : Nat) : Int))), (0, .ref b), (1, .ref (q1 0)), (2, .ref (q2 0)), (3, .ref oa), (4, .ref od)]) (hR : cells + 1 ≤ room_1.cells ∧ slots + 6 ≤ room_1.slots)
    (kk : LK p l e s m below meth c cells slots Q G b q1 q2 oa od n (8 * j)) : W p l e room_1 s m #[.ref b] below meth c H locs cells slots Q (F0 m 963 ls []) := by
  have Z := C.1
  have hst := C.2.1
  have hx := Z.1
  have hb := Z.2.1
  have hown := Z.2.2.2.1
  have hW9 := Z.2.2.2.2.1
  obtain ⟨k, bv, σ1, τ1, hI, hCL, hCM⟩ := j_latestMajor l G hst hi hn q1 q2 oa κ f μ (xs (8 * j + 1))
  refine lv_aload_n hx hb dL_law_963 rfl (lv_at hl 2 rfl) ?_
  refine lv_aload_n hx hb dL_law_964 rfl (lv_at hl 1 rfl) ?_
  refine lv_iload hx hb dL_law_965 (lv_at hl 0 rfl) ?_
  refine zr_iconst hx hb dL_law_967 ?_
  refine zr_iadd hx hb dL_law_968 ?_
  refine zs_ld C hS (8 * j + 1) (by omega) (by omega) dL_law_969 ?_
  refine lv_aload_n hx hb dL_law_970 rfl (lv_at hl 4 rfl) ?_
  refine callL (rest := []) Z hW hS hl.1 hCL zW_latestMajor km_L_187 rfl rfl ⟨⟨Nat.le_of_ble_eq_true rfl, Nat.le_of_ble_eq_true rfl⟩, hR.1, hR.2⟩ (Nat.le_of_ble_eq_true rfl) dL_law_971 (fun r u H locs hp hW hS => ?_)
  rw [hp.1]
  refine lv_istore (lv' := [(6, .int (zI k)), (5, .int (zI ((8 * j : Nat) : Int))), (0, .ref b), (1, .ref (q1 0)), (2, .ref (q2 0)), (3, .ref oa), (4, .ref od)]) hx hb dL_law_974 hl (by decide) rfl (fun ls hl => ?_)
  refine lv_aload_n hx hb dL_law_976 rfl (lv_at hl 4 rfl) ?_
  refine lv_aload_n hx hb dL_law_977 rfl (lv_at hl 2 rfl) ?_
  refine lv_iload hx hb dL_law_978 (lv_at hl 1 rfl) ?_
  refine zr_iconst hx hb dL_law_980 ?_
  refine zr_iadd hx hb dL_law_981 ?_
  refine zs_ld C hS (8 * j + 1) (by omega) (by omega) dL_law_982 ?_
  refine callM_I (rest := []) Z hW hS hl.1 hCM zY_X6_latestMajor km_L_189 rfl rfl rfl ⟨⟨Nat.le_of_ble_eq_true rfl, Nat.le_of_ble_eq_true rfl⟩, hR.1, hR.2⟩ (Nat.le_of_ble_eq_true rfl) dL_law_983 (fun r u2 H locs hp2 hW hS => ?_)
  rw [hp2.1]
  refine lv_istore (lv' := [(7, .int bv), (6, .int (zI k)), (5, .int (zI ((8 * j : Nat) : Int))), (0, .ref b), (1, .ref (q1 0)), (2, .ref (q2 0)), (3, .ref oa), (4, .ref od)]) hx hb dL_law_986 hl (by decide) rfl (fun ls hl => ?_)
  refine lv_aload_n hx hb dL_law_988 rfl (lv_at hl 5 rfl) ?_
  refine callM_I (rest := []) Z hW hS hl.1 (lw_thr hp2.2) zY_X6_thrown km_L_143 rfl rfl rfl ⟨⟨Nat.le_of_ble_eq_true rfl, Nat.le_of_ble_eq_true rfl⟩, hR.1, hR.2⟩ (Nat.le_of_ble_eq_true rfl) dL_law_989 (fun r u3 H locs hp3 hW hS => ?_)
  rw [hp3]
  refine lv_iload hx hb dL_law_992 (lv_at hl 1 rfl) ?_
  refine lv_icmp_eq (tgt := 999) hx hb dL_law_994 (by decide) (fun _ => ?_) (fun h9 => absurd rfl h9)
  refine lv_iload hx hb dL_law_999 (lv_at hl 1 rfl) ?_
  refine lv_if_ne (tgt := 1016) hx hb dL_law_1001 (by decide) (fun _ => ?_) (fun h0 => ?_)
  · refine lv_goto (tgt := 2607) hx hb dL_law_1016 (by decide) ?_
    exact kk σ1 τ1 _ _ _ _ H locs ls hI hW hS (lv_sub hl [2, 3, 4, 5, 6, 7] rfl)
  · have hv := hp.2 h0
    refine lv_aload_n hx hb dL_law_1004 rfl (lv_at hl 6 rfl) ?_
    refine zr_iconst hx hb dL_law_1005 ?_
    refine ldL Z hW.1.2.1 0 u.2 rfl 0 rfl (by decide) (by decide) dL_law_1006 ?_
    rw [hv]
    refine lv_iload hx hb dL_law_1007 (lv_at hl 0 rfl) ?_
    refine lv_i2l hx hb dL_law_1009 rfl ?_
    refine W.lcmp hx hb dL_law_1010 ?_
    rw [lg_cmp_self]
    refine lv_if_eq (tgt := 1016) hx hb dL_law_1011 (by decide) (fun _ => ?_) (fun h9 => absurd rfl h9)
    refine lv_goto (tgt := 2607) hx hb dL_law_1016 (by decide) ?_
    exact kk σ1 τ1 _ _ _ _ H locs ls hI hW hS (lv_sub hl [2, 3, 4, 5, 6, 7] rfl)
