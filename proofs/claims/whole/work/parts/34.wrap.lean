abbrev r_L_addDevice : Room := { frames := 3, cells := 0, slots := 0, locals := 69 }
set_option maxHeartbeats 4000000 in
set_option maxRecDepth 100000 in
theorem m_L_addDevice (l : Launch) (G : ZG) (q : Nat → Nat) (σ : St) (κ : KC) (oa : Nat) (f : Nat → Int64)  (hI : okC σ) (h1 : σ.1 7 < 4) :
  MC l G yL_addDevice (wYW yL_addDevice cL_addDevice 3 (some .int) [(0, 8, 11, 15)]) r_L_addDevice (wC G q σ κ ++ [aL G oa 1 f]) [.ref (q 0), .ref (oa)] (QI G (fun r9 (_ : Unit) => r9 = zI (0 : Int)) (fun _ => wC G q (bupN (sN σ 7 (σ.1 7 + 1)) (σ.1 7) (σ.1 4)) κ ++ [aL G oa 1 (va_up f 0 ((zI ((σ.1 7 : Nat) : Int)).toInt64))])) := by
  refine MC.mkW (by decide +kernel) (Nat.le_of_ble_eq_true rfl) ?_
  intro p e s m av below meth c A H locs ls Q Z ht hr hnm hQ hP hD hS hl
  have hx := Z.1
  have hb := Z.2.1
  have hl : lv_has ls 3 [(0, .ref (q 0)), (1, .ref (oa))] := hl
  refine lv_aload_n hx hb dL_addDevice_0 rfl (lv_at hl 1 rfl) ?_
  refine zr_iconst hx hb dL_addDevice_1 ?_
  refine lv_aload_n hx hb dL_addDevice_2 rfl (lv_at hl 0 rfl) ?_
  refine zfr_I ⟨rfl, rfl⟩ Z (zP_r hP) (zD_sep hD) (zD_l hD) hS (zrunV (rest := [.int (zI (0 : Int)), .ref oa]) Z (zP_l hP) (zD_l hD) hS hl.1 (m_X5_addDevice l G q σ κ  hI h1) zY_X5_addDevice km_L_106 (q0 := 0) rfl rfl rfl rfl ⟨⟨Nat.le_of_ble_eq_true rfl, Nat.le_of_ble_eq_true rfl⟩, Nat.le_of_ble_eq_true rfl, Nat.le_of_ble_eq_true rfl⟩ (Nat.le_of_ble_eq_true rfl) dL_addDevice_3) (fun r u H locs hp hP1 hD1 hP2 hs hS => ?_)
  obtain rfl : r = (zI ((σ.1 7 : Nat) : Int)) := hp
  have hPn := hP1.app hP2
  have hDn := va_D.app hD1 (zD_r hD) hs
  refine lv_i2l hx hb dL_addDevice_6 rfl ?_
  refine stL (ws1 := wC G q (bupN (sN σ 7 (σ.1 7 + 1)) (σ.1 7) (σ.1 4)) κ ++ [aL G oa 1 (va_up f 0 ((zI ((σ.1 7 : Nat) : Int)).toInt64))]) Z hPn hDn hS 30 f rfl 0 rfl (by decide) (by decide) rfl dL_addDevice_7 (fun H locs hP hD hS => ?_)
  refine lv_goto (tgt := 14) hx hb dL_addDevice_8 (by decide) ?_
  refine zr_iconst hx hb dL_addDevice_14 ?_
  exact zret_I () Z hr hP hD hS rfl rfl ⟨Nat.le_of_ble_eq_true rfl, Nat.le_of_ble_eq_true rfl⟩ hQ dL_addDevice_15
abbrev r_L_addDevice_x : Room := { frames := 7, cells := 1, slots := 6, locals := 122 }
set_option maxHeartbeats 4000000 in
set_option maxRecDepth 100000 in
theorem m_L_addDevice_x (l : Launch) (G : ZG) (hst : l.stackTraces = false) (q : Nat → Nat) (σ : St) (κ : KC) (oa : Nat) (f : Nat → Int64)  (hI : okC σ) (h1 : σ.1 7 = 4) :
  MC l G yL_addDevice (wYW yL_addDevice cL_addDevice 3 (some .int) [(0, 8, 11, 15)]) r_L_addDevice_x (wC G q σ κ ++ [aL G oa 1 f]) [.ref (q 0), .ref (oa)] (QI G (fun r9 (_ : Unit) => r9 = zI (1 : Int)) (fun _ => wC G q σ κ ++ [aL G oa 1 f])) := by
  refine MC.mkW (by decide +kernel) (Nat.le_of_ble_eq_true rfl) ?_
  intro p e s m av below meth c A H locs ls Q Z ht hr hnm hQ hP hD hS hl
  have hx := Z.1
  have hb := Z.2.1
  have hl : lv_has ls 3 [(0, .ref (q 0)), (1, .ref (oa))] := hl
  refine lv_aload_n hx hb dL_addDevice_0 rfl (lv_at hl 1 rfl) ?_
  refine zr_iconst hx hb dL_addDevice_1 ?_
  refine lv_aload_n hx hb dL_addDevice_2 rfl (lv_at hl 0 rfl) ?_
  refine zcatch Z (zP_r hP) (zD_sep hD) (zD_l hD) hS (zrunXV (rest := [.int (zI (0 : Int)), .ref oa]) Z (zP_l hP) (zD_l hD) hS hl.1 (m_X5_addDevice_x l G hst q σ κ  hI h1) zY_X5_addDevice km_L_106 (q0 := 0) rfl rfl rfl rfl ⟨⟨Nat.le_of_ble_eq_true rfl, Nat.le_of_ble_eq_true rfl⟩, Nat.le_of_ble_eq_true rfl, Nat.le_of_ble_eq_true rfl⟩ (Nat.le_of_ble_eq_true rfl) dL_addDevice_3) [] ⟨0, 8, 11, 15⟩ [] ht (fun z hz => by cases hz) (by decide) (by decide) kc_L_15 (by decide +kernel) (fun u q9 H locs hP1 hD1 hP2 hs hS => ?_)
  have hP := hP1.app hP2
  have hD := va_D.app hD1 (zD_r hD) hs
  refine lv_astore_n (lv' := [(2, .ref (q9)), (0, .ref (q 0)), (1, .ref (oa))]) hx hb dL_addDevice_11 rfl hl (by decide) rfl (fun ls hl => ?_)
  refine zr_iconst hx hb dL_addDevice_12 ?_
  exact zret_I () Z hr hP hD hS rfl rfl ⟨Nat.le_of_ble_eq_true rfl, Nat.le_of_ble_eq_true rfl⟩ hQ dL_addDevice_13
abbrev r_L_addRiver : Room := { frames := 2, cells := 0, slots := 0, locals := 45 }
set_option maxHeartbeats 4000000 in
set_option maxRecDepth 100000 in
theorem m_L_addRiver (l : Launch) (G : ZG) (q : Nat → Nat) (σ : St) (κ : KC) (oa : Nat) (f : Nat → Int64) {e_sr : Int} (sr : Nat) (he_sr : e_sr = (sr : Int)) {e_tg : Int} (tg : Nat) (he_tg : e_tg = (tg : Int) - 1) (hI : okC σ) (h0 : 1 ≤ sr) (h1 : sr ≤ 63) (h2 : tg ≤ 8) (h4 : σ.1 6 < 4) :
  MC l G yL_addRiver (wYW yL_addRiver cL_addRiver 5 (some .int) [(0, 10, 13, 13), (0, 10, 17, 15)]) r_L_addRiver (wC G q σ κ ++ [aL G oa 1 f]) [.ref (q 0), .int (zI e_sr), .int (zI e_tg), .ref (oa)] (QI G (fun r9 (_ : Unit) => r9 = zI (0 : Int)) (fun _ => wC G q (addV σ (zI ((sr : Nat) : Int)) tg) κ ++ [aL G oa 1 (va_up f 0 ((zI ((σ.1 6 : Nat) : Int)).toInt64))])) := by
  subst he_sr
  subst he_tg
  refine MC.mkW (by decide +kernel) (Nat.le_of_ble_eq_true rfl) ?_
  intro p e s m av below meth c A H locs ls Q Z ht hr hnm hQ hP hD hS hl
  have hx := Z.1
  have hb := Z.2.1
  have hl : lv_has ls 5 [(0, .ref (q 0)), (1, .int (zI ((sr : Nat) : Int))), (2, .int (zI (((tg : Nat) : Int) - (1 : Int)))), (3, .ref (oa))] := hl
  refine lv_aload_n hx hb dL_addRiver_0 rfl (lv_at hl 3 rfl) ?_
  refine zr_iconst hx hb dL_addRiver_1 ?_
  refine lv_aload_n hx hb dL_addRiver_2 rfl (lv_at hl 0 rfl) ?_
  refine lv_iload_n hx hb dL_addRiver_3 rfl (lv_at hl 1 rfl) ?_
  refine lv_iload_n hx hb dL_addRiver_4 rfl (lv_at hl 2 rfl) ?_
  refine zfr_I ⟨rfl, rfl⟩ Z (zP_r hP) (zD_sep hD) (zD_l hD) hS (zrunV (rest := [.int (zI (0 : Int)), .ref oa]) Z (zP_l hP) (zD_l hD) hS hl.1 (m_X5_addRiver l G q σ κ sr rfl tg rfl hI h0 h1 h2 h4) zY_X5_addRiver km_L_79 (q0 := 0) rfl rfl rfl rfl ⟨⟨Nat.le_of_ble_eq_true rfl, Nat.le_of_ble_eq_true rfl⟩, Nat.le_of_ble_eq_true rfl, Nat.le_of_ble_eq_true rfl⟩ (Nat.le_of_ble_eq_true rfl) dL_addRiver_5) (fun r u H locs hp hP1 hD1 hP2 hs hS => ?_)
  obtain rfl : r = (zI ((σ.1 6 : Nat) : Int)) := hp
  have hPn := hP1.app hP2
  have hDn := va_D.app hD1 (zD_r hD) hs
  refine lv_i2l hx hb dL_addRiver_8 rfl ?_
  refine stL (ws1 := wC G q (addV σ (zI ((sr : Nat) : Int)) tg) κ ++ [aL G oa 1 (va_up f 0 ((zI ((σ.1 6 : Nat) : Int)).toInt64))]) Z hPn hDn hS 30 f rfl 0 rfl (by decide) (by decide) rfl dL_addRiver_9 (fun H locs hP hD hS => ?_)
  refine lv_goto (tgt := 21) hx hb dL_addRiver_10 (by decide) ?_
  refine zr_iconst hx hb dL_addRiver_21 ?_
  exact zret_I () Z hr hP hD hS rfl rfl ⟨Nat.le_of_ble_eq_true rfl, Nat.le_of_ble_eq_true rfl⟩ hQ dL_addRiver_22
abbrev r_L_addRiver_x1 : Room := { frames := 7, cells := 1, slots := 6, locals := 123 }
set_option maxHeartbeats 4000000 in
set_option maxRecDepth 100000 in
theorem m_L_addRiver_x1 (l : Launch) (G : ZG) (hst : l.stackTraces = false) (q : Nat → Nat) (σ : St) (κ : KC) (oa : Nat) (f : Nat → Int64) (sr : Int) (tg : Int) (hI : okC σ) (h7 : zR sr ∧ zR tg) (h1 : ¬ (1 ≤ sr ∧ sr ≤ 63 ∧ (-1 ≤ tg ∧ tg ≤ 7))) :
  MC l G yL_addRiver (wYW yL_addRiver cL_addRiver 5 (some .int) [(0, 10, 13, 13), (0, 10, 17, 15)]) r_L_addRiver_x1 (wC G q σ κ ++ [aL G oa 1 f]) [.ref (q 0), .int (zI (sr : Int)), .int (zI (tg : Int)), .ref (oa)] (QI G (fun r9 (_ : Unit) => r9 = zI (1 : Int)) (fun _ => wC G q σ κ ++ [aL G oa 1 f])) := by
  refine MC.mkW (by decide +kernel) (Nat.le_of_ble_eq_true rfl) ?_
  intro p e s m av below meth c A H locs ls Q Z ht hr hnm hQ hP hD hS hl
  have hx := Z.1
  have hb := Z.2.1
  have hl : lv_has ls 5 [(0, .ref (q 0)), (1, .int (zI (sr : Int))), (2, .int (zI (tg : Int))), (3, .ref (oa))] := hl
  refine lv_aload_n hx hb dL_addRiver_0 rfl (lv_at hl 3 rfl) ?_
  refine zr_iconst hx hb dL_addRiver_1 ?_
  refine lv_aload_n hx hb dL_addRiver_2 rfl (lv_at hl 0 rfl) ?_
  refine lv_iload_n hx hb dL_addRiver_3 rfl (lv_at hl 1 rfl) ?_
  refine lv_iload_n hx hb dL_addRiver_4 rfl (lv_at hl 2 rfl) ?_
  refine zcatch Z (zP_r hP) (zD_sep hD) (zD_l hD) hS (zrunXV (rest := [.int (zI (0 : Int)), .ref oa]) Z (zP_l hP) (zD_l hD) hS hl.1 (m_X5_addRiver_x1 l G hst q σ κ sr tg hI h7 h1) zY_X5_addRiver km_L_79 (q0 := 0) rfl rfl rfl rfl ⟨⟨Nat.le_of_ble_eq_true rfl, Nat.le_of_ble_eq_true rfl⟩, Nat.le_of_ble_eq_true rfl, Nat.le_of_ble_eq_true rfl⟩ (Nat.le_of_ble_eq_true rfl) dL_addRiver_5) [] ⟨0, 10, 13, 13⟩ [⟨0, 10, 17, 15⟩] ht (fun z hz => by cases hz) (by decide) (by decide) kc_L_13 (by decide +kernel) (fun u q9 H locs hP1 hD1 hP2 hs hS => ?_)
  have hP := hP1.app hP2
  have hD := va_D.app hD1 (zD_r hD) hs
  refine lv_astore (lv' := [(4, .ref (q9)), (0, .ref (q 0)), (1, .int (zI (sr : Int))), (2, .int (zI (tg : Int))), (3, .ref (oa))]) hx hb dL_addRiver_13 hl (by decide) rfl (fun ls hl => ?_)
  refine zr_iconst hx hb dL_addRiver_15 ?_
  exact zret_I () Z hr hP hD hS rfl rfl ⟨Nat.le_of_ble_eq_true rfl, Nat.le_of_ble_eq_true rfl⟩ hQ dL_addRiver_16
abbrev r_L_addRiver_x2 : Room := { frames := 7, cells := 1, slots := 6, locals := 123 }
set_option maxHeartbeats 4000000 in
set_option maxRecDepth 100000 in
theorem m_L_addRiver_x2 (l : Launch) (G : ZG) (hst : l.stackTraces = false) (q : Nat → Nat) (σ : St) (κ : KC) (oa : Nat) (f : Nat → Int64) {e_sr : Int} (sr : Nat) (he_sr : e_sr = (sr : Int)) {e_tg : Int} (tg : Nat) (he_tg : e_tg = (tg : Int) - 1) (hI : okC σ) (h0 : 1 ≤ sr) (h1 : sr ≤ 63) (h2 : tg ≤ 8) (h4 : σ.1 6 = 4) :
  MC l G yL_addRiver (wYW yL_addRiver cL_addRiver 5 (some .int) [(0, 10, 13, 13), (0, 10, 17, 15)]) r_L_addRiver_x2 (wC G q σ κ ++ [aL G oa 1 f]) [.ref (q 0), .int (zI e_sr), .int (zI e_tg), .ref (oa)] (QI G (fun r9 (_ : Unit) => r9 = zI (2 : Int)) (fun _ => wC G q σ κ ++ [aL G oa 1 f])) := by
  subst he_sr
  subst he_tg
  refine MC.mkW (by decide +kernel) (Nat.le_of_ble_eq_true rfl) ?_
  intro p e s m av below meth c A H locs ls Q Z ht hr hnm hQ hP hD hS hl
  have hx := Z.1
  have hb := Z.2.1
  have hl : lv_has ls 5 [(0, .ref (q 0)), (1, .int (zI ((sr : Nat) : Int))), (2, .int (zI (((tg : Nat) : Int) - (1 : Int)))), (3, .ref (oa))] := hl
  refine lv_aload_n hx hb dL_addRiver_0 rfl (lv_at hl 3 rfl) ?_
  refine zr_iconst hx hb dL_addRiver_1 ?_
  refine lv_aload_n hx hb dL_addRiver_2 rfl (lv_at hl 0 rfl) ?_
  refine lv_iload_n hx hb dL_addRiver_3 rfl (lv_at hl 1 rfl) ?_
  refine lv_iload_n hx hb dL_addRiver_4 rfl (lv_at hl 2 rfl) ?_
  refine zcatch Z (zP_r hP) (zD_sep hD) (zD_l hD) hS (zrunXV (rest := [.int (zI (0 : Int)), .ref oa]) Z (zP_l hP) (zD_l hD) hS hl.1 (m_X5_addRiver_x2 l G hst q σ κ sr rfl tg rfl hI h0 h1 h2 h4) zY_X5_addRiver km_L_79 (q0 := 0) rfl rfl rfl rfl ⟨⟨Nat.le_of_ble_eq_true rfl, Nat.le_of_ble_eq_true rfl⟩, Nat.le_of_ble_eq_true rfl, Nat.le_of_ble_eq_true rfl⟩ (Nat.le_of_ble_eq_true rfl) dL_addRiver_5) [⟨0, 10, 13, 13⟩] ⟨0, 10, 17, 15⟩ [] ht (fun z hz => by
    rw [List.mem_singleton] at hz; subst hz; exact Or.inr ⟨by decide, "java/lang/IllegalArgumentException", kc_L_13, by decide +kernel⟩) (by decide) (by decide) kc_L_15 (by decide +kernel) (fun u q9 H locs hP1 hD1 hP2 hs hS => ?_)
  have hP := hP1.app hP2
  have hD := va_D.app hD1 (zD_r hD) hs
  refine lv_astore (lv' := [(4, .ref (q9)), (0, .ref (q 0)), (1, .int (zI ((sr : Nat) : Int))), (2, .int (zI (((tg : Nat) : Int) - (1 : Int)))), (3, .ref (oa))]) hx hb dL_addRiver_17 hl (by decide) rfl (fun ls hl => ?_)
  refine zr_iconst hx hb dL_addRiver_19 ?_
  exact zret_I () Z hr hP hD hS rfl rfl ⟨Nat.le_of_ble_eq_true rfl, Nat.le_of_ble_eq_true rfl⟩ hQ dL_addRiver_20
abbrev r_L_addRule : Room := { frames := 2, cells := 0, slots := 0, locals := 55 }
set_option maxHeartbeats 4000000 in
set_option maxRecDepth 100000 in
theorem m_L_addRule (l : Launch) (G : ZG) (q : Nat → Nat) (σ : St) (κ : KC) (oa : Nat) (f : Nat → Int64) (al : Int64) (an : Int64) {e_sr : Int} (sr : Nat) (he_sr : e_sr = (sr : Int)) {e_tg : Int} (tg : Nat) (he_tg : e_tg = (tg : Int) - 1) {e_ac : Int} (ac : Nat) (he_ac : e_ac = (ac : Int)) (hI : okC σ) (h1 : sr ≤ 63) (h2 : tg ≤ 8) (h3 : ac ≤ 9) (h4 : σ.1 5 < 6) :
  MC l G yL_addRule (wYW yL_addRule cL_addRule 10 (some .int) [(0, 17, 20, 13), (0, 17, 24, 15)]) r_L_addRule (wC G q σ κ ++ [aL G oa 1 f]) [.ref (q 0), .long (al), .long (an), .int (zI e_sr), .int (zI e_tg), .int (zI e_ac), .ref (oa)] (QI G (fun r9 (_ : Unit) => r9 = zI (0 : Int)) (fun _ => wC G q (addR σ al an (zI ((sr : Nat) : Int)) tg ac) κ ++ [aL G oa 1 (va_up f 0 ((zI ((σ.1 5 : Nat) : Int)).toInt64))])) := by
  subst he_sr
  subst he_tg
  subst he_ac
  refine MC.mkW (by decide +kernel) (Nat.le_of_ble_eq_true rfl) ?_
  intro p e s m av below meth c A H locs ls Q Z ht hr hnm hQ hP hD hS hl
  have hx := Z.1
  have hb := Z.2.1
  have hl : lv_has ls 10 [(0, .ref (q 0)), (1, .long (al)), (3, .long (an)), (5, .int (zI ((sr : Nat) : Int))), (6, .int (zI (((tg : Nat) : Int) - (1 : Int)))), (7, .int (zI ((ac : Nat) : Int))), (8, .ref (oa))] := hl
  refine lv_aload hx hb dL_addRule_0 (lv_at hl 6 rfl) ?_
  refine zr_iconst hx hb dL_addRule_2 ?_
  refine lv_aload_n hx hb dL_addRule_3 rfl (lv_at hl 0 rfl) ?_
  refine lv_lload_n hx hb dL_addRule_4 rfl (lv_at hl 1 rfl) ?_
  refine lv_lload_n hx hb dL_addRule_5 rfl (lv_at hl 2 rfl) ?_
  refine lv_iload hx hb dL_addRule_6 (lv_at hl 3 rfl) ?_
  refine lv_iload hx hb dL_addRule_8 (lv_at hl 4 rfl) ?_
  refine lv_iload hx hb dL_addRule_10 (lv_at hl 5 rfl) ?_
  refine zfr_I ⟨rfl, rfl⟩ Z (zP_r hP) (zD_sep hD) (zD_l hD) hS (zrunV (rest := [.int (zI (0 : Int)), .ref oa]) Z (zP_l hP) (zD_l hD) hS hl.1 (m_X5_addRule l G q σ κ al an sr rfl tg rfl ac rfl hI h1 h2 h3 h4) zY_X5_addRule km_L_62 (q0 := 0) rfl rfl rfl rfl ⟨⟨Nat.le_of_ble_eq_true rfl, Nat.le_of_ble_eq_true rfl⟩, Nat.le_of_ble_eq_true rfl, Nat.le_of_ble_eq_true rfl⟩ (Nat.le_of_ble_eq_true rfl) dL_addRule_12) (fun r u H locs hp hP1 hD1 hP2 hs hS => ?_)
  obtain rfl : r = (zI ((σ.1 5 : Nat) : Int)) := hp
  have hPn := hP1.app hP2
  have hDn := va_D.app hD1 (zD_r hD) hs
  refine lv_i2l hx hb dL_addRule_15 rfl ?_
  refine stL (ws1 := wC G q (addR σ al an (zI ((sr : Nat) : Int)) tg ac) κ ++ [aL G oa 1 (va_up f 0 ((zI ((σ.1 5 : Nat) : Int)).toInt64))]) Z hPn hDn hS 30 f rfl 0 rfl (by decide) (by decide) rfl dL_addRule_16 (fun H locs hP hD hS => ?_)
  refine lv_goto (tgt := 28) hx hb dL_addRule_17 (by decide) ?_
  refine zr_iconst hx hb dL_addRule_28 ?_
  exact zret_I () Z hr hP hD hS rfl rfl ⟨Nat.le_of_ble_eq_true rfl, Nat.le_of_ble_eq_true rfl⟩ hQ dL_addRule_29
abbrev r_L_addRule_x1 : Room := { frames := 7, cells := 1, slots := 6, locals := 128 }
set_option maxHeartbeats 4000000 in
set_option maxRecDepth 100000 in
theorem m_L_addRule_x1 (l : Launch) (G : ZG) (hst : l.stackTraces = false) (q : Nat → Nat) (σ : St) (κ : KC) (oa : Nat) (f : Nat → Int64) (al : Int64) (an : Int64) (sr : Int) (tg : Int) (ac : Int) (hI : okC σ) (h7 : zR sr ∧ zR tg ∧ zR ac) (h1 : ¬ (0 ≤ sr ∧ sr ≤ 63 ∧ (-1 ≤ tg ∧ tg ≤ 7) ∧ 0 ≤ ac ∧ ac ≤ 9)) :
  MC l G yL_addRule (wYW yL_addRule cL_addRule 10 (some .int) [(0, 17, 20, 13), (0, 17, 24, 15)]) r_L_addRule_x1 (wC G q σ κ ++ [aL G oa 1 f]) [.ref (q 0), .long (al), .long (an), .int (zI (sr : Int)), .int (zI (tg : Int)), .int (zI (ac : Int)), .ref (oa)] (QI G (fun r9 (_ : Unit) => r9 = zI (1 : Int)) (fun _ => wC G q σ κ ++ [aL G oa 1 f])) := by
  refine MC.mkW (by decide +kernel) (Nat.le_of_ble_eq_true rfl) ?_
  intro p e s m av below meth c A H locs ls Q Z ht hr hnm hQ hP hD hS hl
  have hx := Z.1
  have hb := Z.2.1
  have hl : lv_has ls 10 [(0, .ref (q 0)), (1, .long (al)), (3, .long (an)), (5, .int (zI (sr : Int))), (6, .int (zI (tg : Int))), (7, .int (zI (ac : Int))), (8, .ref (oa))] := hl
  refine lv_aload hx hb dL_addRule_0 (lv_at hl 6 rfl) ?_
  refine zr_iconst hx hb dL_addRule_2 ?_
  refine lv_aload_n hx hb dL_addRule_3 rfl (lv_at hl 0 rfl) ?_
  refine lv_lload_n hx hb dL_addRule_4 rfl (lv_at hl 1 rfl) ?_
  refine lv_lload_n hx hb dL_addRule_5 rfl (lv_at hl 2 rfl) ?_
  refine lv_iload hx hb dL_addRule_6 (lv_at hl 3 rfl) ?_
  refine lv_iload hx hb dL_addRule_8 (lv_at hl 4 rfl) ?_
  refine lv_iload hx hb dL_addRule_10 (lv_at hl 5 rfl) ?_
  refine zcatch Z (zP_r hP) (zD_sep hD) (zD_l hD) hS (zrunXV (rest := [.int (zI (0 : Int)), .ref oa]) Z (zP_l hP) (zD_l hD) hS hl.1 (m_X5_addRule_x1 l G hst q σ κ al an sr tg ac hI h7 h1) zY_X5_addRule km_L_62 (q0 := 0) rfl rfl rfl rfl ⟨⟨Nat.le_of_ble_eq_true rfl, Nat.le_of_ble_eq_true rfl⟩, Nat.le_of_ble_eq_true rfl, Nat.le_of_ble_eq_true rfl⟩ (Nat.le_of_ble_eq_true rfl) dL_addRule_12) [] ⟨0, 17, 20, 13⟩ [⟨0, 17, 24, 15⟩] ht (fun z hz => by cases hz) (by decide) (by decide) kc_L_13 (by decide +kernel) (fun u q9 H locs hP1 hD1 hP2 hs hS => ?_)
  have hP := hP1.app hP2
  have hD := va_D.app hD1 (zD_r hD) hs
  refine lv_astore (lv' := [(9, .ref (q9)), (0, .ref (q 0)), (1, .long (al)), (3, .long (an)), (5, .int (zI (sr : Int))), (6, .int (zI (tg : Int))), (7, .int (zI (ac : Int))), (8, .ref (oa))]) hx hb dL_addRule_20 hl (by decide) rfl (fun ls hl => ?_)
  refine zr_iconst hx hb dL_addRule_22 ?_
  exact zret_I () Z hr hP hD hS rfl rfl ⟨Nat.le_of_ble_eq_true rfl, Nat.le_of_ble_eq_true rfl⟩ hQ dL_addRule_23
abbrev r_L_addRule_x2 : Room := { frames := 7, cells := 1, slots := 6, locals := 128 }
set_option maxHeartbeats 4000000 in
set_option maxRecDepth 100000 in
theorem m_L_addRule_x2 (l : Launch) (G : ZG) (hst : l.stackTraces = false) (q : Nat → Nat) (σ : St) (κ : KC) (oa : Nat) (f : Nat → Int64) (al : Int64) (an : Int64) {e_sr : Int} (sr : Nat) (he_sr : e_sr = (sr : Int)) {e_tg : Int} (tg : Nat) (he_tg : e_tg = (tg : Int) - 1) {e_ac : Int} (ac : Nat) (he_ac : e_ac = (ac : Int)) (hI : okC σ) (h1 : sr ≤ 63) (h2 : tg ≤ 8) (h3 : ac ≤ 9) (h4 : σ.1 5 = 6) :
  MC l G yL_addRule (wYW yL_addRule cL_addRule 10 (some .int) [(0, 17, 20, 13), (0, 17, 24, 15)]) r_L_addRule_x2 (wC G q σ κ ++ [aL G oa 1 f]) [.ref (q 0), .long (al), .long (an), .int (zI e_sr), .int (zI e_tg), .int (zI e_ac), .ref (oa)] (QI G (fun r9 (_ : Unit) => r9 = zI (2 : Int)) (fun _ => wC G q σ κ ++ [aL G oa 1 f])) := by
  subst he_sr
  subst he_tg
  subst he_ac
  refine MC.mkW (by decide +kernel) (Nat.le_of_ble_eq_true rfl) ?_
  intro p e s m av below meth c A H locs ls Q Z ht hr hnm hQ hP hD hS hl
  have hx := Z.1
  have hb := Z.2.1
  have hl : lv_has ls 10 [(0, .ref (q 0)), (1, .long (al)), (3, .long (an)), (5, .int (zI ((sr : Nat) : Int))), (6, .int (zI (((tg : Nat) : Int) - (1 : Int)))), (7, .int (zI ((ac : Nat) : Int))), (8, .ref (oa))] := hl
  refine lv_aload hx hb dL_addRule_0 (lv_at hl 6 rfl) ?_
  refine zr_iconst hx hb dL_addRule_2 ?_
  refine lv_aload_n hx hb dL_addRule_3 rfl (lv_at hl 0 rfl) ?_
  refine lv_lload_n hx hb dL_addRule_4 rfl (lv_at hl 1 rfl) ?_
  refine lv_lload_n hx hb dL_addRule_5 rfl (lv_at hl 2 rfl) ?_
  refine lv_iload hx hb dL_addRule_6 (lv_at hl 3 rfl) ?_
  refine lv_iload hx hb dL_addRule_8 (lv_at hl 4 rfl) ?_
  refine lv_iload hx hb dL_addRule_10 (lv_at hl 5 rfl) ?_
  refine zcatch Z (zP_r hP) (zD_sep hD) (zD_l hD) hS (zrunXV (rest := [.int (zI (0 : Int)), .ref oa]) Z (zP_l hP) (zD_l hD) hS hl.1 (m_X5_addRule_x2 l G hst q σ κ al an sr rfl tg rfl ac rfl hI h1 h2 h3 h4) zY_X5_addRule km_L_62 (q0 := 0) rfl rfl rfl rfl ⟨⟨Nat.le_of_ble_eq_true rfl, Nat.le_of_ble_eq_true rfl⟩, Nat.le_of_ble_eq_true rfl, Nat.le_of_ble_eq_true rfl⟩ (Nat.le_of_ble_eq_true rfl) dL_addRule_12) [⟨0, 17, 20, 13⟩] ⟨0, 17, 24, 15⟩ [] ht (fun z hz => by
    rw [List.mem_singleton] at hz; subst hz; exact Or.inr ⟨by decide, "java/lang/IllegalArgumentException", kc_L_13, by decide +kernel⟩) (by decide) (by decide) kc_L_15 (by decide +kernel) (fun u q9 H locs hP1 hD1 hP2 hs hS => ?_)
  have hP := hP1.app hP2
  have hD := va_D.app hD1 (zD_r hD) hs
  refine lv_astore (lv' := [(9, .ref (q9)), (0, .ref (q 0)), (1, .long (al)), (3, .long (an)), (5, .int (zI ((sr : Nat) : Int))), (6, .int (zI (((tg : Nat) : Int) - (1 : Int)))), (7, .int (zI ((ac : Nat) : Int))), (8, .ref (oa))]) hx hb dL_addRule_24 hl (by decide) rfl (fun ls hl => ?_)
  refine zr_iconst hx hb dL_addRule_26 ?_
  exact zret_I () Z hr hP hD hS rfl rfl ⟨Nat.le_of_ble_eq_true rfl, Nat.le_of_ble_eq_true rfl⟩ hQ dL_addRule_27
abbrev r_L_addSource : Room := { frames := 1, cells := 0, slots := 0, locals := 20 }
set_option maxHeartbeats 4000000 in
set_option maxRecDepth 100000 in
theorem m_L_addSource (l : Launch) (G : ZG) (q : Nat → Nat) (σ : St) (κ : KC) (oa : Nat) (f : Nat → Int64)  (h1 : σ.1 3 < 6) :
  MC l G yL_addSource (wYW yL_addSource cL_addSource 3 (some .int) [(0, 8, 11, 15)]) r_L_addSource (wC G q σ κ ++ [aL G oa 1 f]) [.ref (q 0), .ref (oa)] (QI G (fun r9 (_ : Unit) => r9 = zI (0 : Int)) (fun _ => wC G q (sN σ 3 (σ.1 3 + 1)) κ ++ [aL G oa 1 (va_up f 0 ((zI ((σ.1 3 : Nat) : Int)).toInt64))])) := by
  refine MC.mkW (by decide +kernel) (Nat.le_of_ble_eq_true rfl) ?_
  intro p e s m av below meth c A H locs ls Q Z ht hr hnm hQ hP hD hS hl
  have hx := Z.1
  have hb := Z.2.1
  have hl : lv_has ls 3 [(0, .ref (q 0)), (1, .ref (oa))] := hl
  refine lv_aload_n hx hb dL_addSource_0 rfl (lv_at hl 1 rfl) ?_
  refine zr_iconst hx hb dL_addSource_1 ?_
  refine lv_aload_n hx hb dL_addSource_2 rfl (lv_at hl 0 rfl) ?_
  refine zfr_I ⟨rfl, rfl⟩ Z (zP_r hP) (zD_sep hD) (zD_l hD) hS (zrunV (rest := [.int (zI (0 : Int)), .ref oa]) Z (zP_l hP) (zD_l hD) hS hl.1 (m_X5_addSource l G q σ κ  h1) zY_X5_addSource km_L_27 (q0 := 0) rfl rfl rfl rfl ⟨⟨Nat.le_of_ble_eq_true rfl, Nat.le_of_ble_eq_true rfl⟩, Nat.le_of_ble_eq_true rfl, Nat.le_of_ble_eq_true rfl⟩ (Nat.le_of_ble_eq_true rfl) dL_addSource_3) (fun r u H locs hp hP1 hD1 hP2 hs hS => ?_)
  obtain rfl : r = (zI ((σ.1 3 : Nat) : Int)) := hp
  have hPn := hP1.app hP2
  have hDn := va_D.app hD1 (zD_r hD) hs
  refine lv_i2l hx hb dL_addSource_6 rfl ?_
  refine stL (ws1 := wC G q (sN σ 3 (σ.1 3 + 1)) κ ++ [aL G oa 1 (va_up f 0 ((zI ((σ.1 3 : Nat) : Int)).toInt64))]) Z hPn hDn hS 30 f rfl 0 rfl (by decide) (by decide) rfl dL_addSource_7 (fun H locs hP hD hS => ?_)
  refine lv_goto (tgt := 14) hx hb dL_addSource_8 (by decide) ?_
  refine zr_iconst hx hb dL_addSource_14 ?_
  exact zret_I () Z hr hP hD hS rfl rfl ⟨Nat.le_of_ble_eq_true rfl, Nat.le_of_ble_eq_true rfl⟩ hQ dL_addSource_15
abbrev r_L_addSource_x : Room := { frames := 7, cells := 1, slots := 6, locals := 120 }
set_option maxHeartbeats 4000000 in
set_option maxRecDepth 100000 in
theorem m_L_addSource_x (l : Launch) (G : ZG) (hst : l.stackTraces = false) (q : Nat → Nat) (σ : St) (κ : KC) (oa : Nat) (f : Nat → Int64)  (h1 : σ.1 3 = 6) :
  MC l G yL_addSource (wYW yL_addSource cL_addSource 3 (some .int) [(0, 8, 11, 15)]) r_L_addSource_x (wC G q σ κ ++ [aL G oa 1 f]) [.ref (q 0), .ref (oa)] (QI G (fun r9 (_ : Unit) => r9 = zI (1 : Int)) (fun _ => wC G q σ κ ++ [aL G oa 1 f])) := by
  refine MC.mkW (by decide +kernel) (Nat.le_of_ble_eq_true rfl) ?_
  intro p e s m av below meth c A H locs ls Q Z ht hr hnm hQ hP hD hS hl
  have hx := Z.1
  have hb := Z.2.1
  have hl : lv_has ls 3 [(0, .ref (q 0)), (1, .ref (oa))] := hl
  refine lv_aload_n hx hb dL_addSource_0 rfl (lv_at hl 1 rfl) ?_
  refine zr_iconst hx hb dL_addSource_1 ?_
  refine lv_aload_n hx hb dL_addSource_2 rfl (lv_at hl 0 rfl) ?_
  refine zcatch Z (zP_r hP) (zD_sep hD) (zD_l hD) hS (zrunXV (rest := [.int (zI (0 : Int)), .ref oa]) Z (zP_l hP) (zD_l hD) hS hl.1 (m_X5_addSource_x l G hst q σ κ  h1) zY_X5_addSource km_L_27 (q0 := 0) rfl rfl rfl rfl ⟨⟨Nat.le_of_ble_eq_true rfl, Nat.le_of_ble_eq_true rfl⟩, Nat.le_of_ble_eq_true rfl, Nat.le_of_ble_eq_true rfl⟩ (Nat.le_of_ble_eq_true rfl) dL_addSource_3) [] ⟨0, 8, 11, 15⟩ [] ht (fun z hz => by cases hz) (by decide) (by decide) kc_L_15 (by decide +kernel) (fun u q9 H locs hP1 hD1 hP2 hs hS => ?_)
  have hP := hP1.app hP2
  have hD := va_D.app hD1 (zD_r hD) hs
  refine lv_astore_n (lv' := [(2, .ref (q9)), (0, .ref (q 0)), (1, .ref (oa))]) hx hb dL_addSource_11 rfl hl (by decide) rfl (fun ls hl => ?_)
  refine zr_iconst hx hb dL_addSource_12 ?_
  exact zret_I () Z hr hP hD hS rfl rfl ⟨Nat.le_of_ble_eq_true rfl, Nat.le_of_ble_eq_true rfl⟩ hQ dL_addSource_13
abbrev r_L_dropRule : Room := { frames := 3, cells := 0, slots := 0, locals := 62 }
set_option maxHeartbeats 4000000 in
set_option maxRecDepth 100000 in
theorem m_L_dropRule (l : Launch) (G : ZG) (q : Nat → Nat) (σ : St) (κ : KC) (oa : Nat) (f : Nat → Int64) {e_i : Int} (i : Nat) (he_i : e_i = (i : Int)) (hI : okC σ) (h1 : i < σ.1 5) :
  MC l G yL_dropRule (wYW yL_dropRule cL_dropRule 4 (some .int) [(0, 9, 12, 35)]) r_L_dropRule (wC G q σ κ ++ [aL G oa 1 f]) [.ref (q 0), .int (zI e_i), .ref (oa)] (QI G (fun r9 (_ : Unit) => r9 = zI (0 : Int)) (fun _ => wC G q (drp σ i (σ.1 5 - 1 - i)) κ ++ [aL G oa 1 (va_up f 0 ((zI ((σ.1 5 - 1 : Nat) : Int)).toInt64))])) := by
  subst he_i
  refine MC.mkW (by decide +kernel) (Nat.le_of_ble_eq_true rfl) ?_
  intro p e s m av below meth c A H locs ls Q Z ht hr hnm hQ hP hD hS hl
  have hx := Z.1
  have hb := Z.2.1
  have hl : lv_has ls 4 [(0, .ref (q 0)), (1, .int (zI ((i : Nat) : Int))), (2, .ref (oa))] := hl
  refine lv_aload_n hx hb dL_dropRule_0 rfl (lv_at hl 2 rfl) ?_
  refine zr_iconst hx hb dL_dropRule_1 ?_
  refine lv_aload_n hx hb dL_dropRule_2 rfl (lv_at hl 0 rfl) ?_
  refine lv_iload_n hx hb dL_dropRule_3 rfl (lv_at hl 1 rfl) ?_
  refine zfr_I ⟨rfl, rfl⟩ Z (zP_r hP) (zD_sep hD) (zD_l hD) hS (zrunV (rest := [.int (zI (0 : Int)), .ref oa]) Z (zP_l hP) (zD_l hD) hS hl.1 (m_X5_dropRule l G q σ κ i rfl hI h1) zY_X5_dropRule km_L_66 (q0 := 0) rfl rfl rfl rfl ⟨⟨Nat.le_of_ble_eq_true rfl, Nat.le_of_ble_eq_true rfl⟩, Nat.le_of_ble_eq_true rfl, Nat.le_of_ble_eq_true rfl⟩ (Nat.le_of_ble_eq_true rfl) dL_dropRule_4) (fun r u H locs hp hP1 hD1 hP2 hs hS => ?_)
  obtain rfl : r = (zI ((σ.1 5 - 1 : Nat) : Int)) := hp
  have hPn := hP1.app hP2
  have hDn := va_D.app hD1 (zD_r hD) hs
  refine lv_i2l hx hb dL_dropRule_7 rfl ?_
  refine stL (ws1 := wC G q (drp σ i (σ.1 5 - 1 - i)) κ ++ [aL G oa 1 (va_up f 0 ((zI ((σ.1 5 - 1 : Nat) : Int)).toInt64))]) Z hPn hDn hS 30 f rfl 0 rfl (by decide) (by decide) rfl dL_dropRule_8 (fun H locs hP hD hS => ?_)
  refine lv_goto (tgt := 15) hx hb dL_dropRule_9 (by decide) ?_
  refine zr_iconst hx hb dL_dropRule_15 ?_
  exact zret_I () Z hr hP hD hS rfl rfl ⟨Nat.le_of_ble_eq_true rfl, Nat.le_of_ble_eq_true rfl⟩ hQ dL_dropRule_16
abbrev r_L_dropRule_x : Room := { frames := 8, cells := 1, slots := 6, locals := 142 }
set_option maxHeartbeats 4000000 in
set_option maxRecDepth 100000 in
theorem m_L_dropRule_x (l : Launch) (G : ZG) (hst : l.stackTraces = false) (q : Nat → Nat) (σ : St) (κ : KC) (oa : Nat) (f : Nat → Int64) (i : Int) (hI : okC σ) (h1 : zR i) (h2 : i < 0 ∨ ((σ.1 5 : Nat) : Int) ≤ i) :
  MC l G yL_dropRule (wYW yL_dropRule cL_dropRule 4 (some .int) [(0, 9, 12, 35)]) r_L_dropRule_x (wC G q σ κ ++ [aL G oa 1 f]) [.ref (q 0), .int (zI (i : Int)), .ref (oa)] (QI G (fun r9 (_ : Unit) => r9 = zI (1 : Int)) (fun _ => wC G q σ κ ++ [aL G oa 1 f])) := by
  refine MC.mkW (by decide +kernel) (Nat.le_of_ble_eq_true rfl) ?_
  intro p e s m av below meth c A H locs ls Q Z ht hr hnm hQ hP hD hS hl
  have hx := Z.1
  have hb := Z.2.1
  have hl : lv_has ls 4 [(0, .ref (q 0)), (1, .int (zI (i : Int))), (2, .ref (oa))] := hl
  refine lv_aload_n hx hb dL_dropRule_0 rfl (lv_at hl 2 rfl) ?_
  refine zr_iconst hx hb dL_dropRule_1 ?_
  refine lv_aload_n hx hb dL_dropRule_2 rfl (lv_at hl 0 rfl) ?_
  refine lv_iload_n hx hb dL_dropRule_3 rfl (lv_at hl 1 rfl) ?_
  refine zcatch Z (zP_r hP) (zD_sep hD) (zD_l hD) hS (zrunXV (rest := [.int (zI (0 : Int)), .ref oa]) Z (zP_l hP) (zD_l hD) hS hl.1 (m_X5_dropRule_x l G hst q σ κ i hI h1 h2) zY_X5_dropRule km_L_66 (q0 := 0) rfl rfl rfl rfl ⟨⟨Nat.le_of_ble_eq_true rfl, Nat.le_of_ble_eq_true rfl⟩, Nat.le_of_ble_eq_true rfl, Nat.le_of_ble_eq_true rfl⟩ (Nat.le_of_ble_eq_true rfl) dL_dropRule_4) [] ⟨0, 9, 12, 35⟩ [] ht (fun z hz => by cases hz) (by decide) (by decide) kc_L_35 (by decide +kernel) (fun u q9 H locs hP1 hD1 hP2 hs hS => ?_)
  have hP := hP1.app hP2
  have hD := va_D.app hD1 (zD_r hD) hs
  refine lv_astore_n (lv' := [(3, .ref (q9)), (0, .ref (q 0)), (1, .int (zI (i : Int))), (2, .ref (oa))]) hx hb dL_dropRule_12 rfl hl (by decide) rfl (fun ls hl => ?_)
  refine zr_iconst hx hb dL_dropRule_13 ?_
  exact zret_I () Z hr hP hD hS rfl rfl ⟨Nat.le_of_ble_eq_true rfl, Nat.le_of_ble_eq_true rfl⟩ hQ dL_dropRule_14
abbrev r_L_fetch : Room := { frames := 7, cells := 0, slots := 0, locals := 167 }
set_option maxHeartbeats 4000000 in
set_option maxRecDepth 100000 in
theorem m_L_fetch (l : Launch) (G : ZG) (q : Nat → Nat) (σ : St) (κ : KC) (oa : Nat) (f : Nat → Int64) {e_sr : Int} (sr : Nat) (he_sr : e_sr = (sr : Int)) (idn : Int) (lk : Int) (t : Int64) (td : Int) (hI : okC σ) (h1 : sr < σ.1 3) (h2 : -1 ≤ idn ∧ idn ≤ 999) (h3 : -1 ≤ lk ∧ lk ≤ 999) (h4 : -1 ≤ td ∧ td ≤ 99999) (h5 : ¬ t = 0) (h6 : fnd σ ((sr : Nat) : Int) idn lk t = -1 → σ.1 4 < 30) :
  MC l G yL_fetch (wYW yL_fetch cL_fetch 9 (some .int) [(0, 16, 19, 35), (0, 16, 23, 13), (0, 16, 27, 15)]) r_L_fetch (wC G q σ κ ++ [aL G oa 1 f]) [.ref (q 0), .int (zI e_sr), .int (zI (idn : Int)), .int (zI (lk : Int)), .long (t), .int (zI (td : Int)), .ref (oa)] (QI G (fun r9 (_ : Unit) => r9 = zI (0 : Int)) (fun _ => wC G q (fet σ sr idn lk t td) κ ++ [aL G oa 1 (va_up f 0 ((zI ((fit σ ((sr : Nat) : Int) idn lk t : Nat) : Int)).toInt64))])) := by
  subst he_sr
  refine MC.mkW (by decide +kernel) (Nat.le_of_ble_eq_true rfl) ?_
  intro p e s m av below meth c A H locs ls Q Z ht hr hnm hQ hP hD hS hl
  have hx := Z.1
  have hb := Z.2.1
  have hl : lv_has ls 9 [(0, .ref (q 0)), (1, .int (zI ((sr : Nat) : Int))), (2, .int (zI (idn : Int))), (3, .int (zI (lk : Int))), (4, .long (t)), (6, .int (zI (td : Int))), (7, .ref (oa))] := hl
  refine lv_aload hx hb dL_fetch_0 (lv_at hl 6 rfl) ?_
  refine zr_iconst hx hb dL_fetch_2 ?_
  refine lv_aload_n hx hb dL_fetch_3 rfl (lv_at hl 0 rfl) ?_
  refine lv_iload_n hx hb dL_fetch_4 rfl (lv_at hl 1 rfl) ?_
  refine lv_iload_n hx hb dL_fetch_5 rfl (lv_at hl 2 rfl) ?_
  refine lv_iload_n hx hb dL_fetch_6 rfl (lv_at hl 3 rfl) ?_
  refine lv_lload hx hb dL_fetch_7 (lv_at hl 4 rfl) ?_
  refine lv_iload hx hb dL_fetch_9 (lv_at hl 5 rfl) ?_
  refine zfr_I ⟨rfl, rfl⟩ Z (zP_r hP) (zD_sep hD) (zD_l hD) hS (zrunV (rest := [.int (zI (0 : Int)), .ref oa]) Z (zP_l hP) (zD_l hD) hS hl.1 (m_X5_fetch l G q σ κ sr rfl idn lk t td hI h1 h2 h3 h4 h5 h6) zY_X5_fetch km_L_31 (q0 := 0) rfl rfl rfl rfl ⟨⟨Nat.le_of_ble_eq_true rfl, Nat.le_of_ble_eq_true rfl⟩, Nat.le_of_ble_eq_true rfl, Nat.le_of_ble_eq_true rfl⟩ (Nat.le_of_ble_eq_true rfl) dL_fetch_11) (fun r u H locs hp hP1 hD1 hP2 hs hS => ?_)
  obtain rfl : r = (zI ((fit σ ((sr : Nat) : Int) idn lk t : Nat) : Int)) := hp
  have hPn := hP1.app hP2
  have hDn := va_D.app hD1 (zD_r hD) hs
  refine lv_i2l hx hb dL_fetch_14 rfl ?_
  refine stL (ws1 := wC G q (fet σ sr idn lk t td) κ ++ [aL G oa 1 (va_up f 0 ((zI ((fit σ ((sr : Nat) : Int) idn lk t : Nat) : Int)).toInt64))]) Z hPn hDn hS 30 f rfl 0 rfl (by decide) (by decide) rfl dL_fetch_15 (fun H locs hP hD hS => ?_)
  refine lv_goto (tgt := 31) hx hb dL_fetch_16 (by decide) ?_
  refine zr_iconst hx hb dL_fetch_31 ?_
  exact zret_I () Z hr hP hD hS rfl rfl ⟨Nat.le_of_ble_eq_true rfl, Nat.le_of_ble_eq_true rfl⟩ hQ dL_fetch_32
abbrev r_L_fetch_x1 : Room := { frames := 7, cells := 1, slots := 6, locals := 167 }
set_option maxHeartbeats 4000000 in
set_option maxRecDepth 100000 in
theorem m_L_fetch_x1 (l : Launch) (G : ZG) (hst : l.stackTraces = false) (q : Nat → Nat) (σ : St) (κ : KC) (oa : Nat) (f : Nat → Int64) (sr : Int) (idn : Int) (lk : Int) (t : Int64) (td : Int) (hI : okC σ) (h1 : zR sr) (h2 : sr < 0 ∨ ((σ.1 3 : Nat) : Int) ≤ sr) :
  MC l G yL_fetch (wYW yL_fetch cL_fetch 9 (some .int) [(0, 16, 19, 35), (0, 16, 23, 13), (0, 16, 27, 15)]) r_L_fetch_x1 (wC G q σ κ ++ [aL G oa 1 f]) [.ref (q 0), .int (zI (sr : Int)), .int (zI (idn : Int)), .int (zI (lk : Int)), .long (t), .int (zI (td : Int)), .ref (oa)] (QI G (fun r9 (_ : Unit) => r9 = zI (1 : Int)) (fun _ => wC G q σ κ ++ [aL G oa 1 f])) := by
  refine MC.mkW (by decide +kernel) (Nat.le_of_ble_eq_true rfl) ?_
  intro p e s m av below meth c A H locs ls Q Z ht hr hnm hQ hP hD hS hl
  have hx := Z.1
  have hb := Z.2.1
  have hl : lv_has ls 9 [(0, .ref (q 0)), (1, .int (zI (sr : Int))), (2, .int (zI (idn : Int))), (3, .int (zI (lk : Int))), (4, .long (t)), (6, .int (zI (td : Int))), (7, .ref (oa))] := hl
  refine lv_aload hx hb dL_fetch_0 (lv_at hl 6 rfl) ?_
  refine zr_iconst hx hb dL_fetch_2 ?_
  refine lv_aload_n hx hb dL_fetch_3 rfl (lv_at hl 0 rfl) ?_
  refine lv_iload_n hx hb dL_fetch_4 rfl (lv_at hl 1 rfl) ?_
  refine lv_iload_n hx hb dL_fetch_5 rfl (lv_at hl 2 rfl) ?_
  refine lv_iload_n hx hb dL_fetch_6 rfl (lv_at hl 3 rfl) ?_
  refine lv_lload hx hb dL_fetch_7 (lv_at hl 4 rfl) ?_
  refine lv_iload hx hb dL_fetch_9 (lv_at hl 5 rfl) ?_
  refine zcatch Z (zP_r hP) (zD_sep hD) (zD_l hD) hS (zrunXV (rest := [.int (zI (0 : Int)), .ref oa]) Z (zP_l hP) (zD_l hD) hS hl.1 (m_X5_fetch_x1 l G hst q σ κ sr idn lk t td hI h1 h2) zY_X5_fetch km_L_31 (q0 := 0) rfl rfl rfl rfl ⟨⟨Nat.le_of_ble_eq_true rfl, Nat.le_of_ble_eq_true rfl⟩, Nat.le_of_ble_eq_true rfl, Nat.le_of_ble_eq_true rfl⟩ (Nat.le_of_ble_eq_true rfl) dL_fetch_11) [] ⟨0, 16, 19, 35⟩ [⟨0, 16, 23, 13⟩, ⟨0, 16, 27, 15⟩] ht (fun z hz => by cases hz) (by decide) (by decide) kc_L_35 (by decide +kernel) (fun u q9 H locs hP1 hD1 hP2 hs hS => ?_)
  have hP := hP1.app hP2
  have hD := va_D.app hD1 (zD_r hD) hs
  refine lv_astore (lv' := [(8, .ref (q9)), (0, .ref (q 0)), (1, .int (zI (sr : Int))), (2, .int (zI (idn : Int))), (3, .int (zI (lk : Int))), (4, .long (t)), (6, .int (zI (td : Int))), (7, .ref (oa))]) hx hb dL_fetch_19 hl (by decide) rfl (fun ls hl => ?_)
  refine zr_iconst hx hb dL_fetch_21 ?_
  exact zret_I () Z hr hP hD hS rfl rfl ⟨Nat.le_of_ble_eq_true rfl, Nat.le_of_ble_eq_true rfl⟩ hQ dL_fetch_22
abbrev r_L_fetch_x2 : Room := { frames := 7, cells := 1, slots := 6, locals := 167 }
set_option maxHeartbeats 4000000 in
set_option maxRecDepth 100000 in
theorem m_L_fetch_x2 (l : Launch) (G : ZG) (hst : l.stackTraces = false) (q : Nat → Nat) (σ : St) (κ : KC) (oa : Nat) (f : Nat → Int64) {e_sr : Int} (sr : Nat) (he_sr : e_sr = (sr : Int)) (idn : Int) (lk : Int) (t : Int64) (td : Int) (hI : okC σ) (h1 : sr < σ.1 3) (h7 : zR idn ∧ zR lk ∧ zR td) (h2 : ¬ ((-1 ≤ idn ∧ idn ≤ 999) ∧ (-1 ≤ lk ∧ lk ≤ 999) ∧ (-1 ≤ td ∧ td ≤ 99999) ∧ ¬ t = 0)) :
  MC l G yL_fetch (wYW yL_fetch cL_fetch 9 (some .int) [(0, 16, 19, 35), (0, 16, 23, 13), (0, 16, 27, 15)]) r_L_fetch_x2 (wC G q σ κ ++ [aL G oa 1 f]) [.ref (q 0), .int (zI e_sr), .int (zI (idn : Int)), .int (zI (lk : Int)), .long (t), .int (zI (td : Int)), .ref (oa)] (QI G (fun r9 (_ : Unit) => r9 = zI (2 : Int)) (fun _ => wC G q σ κ ++ [aL G oa 1 f])) := by
  subst he_sr
  refine MC.mkW (by decide +kernel) (Nat.le_of_ble_eq_true rfl) ?_
  intro p e s m av below meth c A H locs ls Q Z ht hr hnm hQ hP hD hS hl
  have hx := Z.1
  have hb := Z.2.1
  have hl : lv_has ls 9 [(0, .ref (q 0)), (1, .int (zI ((sr : Nat) : Int))), (2, .int (zI (idn : Int))), (3, .int (zI (lk : Int))), (4, .long (t)), (6, .int (zI (td : Int))), (7, .ref (oa))] := hl
  refine lv_aload hx hb dL_fetch_0 (lv_at hl 6 rfl) ?_
  refine zr_iconst hx hb dL_fetch_2 ?_
  refine lv_aload_n hx hb dL_fetch_3 rfl (lv_at hl 0 rfl) ?_
  refine lv_iload_n hx hb dL_fetch_4 rfl (lv_at hl 1 rfl) ?_
  refine lv_iload_n hx hb dL_fetch_5 rfl (lv_at hl 2 rfl) ?_
  refine lv_iload_n hx hb dL_fetch_6 rfl (lv_at hl 3 rfl) ?_
  refine lv_lload hx hb dL_fetch_7 (lv_at hl 4 rfl) ?_
  refine lv_iload hx hb dL_fetch_9 (lv_at hl 5 rfl) ?_
  refine zcatch Z (zP_r hP) (zD_sep hD) (zD_l hD) hS (zrunXV (rest := [.int (zI (0 : Int)), .ref oa]) Z (zP_l hP) (zD_l hD) hS hl.1 (m_X5_fetch_x2 l G hst q σ κ sr rfl idn lk t td hI h1 h7 h2) zY_X5_fetch km_L_31 (q0 := 0) rfl rfl rfl rfl ⟨⟨Nat.le_of_ble_eq_true rfl, Nat.le_of_ble_eq_true rfl⟩, Nat.le_of_ble_eq_true rfl, Nat.le_of_ble_eq_true rfl⟩ (Nat.le_of_ble_eq_true rfl) dL_fetch_11) [⟨0, 16, 19, 35⟩] ⟨0, 16, 23, 13⟩ [⟨0, 16, 27, 15⟩] ht (fun z hz => by
    rw [List.mem_singleton] at hz; subst hz; exact Or.inr ⟨by decide, "java/lang/IndexOutOfBoundsException", kc_L_35, by decide +kernel⟩) (by decide) (by decide) kc_L_13 (by decide +kernel) (fun u q9 H locs hP1 hD1 hP2 hs hS => ?_)
  have hP := hP1.app hP2
  have hD := va_D.app hD1 (zD_r hD) hs
  refine lv_astore (lv' := [(8, .ref (q9)), (0, .ref (q 0)), (1, .int (zI ((sr : Nat) : Int))), (2, .int (zI (idn : Int))), (3, .int (zI (lk : Int))), (4, .long (t)), (6, .int (zI (td : Int))), (7, .ref (oa))]) hx hb dL_fetch_23 hl (by decide) rfl (fun ls hl => ?_)
  refine zr_iconst hx hb dL_fetch_25 ?_
  exact zret_I () Z hr hP hD hS rfl rfl ⟨Nat.le_of_ble_eq_true rfl, Nat.le_of_ble_eq_true rfl⟩ hQ dL_fetch_26
abbrev r_L_fetch_x3 : Room := { frames := 7, cells := 1, slots := 6, locals := 167 }
set_option maxHeartbeats 4000000 in
set_option maxRecDepth 100000 in
theorem m_L_fetch_x3 (l : Launch) (G : ZG) (hst : l.stackTraces = false) (q : Nat → Nat) (σ : St) (κ : KC) (oa : Nat) (f : Nat → Int64) {e_sr : Int} (sr : Nat) (he_sr : e_sr = (sr : Int)) (idn : Int) (lk : Int) (t : Int64) (td : Int) (hI : okC σ) (h1 : sr < σ.1 3) (h2 : -1 ≤ idn ∧ idn ≤ 999) (h3 : -1 ≤ lk ∧ lk ≤ 999) (h4 : -1 ≤ td ∧ td ≤ 99999) (h5 : ¬ t = 0) (h6 : fnd σ ((sr : Nat) : Int) idn lk t = -1) (h7 : σ.1 4 = 30) :
  MC l G yL_fetch (wYW yL_fetch cL_fetch 9 (some .int) [(0, 16, 19, 35), (0, 16, 23, 13), (0, 16, 27, 15)]) r_L_fetch_x3 (wC G q σ κ ++ [aL G oa 1 f]) [.ref (q 0), .int (zI e_sr), .int (zI (idn : Int)), .int (zI (lk : Int)), .long (t), .int (zI (td : Int)), .ref (oa)] (QI G (fun r9 (_ : Unit) => r9 = zI (3 : Int)) (fun _ => wC G q σ κ ++ [aL G oa 1 f])) := by
  subst he_sr
  refine MC.mkW (by decide +kernel) (Nat.le_of_ble_eq_true rfl) ?_
  intro p e s m av below meth c A H locs ls Q Z ht hr hnm hQ hP hD hS hl
  have hx := Z.1
  have hb := Z.2.1
  have hl : lv_has ls 9 [(0, .ref (q 0)), (1, .int (zI ((sr : Nat) : Int))), (2, .int (zI (idn : Int))), (3, .int (zI (lk : Int))), (4, .long (t)), (6, .int (zI (td : Int))), (7, .ref (oa))] := hl
  refine lv_aload hx hb dL_fetch_0 (lv_at hl 6 rfl) ?_
  refine zr_iconst hx hb dL_fetch_2 ?_
  refine lv_aload_n hx hb dL_fetch_3 rfl (lv_at hl 0 rfl) ?_
  refine lv_iload_n hx hb dL_fetch_4 rfl (lv_at hl 1 rfl) ?_
  refine lv_iload_n hx hb dL_fetch_5 rfl (lv_at hl 2 rfl) ?_
  refine lv_iload_n hx hb dL_fetch_6 rfl (lv_at hl 3 rfl) ?_
  refine lv_lload hx hb dL_fetch_7 (lv_at hl 4 rfl) ?_
  refine lv_iload hx hb dL_fetch_9 (lv_at hl 5 rfl) ?_
  refine zcatch Z (zP_r hP) (zD_sep hD) (zD_l hD) hS (zrunXV (rest := [.int (zI (0 : Int)), .ref oa]) Z (zP_l hP) (zD_l hD) hS hl.1 (m_X5_fetch_x3 l G hst q σ κ sr rfl idn lk t td hI h1 h2 h3 h4 h5 h6 h7) zY_X5_fetch km_L_31 (q0 := 0) rfl rfl rfl rfl ⟨⟨Nat.le_of_ble_eq_true rfl, Nat.le_of_ble_eq_true rfl⟩, Nat.le_of_ble_eq_true rfl, Nat.le_of_ble_eq_true rfl⟩ (Nat.le_of_ble_eq_true rfl) dL_fetch_11) [⟨0, 16, 19, 35⟩, ⟨0, 16, 23, 13⟩] ⟨0, 16, 27, 15⟩ [] ht (fun z hz => by
    rcases List.mem_cons.mp hz with hz | hz
    · subst hz; exact Or.inr ⟨by decide, "java/lang/IndexOutOfBoundsException", kc_L_35, by decide +kernel⟩
    · rw [List.mem_singleton] at hz; subst hz; exact Or.inr ⟨by decide, "java/lang/IllegalArgumentException", kc_L_13, by decide +kernel⟩) (by decide) (by decide) kc_L_15 (by decide +kernel) (fun u q9 H locs hP1 hD1 hP2 hs hS => ?_)
  have hP := hP1.app hP2
  have hD := va_D.app hD1 (zD_r hD) hs
  refine lv_astore (lv' := [(8, .ref (q9)), (0, .ref (q 0)), (1, .int (zI ((sr : Nat) : Int))), (2, .int (zI (idn : Int))), (3, .int (zI (lk : Int))), (4, .long (t)), (6, .int (zI (td : Int))), (7, .ref (oa))]) hx hb dL_fetch_27 hl (by decide) rfl (fun ls hl => ?_)
  refine zr_iconst hx hb dL_fetch_29 ?_
  exact zret_I () Z hr hP hD hS rfl rfl ⟨Nat.le_of_ble_eq_true rfl, Nat.le_of_ble_eq_true rfl⟩ hQ dL_fetch_30
abbrev r_L_isHidden : Room := { frames := 6, cells := 0, slots := 0, locals := 128 }
set_option maxHeartbeats 4000000 in
set_option maxRecDepth 100000 in
theorem m_L_isHidden (l : Launch) (G : ZG) (q : Nat → Nat) (σ : St) (κ : KC) (oa : Nat) (f : Nat → Int64) {e_i : Int} (i : Nat) (he_i : e_i = (i : Int)) (hI : okC σ) (h1 : i < σ.1 4) :
  MC l G yL_isHidden (wYW yL_isHidden cL_isHidden 4 (some .int) [(0, 16, 19, 35)]) r_L_isHidden (wC G q σ κ ++ [aL G oa 1 f]) [.ref (q 0), .int (zI e_i), .ref (oa)] (QI G (fun r9 (_ : Unit) => r9 = zI (0 : Int)) (fun _ => wC G q σ κ ++ [aL G oa 1 (va_up f 0 (if tb (out σ i) 8 then 1 else 0))])) := by
  subst he_i
  refine MC.mkW (by decide +kernel) (Nat.le_of_ble_eq_true rfl) ?_
  intro p e s m av below meth c A H locs ls Q Z ht hr hnm hQ hP hD hS hl
  have hx := Z.1
  have hb := Z.2.1
  have hl : lv_has ls 4 [(0, .ref (q 0)), (1, .int (zI ((i : Nat) : Int))), (2, .ref (oa))] := hl
  refine lv_aload_n hx hb dL_isHidden_0 rfl (lv_at hl 2 rfl) ?_
  refine zr_iconst hx hb dL_isHidden_1 ?_
  refine lv_aload_n hx hb dL_isHidden_2 rfl (lv_at hl 0 rfl) ?_
  refine lv_iload_n hx hb dL_isHidden_3 rfl (lv_at hl 1 rfl) ?_
  refine zfr_I ⟨rfl, rfl⟩ Z (zP_r hP) (zD_sep hD) (zD_l hD) hS (zrunV (rest := [.int (zI (0 : Int)), .ref oa]) Z (zP_l hP) (zD_l hD) hS hl.1 (m_X5_isHidden l G q σ κ i rfl hI h1) zY_X5_isHidden km_L_72 (q0 := 0) rfl rfl rfl rfl ⟨⟨Nat.le_of_ble_eq_true rfl, Nat.le_of_ble_eq_true rfl⟩, Nat.le_of_ble_eq_true rfl, Nat.le_of_ble_eq_true rfl⟩ (Nat.le_of_ble_eq_true rfl) dL_isHidden_4) (fun r u H locs hp hP1 hD1 hP2 hs hS => ?_)
  obtain rfl : r = (tB (tb (out σ i) 8)) := hp
  have hPn := hP1.app hP2
  have hDn := va_D.app hD1 (zD_r hD) hs
  refine zb_eq (tgt := 14) hx hb dL_isHidden_7 (by decide) (fun c9 => ?_) (fun c9 => ?_)
  · refine lv_lconst (v := 0) hx hb dL_isHidden_14 (by decide) ?_
    refine stL (ws1 := wC G q σ κ ++ [aL G oa 1 (va_up f 0 (0))]) Z hPn hDn hS 30 f rfl 0 rfl (by decide) (by decide) rfl dL_isHidden_15 (fun H locs hP hD hS => ?_)
    refine lv_goto (tgt := 22) hx hb dL_isHidden_16 (by decide) ?_
    refine zr_iconst hx hb dL_isHidden_22 ?_
    exact zret_I () Z hr hP hD hS rfl (by rw [c9]; rfl) ⟨Nat.le_of_ble_eq_true rfl, Nat.le_of_ble_eq_true rfl⟩ hQ dL_isHidden_23
  · refine lv_lconst (v := 1) hx hb dL_isHidden_10 (by decide) ?_
    refine lv_goto (tgt := 15) hx hb dL_isHidden_11 (by decide) ?_
    refine stL (ws1 := wC G q σ κ ++ [aL G oa 1 (va_up f 0 (1))]) Z hPn hDn hS 30 f rfl 0 rfl (by decide) (by decide) rfl dL_isHidden_15 (fun H locs hP hD hS => ?_)
    refine lv_goto (tgt := 22) hx hb dL_isHidden_16 (by decide) ?_
    refine zr_iconst hx hb dL_isHidden_22 ?_
    exact zret_I () Z hr hP hD hS rfl (by rw [c9]; rfl) ⟨Nat.le_of_ble_eq_true rfl, Nat.le_of_ble_eq_true rfl⟩ hQ dL_isHidden_23
abbrev r_L_isHidden_x : Room := { frames := 8, cells := 1, slots := 6, locals := 142 }
set_option maxHeartbeats 4000000 in
set_option maxRecDepth 100000 in
theorem m_L_isHidden_x (l : Launch) (G : ZG) (hst : l.stackTraces = false) (q : Nat → Nat) (σ : St) (κ : KC) (oa : Nat) (f : Nat → Int64) (i : Int) (hI : okC σ) (h1 : zR i) (h2 : i < 0 ∨ ((σ.1 4 : Nat) : Int) ≤ i) :
  MC l G yL_isHidden (wYW yL_isHidden cL_isHidden 4 (some .int) [(0, 16, 19, 35)]) r_L_isHidden_x (wC G q σ κ ++ [aL G oa 1 f]) [.ref (q 0), .int (zI (i : Int)), .ref (oa)] (QI G (fun r9 (_ : Unit) => r9 = zI (1 : Int)) (fun _ => wC G q σ κ ++ [aL G oa 1 f])) := by
  refine MC.mkW (by decide +kernel) (Nat.le_of_ble_eq_true rfl) ?_
  intro p e s m av below meth c A H locs ls Q Z ht hr hnm hQ hP hD hS hl
  have hx := Z.1
  have hb := Z.2.1
  have hl : lv_has ls 4 [(0, .ref (q 0)), (1, .int (zI (i : Int))), (2, .ref (oa))] := hl
  refine lv_aload_n hx hb dL_isHidden_0 rfl (lv_at hl 2 rfl) ?_
  refine zr_iconst hx hb dL_isHidden_1 ?_
  refine lv_aload_n hx hb dL_isHidden_2 rfl (lv_at hl 0 rfl) ?_
  refine lv_iload_n hx hb dL_isHidden_3 rfl (lv_at hl 1 rfl) ?_
  refine zcatch Z (zP_r hP) (zD_sep hD) (zD_l hD) hS (zrunXV (rest := [.int (zI (0 : Int)), .ref oa]) Z (zP_l hP) (zD_l hD) hS hl.1 (m_X5_isHidden_x l G hst q σ κ i hI h1 h2) zY_X5_isHidden km_L_72 (q0 := 0) rfl rfl rfl rfl ⟨⟨Nat.le_of_ble_eq_true rfl, Nat.le_of_ble_eq_true rfl⟩, Nat.le_of_ble_eq_true rfl, Nat.le_of_ble_eq_true rfl⟩ (Nat.le_of_ble_eq_true rfl) dL_isHidden_4) [] ⟨0, 16, 19, 35⟩ [] ht (fun z hz => by cases hz) (by decide) (by decide) kc_L_35 (by decide +kernel) (fun u q9 H locs hP1 hD1 hP2 hs hS => ?_)
  have hP := hP1.app hP2
  have hD := va_D.app hD1 (zD_r hD) hs
  refine lv_astore_n (lv' := [(3, .ref (q9)), (0, .ref (q 0)), (1, .int (zI (i : Int))), (2, .ref (oa))]) hx hb dL_isHidden_19 rfl hl (by decide) rfl (fun ls hl => ?_)
  refine zr_iconst hx hb dL_isHidden_20 ?_
  exact zret_I () Z hr hP hD hS rfl rfl ⟨Nat.le_of_ble_eq_true rfl, Nat.le_of_ble_eq_true rfl⟩ hQ dL_isHidden_21
abbrev r_L_isRead : Room := { frames := 3, cells := 0, slots := 0, locals := 66 }
set_option maxHeartbeats 4000000 in
set_option maxRecDepth 100000 in
theorem m_L_isRead (l : Launch) (G : ZG) (q : Nat → Nat) (σ : St) (κ : KC) (oa : Nat) (f : Nat → Int64) {e_i : Int} (i : Nat) (he_i : e_i = (i : Int)) (hI : okC σ) (h1 : i < σ.1 4) :
  MC l G yL_isRead (wYW yL_isRead cL_isRead 4 (some .int) [(0, 16, 19, 35)]) r_L_isRead (wC G q σ κ ++ [aL G oa 1 f]) [.ref (q 0), .int (zI e_i), .ref (oa)] (QI G (fun r9 (_ : Unit) => r9 = zI (0 : Int)) (fun _ => wC G q σ κ ++ [aL G oa 1 (va_up f 0 (if rdR σ i then 1 else 0))])) := by
  subst he_i
  refine MC.mkW (by decide +kernel) (Nat.le_of_ble_eq_true rfl) ?_
  intro p e s m av below meth c A H locs ls Q Z ht hr hnm hQ hP hD hS hl
  have hx := Z.1
  have hb := Z.2.1
  have hl : lv_has ls 4 [(0, .ref (q 0)), (1, .int (zI ((i : Nat) : Int))), (2, .ref (oa))] := hl
  refine lv_aload_n hx hb dL_isRead_0 rfl (lv_at hl 2 rfl) ?_
  refine zr_iconst hx hb dL_isRead_1 ?_
  refine lv_aload_n hx hb dL_isRead_2 rfl (lv_at hl 0 rfl) ?_
  refine lv_iload_n hx hb dL_isRead_3 rfl (lv_at hl 1 rfl) ?_
  refine zfr_I ⟨rfl, rfl⟩ Z (zP_r hP) (zD_sep hD) (zD_l hD) hS (zrunV (rest := [.int (zI (0 : Int)), .ref oa]) Z (zP_l hP) (zD_l hD) hS hl.1 (m_X5_isRead l G q σ κ i rfl hI h1) zY_X5_isRead km_L_119 (q0 := 0) rfl rfl rfl rfl ⟨⟨Nat.le_of_ble_eq_true rfl, Nat.le_of_ble_eq_true rfl⟩, Nat.le_of_ble_eq_true rfl, Nat.le_of_ble_eq_true rfl⟩ (Nat.le_of_ble_eq_true rfl) dL_isRead_4) (fun r u H locs hp hP1 hD1 hP2 hs hS => ?_)
  obtain rfl : r = (tB (rdR σ i)) := hp
  have hPn := hP1.app hP2
  have hDn := va_D.app hD1 (zD_r hD) hs
  refine zb_eq (tgt := 14) hx hb dL_isRead_7 (by decide) (fun c9 => ?_) (fun c9 => ?_)
  · refine lv_lconst (v := 0) hx hb dL_isRead_14 (by decide) ?_
    refine stL (ws1 := wC G q σ κ ++ [aL G oa 1 (va_up f 0 (0))]) Z hPn hDn hS 30 f rfl 0 rfl (by decide) (by decide) rfl dL_isRead_15 (fun H locs hP hD hS => ?_)
    refine lv_goto (tgt := 22) hx hb dL_isRead_16 (by decide) ?_
    refine zr_iconst hx hb dL_isRead_22 ?_
    exact zret_I () Z hr hP hD hS rfl (by rw [c9]; rfl) ⟨Nat.le_of_ble_eq_true rfl, Nat.le_of_ble_eq_true rfl⟩ hQ dL_isRead_23
  · refine lv_lconst (v := 1) hx hb dL_isRead_10 (by decide) ?_
    refine lv_goto (tgt := 15) hx hb dL_isRead_11 (by decide) ?_
    refine stL (ws1 := wC G q σ κ ++ [aL G oa 1 (va_up f 0 (1))]) Z hPn hDn hS 30 f rfl 0 rfl (by decide) (by decide) rfl dL_isRead_15 (fun H locs hP hD hS => ?_)
    refine lv_goto (tgt := 22) hx hb dL_isRead_16 (by decide) ?_
    refine zr_iconst hx hb dL_isRead_22 ?_
    exact zret_I () Z hr hP hD hS rfl (by rw [c9]; rfl) ⟨Nat.le_of_ble_eq_true rfl, Nat.le_of_ble_eq_true rfl⟩ hQ dL_isRead_23
abbrev r_L_isRead_x : Room := { frames := 8, cells := 1, slots := 6, locals := 142 }
set_option maxHeartbeats 4000000 in
set_option maxRecDepth 100000 in
theorem m_L_isRead_x (l : Launch) (G : ZG) (hst : l.stackTraces = false) (q : Nat → Nat) (σ : St) (κ : KC) (oa : Nat) (f : Nat → Int64) (i : Int) (hI : okC σ) (h1 : zR i) (h2 : i < 0 ∨ ((σ.1 4 : Nat) : Int) ≤ i) :
  MC l G yL_isRead (wYW yL_isRead cL_isRead 4 (some .int) [(0, 16, 19, 35)]) r_L_isRead_x (wC G q σ κ ++ [aL G oa 1 f]) [.ref (q 0), .int (zI (i : Int)), .ref (oa)] (QI G (fun r9 (_ : Unit) => r9 = zI (1 : Int)) (fun _ => wC G q σ κ ++ [aL G oa 1 f])) := by
  refine MC.mkW (by decide +kernel) (Nat.le_of_ble_eq_true rfl) ?_
  intro p e s m av below meth c A H locs ls Q Z ht hr hnm hQ hP hD hS hl
  have hx := Z.1
  have hb := Z.2.1
  have hl : lv_has ls 4 [(0, .ref (q 0)), (1, .int (zI (i : Int))), (2, .ref (oa))] := hl
  refine lv_aload_n hx hb dL_isRead_0 rfl (lv_at hl 2 rfl) ?_
  refine zr_iconst hx hb dL_isRead_1 ?_
  refine lv_aload_n hx hb dL_isRead_2 rfl (lv_at hl 0 rfl) ?_
  refine lv_iload_n hx hb dL_isRead_3 rfl (lv_at hl 1 rfl) ?_
  refine zcatch Z (zP_r hP) (zD_sep hD) (zD_l hD) hS (zrunXV (rest := [.int (zI (0 : Int)), .ref oa]) Z (zP_l hP) (zD_l hD) hS hl.1 (m_X5_isRead_x l G hst q σ κ i hI h1 h2) zY_X5_isRead km_L_119 (q0 := 0) rfl rfl rfl rfl ⟨⟨Nat.le_of_ble_eq_true rfl, Nat.le_of_ble_eq_true rfl⟩, Nat.le_of_ble_eq_true rfl, Nat.le_of_ble_eq_true rfl⟩ (Nat.le_of_ble_eq_true rfl) dL_isRead_4) [] ⟨0, 16, 19, 35⟩ [] ht (fun z hz => by cases hz) (by decide) (by decide) kc_L_35 (by decide +kernel) (fun u q9 H locs hP1 hD1 hP2 hs hS => ?_)
  have hP := hP1.app hP2
  have hD := va_D.app hD1 (zD_r hD) hs
  refine lv_astore_n (lv' := [(3, .ref (q9)), (0, .ref (q 0)), (1, .int (zI (i : Int))), (2, .ref (oa))]) hx hb dL_isRead_19 rfl hl (by decide) rfl (fun ls hl => ?_)
  refine zr_iconst hx hb dL_isRead_20 ?_
  exact zret_I () Z hr hP hD hS rfl rfl ⟨Nat.le_of_ble_eq_true rfl, Nat.le_of_ble_eq_true rfl⟩ hQ dL_isRead_21
abbrev r_L_isReadOn : Room := { frames := 4, cells := 0, slots := 0, locals := 88 }
set_option maxHeartbeats 4000000 in
set_option maxRecDepth 100000 in
theorem m_L_isReadOn (l : Launch) (G : ZG) (q : Nat → Nat) (σ : St) (κ : KC) (oa : Nat) (f : Nat → Int64) {e_d : Int} (d : Nat) (he_d : e_d = (d : Int)) {e_i : Int} (i : Nat) (he_i : e_i = (i : Int)) (hI : okC σ) (h1 : i < σ.1 4) (h2 : d < σ.1 7) (h3 : 0 < σ.2.1 4 (30 * d + i)) :
  MC l G yL_isReadOn (wYW yL_isReadOn cL_isReadOn 5 (some .int) [(0, 17, 20, 35), (0, 17, 24, 15)]) r_L_isReadOn (wC G q σ κ ++ [aL G oa 1 f]) [.ref (q 0), .int (zI e_d), .int (zI e_i), .ref (oa)] (QI G (fun r9 (_ : Unit) => r9 = zI (0 : Int)) (fun _ => wC G q σ κ ++ [aL G oa 1 (va_up f 0 (if rdD σ d i then 1 else 0))])) := by
  subst he_d
  subst he_i
  refine MC.mkW (by decide +kernel) (Nat.le_of_ble_eq_true rfl) ?_
  intro p e s m av below meth c A H locs ls Q Z ht hr hnm hQ hP hD hS hl
  have hx := Z.1
  have hb := Z.2.1
  have hl : lv_has ls 5 [(0, .ref (q 0)), (1, .int (zI ((d : Nat) : Int))), (2, .int (zI ((i : Nat) : Int))), (3, .ref (oa))] := hl
  refine lv_aload_n hx hb dL_isReadOn_0 rfl (lv_at hl 3 rfl) ?_
  refine zr_iconst hx hb dL_isReadOn_1 ?_
  refine lv_aload_n hx hb dL_isReadOn_2 rfl (lv_at hl 0 rfl) ?_
  refine lv_iload_n hx hb dL_isReadOn_3 rfl (lv_at hl 1 rfl) ?_
  refine lv_iload_n hx hb dL_isReadOn_4 rfl (lv_at hl 2 rfl) ?_
  refine zfr_I ⟨rfl, rfl⟩ Z (zP_r hP) (zD_sep hD) (zD_l hD) hS (zrunV (rest := [.int (zI (0 : Int)), .ref oa]) Z (zP_l hP) (zD_l hD) hS hl.1 (m_X5_isReadOn l G q σ κ d rfl i rfl hI h1 h2 h3) zY_X5_isReadOn km_L_122 (q0 := 0) rfl rfl rfl rfl ⟨⟨Nat.le_of_ble_eq_true rfl, Nat.le_of_ble_eq_true rfl⟩, Nat.le_of_ble_eq_true rfl, Nat.le_of_ble_eq_true rfl⟩ (Nat.le_of_ble_eq_true rfl) dL_isReadOn_5) (fun r u H locs hp hP1 hD1 hP2 hs hS => ?_)
  obtain rfl : r = (tB (rdD σ d i)) := hp
  have hPn := hP1.app hP2
  have hDn := va_D.app hD1 (zD_r hD) hs
  refine zb_eq (tgt := 15) hx hb dL_isReadOn_8 (by decide) (fun c9 => ?_) (fun c9 => ?_)
  · refine lv_lconst (v := 0) hx hb dL_isReadOn_15 (by decide) ?_
    refine stL (ws1 := wC G q σ κ ++ [aL G oa 1 (va_up f 0 (0))]) Z hPn hDn hS 30 f rfl 0 rfl (by decide) (by decide) rfl dL_isReadOn_16 (fun H locs hP hD hS => ?_)
    refine lv_goto (tgt := 28) hx hb dL_isReadOn_17 (by decide) ?_
    refine zr_iconst hx hb dL_isReadOn_28 ?_
    exact zret_I () Z hr hP hD hS rfl (by rw [c9]; rfl) ⟨Nat.le_of_ble_eq_true rfl, Nat.le_of_ble_eq_true rfl⟩ hQ dL_isReadOn_29
  · refine lv_lconst (v := 1) hx hb dL_isReadOn_11 (by decide) ?_
    refine lv_goto (tgt := 16) hx hb dL_isReadOn_12 (by decide) ?_
    refine stL (ws1 := wC G q σ κ ++ [aL G oa 1 (va_up f 0 (1))]) Z hPn hDn hS 30 f rfl 0 rfl (by decide) (by decide) rfl dL_isReadOn_16 (fun H locs hP hD hS => ?_)
    refine lv_goto (tgt := 28) hx hb dL_isReadOn_17 (by decide) ?_
    refine zr_iconst hx hb dL_isReadOn_28 ?_
    exact zret_I () Z hr hP hD hS rfl (by rw [c9]; rfl) ⟨Nat.le_of_ble_eq_true rfl, Nat.le_of_ble_eq_true rfl⟩ hQ dL_isReadOn_29
abbrev r_L_isReadOn_x1 : Room := { frames := 8, cells := 1, slots := 6, locals := 143 }
set_option maxHeartbeats 4000000 in
set_option maxRecDepth 100000 in
theorem m_L_isReadOn_x1 (l : Launch) (G : ZG) (hst : l.stackTraces = false) (q : Nat → Nat) (σ : St) (κ : KC) (oa : Nat) (f : Nat → Int64) (d : Int) (i : Int) (hI : okC σ) (h1 : zR d) (h2 : d < 0 ∨ ((σ.1 7 : Nat) : Int) ≤ d) :
  MC l G yL_isReadOn (wYW yL_isReadOn cL_isReadOn 5 (some .int) [(0, 17, 20, 35), (0, 17, 24, 15)]) r_L_isReadOn_x1 (wC G q σ κ ++ [aL G oa 1 f]) [.ref (q 0), .int (zI (d : Int)), .int (zI (i : Int)), .ref (oa)] (QI G (fun r9 (_ : Unit) => r9 = zI (1 : Int)) (fun _ => wC G q σ κ ++ [aL G oa 1 f])) := by
  refine MC.mkW (by decide +kernel) (Nat.le_of_ble_eq_true rfl) ?_
  intro p e s m av below meth c A H locs ls Q Z ht hr hnm hQ hP hD hS hl
  have hx := Z.1
  have hb := Z.2.1
  have hl : lv_has ls 5 [(0, .ref (q 0)), (1, .int (zI (d : Int))), (2, .int (zI (i : Int))), (3, .ref (oa))] := hl
  refine lv_aload_n hx hb dL_isReadOn_0 rfl (lv_at hl 3 rfl) ?_
  refine zr_iconst hx hb dL_isReadOn_1 ?_
  refine lv_aload_n hx hb dL_isReadOn_2 rfl (lv_at hl 0 rfl) ?_
  refine lv_iload_n hx hb dL_isReadOn_3 rfl (lv_at hl 1 rfl) ?_
  refine lv_iload_n hx hb dL_isReadOn_4 rfl (lv_at hl 2 rfl) ?_
  refine zcatch Z (zP_r hP) (zD_sep hD) (zD_l hD) hS (zrunXV (rest := [.int (zI (0 : Int)), .ref oa]) Z (zP_l hP) (zD_l hD) hS hl.1 (m_X5_isReadOn_x1 l G hst q σ κ d i hI h1 h2) zY_X5_isReadOn km_L_122 (q0 := 0) rfl rfl rfl rfl ⟨⟨Nat.le_of_ble_eq_true rfl, Nat.le_of_ble_eq_true rfl⟩, Nat.le_of_ble_eq_true rfl, Nat.le_of_ble_eq_true rfl⟩ (Nat.le_of_ble_eq_true rfl) dL_isReadOn_5) [] ⟨0, 17, 20, 35⟩ [⟨0, 17, 24, 15⟩] ht (fun z hz => by cases hz) (by decide) (by decide) kc_L_35 (by decide +kernel) (fun u q9 H locs hP1 hD1 hP2 hs hS => ?_)
  have hP := hP1.app hP2
  have hD := va_D.app hD1 (zD_r hD) hs
  refine lv_astore (lv' := [(4, .ref (q9)), (0, .ref (q 0)), (1, .int (zI (d : Int))), (2, .int (zI (i : Int))), (3, .ref (oa))]) hx hb dL_isReadOn_20 hl (by decide) rfl (fun ls hl => ?_)
  refine zr_iconst hx hb dL_isReadOn_22 ?_
  exact zret_I () Z hr hP hD hS rfl rfl ⟨Nat.le_of_ble_eq_true rfl, Nat.le_of_ble_eq_true rfl⟩ hQ dL_isReadOn_23
abbrev r_L_isReadOn_x2 : Room := { frames := 8, cells := 1, slots := 6, locals := 143 }
set_option maxHeartbeats 4000000 in
set_option maxRecDepth 100000 in
theorem m_L_isReadOn_x2 (l : Launch) (G : ZG) (hst : l.stackTraces = false) (q : Nat → Nat) (σ : St) (κ : KC) (oa : Nat) (f : Nat → Int64) {e_d : Int} (d : Nat) (he_d : e_d = (d : Int)) (i : Int) (hI : okC σ) (h4 : d < σ.1 7) (h1 : zR i) (h2 : i < 0 ∨ ((σ.1 4 : Nat) : Int) ≤ i) :
  MC l G yL_isReadOn (wYW yL_isReadOn cL_isReadOn 5 (some .int) [(0, 17, 20, 35), (0, 17, 24, 15)]) r_L_isReadOn_x2 (wC G q σ κ ++ [aL G oa 1 f]) [.ref (q 0), .int (zI e_d), .int (zI (i : Int)), .ref (oa)] (QI G (fun r9 (_ : Unit) => r9 = zI (1 : Int)) (fun _ => wC G q σ κ ++ [aL G oa 1 f])) := by
  subst he_d
  refine MC.mkW (by decide +kernel) (Nat.le_of_ble_eq_true rfl) ?_
  intro p e s m av below meth c A H locs ls Q Z ht hr hnm hQ hP hD hS hl
  have hx := Z.1
  have hb := Z.2.1
  have hl : lv_has ls 5 [(0, .ref (q 0)), (1, .int (zI ((d : Nat) : Int))), (2, .int (zI (i : Int))), (3, .ref (oa))] := hl
  refine lv_aload_n hx hb dL_isReadOn_0 rfl (lv_at hl 3 rfl) ?_
  refine zr_iconst hx hb dL_isReadOn_1 ?_
  refine lv_aload_n hx hb dL_isReadOn_2 rfl (lv_at hl 0 rfl) ?_
  refine lv_iload_n hx hb dL_isReadOn_3 rfl (lv_at hl 1 rfl) ?_
  refine lv_iload_n hx hb dL_isReadOn_4 rfl (lv_at hl 2 rfl) ?_
  refine zcatch Z (zP_r hP) (zD_sep hD) (zD_l hD) hS (zrunXV (rest := [.int (zI (0 : Int)), .ref oa]) Z (zP_l hP) (zD_l hD) hS hl.1 (m_X5_isReadOn_x2 l G hst q σ κ d rfl i hI h4 h1 h2) zY_X5_isReadOn km_L_122 (q0 := 0) rfl rfl rfl rfl ⟨⟨Nat.le_of_ble_eq_true rfl, Nat.le_of_ble_eq_true rfl⟩, Nat.le_of_ble_eq_true rfl, Nat.le_of_ble_eq_true rfl⟩ (Nat.le_of_ble_eq_true rfl) dL_isReadOn_5) [] ⟨0, 17, 20, 35⟩ [⟨0, 17, 24, 15⟩] ht (fun z hz => by cases hz) (by decide) (by decide) kc_L_35 (by decide +kernel) (fun u q9 H locs hP1 hD1 hP2 hs hS => ?_)
  have hP := hP1.app hP2
  have hD := va_D.app hD1 (zD_r hD) hs
  refine lv_astore (lv' := [(4, .ref (q9)), (0, .ref (q 0)), (1, .int (zI ((d : Nat) : Int))), (2, .int (zI (i : Int))), (3, .ref (oa))]) hx hb dL_isReadOn_20 hl (by decide) rfl (fun ls hl => ?_)
  refine zr_iconst hx hb dL_isReadOn_22 ?_
  exact zret_I () Z hr hP hD hS rfl rfl ⟨Nat.le_of_ble_eq_true rfl, Nat.le_of_ble_eq_true rfl⟩ hQ dL_isReadOn_23
abbrev r_L_isReadOn_x3 : Room := { frames := 8, cells := 1, slots := 6, locals := 144 }
set_option maxHeartbeats 4000000 in
set_option maxRecDepth 100000 in
theorem m_L_isReadOn_x3 (l : Launch) (G : ZG) (hst : l.stackTraces = false) (q : Nat → Nat) (σ : St) (κ : KC) (oa : Nat) (f : Nat → Int64) {e_d : Int} (d : Nat) (he_d : e_d = (d : Int)) {e_i : Int} (i : Nat) (he_i : e_i = (i : Int)) (hI : okC σ) (h1 : i < σ.1 4) (h2 : d < σ.1 7) (h3 : σ.2.1 4 (30 * d + i) = 0) :
  MC l G yL_isReadOn (wYW yL_isReadOn cL_isReadOn 5 (some .int) [(0, 17, 20, 35), (0, 17, 24, 15)]) r_L_isReadOn_x3 (wC G q σ κ ++ [aL G oa 1 f]) [.ref (q 0), .int (zI e_d), .int (zI e_i), .ref (oa)] (QI G (fun r9 (_ : Unit) => r9 = zI (2 : Int)) (fun _ => wC G q σ κ ++ [aL G oa 1 f])) := by
  subst he_d
  subst he_i
  refine MC.mkW (by decide +kernel) (Nat.le_of_ble_eq_true rfl) ?_
  intro p e s m av below meth c A H locs ls Q Z ht hr hnm hQ hP hD hS hl
  have hx := Z.1
  have hb := Z.2.1
  have hl : lv_has ls 5 [(0, .ref (q 0)), (1, .int (zI ((d : Nat) : Int))), (2, .int (zI ((i : Nat) : Int))), (3, .ref (oa))] := hl
  refine lv_aload_n hx hb dL_isReadOn_0 rfl (lv_at hl 3 rfl) ?_
  refine zr_iconst hx hb dL_isReadOn_1 ?_
  refine lv_aload_n hx hb dL_isReadOn_2 rfl (lv_at hl 0 rfl) ?_
  refine lv_iload_n hx hb dL_isReadOn_3 rfl (lv_at hl 1 rfl) ?_
  refine lv_iload_n hx hb dL_isReadOn_4 rfl (lv_at hl 2 rfl) ?_
  refine zcatch Z (zP_r hP) (zD_sep hD) (zD_l hD) hS (zrunXV (rest := [.int (zI (0 : Int)), .ref oa]) Z (zP_l hP) (zD_l hD) hS hl.1 (m_X5_isReadOn_x3 l G hst q σ κ d rfl i rfl hI h1 h2 h3) zY_X5_isReadOn km_L_122 (q0 := 0) rfl rfl rfl rfl ⟨⟨Nat.le_of_ble_eq_true rfl, Nat.le_of_ble_eq_true rfl⟩, Nat.le_of_ble_eq_true rfl, Nat.le_of_ble_eq_true rfl⟩ (Nat.le_of_ble_eq_true rfl) dL_isReadOn_5) [⟨0, 17, 20, 35⟩] ⟨0, 17, 24, 15⟩ [] ht (fun z hz => by
    rw [List.mem_singleton] at hz; subst hz; exact Or.inr ⟨by decide, "java/lang/IndexOutOfBoundsException", kc_L_35, by decide +kernel⟩) (by decide) (by decide) kc_L_15 (by decide +kernel) (fun u q9 H locs hP1 hD1 hP2 hs hS => ?_)
  have hP := hP1.app hP2
  have hD := va_D.app hD1 (zD_r hD) hs
  refine lv_astore (lv' := [(4, .ref (q9)), (0, .ref (q 0)), (1, .int (zI ((d : Nat) : Int))), (2, .int (zI ((i : Nat) : Int))), (3, .ref (oa))]) hx hb dL_isReadOn_24 hl (by decide) rfl (fun ls hl => ?_)
  refine zr_iconst hx hb dL_isReadOn_26 ?_
  exact zret_I () Z hr hP hD hS rfl rfl ⟨Nat.le_of_ble_eq_true rfl, Nat.le_of_ble_eq_true rfl⟩ hQ dL_isReadOn_27
abbrev r_L_knownVersions : Room := { frames := 3, cells := 0, slots := 0, locals := 63 }
set_option maxHeartbeats 4000000 in
set_option maxRecDepth 100000 in
theorem m_L_knownVersions (l : Launch) (G : ZG) (q : Nat → Nat) (σ : St) (κ : KC) (oa : Nat) (f : Nat → Int64) {e_d : Int} (d : Nat) (he_d : e_d = (d : Int)) {e_i : Int} (i : Nat) (he_i : e_i = (i : Int)) (hI : okC σ) (h1 : i < σ.1 4) (h2 : d < σ.1 7) :
  MC l G yL_knownVersions (wYW yL_knownVersions cL_knownVersions 5 (some .int) [(0, 10, 13, 35)]) r_L_knownVersions (wC G q σ κ ++ [aL G oa 1 f]) [.ref (q 0), .int (zI e_d), .int (zI e_i), .ref (oa)] (QI G (fun r9 (_ : Unit) => r9 = zI (0 : Int)) (fun _ => wC G q σ κ ++ [aL G oa 1 (va_up f 0 ((zI (((σ.2.1 4) (30 * d + i) : Nat) : Int)).toInt64))])) := by
  subst he_d
  subst he_i
  refine MC.mkW (by decide +kernel) (Nat.le_of_ble_eq_true rfl) ?_
  intro p e s m av below meth c A H locs ls Q Z ht hr hnm hQ hP hD hS hl
  have hx := Z.1
  have hb := Z.2.1
  have hl : lv_has ls 5 [(0, .ref (q 0)), (1, .int (zI ((d : Nat) : Int))), (2, .int (zI ((i : Nat) : Int))), (3, .ref (oa))] := hl
  refine lv_aload_n hx hb dL_knownVersions_0 rfl (lv_at hl 3 rfl) ?_
  refine zr_iconst hx hb dL_knownVersions_1 ?_
  refine lv_aload_n hx hb dL_knownVersions_2 rfl (lv_at hl 0 rfl) ?_
  refine lv_iload_n hx hb dL_knownVersions_3 rfl (lv_at hl 1 rfl) ?_
  refine lv_iload_n hx hb dL_knownVersions_4 rfl (lv_at hl 2 rfl) ?_
  refine zfr_I ⟨rfl, rfl⟩ Z (zP_r hP) (zD_sep hD) (zD_l hD) hS (zrunV (rest := [.int (zI (0 : Int)), .ref oa]) Z (zP_l hP) (zD_l hD) hS hl.1 (m_X5_knownVersions l G q σ κ d rfl i rfl hI h1 h2) zY_X5_knownVersions km_L_126 (q0 := 0) rfl rfl rfl rfl ⟨⟨Nat.le_of_ble_eq_true rfl, Nat.le_of_ble_eq_true rfl⟩, Nat.le_of_ble_eq_true rfl, Nat.le_of_ble_eq_true rfl⟩ (Nat.le_of_ble_eq_true rfl) dL_knownVersions_5) (fun r u H locs hp hP1 hD1 hP2 hs hS => ?_)
  obtain rfl : r = (zI (((σ.2.1 4) (30 * d + i) : Nat) : Int)) := hp
  have hPn := hP1.app hP2
  have hDn := va_D.app hD1 (zD_r hD) hs
  refine lv_i2l hx hb dL_knownVersions_8 rfl ?_
  refine stL (ws1 := wC G q σ κ ++ [aL G oa 1 (va_up f 0 ((zI (((σ.2.1 4) (30 * d + i) : Nat) : Int)).toInt64))]) Z hPn hDn hS 30 f rfl 0 rfl (by decide) (by decide) rfl dL_knownVersions_9 (fun H locs hP hD hS => ?_)
  refine lv_goto (tgt := 17) hx hb dL_knownVersions_10 (by decide) ?_
  refine zr_iconst hx hb dL_knownVersions_17 ?_
  exact zret_I () Z hr hP hD hS rfl rfl ⟨Nat.le_of_ble_eq_true rfl, Nat.le_of_ble_eq_true rfl⟩ hQ dL_knownVersions_18
abbrev r_L_knownVersions_x1 : Room := { frames := 8, cells := 1, slots := 6, locals := 143 }
set_option maxHeartbeats 4000000 in
set_option maxRecDepth 100000 in
theorem m_L_knownVersions_x1 (l : Launch) (G : ZG) (hst : l.stackTraces = false) (q : Nat → Nat) (σ : St) (κ : KC) (oa : Nat) (f : Nat → Int64) (d : Int) (i : Int) (hI : okC σ) (h1 : zR d) (h2 : d < 0 ∨ ((σ.1 7 : Nat) : Int) ≤ d) :
  MC l G yL_knownVersions (wYW yL_knownVersions cL_knownVersions 5 (some .int) [(0, 10, 13, 35)]) r_L_knownVersions_x1 (wC G q σ κ ++ [aL G oa 1 f]) [.ref (q 0), .int (zI (d : Int)), .int (zI (i : Int)), .ref (oa)] (QI G (fun r9 (_ : Unit) => r9 = zI (1 : Int)) (fun _ => wC G q σ κ ++ [aL G oa 1 f])) := by
  refine MC.mkW (by decide +kernel) (Nat.le_of_ble_eq_true rfl) ?_
  intro p e s m av below meth c A H locs ls Q Z ht hr hnm hQ hP hD hS hl
  have hx := Z.1
  have hb := Z.2.1
  have hl : lv_has ls 5 [(0, .ref (q 0)), (1, .int (zI (d : Int))), (2, .int (zI (i : Int))), (3, .ref (oa))] := hl
  refine lv_aload_n hx hb dL_knownVersions_0 rfl (lv_at hl 3 rfl) ?_
  refine zr_iconst hx hb dL_knownVersions_1 ?_
  refine lv_aload_n hx hb dL_knownVersions_2 rfl (lv_at hl 0 rfl) ?_
  refine lv_iload_n hx hb dL_knownVersions_3 rfl (lv_at hl 1 rfl) ?_
  refine lv_iload_n hx hb dL_knownVersions_4 rfl (lv_at hl 2 rfl) ?_
  refine zcatch Z (zP_r hP) (zD_sep hD) (zD_l hD) hS (zrunXV (rest := [.int (zI (0 : Int)), .ref oa]) Z (zP_l hP) (zD_l hD) hS hl.1 (m_X5_knownVersions_x1 l G hst q σ κ d i hI h1 h2) zY_X5_knownVersions km_L_126 (q0 := 0) rfl rfl rfl rfl ⟨⟨Nat.le_of_ble_eq_true rfl, Nat.le_of_ble_eq_true rfl⟩, Nat.le_of_ble_eq_true rfl, Nat.le_of_ble_eq_true rfl⟩ (Nat.le_of_ble_eq_true rfl) dL_knownVersions_5) [] ⟨0, 10, 13, 35⟩ [] ht (fun z hz => by cases hz) (by decide) (by decide) kc_L_35 (by decide +kernel) (fun u q9 H locs hP1 hD1 hP2 hs hS => ?_)
  have hP := hP1.app hP2
  have hD := va_D.app hD1 (zD_r hD) hs
  refine lv_astore (lv' := [(4, .ref (q9)), (0, .ref (q 0)), (1, .int (zI (d : Int))), (2, .int (zI (i : Int))), (3, .ref (oa))]) hx hb dL_knownVersions_13 hl (by decide) rfl (fun ls hl => ?_)
  refine zr_iconst hx hb dL_knownVersions_15 ?_
  exact zret_I () Z hr hP hD hS rfl rfl ⟨Nat.le_of_ble_eq_true rfl, Nat.le_of_ble_eq_true rfl⟩ hQ dL_knownVersions_16
abbrev r_L_knownVersions_x2 : Room := { frames := 8, cells := 1, slots := 6, locals := 143 }
set_option maxHeartbeats 4000000 in
set_option maxRecDepth 100000 in
theorem m_L_knownVersions_x2 (l : Launch) (G : ZG) (hst : l.stackTraces = false) (q : Nat → Nat) (σ : St) (κ : KC) (oa : Nat) (f : Nat → Int64) {e_d : Int} (d : Nat) (he_d : e_d = (d : Int)) (i : Int) (hI : okC σ) (h4 : d < σ.1 7) (h1 : zR i) (h2 : i < 0 ∨ ((σ.1 4 : Nat) : Int) ≤ i) :
  MC l G yL_knownVersions (wYW yL_knownVersions cL_knownVersions 5 (some .int) [(0, 10, 13, 35)]) r_L_knownVersions_x2 (wC G q σ κ ++ [aL G oa 1 f]) [.ref (q 0), .int (zI e_d), .int (zI (i : Int)), .ref (oa)] (QI G (fun r9 (_ : Unit) => r9 = zI (1 : Int)) (fun _ => wC G q σ κ ++ [aL G oa 1 f])) := by
  subst he_d
  refine MC.mkW (by decide +kernel) (Nat.le_of_ble_eq_true rfl) ?_
  intro p e s m av below meth c A H locs ls Q Z ht hr hnm hQ hP hD hS hl
  have hx := Z.1
  have hb := Z.2.1
  have hl : lv_has ls 5 [(0, .ref (q 0)), (1, .int (zI ((d : Nat) : Int))), (2, .int (zI (i : Int))), (3, .ref (oa))] := hl
  refine lv_aload_n hx hb dL_knownVersions_0 rfl (lv_at hl 3 rfl) ?_
  refine zr_iconst hx hb dL_knownVersions_1 ?_
  refine lv_aload_n hx hb dL_knownVersions_2 rfl (lv_at hl 0 rfl) ?_
  refine lv_iload_n hx hb dL_knownVersions_3 rfl (lv_at hl 1 rfl) ?_
  refine lv_iload_n hx hb dL_knownVersions_4 rfl (lv_at hl 2 rfl) ?_
  refine zcatch Z (zP_r hP) (zD_sep hD) (zD_l hD) hS (zrunXV (rest := [.int (zI (0 : Int)), .ref oa]) Z (zP_l hP) (zD_l hD) hS hl.1 (m_X5_knownVersions_x2 l G hst q σ κ d rfl i hI h4 h1 h2) zY_X5_knownVersions km_L_126 (q0 := 0) rfl rfl rfl rfl ⟨⟨Nat.le_of_ble_eq_true rfl, Nat.le_of_ble_eq_true rfl⟩, Nat.le_of_ble_eq_true rfl, Nat.le_of_ble_eq_true rfl⟩ (Nat.le_of_ble_eq_true rfl) dL_knownVersions_5) [] ⟨0, 10, 13, 35⟩ [] ht (fun z hz => by cases hz) (by decide) (by decide) kc_L_35 (by decide +kernel) (fun u q9 H locs hP1 hD1 hP2 hs hS => ?_)
  have hP := hP1.app hP2
  have hD := va_D.app hD1 (zD_r hD) hs
  refine lv_astore (lv' := [(4, .ref (q9)), (0, .ref (q 0)), (1, .int (zI ((d : Nat) : Int))), (2, .int (zI (i : Int))), (3, .ref (oa))]) hx hb dL_knownVersions_13 hl (by decide) rfl (fun ls hl => ?_)
  refine zr_iconst hx hb dL_knownVersions_15 ?_
  exact zret_I () Z hr hP hD hS rfl rfl ⟨Nat.le_of_ble_eq_true rfl, Nat.le_of_ble_eq_true rfl⟩ hQ dL_knownVersions_16
abbrev r_L_latestMajor : Room := { frames := 3, cells := 0, slots := 0, locals := 62 }
set_option maxHeartbeats 4000000 in
set_option maxRecDepth 100000 in
theorem m_L_latestMajor (l : Launch) (G : ZG) (q : Nat → Nat) (σ : St) (κ : KC) (oa : Nat) (f : Nat → Int64) {e_i : Int} (i : Nat) (he_i : e_i = (i : Int)) (hI : okC σ) (h1 : i < σ.1 4) :
  MC l G yL_latestMajor (wYW yL_latestMajor cL_latestMajor 4 (some .int) [(0, 9, 12, 35)]) r_L_latestMajor (wC G q σ κ ++ [aL G oa 1 f]) [.ref (q 0), .int (zI e_i), .ref (oa)] (QI G (fun r9 (_ : Unit) => r9 = zI (0 : Int)) (fun _ => wC G q σ κ ++ [aL G oa 1 (va_up f 0 ((zI (((σ.2.1 3) i : Nat) : Int)).toInt64))])) := by
  subst he_i
  refine MC.mkW (by decide +kernel) (Nat.le_of_ble_eq_true rfl) ?_
  intro p e s m av below meth c A H locs ls Q Z ht hr hnm hQ hP hD hS hl
  have hx := Z.1
  have hb := Z.2.1
  have hl : lv_has ls 4 [(0, .ref (q 0)), (1, .int (zI ((i : Nat) : Int))), (2, .ref (oa))] := hl
  refine lv_aload_n hx hb dL_latestMajor_0 rfl (lv_at hl 2 rfl) ?_
  refine zr_iconst hx hb dL_latestMajor_1 ?_
  refine lv_aload_n hx hb dL_latestMajor_2 rfl (lv_at hl 0 rfl) ?_
  refine lv_iload_n hx hb dL_latestMajor_3 rfl (lv_at hl 1 rfl) ?_
  refine zfr_I ⟨rfl, rfl⟩ Z (zP_r hP) (zD_sep hD) (zD_l hD) hS (zrunV (rest := [.int (zI (0 : Int)), .ref oa]) Z (zP_l hP) (zD_l hD) hS hl.1 (m_X5_latestMajor l G q σ κ i rfl hI h1) zY_X5_latestMajor km_L_53 (q0 := 0) rfl rfl rfl rfl ⟨⟨Nat.le_of_ble_eq_true rfl, Nat.le_of_ble_eq_true rfl⟩, Nat.le_of_ble_eq_true rfl, Nat.le_of_ble_eq_true rfl⟩ (Nat.le_of_ble_eq_true rfl) dL_latestMajor_4) (fun r u H locs hp hP1 hD1 hP2 hs hS => ?_)
  obtain rfl : r = (zI (((σ.2.1 3) i : Nat) : Int)) := hp
  have hPn := hP1.app hP2
  have hDn := va_D.app hD1 (zD_r hD) hs
  refine lv_i2l hx hb dL_latestMajor_7 rfl ?_
  refine stL (ws1 := wC G q σ κ ++ [aL G oa 1 (va_up f 0 ((zI (((σ.2.1 3) i : Nat) : Int)).toInt64))]) Z hPn hDn hS 30 f rfl 0 rfl (by decide) (by decide) rfl dL_latestMajor_8 (fun H locs hP hD hS => ?_)
  refine lv_goto (tgt := 15) hx hb dL_latestMajor_9 (by decide) ?_
  refine zr_iconst hx hb dL_latestMajor_15 ?_
  exact zret_I () Z hr hP hD hS rfl rfl ⟨Nat.le_of_ble_eq_true rfl, Nat.le_of_ble_eq_true rfl⟩ hQ dL_latestMajor_16
abbrev r_L_latestMajor_x : Room := { frames := 8, cells := 1, slots := 6, locals := 142 }
set_option maxHeartbeats 4000000 in
set_option maxRecDepth 100000 in
theorem m_L_latestMajor_x (l : Launch) (G : ZG) (hst : l.stackTraces = false) (q : Nat → Nat) (σ : St) (κ : KC) (oa : Nat) (f : Nat → Int64) (i : Int) (hI : okC σ) (h1 : zR i) (h2 : i < 0 ∨ ((σ.1 4 : Nat) : Int) ≤ i) :
  MC l G yL_latestMajor (wYW yL_latestMajor cL_latestMajor 4 (some .int) [(0, 9, 12, 35)]) r_L_latestMajor_x (wC G q σ κ ++ [aL G oa 1 f]) [.ref (q 0), .int (zI (i : Int)), .ref (oa)] (QI G (fun r9 (_ : Unit) => r9 = zI (1 : Int)) (fun _ => wC G q σ κ ++ [aL G oa 1 f])) := by
  refine MC.mkW (by decide +kernel) (Nat.le_of_ble_eq_true rfl) ?_
  intro p e s m av below meth c A H locs ls Q Z ht hr hnm hQ hP hD hS hl
  have hx := Z.1
  have hb := Z.2.1
  have hl : lv_has ls 4 [(0, .ref (q 0)), (1, .int (zI (i : Int))), (2, .ref (oa))] := hl
  refine lv_aload_n hx hb dL_latestMajor_0 rfl (lv_at hl 2 rfl) ?_
  refine zr_iconst hx hb dL_latestMajor_1 ?_
  refine lv_aload_n hx hb dL_latestMajor_2 rfl (lv_at hl 0 rfl) ?_
  refine lv_iload_n hx hb dL_latestMajor_3 rfl (lv_at hl 1 rfl) ?_
  refine zcatch Z (zP_r hP) (zD_sep hD) (zD_l hD) hS (zrunXV (rest := [.int (zI (0 : Int)), .ref oa]) Z (zP_l hP) (zD_l hD) hS hl.1 (m_X5_latestMajor_x l G hst q σ κ i hI h1 h2) zY_X5_latestMajor km_L_53 (q0 := 0) rfl rfl rfl rfl ⟨⟨Nat.le_of_ble_eq_true rfl, Nat.le_of_ble_eq_true rfl⟩, Nat.le_of_ble_eq_true rfl, Nat.le_of_ble_eq_true rfl⟩ (Nat.le_of_ble_eq_true rfl) dL_latestMajor_4) [] ⟨0, 9, 12, 35⟩ [] ht (fun z hz => by cases hz) (by decide) (by decide) kc_L_35 (by decide +kernel) (fun u q9 H locs hP1 hD1 hP2 hs hS => ?_)
  have hP := hP1.app hP2
  have hD := va_D.app hD1 (zD_r hD) hs
  refine lv_astore_n (lv' := [(3, .ref (q9)), (0, .ref (q 0)), (1, .int (zI (i : Int))), (2, .ref (oa))]) hx hb dL_latestMajor_12 rfl hl (by decide) rfl (fun ls hl => ?_)
  refine zr_iconst hx hb dL_latestMajor_13 ?_
  exact zret_I () Z hr hP hD hS rfl rfl ⟨Nat.le_of_ble_eq_true rfl, Nat.le_of_ble_eq_true rfl⟩ hQ dL_latestMajor_14
abbrev r_L_likeness : Room := { frames := 3, cells := 0, slots := 0, locals := 69 }
set_option maxHeartbeats 4000000 in
set_option maxRecDepth 100000 in
theorem m_L_likeness (l : Launch) (G : ZG) (q : Nat → Nat) (σ : St) (κ : KC) (oa : Nat) (f : Nat → Int64) (a : Int64) (b : Int64) (h1 : ¬ a = 0) (h2 : ¬ b = 0) :
  MC l G yL_likeness (wYW yL_likeness cL_likeness 7 (some .int) [(0, 11, 14, 13)]) r_L_likeness (wC G q σ κ ++ [aL G oa 1 f]) [.ref (q 0), .long (a), .long (b), .ref (oa)] (QI G (fun r9 (_ : Unit) => r9 = zI (0 : Int)) (fun _ => wC G q σ κ ++ [aL G oa 1 (va_up f 0 ((zI ((like a b : Nat) : Int)).toInt64))])) := by
  refine MC.mkW (by decide +kernel) (Nat.le_of_ble_eq_true rfl) ?_
  intro p e s m av below meth c A H locs ls Q Z ht hr hnm hQ hP hD hS hl
  have hx := Z.1
  have hb := Z.2.1
  have hl : lv_has ls 7 [(0, .ref (q 0)), (1, .long (a)), (3, .long (b)), (5, .ref (oa))] := hl
  refine lv_aload hx hb dL_likeness_0 (lv_at hl 3 rfl) ?_
  refine zr_iconst hx hb dL_likeness_2 ?_
  refine lv_aload_n hx hb dL_likeness_3 rfl (lv_at hl 0 rfl) ?_
  refine lv_lload_n hx hb dL_likeness_4 rfl (lv_at hl 1 rfl) ?_
  refine lv_lload_n hx hb dL_likeness_5 rfl (lv_at hl 2 rfl) ?_
  refine zfr_I ⟨rfl, rfl⟩ Z (zP_r hP) (zD_sep hD) (zD_l hD) hS (zrunV (rest := [.int (zI (0 : Int)), .ref oa]) Z (zP_l hP) (zD_l hD) hS hl.1 (m_X5_likeness l G q σ κ a b h1 h2) zY_X5_likeness km_L_23 (q0 := 0) rfl rfl rfl rfl ⟨⟨Nat.le_of_ble_eq_true rfl, Nat.le_of_ble_eq_true rfl⟩, Nat.le_of_ble_eq_true rfl, Nat.le_of_ble_eq_true rfl⟩ (Nat.le_of_ble_eq_true rfl) dL_likeness_6) (fun r u H locs hp hP1 hD1 hP2 hs hS => ?_)
  obtain rfl : r = (zI ((like a b : Nat) : Int)) := hp
  have hPn := hP1.app hP2
  have hDn := va_D.app hD1 (zD_r hD) hs
  refine lv_i2l hx hb dL_likeness_9 rfl ?_
  refine stL (ws1 := wC G q σ κ ++ [aL G oa 1 (va_up f 0 ((zI ((like a b : Nat) : Int)).toInt64))]) Z hPn hDn hS 30 f rfl 0 rfl (by decide) (by decide) rfl dL_likeness_10 (fun H locs hP hD hS => ?_)
  refine lv_goto (tgt := 18) hx hb dL_likeness_11 (by decide) ?_
  refine zr_iconst hx hb dL_likeness_18 ?_
  exact zret_I () Z hr hP hD hS rfl rfl ⟨Nat.le_of_ble_eq_true rfl, Nat.le_of_ble_eq_true rfl⟩ hQ dL_likeness_19
abbrev r_L_likeness_x : Room := { frames := 7, cells := 1, slots := 6, locals := 124 }
set_option maxHeartbeats 4000000 in
set_option maxRecDepth 100000 in
theorem m_L_likeness_x (l : Launch) (G : ZG) (hst : l.stackTraces = false) (q : Nat → Nat) (σ : St) (κ : KC) (oa : Nat) (f : Nat → Int64) (a : Int64) (b : Int64) (h1 : a = 0 ∨ b = 0) :
  MC l G yL_likeness (wYW yL_likeness cL_likeness 7 (some .int) [(0, 11, 14, 13)]) r_L_likeness_x (wC G q σ κ ++ [aL G oa 1 f]) [.ref (q 0), .long (a), .long (b), .ref (oa)] (QI G (fun r9 (_ : Unit) => r9 = zI (1 : Int)) (fun _ => wC G q σ κ ++ [aL G oa 1 f])) := by
  refine MC.mkW (by decide +kernel) (Nat.le_of_ble_eq_true rfl) ?_
  intro p e s m av below meth c A H locs ls Q Z ht hr hnm hQ hP hD hS hl
  have hx := Z.1
  have hb := Z.2.1
  have hl : lv_has ls 7 [(0, .ref (q 0)), (1, .long (a)), (3, .long (b)), (5, .ref (oa))] := hl
  refine lv_aload hx hb dL_likeness_0 (lv_at hl 3 rfl) ?_
  refine zr_iconst hx hb dL_likeness_2 ?_
  refine lv_aload_n hx hb dL_likeness_3 rfl (lv_at hl 0 rfl) ?_
  refine lv_lload_n hx hb dL_likeness_4 rfl (lv_at hl 1 rfl) ?_
  refine lv_lload_n hx hb dL_likeness_5 rfl (lv_at hl 2 rfl) ?_
  refine zcatch Z (zP_r hP) (zD_sep hD) (zD_l hD) hS (zrunXV (rest := [.int (zI (0 : Int)), .ref oa]) Z (zP_l hP) (zD_l hD) hS hl.1 (m_X5_likeness_x l G hst q σ κ a b h1) zY_X5_likeness km_L_23 (q0 := 0) rfl rfl rfl rfl ⟨⟨Nat.le_of_ble_eq_true rfl, Nat.le_of_ble_eq_true rfl⟩, Nat.le_of_ble_eq_true rfl, Nat.le_of_ble_eq_true rfl⟩ (Nat.le_of_ble_eq_true rfl) dL_likeness_6) [] ⟨0, 11, 14, 13⟩ [] ht (fun z hz => by cases hz) (by decide) (by decide) kc_L_13 (by decide +kernel) (fun u q9 H locs hP1 hD1 hP2 hs hS => ?_)
  have hP := hP1.app hP2
  have hD := va_D.app hD1 (zD_r hD) hs
  refine lv_astore (lv' := [(6, .ref (q9)), (0, .ref (q 0)), (1, .long (a)), (3, .long (b)), (5, .ref (oa))]) hx hb dL_likeness_14 hl (by decide) rfl (fun ls hl => ?_)
  refine zr_iconst hx hb dL_likeness_16 ?_
  exact zret_I () Z hr hP hD hS rfl rfl ⟨Nat.le_of_ble_eq_true rfl, Nat.le_of_ble_eq_true rfl⟩ hQ dL_likeness_17
abbrev r_L_mark : Room := { frames := 4, cells := 0, slots := 0, locals := 93 }
set_option maxHeartbeats 4000000 in
set_option maxRecDepth 100000 in
theorem m_L_mark (l : Launch) (G : ZG) (q : Nat → Nat) (σ : St) (κ : KC) (oa : Nat) (f : Nat → Int64) {e_d : Int} (d : Nat) (he_d : e_d = (d : Int)) {e_i : Int} (i : Nat) (he_i : e_i = (i : Int)) (b : Bool) (hI : okC σ) (h1 : i < σ.1 4) (h2 : d < σ.1 7) (h3 : 0 < σ.2.1 4 (30 * d + i)) :
  MC l G yL_mark (wYW yL_mark cL_mark 6 (some .int) [(0, 19, 22, 35), (0, 19, 26, 15)]) r_L_mark (wC G q σ κ ++ [aL G oa 1 f]) [.ref (q 0), .int (zI e_d), .int (zI e_i), .int (tB (b)), .ref (oa)] (QI G (fun r9 (_ : Unit) => r9 = zI (0 : Int)) (fun _ => wC G q (mkS σ d i b) κ ++ [aL G oa 1 (va_up f 0 (if rdD σ d i then 1 else 0))])) := by
  subst he_d
  subst he_i
  refine MC.mkW (by decide +kernel) (Nat.le_of_ble_eq_true rfl) ?_
  intro p e s m av below meth c A H locs ls Q Z ht hr hnm hQ hP hD hS hl
  have hx := Z.1
  have hb := Z.2.1
  have hl : lv_has ls 6 [(0, .ref (q 0)), (1, .int (zI ((d : Nat) : Int))), (2, .int (zI ((i : Nat) : Int))), (3, .int (tB (b))), (4, .ref (oa))] := hl
  refine lv_aload hx hb dL_mark_0 (lv_at hl 4 rfl) ?_
  refine zr_iconst hx hb dL_mark_2 ?_
  refine lv_aload_n hx hb dL_mark_3 rfl (lv_at hl 0 rfl) ?_
  refine lv_iload_n hx hb dL_mark_4 rfl (lv_at hl 1 rfl) ?_
  refine lv_iload_n hx hb dL_mark_5 rfl (lv_at hl 2 rfl) ?_
  refine lv_iload_n hx hb dL_mark_6 rfl (lv_at hl 3 rfl) ?_
  refine zfr_I ⟨rfl, rfl⟩ Z (zP_r hP) (zD_sep hD) (zD_l hD) hS (zrunV (rest := [.int (zI (0 : Int)), .ref oa]) Z (zP_l hP) (zD_l hD) hS hl.1 (m_X5_mark l G q σ κ d rfl i rfl b hI h1 h2 h3) zY_X5_mark km_L_109 (q0 := 0) rfl rfl rfl rfl ⟨⟨Nat.le_of_ble_eq_true rfl, Nat.le_of_ble_eq_true rfl⟩, Nat.le_of_ble_eq_true rfl, Nat.le_of_ble_eq_true rfl⟩ (Nat.le_of_ble_eq_true rfl) dL_mark_7) (fun r u H locs hp hP1 hD1 hP2 hs hS => ?_)
  obtain rfl : r = (tB (rdD σ d i)) := hp
  have hPn := hP1.app hP2
  have hDn := va_D.app hD1 (zD_r hD) hs
  refine zb_eq (tgt := 17) hx hb dL_mark_10 (by decide) (fun c9 => ?_) (fun c9 => ?_)
  · refine lv_lconst (v := 0) hx hb dL_mark_17 (by decide) ?_
    refine stL (ws1 := wC G q (mkS σ d i b) κ ++ [aL G oa 1 (va_up f 0 (0))]) Z hPn hDn hS 30 f rfl 0 rfl (by decide) (by decide) rfl dL_mark_18 (fun H locs hP hD hS => ?_)
    refine lv_goto (tgt := 30) hx hb dL_mark_19 (by decide) ?_
    refine zr_iconst hx hb dL_mark_30 ?_
    exact zret_I () Z hr hP hD hS rfl (by rw [c9]; rfl) ⟨Nat.le_of_ble_eq_true rfl, Nat.le_of_ble_eq_true rfl⟩ hQ dL_mark_31
  · refine lv_lconst (v := 1) hx hb dL_mark_13 (by decide) ?_
    refine lv_goto (tgt := 18) hx hb dL_mark_14 (by decide) ?_
    refine stL (ws1 := wC G q (mkS σ d i b) κ ++ [aL G oa 1 (va_up f 0 (1))]) Z hPn hDn hS 30 f rfl 0 rfl (by decide) (by decide) rfl dL_mark_18 (fun H locs hP hD hS => ?_)
    refine lv_goto (tgt := 30) hx hb dL_mark_19 (by decide) ?_
    refine zr_iconst hx hb dL_mark_30 ?_
    exact zret_I () Z hr hP hD hS rfl (by rw [c9]; rfl) ⟨Nat.le_of_ble_eq_true rfl, Nat.le_of_ble_eq_true rfl⟩ hQ dL_mark_31
abbrev r_L_mark_x1 : Room := { frames := 8, cells := 1, slots := 6, locals := 144 }
set_option maxHeartbeats 4000000 in
set_option maxRecDepth 100000 in
theorem m_L_mark_x1 (l : Launch) (G : ZG) (hst : l.stackTraces = false) (q : Nat → Nat) (σ : St) (κ : KC) (oa : Nat) (f : Nat → Int64) (d : Int) (i : Int) (b : Bool) (hI : okC σ) (h1 : zR d) (h2 : d < 0 ∨ ((σ.1 7 : Nat) : Int) ≤ d) :
  MC l G yL_mark (wYW yL_mark cL_mark 6 (some .int) [(0, 19, 22, 35), (0, 19, 26, 15)]) r_L_mark_x1 (wC G q σ κ ++ [aL G oa 1 f]) [.ref (q 0), .int (zI (d : Int)), .int (zI (i : Int)), .int (tB (b)), .ref (oa)] (QI G (fun r9 (_ : Unit) => r9 = zI (1 : Int)) (fun _ => wC G q σ κ ++ [aL G oa 1 f])) := by
  refine MC.mkW (by decide +kernel) (Nat.le_of_ble_eq_true rfl) ?_
  intro p e s m av below meth c A H locs ls Q Z ht hr hnm hQ hP hD hS hl
  have hx := Z.1
  have hb := Z.2.1
  have hl : lv_has ls 6 [(0, .ref (q 0)), (1, .int (zI (d : Int))), (2, .int (zI (i : Int))), (3, .int (tB (b))), (4, .ref (oa))] := hl
  refine lv_aload hx hb dL_mark_0 (lv_at hl 4 rfl) ?_
  refine zr_iconst hx hb dL_mark_2 ?_
  refine lv_aload_n hx hb dL_mark_3 rfl (lv_at hl 0 rfl) ?_
  refine lv_iload_n hx hb dL_mark_4 rfl (lv_at hl 1 rfl) ?_
  refine lv_iload_n hx hb dL_mark_5 rfl (lv_at hl 2 rfl) ?_
  refine lv_iload_n hx hb dL_mark_6 rfl (lv_at hl 3 rfl) ?_
  refine zcatch Z (zP_r hP) (zD_sep hD) (zD_l hD) hS (zrunXV (rest := [.int (zI (0 : Int)), .ref oa]) Z (zP_l hP) (zD_l hD) hS hl.1 (m_X5_mark_x1 l G hst q σ κ d i b hI h1 h2) zY_X5_mark km_L_109 (q0 := 0) rfl rfl rfl rfl ⟨⟨Nat.le_of_ble_eq_true rfl, Nat.le_of_ble_eq_true rfl⟩, Nat.le_of_ble_eq_true rfl, Nat.le_of_ble_eq_true rfl⟩ (Nat.le_of_ble_eq_true rfl) dL_mark_7) [] ⟨0, 19, 22, 35⟩ [⟨0, 19, 26, 15⟩] ht (fun z hz => by cases hz) (by decide) (by decide) kc_L_35 (by decide +kernel) (fun u q9 H locs hP1 hD1 hP2 hs hS => ?_)
  have hP := hP1.app hP2
  have hD := va_D.app hD1 (zD_r hD) hs
  refine lv_astore (lv' := [(5, .ref (q9)), (0, .ref (q 0)), (1, .int (zI (d : Int))), (2, .int (zI (i : Int))), (3, .int (tB (b))), (4, .ref (oa))]) hx hb dL_mark_22 hl (by decide) rfl (fun ls hl => ?_)
  refine zr_iconst hx hb dL_mark_24 ?_
  exact zret_I () Z hr hP hD hS rfl rfl ⟨Nat.le_of_ble_eq_true rfl, Nat.le_of_ble_eq_true rfl⟩ hQ dL_mark_25
abbrev r_L_mark_x2 : Room := { frames := 8, cells := 1, slots := 6, locals := 144 }
set_option maxHeartbeats 4000000 in
set_option maxRecDepth 100000 in
theorem m_L_mark_x2 (l : Launch) (G : ZG) (hst : l.stackTraces = false) (q : Nat → Nat) (σ : St) (κ : KC) (oa : Nat) (f : Nat → Int64) {e_d : Int} (d : Nat) (he_d : e_d = (d : Int)) (i : Int) (b : Bool) (hI : okC σ) (h4 : d < σ.1 7) (h1 : zR i) (h2 : i < 0 ∨ ((σ.1 4 : Nat) : Int) ≤ i) :
  MC l G yL_mark (wYW yL_mark cL_mark 6 (some .int) [(0, 19, 22, 35), (0, 19, 26, 15)]) r_L_mark_x2 (wC G q σ κ ++ [aL G oa 1 f]) [.ref (q 0), .int (zI e_d), .int (zI (i : Int)), .int (tB (b)), .ref (oa)] (QI G (fun r9 (_ : Unit) => r9 = zI (1 : Int)) (fun _ => wC G q σ κ ++ [aL G oa 1 f])) := by
  subst he_d
  refine MC.mkW (by decide +kernel) (Nat.le_of_ble_eq_true rfl) ?_
  intro p e s m av below meth c A H locs ls Q Z ht hr hnm hQ hP hD hS hl
  have hx := Z.1
  have hb := Z.2.1
  have hl : lv_has ls 6 [(0, .ref (q 0)), (1, .int (zI ((d : Nat) : Int))), (2, .int (zI (i : Int))), (3, .int (tB (b))), (4, .ref (oa))] := hl
  refine lv_aload hx hb dL_mark_0 (lv_at hl 4 rfl) ?_
  refine zr_iconst hx hb dL_mark_2 ?_
  refine lv_aload_n hx hb dL_mark_3 rfl (lv_at hl 0 rfl) ?_
  refine lv_iload_n hx hb dL_mark_4 rfl (lv_at hl 1 rfl) ?_
  refine lv_iload_n hx hb dL_mark_5 rfl (lv_at hl 2 rfl) ?_
  refine lv_iload_n hx hb dL_mark_6 rfl (lv_at hl 3 rfl) ?_
  refine zcatch Z (zP_r hP) (zD_sep hD) (zD_l hD) hS (zrunXV (rest := [.int (zI (0 : Int)), .ref oa]) Z (zP_l hP) (zD_l hD) hS hl.1 (m_X5_mark_x2 l G hst q σ κ d rfl i b hI h4 h1 h2) zY_X5_mark km_L_109 (q0 := 0) rfl rfl rfl rfl ⟨⟨Nat.le_of_ble_eq_true rfl, Nat.le_of_ble_eq_true rfl⟩, Nat.le_of_ble_eq_true rfl, Nat.le_of_ble_eq_true rfl⟩ (Nat.le_of_ble_eq_true rfl) dL_mark_7) [] ⟨0, 19, 22, 35⟩ [⟨0, 19, 26, 15⟩] ht (fun z hz => by cases hz) (by decide) (by decide) kc_L_35 (by decide +kernel) (fun u q9 H locs hP1 hD1 hP2 hs hS => ?_)
  have hP := hP1.app hP2
  have hD := va_D.app hD1 (zD_r hD) hs
  refine lv_astore (lv' := [(5, .ref (q9)), (0, .ref (q 0)), (1, .int (zI ((d : Nat) : Int))), (2, .int (zI (i : Int))), (3, .int (tB (b))), (4, .ref (oa))]) hx hb dL_mark_22 hl (by decide) rfl (fun ls hl => ?_)
  refine zr_iconst hx hb dL_mark_24 ?_
  exact zret_I () Z hr hP hD hS rfl rfl ⟨Nat.le_of_ble_eq_true rfl, Nat.le_of_ble_eq_true rfl⟩ hQ dL_mark_25
abbrev r_L_mark_x3 : Room := { frames := 8, cells := 1, slots := 6, locals := 145 }
set_option maxHeartbeats 4000000 in
set_option maxRecDepth 100000 in
theorem m_L_mark_x3 (l : Launch) (G : ZG) (hst : l.stackTraces = false) (q : Nat → Nat) (σ : St) (κ : KC) (oa : Nat) (f : Nat → Int64) {e_d : Int} (d : Nat) (he_d : e_d = (d : Int)) {e_i : Int} (i : Nat) (he_i : e_i = (i : Int)) (b : Bool) (hI : okC σ) (h1 : i < σ.1 4) (h2 : d < σ.1 7) (h3 : σ.2.1 4 (30 * d + i) = 0) :
  MC l G yL_mark (wYW yL_mark cL_mark 6 (some .int) [(0, 19, 22, 35), (0, 19, 26, 15)]) r_L_mark_x3 (wC G q σ κ ++ [aL G oa 1 f]) [.ref (q 0), .int (zI e_d), .int (zI e_i), .int (tB (b)), .ref (oa)] (QI G (fun r9 (_ : Unit) => r9 = zI (2 : Int)) (fun _ => wC G q σ κ ++ [aL G oa 1 f])) := by
  subst he_d
  subst he_i
  refine MC.mkW (by decide +kernel) (Nat.le_of_ble_eq_true rfl) ?_
  intro p e s m av below meth c A H locs ls Q Z ht hr hnm hQ hP hD hS hl
  have hx := Z.1
  have hb := Z.2.1
  have hl : lv_has ls 6 [(0, .ref (q 0)), (1, .int (zI ((d : Nat) : Int))), (2, .int (zI ((i : Nat) : Int))), (3, .int (tB (b))), (4, .ref (oa))] := hl
  refine lv_aload hx hb dL_mark_0 (lv_at hl 4 rfl) ?_
  refine zr_iconst hx hb dL_mark_2 ?_
  refine lv_aload_n hx hb dL_mark_3 rfl (lv_at hl 0 rfl) ?_
  refine lv_iload_n hx hb dL_mark_4 rfl (lv_at hl 1 rfl) ?_
  refine lv_iload_n hx hb dL_mark_5 rfl (lv_at hl 2 rfl) ?_
  refine lv_iload_n hx hb dL_mark_6 rfl (lv_at hl 3 rfl) ?_
  refine zcatch Z (zP_r hP) (zD_sep hD) (zD_l hD) hS (zrunXV (rest := [.int (zI (0 : Int)), .ref oa]) Z (zP_l hP) (zD_l hD) hS hl.1 (m_X5_mark_x3 l G hst q σ κ d rfl i rfl b hI h1 h2 h3) zY_X5_mark km_L_109 (q0 := 0) rfl rfl rfl rfl ⟨⟨Nat.le_of_ble_eq_true rfl, Nat.le_of_ble_eq_true rfl⟩, Nat.le_of_ble_eq_true rfl, Nat.le_of_ble_eq_true rfl⟩ (Nat.le_of_ble_eq_true rfl) dL_mark_7) [⟨0, 19, 22, 35⟩] ⟨0, 19, 26, 15⟩ [] ht (fun z hz => by
    rw [List.mem_singleton] at hz; subst hz; exact Or.inr ⟨by decide, "java/lang/IndexOutOfBoundsException", kc_L_35, by decide +kernel⟩) (by decide) (by decide) kc_L_15 (by decide +kernel) (fun u q9 H locs hP1 hD1 hP2 hs hS => ?_)
  have hP := hP1.app hP2
  have hD := va_D.app hD1 (zD_r hD) hs
  refine lv_astore (lv' := [(5, .ref (q9)), (0, .ref (q 0)), (1, .int (zI ((d : Nat) : Int))), (2, .int (zI ((i : Nat) : Int))), (3, .int (tB (b))), (4, .ref (oa))]) hx hb dL_mark_26 hl (by decide) rfl (fun ls hl => ?_)
  refine zr_iconst hx hb dL_mark_28 ?_
  exact zret_I () Z hr hP hD hS rfl rfl ⟨Nat.le_of_ble_eq_true rfl, Nat.le_of_ble_eq_true rfl⟩ hQ dL_mark_29
abbrev r_L_markRiver : Room := { frames := 7, cells := 0, slots := 0, locals := 159 }
set_option maxHeartbeats 4000000 in
set_option maxRecDepth 100000 in
theorem m_L_markRiver (l : Launch) (G : ZG) (q : Nat → Nat) (σ : St) (κ : KC) (oa : Nat) (f : Nat → Int64) {e_d : Int} (d : Nat) (he_d : e_d = (d : Int)) {e_i : Int} (i : Nat) (he_i : e_i = (i : Int)) (hI : okC σ) (h1 : d < σ.1 7) (h2 : i < σ.1 6) :
  MC l G yL_markRiver (wYW yL_markRiver cL_markRiver 5 (some .int) [(0, 10, 13, 35)]) r_L_markRiver (wC G q σ κ ++ [aL G oa 1 f]) [.ref (q 0), .int (zI e_d), .int (zI e_i), .ref (oa)] (QI G (fun r9 (_ : Unit) => r9 = zI (0 : Int)) (fun _ => wC G q (mrS σ d (gth (shw σ i) (σ.2.1 10) (κ.1) (σ.1 4)).2 (gth (shw σ i) (σ.2.1 10) (κ.1) (σ.1 4)).1) ((gth (shw σ i) (σ.2.1 10) (κ.1) (σ.1 4)).2, κ.2.1, κ.2.2) ++ [aL G oa 1 (va_up f 0 ((zI ((mrC σ d (gth (shw σ i) (σ.2.1 10) (κ.1) (σ.1 4)).2 (gth (shw σ i) (σ.2.1 10) (κ.1) (σ.1 4)).1 : Nat) : Int)).toInt64))])) := by
  subst he_d
  subst he_i
  refine MC.mkW (by decide +kernel) (Nat.le_of_ble_eq_true rfl) ?_
  intro p e s m av below meth c A H locs ls Q Z ht hr hnm hQ hP hD hS hl
  have hx := Z.1
  have hb := Z.2.1
  have hl : lv_has ls 5 [(0, .ref (q 0)), (1, .int (zI ((d : Nat) : Int))), (2, .int (zI ((i : Nat) : Int))), (3, .ref (oa))] := hl
  refine lv_aload_n hx hb dL_markRiver_0 rfl (lv_at hl 3 rfl) ?_
  refine zr_iconst hx hb dL_markRiver_1 ?_
  refine lv_aload_n hx hb dL_markRiver_2 rfl (lv_at hl 0 rfl) ?_
  refine lv_iload_n hx hb dL_markRiver_3 rfl (lv_at hl 1 rfl) ?_
  refine lv_iload_n hx hb dL_markRiver_4 rfl (lv_at hl 2 rfl) ?_
  refine zfr_I ⟨rfl, rfl⟩ Z (zP_r hP) (zD_sep hD) (zD_l hD) hS (zrunV (rest := [.int (zI (0 : Int)), .ref oa]) Z (zP_l hP) (zD_l hD) hS hl.1 (m_X5_markRiver l G q σ κ d rfl i rfl hI h1 h2) zY_X5_markRiver km_L_113 (q0 := 0) rfl rfl rfl rfl ⟨⟨Nat.le_of_ble_eq_true rfl, Nat.le_of_ble_eq_true rfl⟩, Nat.le_of_ble_eq_true rfl, Nat.le_of_ble_eq_true rfl⟩ (Nat.le_of_ble_eq_true rfl) dL_markRiver_5) (fun r u H locs hp hP1 hD1 hP2 hs hS => ?_)
  obtain rfl : r = (zI ((mrC σ d (gth (shw σ i) (σ.2.1 10) (κ.1) (σ.1 4)).2 (gth (shw σ i) (σ.2.1 10) (κ.1) (σ.1 4)).1 : Nat) : Int)) := hp
  have hPn := hP1.app hP2
  have hDn := va_D.app hD1 (zD_r hD) hs
  refine lv_i2l hx hb dL_markRiver_8 rfl ?_
  refine stL (ws1 := wC G q (mrS σ d (gth (shw σ i) (σ.2.1 10) (κ.1) (σ.1 4)).2 (gth (shw σ i) (σ.2.1 10) (κ.1) (σ.1 4)).1) ((gth (shw σ i) (σ.2.1 10) (κ.1) (σ.1 4)).2, κ.2.1, κ.2.2) ++ [aL G oa 1 (va_up f 0 ((zI ((mrC σ d (gth (shw σ i) (σ.2.1 10) (κ.1) (σ.1 4)).2 (gth (shw σ i) (σ.2.1 10) (κ.1) (σ.1 4)).1 : Nat) : Int)).toInt64))]) Z hPn hDn hS 30 f rfl 0 rfl (by decide) (by decide) rfl dL_markRiver_9 (fun H locs hP hD hS => ?_)
  refine lv_goto (tgt := 17) hx hb dL_markRiver_10 (by decide) ?_
  refine zr_iconst hx hb dL_markRiver_17 ?_
  exact zret_I () Z hr hP hD hS rfl rfl ⟨Nat.le_of_ble_eq_true rfl, Nat.le_of_ble_eq_true rfl⟩ hQ dL_markRiver_18
abbrev r_L_markRiver_x1 : Room := { frames := 8, cells := 1, slots := 6, locals := 147 }
set_option maxHeartbeats 4000000 in
set_option maxRecDepth 100000 in
theorem m_L_markRiver_x1 (l : Launch) (G : ZG) (hst : l.stackTraces = false) (q : Nat → Nat) (σ : St) (κ : KC) (oa : Nat) (f : Nat → Int64) (d : Int) (i : Int) (hI : okC σ) (h1 : zR d) (h2 : d < 0 ∨ ((σ.1 7 : Nat) : Int) ≤ d) :
  MC l G yL_markRiver (wYW yL_markRiver cL_markRiver 5 (some .int) [(0, 10, 13, 35)]) r_L_markRiver_x1 (wC G q σ κ ++ [aL G oa 1 f]) [.ref (q 0), .int (zI (d : Int)), .int (zI (i : Int)), .ref (oa)] (QI G (fun r9 (_ : Unit) => r9 = zI (1 : Int)) (fun _ => wC G q σ κ ++ [aL G oa 1 f])) := by
  refine MC.mkW (by decide +kernel) (Nat.le_of_ble_eq_true rfl) ?_
  intro p e s m av below meth c A H locs ls Q Z ht hr hnm hQ hP hD hS hl
  have hx := Z.1
  have hb := Z.2.1
  have hl : lv_has ls 5 [(0, .ref (q 0)), (1, .int (zI (d : Int))), (2, .int (zI (i : Int))), (3, .ref (oa))] := hl
  refine lv_aload_n hx hb dL_markRiver_0 rfl (lv_at hl 3 rfl) ?_
  refine zr_iconst hx hb dL_markRiver_1 ?_
  refine lv_aload_n hx hb dL_markRiver_2 rfl (lv_at hl 0 rfl) ?_
  refine lv_iload_n hx hb dL_markRiver_3 rfl (lv_at hl 1 rfl) ?_
  refine lv_iload_n hx hb dL_markRiver_4 rfl (lv_at hl 2 rfl) ?_
  refine zcatch Z (zP_r hP) (zD_sep hD) (zD_l hD) hS (zrunXV (rest := [.int (zI (0 : Int)), .ref oa]) Z (zP_l hP) (zD_l hD) hS hl.1 (m_X5_markRiver_x1 l G hst q σ κ d i hI h1 h2) zY_X5_markRiver km_L_113 (q0 := 0) rfl rfl rfl rfl ⟨⟨Nat.le_of_ble_eq_true rfl, Nat.le_of_ble_eq_true rfl⟩, Nat.le_of_ble_eq_true rfl, Nat.le_of_ble_eq_true rfl⟩ (Nat.le_of_ble_eq_true rfl) dL_markRiver_5) [] ⟨0, 10, 13, 35⟩ [] ht (fun z hz => by cases hz) (by decide) (by decide) kc_L_35 (by decide +kernel) (fun u q9 H locs hP1 hD1 hP2 hs hS => ?_)
  have hP := hP1.app hP2
  have hD := va_D.app hD1 (zD_r hD) hs
  refine lv_astore (lv' := [(4, .ref (q9)), (0, .ref (q 0)), (1, .int (zI (d : Int))), (2, .int (zI (i : Int))), (3, .ref (oa))]) hx hb dL_markRiver_13 hl (by decide) rfl (fun ls hl => ?_)
  refine zr_iconst hx hb dL_markRiver_15 ?_
  exact zret_I () Z hr hP hD hS rfl rfl ⟨Nat.le_of_ble_eq_true rfl, Nat.le_of_ble_eq_true rfl⟩ hQ dL_markRiver_16
abbrev r_L_markRiver_x2 : Room := { frames := 8, cells := 1, slots := 6, locals := 147 }
set_option maxHeartbeats 4000000 in
set_option maxRecDepth 100000 in
theorem m_L_markRiver_x2 (l : Launch) (G : ZG) (hst : l.stackTraces = false) (q : Nat → Nat) (σ : St) (κ : KC) (oa : Nat) (f : Nat → Int64) {e_d : Int} (d : Nat) (he_d : e_d = (d : Int)) (i : Int) (hI : okC σ) (h4 : d < σ.1 7) (h1 : zR i) (h2 : i < 0 ∨ ((σ.1 6 : Nat) : Int) ≤ i) :
  MC l G yL_markRiver (wYW yL_markRiver cL_markRiver 5 (some .int) [(0, 10, 13, 35)]) r_L_markRiver_x2 (wC G q σ κ ++ [aL G oa 1 f]) [.ref (q 0), .int (zI e_d), .int (zI (i : Int)), .ref (oa)] (QI G (fun r9 (_ : Unit) => r9 = zI (1 : Int)) (fun _ => wC G q σ κ ++ [aL G oa 1 f])) := by
  subst he_d
  refine MC.mkW (by decide +kernel) (Nat.le_of_ble_eq_true rfl) ?_
  intro p e s m av below meth c A H locs ls Q Z ht hr hnm hQ hP hD hS hl
  have hx := Z.1
  have hb := Z.2.1
  have hl : lv_has ls 5 [(0, .ref (q 0)), (1, .int (zI ((d : Nat) : Int))), (2, .int (zI (i : Int))), (3, .ref (oa))] := hl
  refine lv_aload_n hx hb dL_markRiver_0 rfl (lv_at hl 3 rfl) ?_
  refine zr_iconst hx hb dL_markRiver_1 ?_
  refine lv_aload_n hx hb dL_markRiver_2 rfl (lv_at hl 0 rfl) ?_
  refine lv_iload_n hx hb dL_markRiver_3 rfl (lv_at hl 1 rfl) ?_
  refine lv_iload_n hx hb dL_markRiver_4 rfl (lv_at hl 2 rfl) ?_
  refine zcatch Z (zP_r hP) (zD_sep hD) (zD_l hD) hS (zrunXV (rest := [.int (zI (0 : Int)), .ref oa]) Z (zP_l hP) (zD_l hD) hS hl.1 (m_X5_markRiver_x2 l G hst q σ κ d rfl i hI h4 h1 h2) zY_X5_markRiver km_L_113 (q0 := 0) rfl rfl rfl rfl ⟨⟨Nat.le_of_ble_eq_true rfl, Nat.le_of_ble_eq_true rfl⟩, Nat.le_of_ble_eq_true rfl, Nat.le_of_ble_eq_true rfl⟩ (Nat.le_of_ble_eq_true rfl) dL_markRiver_5) [] ⟨0, 10, 13, 35⟩ [] ht (fun z hz => by cases hz) (by decide) (by decide) kc_L_35 (by decide +kernel) (fun u q9 H locs hP1 hD1 hP2 hs hS => ?_)
  have hP := hP1.app hP2
  have hD := va_D.app hD1 (zD_r hD) hs
  refine lv_astore (lv' := [(4, .ref (q9)), (0, .ref (q 0)), (1, .int (zI ((d : Nat) : Int))), (2, .int (zI (i : Int))), (3, .ref (oa))]) hx hb dL_markRiver_13 hl (by decide) rfl (fun ls hl => ?_)
  refine zr_iconst hx hb dL_markRiver_15 ?_
  exact zret_I () Z hr hP hD hS rfl rfl ⟨Nat.le_of_ble_eq_true rfl, Nat.le_of_ble_eq_true rfl⟩ hQ dL_markRiver_16
abbrev r_L_matches : Room := { frames := 5, cells := 0, slots := 0, locals := 112 }
set_option maxHeartbeats 4000000 in
set_option maxRecDepth 100000 in
theorem m_L_matches (l : Launch) (G : ZG) (q : Nat → Nat) (σ : St) (κ : KC) (oa : Nat) (f : Nat → Int64) {e_i : Int} (i : Nat) (he_i : e_i = (i : Int)) (hI : okC σ) (h1 : i < σ.1 5) :
  MC l G yL_matches (wYW yL_matches cL_matches 4 (some .int) [(0, 9, 12, 35)]) r_L_matches (wC G q σ κ ++ [aL G oa 1 f]) [.ref (q 0), .int (zI e_i), .ref (oa)] (QI G (fun r9 (_ : Unit) => r9 = zI (0 : Int)) (fun _ => wC G q σ κ ++ [aL G oa 1 (va_up f 0 ((zI ((cnt (mtc σ i) (σ.1 4) : Nat) : Int)).toInt64))])) := by
  subst he_i
  refine MC.mkW (by decide +kernel) (Nat.le_of_ble_eq_true rfl) ?_
  intro p e s m av below meth c A H locs ls Q Z ht hr hnm hQ hP hD hS hl
  have hx := Z.1
  have hb := Z.2.1
  have hl : lv_has ls 4 [(0, .ref (q 0)), (1, .int (zI ((i : Nat) : Int))), (2, .ref (oa))] := hl
  refine lv_aload_n hx hb dL_matches_0 rfl (lv_at hl 2 rfl) ?_
  refine zr_iconst hx hb dL_matches_1 ?_
  refine lv_aload_n hx hb dL_matches_2 rfl (lv_at hl 0 rfl) ?_
  refine lv_iload_n hx hb dL_matches_3 rfl (lv_at hl 1 rfl) ?_
  refine zfr_I ⟨rfl, rfl⟩ Z (zP_r hP) (zD_sep hD) (zD_l hD) hS (zrunV (rest := [.int (zI (0 : Int)), .ref oa]) Z (zP_l hP) (zD_l hD) hS hl.1 (m_X5_matches l G q σ κ i rfl hI h1) zY_X5_matches km_L_76 (q0 := 0) rfl rfl rfl rfl ⟨⟨Nat.le_of_ble_eq_true rfl, Nat.le_of_ble_eq_true rfl⟩, Nat.le_of_ble_eq_true rfl, Nat.le_of_ble_eq_true rfl⟩ (Nat.le_of_ble_eq_true rfl) dL_matches_4) (fun r u H locs hp hP1 hD1 hP2 hs hS => ?_)
  obtain rfl : r = (zI ((cnt (mtc σ i) (σ.1 4) : Nat) : Int)) := hp
  have hPn := hP1.app hP2
  have hDn := va_D.app hD1 (zD_r hD) hs
  refine lv_i2l hx hb dL_matches_7 rfl ?_
  refine stL (ws1 := wC G q σ κ ++ [aL G oa 1 (va_up f 0 ((zI ((cnt (mtc σ i) (σ.1 4) : Nat) : Int)).toInt64))]) Z hPn hDn hS 30 f rfl 0 rfl (by decide) (by decide) rfl dL_matches_8 (fun H locs hP hD hS => ?_)
  refine lv_goto (tgt := 15) hx hb dL_matches_9 (by decide) ?_
  refine zr_iconst hx hb dL_matches_15 ?_
  exact zret_I () Z hr hP hD hS rfl rfl ⟨Nat.le_of_ble_eq_true rfl, Nat.le_of_ble_eq_true rfl⟩ hQ dL_matches_16
abbrev r_L_matches_x : Room := { frames := 8, cells := 1, slots := 6, locals := 147 }
set_option maxHeartbeats 4000000 in
set_option maxRecDepth 100000 in
theorem m_L_matches_x (l : Launch) (G : ZG) (hst : l.stackTraces = false) (q : Nat → Nat) (σ : St) (κ : KC) (oa : Nat) (f : Nat → Int64) (i : Int) (hI : okC σ) (h1 : zR i) (h2 : i < 0 ∨ ((σ.1 5 : Nat) : Int) ≤ i) :
  MC l G yL_matches (wYW yL_matches cL_matches 4 (some .int) [(0, 9, 12, 35)]) r_L_matches_x (wC G q σ κ ++ [aL G oa 1 f]) [.ref (q 0), .int (zI (i : Int)), .ref (oa)] (QI G (fun r9 (_ : Unit) => r9 = zI (1 : Int)) (fun _ => wC G q σ κ ++ [aL G oa 1 f])) := by
  refine MC.mkW (by decide +kernel) (Nat.le_of_ble_eq_true rfl) ?_
  intro p e s m av below meth c A H locs ls Q Z ht hr hnm hQ hP hD hS hl
  have hx := Z.1
  have hb := Z.2.1
  have hl : lv_has ls 4 [(0, .ref (q 0)), (1, .int (zI (i : Int))), (2, .ref (oa))] := hl
  refine lv_aload_n hx hb dL_matches_0 rfl (lv_at hl 2 rfl) ?_
  refine zr_iconst hx hb dL_matches_1 ?_
  refine lv_aload_n hx hb dL_matches_2 rfl (lv_at hl 0 rfl) ?_
  refine lv_iload_n hx hb dL_matches_3 rfl (lv_at hl 1 rfl) ?_
  refine zcatch Z (zP_r hP) (zD_sep hD) (zD_l hD) hS (zrunXV (rest := [.int (zI (0 : Int)), .ref oa]) Z (zP_l hP) (zD_l hD) hS hl.1 (m_X5_matches_x l G hst q σ κ i hI h1 h2) zY_X5_matches km_L_76 (q0 := 0) rfl rfl rfl rfl ⟨⟨Nat.le_of_ble_eq_true rfl, Nat.le_of_ble_eq_true rfl⟩, Nat.le_of_ble_eq_true rfl, Nat.le_of_ble_eq_true rfl⟩ (Nat.le_of_ble_eq_true rfl) dL_matches_4) [] ⟨0, 9, 12, 35⟩ [] ht (fun z hz => by cases hz) (by decide) (by decide) kc_L_35 (by decide +kernel) (fun u q9 H locs hP1 hD1 hP2 hs hS => ?_)
  have hP := hP1.app hP2
  have hD := va_D.app hD1 (zD_r hD) hs
  refine lv_astore_n (lv' := [(3, .ref (q9)), (0, .ref (q 0)), (1, .int (zI (i : Int))), (2, .ref (oa))]) hx hb dL_matches_12 rfl hl (by decide) rfl (fun ls hl => ?_)
  refine zr_iconst hx hb dL_matches_13 ?_
  exact zret_I () Z hr hP hD hS rfl rfl ⟨Nat.le_of_ble_eq_true rfl, Nat.le_of_ble_eq_true rfl⟩ hQ dL_matches_14
abbrev r_L_nextUnread : Room := { frames := 7, cells := 0, slots := 0, locals := 156 }
set_option maxHeartbeats 4000000 in
set_option maxRecDepth 100000 in
theorem m_L_nextUnread (l : Launch) (G : ZG) (q : Nat → Nat) (σ : St) (κ : KC) (oa : Nat) (f : Nat → Int64) {e_i : Int} (i : Nat) (he_i : e_i = (i : Int)) (hI : okC σ) (h1 : i < σ.1 6) (h2 : ∃ y9, y9 < (gth (shw σ i) (σ.2.1 10) (κ.1) (σ.1 4)).1 ∧ rdR σ ((gth (shw σ i) (σ.2.1 10) (κ.1) (σ.1 4)).2 y9) = false) :
  MC l G yL_nextUnread (wYW yL_nextUnread cL_nextUnread 4 (some .int) [(0, 9, 12, 35), (0, 9, 15, 41)]) r_L_nextUnread (wC G q σ κ ++ [aL G oa 1 f]) [.ref (q 0), .int (zI e_i), .ref (oa)] (QI G (fun r9 (_ : Unit) => r9 = zI (0 : Int)) (fun _ => wC G q σ ((gth (shw σ i) (σ.2.1 10) (κ.1) (σ.1 4)).2, κ.2.1, κ.2.2) ++ [aL G oa 1 (va_up f 0 ((zI (((gth (shw σ i) (σ.2.1 10) (κ.1) (σ.1 4)).2 (fI (fun y9 => !rdR σ ((gth (shw σ i) (σ.2.1 10) (κ.1) (σ.1 4)).2 y9)) (gth (shw σ i) (σ.2.1 10) (κ.1) (σ.1 4)).1).toNat : Nat) : Int)).toInt64))])) := by
  subst he_i
  refine MC.mkW (by decide +kernel) (Nat.le_of_ble_eq_true rfl) ?_
  intro p e s m av below meth c A H locs ls Q Z ht hr hnm hQ hP hD hS hl
  have hx := Z.1
  have hb := Z.2.1
  have hl : lv_has ls 4 [(0, .ref (q 0)), (1, .int (zI ((i : Nat) : Int))), (2, .ref (oa))] := hl
  refine lv_aload_n hx hb dL_nextUnread_0 rfl (lv_at hl 2 rfl) ?_
  refine zr_iconst hx hb dL_nextUnread_1 ?_
  refine lv_aload_n hx hb dL_nextUnread_2 rfl (lv_at hl 0 rfl) ?_
  refine lv_iload_n hx hb dL_nextUnread_3 rfl (lv_at hl 1 rfl) ?_
  refine zfr_I ⟨rfl, rfl⟩ Z (zP_r hP) (zD_sep hD) (zD_l hD) hS (zrunV (rest := [.int (zI (0 : Int)), .ref oa]) Z (zP_l hP) (zD_l hD) hS hl.1 (m_X5_nextUnread l G q σ κ i rfl hI h1 h2) zY_X5_nextUnread km_L_97 (q0 := 0) rfl rfl rfl rfl ⟨⟨Nat.le_of_ble_eq_true rfl, Nat.le_of_ble_eq_true rfl⟩, Nat.le_of_ble_eq_true rfl, Nat.le_of_ble_eq_true rfl⟩ (Nat.le_of_ble_eq_true rfl) dL_nextUnread_4) (fun r u H locs hp hP1 hD1 hP2 hs hS => ?_)
  obtain rfl : r = (zI (((gth (shw σ i) (σ.2.1 10) (κ.1) (σ.1 4)).2 (fI (fun y9 => !rdR σ ((gth (shw σ i) (σ.2.1 10) (κ.1) (σ.1 4)).2 y9)) (gth (shw σ i) (σ.2.1 10) (κ.1) (σ.1 4)).1).toNat : Nat) : Int)) := hp
  have hPn := hP1.app hP2
  have hDn := va_D.app hD1 (zD_r hD) hs
  refine lv_i2l hx hb dL_nextUnread_7 rfl ?_
  refine stL (ws1 := wC G q σ ((gth (shw σ i) (σ.2.1 10) (κ.1) (σ.1 4)).2, κ.2.1, κ.2.2) ++ [aL G oa 1 (va_up f 0 ((zI (((gth (shw σ i) (σ.2.1 10) (κ.1) (σ.1 4)).2 (fI (fun y9 => !rdR σ ((gth (shw σ i) (σ.2.1 10) (κ.1) (σ.1 4)).2 y9)) (gth (shw σ i) (σ.2.1 10) (κ.1) (σ.1 4)).1).toNat : Nat) : Int)).toInt64))]) Z hPn hDn hS 30 f rfl 0 rfl (by decide) (by decide) rfl dL_nextUnread_8 (fun H locs hP hD hS => ?_)
  refine lv_goto (tgt := 18) hx hb dL_nextUnread_9 (by decide) ?_
  refine zr_iconst hx hb dL_nextUnread_18 ?_
  exact zret_I () Z hr hP hD hS rfl rfl ⟨Nat.le_of_ble_eq_true rfl, Nat.le_of_ble_eq_true rfl⟩ hQ dL_nextUnread_19
abbrev r_L_nextUnread_x1 : Room := { frames := 8, cells := 1, slots := 6, locals := 144 }
set_option maxHeartbeats 4000000 in
set_option maxRecDepth 100000 in
theorem m_L_nextUnread_x1 (l : Launch) (G : ZG) (hst : l.stackTraces = false) (q : Nat → Nat) (σ : St) (κ : KC) (oa : Nat) (f : Nat → Int64) (i : Int) (hI : okC σ) (h1 : zR i) (h2 : i < 0 ∨ ((σ.1 6 : Nat) : Int) ≤ i) :
  MC l G yL_nextUnread (wYW yL_nextUnread cL_nextUnread 4 (some .int) [(0, 9, 12, 35), (0, 9, 15, 41)]) r_L_nextUnread_x1 (wC G q σ κ ++ [aL G oa 1 f]) [.ref (q 0), .int (zI (i : Int)), .ref (oa)] (QI G (fun r9 (_ : KC) => r9 = zI (1 : Int)) (fun u => wC G q σ u ++ [aL G oa 1 f])) := by
  refine MC.mkW (by decide +kernel) (Nat.le_of_ble_eq_true rfl) ?_
  intro p e s m av below meth c A H locs ls Q Z ht hr hnm hQ hP hD hS hl
  have hx := Z.1
  have hb := Z.2.1
  have hl : lv_has ls 4 [(0, .ref (q 0)), (1, .int (zI (i : Int))), (2, .ref (oa))] := hl
  refine lv_aload_n hx hb dL_nextUnread_0 rfl (lv_at hl 2 rfl) ?_
  refine zr_iconst hx hb dL_nextUnread_1 ?_
  refine lv_aload_n hx hb dL_nextUnread_2 rfl (lv_at hl 0 rfl) ?_
  refine lv_iload_n hx hb dL_nextUnread_3 rfl (lv_at hl 1 rfl) ?_
  refine zcatch Z (zP_r hP) (zD_sep hD) (zD_l hD) hS (zrunXV (rest := [.int (zI (0 : Int)), .ref oa]) Z (zP_l hP) (zD_l hD) hS hl.1 (m_X5_nextUnread_x1 l G hst q σ κ i hI h1 h2) zY_X5_nextUnread km_L_97 (q0 := 0) rfl rfl rfl rfl ⟨⟨Nat.le_of_ble_eq_true rfl, Nat.le_of_ble_eq_true rfl⟩, Nat.le_of_ble_eq_true rfl, Nat.le_of_ble_eq_true rfl⟩ (Nat.le_of_ble_eq_true rfl) dL_nextUnread_4) [] ⟨0, 9, 12, 35⟩ [⟨0, 9, 15, 41⟩] ht (fun z hz => by cases hz) (by decide) (by decide) kc_L_35 (by decide +kernel) (fun u q9 H locs hP1 hD1 hP2 hs hS => ?_)
  have hP := hP1.app hP2
  have hD := va_D.app hD1 (zD_r hD) hs
  refine lv_astore_n (lv' := [(3, .ref (q9)), (0, .ref (q 0)), (1, .int (zI (i : Int))), (2, .ref (oa))]) hx hb dL_nextUnread_12 rfl hl (by decide) rfl (fun ls hl => ?_)
  refine zr_iconst hx hb dL_nextUnread_13 ?_
  exact zret_I u Z hr hP hD hS rfl rfl ⟨Nat.le_of_ble_eq_true rfl, Nat.le_of_ble_eq_true rfl⟩ hQ dL_nextUnread_14
abbrev r_L_nextUnread_x2 : Room := { frames := 7, cells := 1, slots := 6, locals := 156 }
set_option maxHeartbeats 4000000 in
set_option maxRecDepth 100000 in
theorem m_L_nextUnread_x2 (l : Launch) (G : ZG) (hst : l.stackTraces = false) (q : Nat → Nat) (σ : St) (κ : KC) (oa : Nat) (f : Nat → Int64) {e_i : Int} (i : Nat) (he_i : e_i = (i : Int)) (hI : okC σ) (h1 : i < σ.1 6) (h2 : ∀ y9, y9 < (gth (shw σ i) (σ.2.1 10) (κ.1) (σ.1 4)).1 → rdR σ ((gth (shw σ i) (σ.2.1 10) (κ.1) (σ.1 4)).2 y9) = true) :
  MC l G yL_nextUnread (wYW yL_nextUnread cL_nextUnread 4 (some .int) [(0, 9, 12, 35), (0, 9, 15, 41)]) r_L_nextUnread_x2 (wC G q σ κ ++ [aL G oa 1 f]) [.ref (q 0), .int (zI e_i), .ref (oa)] (QI G (fun r9 (_ : KC) => r9 = zI (2 : Int)) (fun u => wC G q σ u ++ [aL G oa 1 f])) := by
  subst he_i
  refine MC.mkW (by decide +kernel) (Nat.le_of_ble_eq_true rfl) ?_
  intro p e s m av below meth c A H locs ls Q Z ht hr hnm hQ hP hD hS hl
  have hx := Z.1
  have hb := Z.2.1
  have hl : lv_has ls 4 [(0, .ref (q 0)), (1, .int (zI ((i : Nat) : Int))), (2, .ref (oa))] := hl
  refine lv_aload_n hx hb dL_nextUnread_0 rfl (lv_at hl 2 rfl) ?_
  refine zr_iconst hx hb dL_nextUnread_1 ?_
  refine lv_aload_n hx hb dL_nextUnread_2 rfl (lv_at hl 0 rfl) ?_
  refine lv_iload_n hx hb dL_nextUnread_3 rfl (lv_at hl 1 rfl) ?_
  refine zcatch Z (zP_r hP) (zD_sep hD) (zD_l hD) hS (zrunXV (rest := [.int (zI (0 : Int)), .ref oa]) Z (zP_l hP) (zD_l hD) hS hl.1 (m_X5_nextUnread_x2 l G hst q σ κ i rfl hI h1 h2) zY_X5_nextUnread km_L_97 (q0 := 0) rfl rfl rfl rfl ⟨⟨Nat.le_of_ble_eq_true rfl, Nat.le_of_ble_eq_true rfl⟩, Nat.le_of_ble_eq_true rfl, Nat.le_of_ble_eq_true rfl⟩ (Nat.le_of_ble_eq_true rfl) dL_nextUnread_4) [⟨0, 9, 12, 35⟩] ⟨0, 9, 15, 41⟩ [] ht (fun z hz => by
    rw [List.mem_singleton] at hz; subst hz; exact Or.inr ⟨by decide, "java/lang/IndexOutOfBoundsException", kc_L_35, by decide +kernel⟩) (by decide) (by decide) kc_L_41 (by decide +kernel) (fun u q9 H locs hP1 hD1 hP2 hs hS => ?_)
  have hP := hP1.app hP2
  have hD := va_D.app hD1 (zD_r hD) hs
  refine lv_astore_n (lv' := [(3, .ref (q9)), (0, .ref (q 0)), (1, .int (zI ((i : Nat) : Int))), (2, .ref (oa))]) hx hb dL_nextUnread_15 rfl hl (by decide) rfl (fun ls hl => ?_)
  refine zr_iconst hx hb dL_nextUnread_16 ?_
  exact zret_I u Z hr hP hD hS rfl rfl ⟨Nat.le_of_ble_eq_true rfl, Nat.le_of_ble_eq_true rfl⟩ hQ dL_nextUnread_17
abbrev r_L_pass : Room := { frames := 1, cells := 0, slots := 0, locals := 21 }
set_option maxHeartbeats 4000000 in
set_option maxRecDepth 100000 in
theorem m_L_pass (l : Launch) (G : ZG) (q : Nat → Nat) (σ : St) (κ : KC) (oa : Nat) (f : Nat → Int64) {e_a : Int} (a : Nat) (he_a : e_a = (a : Int)) (hI : okC σ) (h1 : 1 ≤ a) (h2 : a ≤ 2000) (h3 : σ.1 0 + a ≤ 99999) :
  MC l G yL_pass (wYW yL_pass cL_pass 4 (some .int) [(0, 9, 12, 13), (0, 9, 15, 15)]) r_L_pass (wC G q σ κ ++ [aL G oa 1 f]) [.ref (q 0), .int (zI e_a), .ref (oa)] (QI G (fun r9 (_ : Unit) => r9 = zI (0 : Int)) (fun _ => wC G q (sN σ 0 (σ.1 0 + a)) κ ++ [aL G oa 1 (va_up f 0 ((zI ((σ.1 0 + a : Nat) : Int)).toInt64))])) := by
  subst he_a
  refine MC.mkW (by decide +kernel) (Nat.le_of_ble_eq_true rfl) ?_
  intro p e s m av below meth c A H locs ls Q Z ht hr hnm hQ hP hD hS hl
  have hx := Z.1
  have hb := Z.2.1
  have hl : lv_has ls 4 [(0, .ref (q 0)), (1, .int (zI ((a : Nat) : Int))), (2, .ref (oa))] := hl
  refine lv_aload_n hx hb dL_pass_0 rfl (lv_at hl 2 rfl) ?_
  refine zr_iconst hx hb dL_pass_1 ?_
  refine lv_aload_n hx hb dL_pass_2 rfl (lv_at hl 0 rfl) ?_
  refine lv_iload_n hx hb dL_pass_3 rfl (lv_at hl 1 rfl) ?_
  refine zfr_I ⟨rfl, rfl⟩ Z (zP_r hP) (zD_sep hD) (zD_l hD) hS (zrunV (rest := [.int (zI (0 : Int)), .ref oa]) Z (zP_l hP) (zD_l hD) hS hl.1 (m_X5_pass l G q σ κ a rfl hI h1 h2 h3) zY_X5_pass km_L_7 (q0 := 0) rfl rfl rfl rfl ⟨⟨Nat.le_of_ble_eq_true rfl, Nat.le_of_ble_eq_true rfl⟩, Nat.le_of_ble_eq_true rfl, Nat.le_of_ble_eq_true rfl⟩ (Nat.le_of_ble_eq_true rfl) dL_pass_4) (fun r u H locs hp hP1 hD1 hP2 hs hS => ?_)
  obtain rfl : r = (zI ((σ.1 0 + a : Nat) : Int)) := hp
  have hPn := hP1.app hP2
  have hDn := va_D.app hD1 (zD_r hD) hs
  refine lv_i2l hx hb dL_pass_7 rfl ?_
  refine stL (ws1 := wC G q (sN σ 0 (σ.1 0 + a)) κ ++ [aL G oa 1 (va_up f 0 ((zI ((σ.1 0 + a : Nat) : Int)).toInt64))]) Z hPn hDn hS 30 f rfl 0 rfl (by decide) (by decide) rfl dL_pass_8 (fun H locs hP hD hS => ?_)
  refine lv_goto (tgt := 18) hx hb dL_pass_9 (by decide) ?_
  refine zr_iconst hx hb dL_pass_18 ?_
  exact zret_I () Z hr hP hD hS rfl rfl ⟨Nat.le_of_ble_eq_true rfl, Nat.le_of_ble_eq_true rfl⟩ hQ dL_pass_19
abbrev r_L_pass_x1 : Room := { frames := 7, cells := 1, slots := 6, locals := 121 }
set_option maxHeartbeats 4000000 in
set_option maxRecDepth 100000 in
theorem m_L_pass_x1 (l : Launch) (G : ZG) (hst : l.stackTraces = false) (q : Nat → Nat) (σ : St) (κ : KC) (oa : Nat) (f : Nat → Int64) (a : Int) (hI : okC σ) (h1 : zR a) (h2 : a < 1 ∨ 2000 < a) :
  MC l G yL_pass (wYW yL_pass cL_pass 4 (some .int) [(0, 9, 12, 13), (0, 9, 15, 15)]) r_L_pass_x1 (wC G q σ κ ++ [aL G oa 1 f]) [.ref (q 0), .int (zI (a : Int)), .ref (oa)] (QI G (fun r9 (_ : Unit) => r9 = zI (1 : Int)) (fun _ => wC G q σ κ ++ [aL G oa 1 f])) := by
  refine MC.mkW (by decide +kernel) (Nat.le_of_ble_eq_true rfl) ?_
  intro p e s m av below meth c A H locs ls Q Z ht hr hnm hQ hP hD hS hl
  have hx := Z.1
  have hb := Z.2.1
  have hl : lv_has ls 4 [(0, .ref (q 0)), (1, .int (zI (a : Int))), (2, .ref (oa))] := hl
  refine lv_aload_n hx hb dL_pass_0 rfl (lv_at hl 2 rfl) ?_
  refine zr_iconst hx hb dL_pass_1 ?_
  refine lv_aload_n hx hb dL_pass_2 rfl (lv_at hl 0 rfl) ?_
  refine lv_iload_n hx hb dL_pass_3 rfl (lv_at hl 1 rfl) ?_
  refine zcatch Z (zP_r hP) (zD_sep hD) (zD_l hD) hS (zrunXV (rest := [.int (zI (0 : Int)), .ref oa]) Z (zP_l hP) (zD_l hD) hS hl.1 (m_X5_pass_x1 l G hst q σ κ a hI h1 h2) zY_X5_pass km_L_7 (q0 := 0) rfl rfl rfl rfl ⟨⟨Nat.le_of_ble_eq_true rfl, Nat.le_of_ble_eq_true rfl⟩, Nat.le_of_ble_eq_true rfl, Nat.le_of_ble_eq_true rfl⟩ (Nat.le_of_ble_eq_true rfl) dL_pass_4) [] ⟨0, 9, 12, 13⟩ [⟨0, 9, 15, 15⟩] ht (fun z hz => by cases hz) (by decide) (by decide) kc_L_13 (by decide +kernel) (fun u q9 H locs hP1 hD1 hP2 hs hS => ?_)
  have hP := hP1.app hP2
  have hD := va_D.app hD1 (zD_r hD) hs
  refine lv_astore_n (lv' := [(3, .ref (q9)), (0, .ref (q 0)), (1, .int (zI (a : Int))), (2, .ref (oa))]) hx hb dL_pass_12 rfl hl (by decide) rfl (fun ls hl => ?_)
  refine zr_iconst hx hb dL_pass_13 ?_
  exact zret_I () Z hr hP hD hS rfl rfl ⟨Nat.le_of_ble_eq_true rfl, Nat.le_of_ble_eq_true rfl⟩ hQ dL_pass_14
abbrev r_L_pass_x2 : Room := { frames := 7, cells := 1, slots := 6, locals := 121 }
set_option maxHeartbeats 4000000 in
set_option maxRecDepth 100000 in
theorem m_L_pass_x2 (l : Launch) (G : ZG) (hst : l.stackTraces = false) (q : Nat → Nat) (σ : St) (κ : KC) (oa : Nat) (f : Nat → Int64) {e_a : Int} (a : Nat) (he_a : e_a = (a : Int)) (hI : okC σ) (h1 : 1 ≤ a) (h2 : a ≤ 2000) (h3 : 99999 < σ.1 0 + a) :
  MC l G yL_pass (wYW yL_pass cL_pass 4 (some .int) [(0, 9, 12, 13), (0, 9, 15, 15)]) r_L_pass_x2 (wC G q σ κ ++ [aL G oa 1 f]) [.ref (q 0), .int (zI e_a), .ref (oa)] (QI G (fun r9 (_ : Unit) => r9 = zI (2 : Int)) (fun _ => wC G q σ κ ++ [aL G oa 1 f])) := by
  subst he_a
  refine MC.mkW (by decide +kernel) (Nat.le_of_ble_eq_true rfl) ?_
  intro p e s m av below meth c A H locs ls Q Z ht hr hnm hQ hP hD hS hl
  have hx := Z.1
  have hb := Z.2.1
  have hl : lv_has ls 4 [(0, .ref (q 0)), (1, .int (zI ((a : Nat) : Int))), (2, .ref (oa))] := hl
  refine lv_aload_n hx hb dL_pass_0 rfl (lv_at hl 2 rfl) ?_
  refine zr_iconst hx hb dL_pass_1 ?_
  refine lv_aload_n hx hb dL_pass_2 rfl (lv_at hl 0 rfl) ?_
  refine lv_iload_n hx hb dL_pass_3 rfl (lv_at hl 1 rfl) ?_
  refine zcatch Z (zP_r hP) (zD_sep hD) (zD_l hD) hS (zrunXV (rest := [.int (zI (0 : Int)), .ref oa]) Z (zP_l hP) (zD_l hD) hS hl.1 (m_X5_pass_x2 l G hst q σ κ a rfl hI h1 h2 h3) zY_X5_pass km_L_7 (q0 := 0) rfl rfl rfl rfl ⟨⟨Nat.le_of_ble_eq_true rfl, Nat.le_of_ble_eq_true rfl⟩, Nat.le_of_ble_eq_true rfl, Nat.le_of_ble_eq_true rfl⟩ (Nat.le_of_ble_eq_true rfl) dL_pass_4) [⟨0, 9, 12, 13⟩] ⟨0, 9, 15, 15⟩ [] ht (fun z hz => by
    rw [List.mem_singleton] at hz; subst hz; exact Or.inr ⟨by decide, "java/lang/IllegalArgumentException", kc_L_13, by decide +kernel⟩) (by decide) (by decide) kc_L_15 (by decide +kernel) (fun u q9 H locs hP1 hD1 hP2 hs hS => ?_)
  have hP := hP1.app hP2
  have hD := va_D.app hD1 (zD_r hD) hs
  refine lv_astore_n (lv' := [(3, .ref (q9)), (0, .ref (q 0)), (1, .int (zI ((a : Nat) : Int))), (2, .ref (oa))]) hx hb dL_pass_15 rfl hl (by decide) rfl (fun ls hl => ?_)
  refine zr_iconst hx hb dL_pass_16 ?_
  exact zret_I () Z hr hP hD hS rfl rfl ⟨Nat.le_of_ble_eq_true rfl, Nat.le_of_ble_eq_true rfl⟩ hQ dL_pass_17
abbrev r_L_rankOf : Room := { frames := 7, cells := 0, slots := 0, locals := 157 }
set_option maxHeartbeats 4000000 in
set_option maxRecDepth 100000 in
theorem m_L_rankOf (l : Launch) (G : ZG) (q : Nat → Nat) (σ : St) (κ : KC) (oa : Nat) (f : Nat → Int64) {e_i : Int} (i : Nat) (he_i : e_i = (i : Int)) {e_b : Int} (b : Nat) (he_b : e_b = (b : Int)) (hI : okC σ) (h1 : i < σ.1 6) (h2 : b < σ.1 4) (h3 : ∃ y9, y9 < (gth (shw σ i) (σ.2.1 10) (κ.1) (σ.1 4)).1 ∧ (gth (shw σ i) (σ.2.1 10) (κ.1) (σ.1 4)).2 y9 = b) :
  MC l G yL_rankOf (wYW yL_rankOf cL_rankOf 5 (some .int) [(0, 10, 13, 35), (0, 10, 17, 41)]) r_L_rankOf (wC G q σ κ ++ [aL G oa 1 f]) [.ref (q 0), .int (zI e_i), .int (zI e_b), .ref (oa)] (QI G (fun r9 (_ : Unit) => r9 = zI (0 : Int)) (fun _ => wC G q σ ((gth (shw σ i) (σ.2.1 10) (κ.1) (σ.1 4)).2, κ.2.1, κ.2.2) ++ [aL G oa 1 (va_up f 0 ((zI (fI (fun y9 => (gth (shw σ i) (σ.2.1 10) (κ.1) (σ.1 4)).2 y9 == b) (gth (shw σ i) (σ.2.1 10) (κ.1) (σ.1 4)).1 : Int)).toInt64))])) := by
  subst he_i
  subst he_b
  refine MC.mkW (by decide +kernel) (Nat.le_of_ble_eq_true rfl) ?_
  intro p e s m av below meth c A H locs ls Q Z ht hr hnm hQ hP hD hS hl
  have hx := Z.1
  have hb := Z.2.1
  have hl : lv_has ls 5 [(0, .ref (q 0)), (1, .int (zI ((i : Nat) : Int))), (2, .int (zI ((b : Nat) : Int))), (3, .ref (oa))] := hl
  refine lv_aload_n hx hb dL_rankOf_0 rfl (lv_at hl 3 rfl) ?_
  refine zr_iconst hx hb dL_rankOf_1 ?_
  refine lv_aload_n hx hb dL_rankOf_2 rfl (lv_at hl 0 rfl) ?_
  refine lv_iload_n hx hb dL_rankOf_3 rfl (lv_at hl 1 rfl) ?_
  refine lv_iload_n hx hb dL_rankOf_4 rfl (lv_at hl 2 rfl) ?_
  refine zfr_I ⟨rfl, rfl⟩ Z (zP_r hP) (zD_sep hD) (zD_l hD) hS (zrunV (rest := [.int (zI (0 : Int)), .ref oa]) Z (zP_l hP) (zD_l hD) hS hl.1 (m_X5_rankOf l G q σ κ i rfl b rfl hI h1 h2 h3) zY_X5_rankOf km_L_91 (q0 := 0) rfl rfl rfl rfl ⟨⟨Nat.le_of_ble_eq_true rfl, Nat.le_of_ble_eq_true rfl⟩, Nat.le_of_ble_eq_true rfl, Nat.le_of_ble_eq_true rfl⟩ (Nat.le_of_ble_eq_true rfl) dL_rankOf_5) (fun r u H locs hp hP1 hD1 hP2 hs hS => ?_)
  obtain rfl : r = (zI (fI (fun y9 => (gth (shw σ i) (σ.2.1 10) (κ.1) (σ.1 4)).2 y9 == b) (gth (shw σ i) (σ.2.1 10) (κ.1) (σ.1 4)).1 : Int)) := hp
  have hPn := hP1.app hP2
  have hDn := va_D.app hD1 (zD_r hD) hs
  refine lv_i2l hx hb dL_rankOf_8 rfl ?_
  refine stL (ws1 := wC G q σ ((gth (shw σ i) (σ.2.1 10) (κ.1) (σ.1 4)).2, κ.2.1, κ.2.2) ++ [aL G oa 1 (va_up f 0 ((zI (fI (fun y9 => (gth (shw σ i) (σ.2.1 10) (κ.1) (σ.1 4)).2 y9 == b) (gth (shw σ i) (σ.2.1 10) (κ.1) (σ.1 4)).1 : Int)).toInt64))]) Z hPn hDn hS 30 f rfl 0 rfl (by decide) (by decide) rfl dL_rankOf_9 (fun H locs hP hD hS => ?_)
  refine lv_goto (tgt := 21) hx hb dL_rankOf_10 (by decide) ?_
  refine zr_iconst hx hb dL_rankOf_21 ?_
  exact zret_I () Z hr hP hD hS rfl rfl ⟨Nat.le_of_ble_eq_true rfl, Nat.le_of_ble_eq_true rfl⟩ hQ dL_rankOf_22
abbrev r_L_rankOf_x1 : Room := { frames := 8, cells := 1, slots := 6, locals := 145 }
set_option maxHeartbeats 4000000 in
set_option maxRecDepth 100000 in
theorem m_L_rankOf_x1 (l : Launch) (G : ZG) (hst : l.stackTraces = false) (q : Nat → Nat) (σ : St) (κ : KC) (oa : Nat) (f : Nat → Int64) (i : Int) (b : Int) (hI : okC σ) (h1 : zR i) (h2 : i < 0 ∨ ((σ.1 6 : Nat) : Int) ≤ i) :
  MC l G yL_rankOf (wYW yL_rankOf cL_rankOf 5 (some .int) [(0, 10, 13, 35), (0, 10, 17, 41)]) r_L_rankOf_x1 (wC G q σ κ ++ [aL G oa 1 f]) [.ref (q 0), .int (zI (i : Int)), .int (zI (b : Int)), .ref (oa)] (QI G (fun r9 (_ : KC) => r9 = zI (1 : Int)) (fun u => wC G q σ u ++ [aL G oa 1 f])) := by
  refine MC.mkW (by decide +kernel) (Nat.le_of_ble_eq_true rfl) ?_
  intro p e s m av below meth c A H locs ls Q Z ht hr hnm hQ hP hD hS hl
  have hx := Z.1
  have hb := Z.2.1
  have hl : lv_has ls 5 [(0, .ref (q 0)), (1, .int (zI (i : Int))), (2, .int (zI (b : Int))), (3, .ref (oa))] := hl
  refine lv_aload_n hx hb dL_rankOf_0 rfl (lv_at hl 3 rfl) ?_
  refine zr_iconst hx hb dL_rankOf_1 ?_
  refine lv_aload_n hx hb dL_rankOf_2 rfl (lv_at hl 0 rfl) ?_
  refine lv_iload_n hx hb dL_rankOf_3 rfl (lv_at hl 1 rfl) ?_
  refine lv_iload_n hx hb dL_rankOf_4 rfl (lv_at hl 2 rfl) ?_
  refine zcatch Z (zP_r hP) (zD_sep hD) (zD_l hD) hS (zrunXV (rest := [.int (zI (0 : Int)), .ref oa]) Z (zP_l hP) (zD_l hD) hS hl.1 (m_X5_rankOf_x1 l G hst q σ κ i b hI h1 h2) zY_X5_rankOf km_L_91 (q0 := 0) rfl rfl rfl rfl ⟨⟨Nat.le_of_ble_eq_true rfl, Nat.le_of_ble_eq_true rfl⟩, Nat.le_of_ble_eq_true rfl, Nat.le_of_ble_eq_true rfl⟩ (Nat.le_of_ble_eq_true rfl) dL_rankOf_5) [] ⟨0, 10, 13, 35⟩ [⟨0, 10, 17, 41⟩] ht (fun z hz => by cases hz) (by decide) (by decide) kc_L_35 (by decide +kernel) (fun u q9 H locs hP1 hD1 hP2 hs hS => ?_)
  have hP := hP1.app hP2
  have hD := va_D.app hD1 (zD_r hD) hs
  refine lv_astore (lv' := [(4, .ref (q9)), (0, .ref (q 0)), (1, .int (zI (i : Int))), (2, .int (zI (b : Int))), (3, .ref (oa))]) hx hb dL_rankOf_13 hl (by decide) rfl (fun ls hl => ?_)
  refine zr_iconst hx hb dL_rankOf_15 ?_
  exact zret_I u Z hr hP hD hS rfl rfl ⟨Nat.le_of_ble_eq_true rfl, Nat.le_of_ble_eq_true rfl⟩ hQ dL_rankOf_16
abbrev r_L_rankOf_x2 : Room := { frames := 8, cells := 1, slots := 6, locals := 145 }
set_option maxHeartbeats 4000000 in
set_option maxRecDepth 100000 in
theorem m_L_rankOf_x2 (l : Launch) (G : ZG) (hst : l.stackTraces = false) (q : Nat → Nat) (σ : St) (κ : KC) (oa : Nat) (f : Nat → Int64) {e_i : Int} (i : Nat) (he_i : e_i = (i : Int)) (b : Int) (hI : okC σ) (h1 : i < σ.1 6) (h2 : zR b) (h3 : b < 0 ∨ ((σ.1 4 : Nat) : Int) ≤ b) :
  MC l G yL_rankOf (wYW yL_rankOf cL_rankOf 5 (some .int) [(0, 10, 13, 35), (0, 10, 17, 41)]) r_L_rankOf_x2 (wC G q σ κ ++ [aL G oa 1 f]) [.ref (q 0), .int (zI e_i), .int (zI (b : Int)), .ref (oa)] (QI G (fun r9 (_ : KC) => r9 = zI (1 : Int)) (fun u => wC G q σ u ++ [aL G oa 1 f])) := by
  subst he_i
  refine MC.mkW (by decide +kernel) (Nat.le_of_ble_eq_true rfl) ?_
  intro p e s m av below meth c A H locs ls Q Z ht hr hnm hQ hP hD hS hl
  have hx := Z.1
  have hb := Z.2.1
  have hl : lv_has ls 5 [(0, .ref (q 0)), (1, .int (zI ((i : Nat) : Int))), (2, .int (zI (b : Int))), (3, .ref (oa))] := hl
  refine lv_aload_n hx hb dL_rankOf_0 rfl (lv_at hl 3 rfl) ?_
  refine zr_iconst hx hb dL_rankOf_1 ?_
  refine lv_aload_n hx hb dL_rankOf_2 rfl (lv_at hl 0 rfl) ?_
  refine lv_iload_n hx hb dL_rankOf_3 rfl (lv_at hl 1 rfl) ?_
  refine lv_iload_n hx hb dL_rankOf_4 rfl (lv_at hl 2 rfl) ?_
  refine zcatch Z (zP_r hP) (zD_sep hD) (zD_l hD) hS (zrunXV (rest := [.int (zI (0 : Int)), .ref oa]) Z (zP_l hP) (zD_l hD) hS hl.1 (m_X5_rankOf_x2 l G hst q σ κ i rfl b hI h1 h2 h3) zY_X5_rankOf km_L_91 (q0 := 0) rfl rfl rfl rfl ⟨⟨Nat.le_of_ble_eq_true rfl, Nat.le_of_ble_eq_true rfl⟩, Nat.le_of_ble_eq_true rfl, Nat.le_of_ble_eq_true rfl⟩ (Nat.le_of_ble_eq_true rfl) dL_rankOf_5) [] ⟨0, 10, 13, 35⟩ [⟨0, 10, 17, 41⟩] ht (fun z hz => by cases hz) (by decide) (by decide) kc_L_35 (by decide +kernel) (fun u q9 H locs hP1 hD1 hP2 hs hS => ?_)
  have hP := hP1.app hP2
  have hD := va_D.app hD1 (zD_r hD) hs
  refine lv_astore (lv' := [(4, .ref (q9)), (0, .ref (q 0)), (1, .int (zI ((i : Nat) : Int))), (2, .int (zI (b : Int))), (3, .ref (oa))]) hx hb dL_rankOf_13 hl (by decide) rfl (fun ls hl => ?_)
  refine zr_iconst hx hb dL_rankOf_15 ?_
  exact zret_I u Z hr hP hD hS rfl rfl ⟨Nat.le_of_ble_eq_true rfl, Nat.le_of_ble_eq_true rfl⟩ hQ dL_rankOf_16
abbrev r_L_rankOf_x3 : Room := { frames := 7, cells := 1, slots := 6, locals := 157 }
set_option maxHeartbeats 4000000 in
set_option maxRecDepth 100000 in
theorem m_L_rankOf_x3 (l : Launch) (G : ZG) (hst : l.stackTraces = false) (q : Nat → Nat) (σ : St) (κ : KC) (oa : Nat) (f : Nat → Int64) {e_i : Int} (i : Nat) (he_i : e_i = (i : Int)) {e_b : Int} (b : Nat) (he_b : e_b = (b : Int)) (hI : okC σ) (h1 : i < σ.1 6) (h2 : b < σ.1 4) (h3 : ∀ y9, y9 < (gth (shw σ i) (σ.2.1 10) (κ.1) (σ.1 4)).1 → (gth (shw σ i) (σ.2.1 10) (κ.1) (σ.1 4)).2 y9 ≠ b) :
  MC l G yL_rankOf (wYW yL_rankOf cL_rankOf 5 (some .int) [(0, 10, 13, 35), (0, 10, 17, 41)]) r_L_rankOf_x3 (wC G q σ κ ++ [aL G oa 1 f]) [.ref (q 0), .int (zI e_i), .int (zI e_b), .ref (oa)] (QI G (fun r9 (_ : KC) => r9 = zI (2 : Int)) (fun u => wC G q σ u ++ [aL G oa 1 f])) := by
  subst he_i
  subst he_b
  refine MC.mkW (by decide +kernel) (Nat.le_of_ble_eq_true rfl) ?_
  intro p e s m av below meth c A H locs ls Q Z ht hr hnm hQ hP hD hS hl
  have hx := Z.1
  have hb := Z.2.1
  have hl : lv_has ls 5 [(0, .ref (q 0)), (1, .int (zI ((i : Nat) : Int))), (2, .int (zI ((b : Nat) : Int))), (3, .ref (oa))] := hl
  refine lv_aload_n hx hb dL_rankOf_0 rfl (lv_at hl 3 rfl) ?_
  refine zr_iconst hx hb dL_rankOf_1 ?_
  refine lv_aload_n hx hb dL_rankOf_2 rfl (lv_at hl 0 rfl) ?_
  refine lv_iload_n hx hb dL_rankOf_3 rfl (lv_at hl 1 rfl) ?_
  refine lv_iload_n hx hb dL_rankOf_4 rfl (lv_at hl 2 rfl) ?_
  refine zcatch Z (zP_r hP) (zD_sep hD) (zD_l hD) hS (zrunXV (rest := [.int (zI (0 : Int)), .ref oa]) Z (zP_l hP) (zD_l hD) hS hl.1 (m_X5_rankOf_x3 l G hst q σ κ i rfl b rfl hI h1 h2 h3) zY_X5_rankOf km_L_91 (q0 := 0) rfl rfl rfl rfl ⟨⟨Nat.le_of_ble_eq_true rfl, Nat.le_of_ble_eq_true rfl⟩, Nat.le_of_ble_eq_true rfl, Nat.le_of_ble_eq_true rfl⟩ (Nat.le_of_ble_eq_true rfl) dL_rankOf_5) [⟨0, 10, 13, 35⟩] ⟨0, 10, 17, 41⟩ [] ht (fun z hz => by
    rw [List.mem_singleton] at hz; subst hz; exact Or.inr ⟨by decide, "java/lang/IndexOutOfBoundsException", kc_L_35, by decide +kernel⟩) (by decide) (by decide) kc_L_41 (by decide +kernel) (fun u q9 H locs hP1 hD1 hP2 hs hS => ?_)
  have hP := hP1.app hP2
  have hD := va_D.app hD1 (zD_r hD) hs
  refine lv_astore (lv' := [(4, .ref (q9)), (0, .ref (q 0)), (1, .int (zI ((i : Nat) : Int))), (2, .int (zI ((b : Nat) : Int))), (3, .ref (oa))]) hx hb dL_rankOf_17 hl (by decide) rfl (fun ls hl => ?_)
  refine zr_iconst hx hb dL_rankOf_19 ?_
  exact zret_I u Z hr hP hD hS rfl rfl ⟨Nat.le_of_ble_eq_true rfl, Nat.le_of_ble_eq_true rfl⟩ hQ dL_rankOf_20
abbrev r_L_riverAt : Room := { frames := 8, cells := 0, slots := 0, locals := 179 }
set_option maxHeartbeats 4000000 in
set_option maxRecDepth 100000 in
theorem m_L_riverAt (l : Launch) (G : ZG) (q : Nat → Nat) (σ : St) (κ : KC) (oa : Nat) (f : Nat → Int64) {e_i : Int} (i : Nat) (he_i : e_i = (i : Int)) {e_rk : Int} (rk : Nat) (he_rk : e_rk = (rk : Int)) (hI : okC σ) (h1 : i < σ.1 6) (h2 : rk < (gth (shw σ i) (σ.2.1 10) (κ.1) (σ.1 4)).1) :
  MC l G yL_riverAt (wYW yL_riverAt cL_riverAt 5 (some .int) [(0, 10, 13, 35), (0, 10, 17, 41)]) r_L_riverAt (wC G q σ κ ++ [aL G oa 1 f]) [.ref (q 0), .int (zI e_i), .int (zI e_rk), .ref (oa)] (QI G (fun r9 (_ : Unit) => r9 = zI (0 : Int)) (fun _ => wC G q σ ((gth (shw σ i) (σ.2.1 10) (κ.1) (σ.1 4)).2, κ.2.1, κ.2.2) ++ [aL G oa 1 (va_up f 0 ((zI (((gth (shw σ i) (σ.2.1 10) (κ.1) (σ.1 4)).2 rk : Nat) : Int)).toInt64))])) := by
  subst he_i
  subst he_rk
  refine MC.mkW (by decide +kernel) (Nat.le_of_ble_eq_true rfl) ?_
  intro p e s m av below meth c A H locs ls Q Z ht hr hnm hQ hP hD hS hl
  have hx := Z.1
  have hb := Z.2.1
  have hl : lv_has ls 5 [(0, .ref (q 0)), (1, .int (zI ((i : Nat) : Int))), (2, .int (zI ((rk : Nat) : Int))), (3, .ref (oa))] := hl
  refine lv_aload_n hx hb dL_riverAt_0 rfl (lv_at hl 3 rfl) ?_
  refine zr_iconst hx hb dL_riverAt_1 ?_
  refine lv_aload_n hx hb dL_riverAt_2 rfl (lv_at hl 0 rfl) ?_
  refine lv_iload_n hx hb dL_riverAt_3 rfl (lv_at hl 1 rfl) ?_
  refine lv_iload_n hx hb dL_riverAt_4 rfl (lv_at hl 2 rfl) ?_
  refine zfr_I ⟨rfl, rfl⟩ Z (zP_r hP) (zD_sep hD) (zD_l hD) hS (zrunV (rest := [.int (zI (0 : Int)), .ref oa]) Z (zP_l hP) (zD_l hD) hS hl.1 (m_X5_riverAt l G q σ κ i rfl rk rfl hI h1 h2) zY_X5_riverAt km_L_85 (q0 := 0) rfl rfl rfl rfl ⟨⟨Nat.le_of_ble_eq_true rfl, Nat.le_of_ble_eq_true rfl⟩, Nat.le_of_ble_eq_true rfl, Nat.le_of_ble_eq_true rfl⟩ (Nat.le_of_ble_eq_true rfl) dL_riverAt_5) (fun r u H locs hp hP1 hD1 hP2 hs hS => ?_)
  obtain rfl : r = (zI (((gth (shw σ i) (σ.2.1 10) (κ.1) (σ.1 4)).2 rk : Nat) : Int)) := hp
  have hPn := hP1.app hP2
  have hDn := va_D.app hD1 (zD_r hD) hs
  refine lv_i2l hx hb dL_riverAt_8 rfl ?_
  refine stL (ws1 := wC G q σ ((gth (shw σ i) (σ.2.1 10) (κ.1) (σ.1 4)).2, κ.2.1, κ.2.2) ++ [aL G oa 1 (va_up f 0 ((zI (((gth (shw σ i) (σ.2.1 10) (κ.1) (σ.1 4)).2 rk : Nat) : Int)).toInt64))]) Z hPn hDn hS 30 f rfl 0 rfl (by decide) (by decide) rfl dL_riverAt_9 (fun H locs hP hD hS => ?_)
  refine lv_goto (tgt := 21) hx hb dL_riverAt_10 (by decide) ?_
  refine zr_iconst hx hb dL_riverAt_21 ?_
  exact zret_I () Z hr hP hD hS rfl rfl ⟨Nat.le_of_ble_eq_true rfl, Nat.le_of_ble_eq_true rfl⟩ hQ dL_riverAt_22
abbrev r_L_riverAt_x1 : Room := { frames := 8, cells := 1, slots := 6, locals := 143 }
set_option maxHeartbeats 4000000 in
set_option maxRecDepth 100000 in
theorem m_L_riverAt_x1 (l : Launch) (G : ZG) (hst : l.stackTraces = false) (q : Nat → Nat) (σ : St) (κ : KC) (oa : Nat) (f : Nat → Int64) (i : Int) (rk : Int) (hI : okC σ) (h1 : zR i) (h2 : i < 0 ∨ ((σ.1 6 : Nat) : Int) ≤ i) :
  MC l G yL_riverAt (wYW yL_riverAt cL_riverAt 5 (some .int) [(0, 10, 13, 35), (0, 10, 17, 41)]) r_L_riverAt_x1 (wC G q σ κ ++ [aL G oa 1 f]) [.ref (q 0), .int (zI (i : Int)), .int (zI (rk : Int)), .ref (oa)] (QI G (fun r9 (_ : KC) => r9 = zI (1 : Int)) (fun u => wC G q σ u ++ [aL G oa 1 f])) := by
  refine MC.mkW (by decide +kernel) (Nat.le_of_ble_eq_true rfl) ?_
  intro p e s m av below meth c A H locs ls Q Z ht hr hnm hQ hP hD hS hl
  have hx := Z.1
  have hb := Z.2.1
  have hl : lv_has ls 5 [(0, .ref (q 0)), (1, .int (zI (i : Int))), (2, .int (zI (rk : Int))), (3, .ref (oa))] := hl
  refine lv_aload_n hx hb dL_riverAt_0 rfl (lv_at hl 3 rfl) ?_
  refine zr_iconst hx hb dL_riverAt_1 ?_
  refine lv_aload_n hx hb dL_riverAt_2 rfl (lv_at hl 0 rfl) ?_
  refine lv_iload_n hx hb dL_riverAt_3 rfl (lv_at hl 1 rfl) ?_
  refine lv_iload_n hx hb dL_riverAt_4 rfl (lv_at hl 2 rfl) ?_
  refine zcatch Z (zP_r hP) (zD_sep hD) (zD_l hD) hS (zrunXV (rest := [.int (zI (0 : Int)), .ref oa]) Z (zP_l hP) (zD_l hD) hS hl.1 (m_X5_riverAt_x1 l G hst q σ κ i rk hI h1 h2) zY_X5_riverAt km_L_85 (q0 := 0) rfl rfl rfl rfl ⟨⟨Nat.le_of_ble_eq_true rfl, Nat.le_of_ble_eq_true rfl⟩, Nat.le_of_ble_eq_true rfl, Nat.le_of_ble_eq_true rfl⟩ (Nat.le_of_ble_eq_true rfl) dL_riverAt_5) [] ⟨0, 10, 13, 35⟩ [⟨0, 10, 17, 41⟩] ht (fun z hz => by cases hz) (by decide) (by decide) kc_L_35 (by decide +kernel) (fun u q9 H locs hP1 hD1 hP2 hs hS => ?_)
  have hP := hP1.app hP2
  have hD := va_D.app hD1 (zD_r hD) hs
  refine lv_astore (lv' := [(4, .ref (q9)), (0, .ref (q 0)), (1, .int (zI (i : Int))), (2, .int (zI (rk : Int))), (3, .ref (oa))]) hx hb dL_riverAt_13 hl (by decide) rfl (fun ls hl => ?_)
  refine zr_iconst hx hb dL_riverAt_15 ?_
  exact zret_I u Z hr hP hD hS rfl rfl ⟨Nat.le_of_ble_eq_true rfl, Nat.le_of_ble_eq_true rfl⟩ hQ dL_riverAt_16
abbrev r_L_riverAt_x2 : Room := { frames := 8, cells := 1, slots := 6, locals := 179 }
set_option maxHeartbeats 4000000 in
set_option maxRecDepth 100000 in
theorem m_L_riverAt_x2 (l : Launch) (G : ZG) (hst : l.stackTraces = false) (q : Nat → Nat) (σ : St) (κ : KC) (oa : Nat) (f : Nat → Int64) {e_i : Int} (i : Nat) (he_i : e_i = (i : Int)) (rk : Int) (hI : okC σ) (h1 : i < σ.1 6) (h3 : zR rk) (h4 : rk < 0 ∨ (((gth (shw σ i) (σ.2.1 10) (κ.1) (σ.1 4)).1 : Nat) : Int) ≤ rk) :
  MC l G yL_riverAt (wYW yL_riverAt cL_riverAt 5 (some .int) [(0, 10, 13, 35), (0, 10, 17, 41)]) r_L_riverAt_x2 (wC G q σ κ ++ [aL G oa 1 f]) [.ref (q 0), .int (zI e_i), .int (zI (rk : Int)), .ref (oa)] (QI G (fun r9 (_ : KC) => r9 = zI (2 : Int)) (fun u => wC G q σ u ++ [aL G oa 1 f])) := by
  subst he_i
  refine MC.mkW (by decide +kernel) (Nat.le_of_ble_eq_true rfl) ?_
  intro p e s m av below meth c A H locs ls Q Z ht hr hnm hQ hP hD hS hl
  have hx := Z.1
  have hb := Z.2.1
  have hl : lv_has ls 5 [(0, .ref (q 0)), (1, .int (zI ((i : Nat) : Int))), (2, .int (zI (rk : Int))), (3, .ref (oa))] := hl
  refine lv_aload_n hx hb dL_riverAt_0 rfl (lv_at hl 3 rfl) ?_
  refine zr_iconst hx hb dL_riverAt_1 ?_
  refine lv_aload_n hx hb dL_riverAt_2 rfl (lv_at hl 0 rfl) ?_
  refine lv_iload_n hx hb dL_riverAt_3 rfl (lv_at hl 1 rfl) ?_
  refine lv_iload_n hx hb dL_riverAt_4 rfl (lv_at hl 2 rfl) ?_
  refine zcatch Z (zP_r hP) (zD_sep hD) (zD_l hD) hS (zrunXV (rest := [.int (zI (0 : Int)), .ref oa]) Z (zP_l hP) (zD_l hD) hS hl.1 (m_X5_riverAt_x2 l G hst q σ κ i rfl rk hI h1 h3 h4) zY_X5_riverAt km_L_85 (q0 := 0) rfl rfl rfl rfl ⟨⟨Nat.le_of_ble_eq_true rfl, Nat.le_of_ble_eq_true rfl⟩, Nat.le_of_ble_eq_true rfl, Nat.le_of_ble_eq_true rfl⟩ (Nat.le_of_ble_eq_true rfl) dL_riverAt_5) [⟨0, 10, 13, 35⟩] ⟨0, 10, 17, 41⟩ [] ht (fun z hz => by
    rw [List.mem_singleton] at hz; subst hz; exact Or.inr ⟨by decide, "java/lang/IndexOutOfBoundsException", kc_L_35, by decide +kernel⟩) (by decide) (by decide) kc_L_41 (by decide +kernel) (fun u q9 H locs hP1 hD1 hP2 hs hS => ?_)
  have hP := hP1.app hP2
  have hD := va_D.app hD1 (zD_r hD) hs
  refine lv_astore (lv' := [(4, .ref (q9)), (0, .ref (q 0)), (1, .int (zI ((i : Nat) : Int))), (2, .int (zI (rk : Int))), (3, .ref (oa))]) hx hb dL_riverAt_17 hl (by decide) rfl (fun ls hl => ?_)
  refine zr_iconst hx hb dL_riverAt_19 ?_
  exact zret_I u Z hr hP hD hS rfl rfl ⟨Nat.le_of_ble_eq_true rfl, Nat.le_of_ble_eq_true rfl⟩ hQ dL_riverAt_20
abbrev r_L_riverAtAnew : Room := { frames := 8, cells := 0, slots := 0, locals := 179 }
set_option maxHeartbeats 4000000 in
set_option maxRecDepth 100000 in
theorem m_L_riverAtAnew (l : Launch) (G : ZG) (q : Nat → Nat) (σ : St) (κ : KC) (oa : Nat) (f : Nat → Int64) {e_i : Int} (i : Nat) (he_i : e_i = (i : Int)) {e_rk : Int} (rk : Nat) (he_rk : e_rk = (rk : Int)) (hI : okC σ) (h1 : i < σ.1 6) (h2 : rk < (gth (shw σ i) (anw1 (isAh σ) (σ.1 4) (κ.2.2) (σ.1 4)) (κ.1) (σ.1 4)).1) :
  MC l G yL_riverAtAnew (wYW yL_riverAtAnew cL_riverAtAnew 5 (some .int) [(0, 10, 13, 35), (0, 10, 17, 41)]) r_L_riverAtAnew (wC G q σ κ ++ [aL G oa 1 f]) [.ref (q 0), .int (zI e_i), .int (zI e_rk), .ref (oa)] (QI G (fun r9 (_ : Unit) => r9 = zI (0 : Int)) (fun _ => wC G q σ ((gth (shw σ i) (anw1 (isAh σ) (σ.1 4) (κ.2.2) (σ.1 4)) (κ.1) (σ.1 4)).2, κ.2.1, anw1 (isAh σ) (σ.1 4) (κ.2.2) (σ.1 4)) ++ [aL G oa 1 (va_up f 0 ((zI (((gth (shw σ i) (anw1 (isAh σ) (σ.1 4) (κ.2.2) (σ.1 4)) (κ.1) (σ.1 4)).2 rk : Nat) : Int)).toInt64))])) := by
  subst he_i
  subst he_rk
  refine MC.mkW (by decide +kernel) (Nat.le_of_ble_eq_true rfl) ?_
  intro p e s m av below meth c A H locs ls Q Z ht hr hnm hQ hP hD hS hl
  have hx := Z.1
  have hb := Z.2.1
  have hl : lv_has ls 5 [(0, .ref (q 0)), (1, .int (zI ((i : Nat) : Int))), (2, .int (zI ((rk : Nat) : Int))), (3, .ref (oa))] := hl
  refine lv_aload_n hx hb dL_riverAtAnew_0 rfl (lv_at hl 3 rfl) ?_
  refine zr_iconst hx hb dL_riverAtAnew_1 ?_
  refine lv_aload_n hx hb dL_riverAtAnew_2 rfl (lv_at hl 0 rfl) ?_
  refine lv_iload_n hx hb dL_riverAtAnew_3 rfl (lv_at hl 1 rfl) ?_
  refine lv_iload_n hx hb dL_riverAtAnew_4 rfl (lv_at hl 2 rfl) ?_
  refine zfr_I ⟨rfl, rfl⟩ Z (zP_r hP) (zD_sep hD) (zD_l hD) hS (zrunV (rest := [.int (zI (0 : Int)), .ref oa]) Z (zP_l hP) (zD_l hD) hS hl.1 (m_X5_riverAtAnew l G q σ κ i rfl rk rfl hI h1 h2) zY_X5_riverAtAnew km_L_88 (q0 := 0) rfl rfl rfl rfl ⟨⟨Nat.le_of_ble_eq_true rfl, Nat.le_of_ble_eq_true rfl⟩, Nat.le_of_ble_eq_true rfl, Nat.le_of_ble_eq_true rfl⟩ (Nat.le_of_ble_eq_true rfl) dL_riverAtAnew_5) (fun r u H locs hp hP1 hD1 hP2 hs hS => ?_)
  obtain rfl : r = (zI (((gth (shw σ i) (anw1 (isAh σ) (σ.1 4) (κ.2.2) (σ.1 4)) (κ.1) (σ.1 4)).2 rk : Nat) : Int)) := hp
  have hPn := hP1.app hP2
  have hDn := va_D.app hD1 (zD_r hD) hs
  refine lv_i2l hx hb dL_riverAtAnew_8 rfl ?_
  refine stL (ws1 := wC G q σ ((gth (shw σ i) (anw1 (isAh σ) (σ.1 4) (κ.2.2) (σ.1 4)) (κ.1) (σ.1 4)).2, κ.2.1, anw1 (isAh σ) (σ.1 4) (κ.2.2) (σ.1 4)) ++ [aL G oa 1 (va_up f 0 ((zI (((gth (shw σ i) (anw1 (isAh σ) (σ.1 4) (κ.2.2) (σ.1 4)) (κ.1) (σ.1 4)).2 rk : Nat) : Int)).toInt64))]) Z hPn hDn hS 30 f rfl 0 rfl (by decide) (by decide) rfl dL_riverAtAnew_9 (fun H locs hP hD hS => ?_)
  refine lv_goto (tgt := 21) hx hb dL_riverAtAnew_10 (by decide) ?_
  refine zr_iconst hx hb dL_riverAtAnew_21 ?_
  exact zret_I () Z hr hP hD hS rfl rfl ⟨Nat.le_of_ble_eq_true rfl, Nat.le_of_ble_eq_true rfl⟩ hQ dL_riverAtAnew_22
abbrev r_L_riverAtAnew_x1 : Room := { frames := 8, cells := 1, slots := 6, locals := 143 }
set_option maxHeartbeats 4000000 in
set_option maxRecDepth 100000 in
theorem m_L_riverAtAnew_x1 (l : Launch) (G : ZG) (hst : l.stackTraces = false) (q : Nat → Nat) (σ : St) (κ : KC) (oa : Nat) (f : Nat → Int64) (i : Int) (rk : Int) (hI : okC σ) (h1 : zR i) (h2 : i < 0 ∨ ((σ.1 6 : Nat) : Int) ≤ i) :
  MC l G yL_riverAtAnew (wYW yL_riverAtAnew cL_riverAtAnew 5 (some .int) [(0, 10, 13, 35), (0, 10, 17, 41)]) r_L_riverAtAnew_x1 (wC G q σ κ ++ [aL G oa 1 f]) [.ref (q 0), .int (zI (i : Int)), .int (zI (rk : Int)), .ref (oa)] (QI G (fun r9 (_ : KC) => r9 = zI (1 : Int)) (fun u => wC G q σ u ++ [aL G oa 1 f])) := by
  refine MC.mkW (by decide +kernel) (Nat.le_of_ble_eq_true rfl) ?_
  intro p e s m av below meth c A H locs ls Q Z ht hr hnm hQ hP hD hS hl
  have hx := Z.1
  have hb := Z.2.1
  have hl : lv_has ls 5 [(0, .ref (q 0)), (1, .int (zI (i : Int))), (2, .int (zI (rk : Int))), (3, .ref (oa))] := hl
  refine lv_aload_n hx hb dL_riverAtAnew_0 rfl (lv_at hl 3 rfl) ?_
  refine zr_iconst hx hb dL_riverAtAnew_1 ?_
  refine lv_aload_n hx hb dL_riverAtAnew_2 rfl (lv_at hl 0 rfl) ?_
  refine lv_iload_n hx hb dL_riverAtAnew_3 rfl (lv_at hl 1 rfl) ?_
  refine lv_iload_n hx hb dL_riverAtAnew_4 rfl (lv_at hl 2 rfl) ?_
  refine zcatch Z (zP_r hP) (zD_sep hD) (zD_l hD) hS (zrunXV (rest := [.int (zI (0 : Int)), .ref oa]) Z (zP_l hP) (zD_l hD) hS hl.1 (m_X5_riverAtAnew_x1 l G hst q σ κ i rk hI h1 h2) zY_X5_riverAtAnew km_L_88 (q0 := 0) rfl rfl rfl rfl ⟨⟨Nat.le_of_ble_eq_true rfl, Nat.le_of_ble_eq_true rfl⟩, Nat.le_of_ble_eq_true rfl, Nat.le_of_ble_eq_true rfl⟩ (Nat.le_of_ble_eq_true rfl) dL_riverAtAnew_5) [] ⟨0, 10, 13, 35⟩ [⟨0, 10, 17, 41⟩] ht (fun z hz => by cases hz) (by decide) (by decide) kc_L_35 (by decide +kernel) (fun u q9 H locs hP1 hD1 hP2 hs hS => ?_)
  have hP := hP1.app hP2
  have hD := va_D.app hD1 (zD_r hD) hs
  refine lv_astore (lv' := [(4, .ref (q9)), (0, .ref (q 0)), (1, .int (zI (i : Int))), (2, .int (zI (rk : Int))), (3, .ref (oa))]) hx hb dL_riverAtAnew_13 hl (by decide) rfl (fun ls hl => ?_)
  refine zr_iconst hx hb dL_riverAtAnew_15 ?_
  exact zret_I u Z hr hP hD hS rfl rfl ⟨Nat.le_of_ble_eq_true rfl, Nat.le_of_ble_eq_true rfl⟩ hQ dL_riverAtAnew_16
abbrev r_L_riverAtAnew_x2 : Room := { frames := 8, cells := 1, slots := 6, locals := 179 }
set_option maxHeartbeats 4000000 in
set_option maxRecDepth 100000 in
theorem m_L_riverAtAnew_x2 (l : Launch) (G : ZG) (hst : l.stackTraces = false) (q : Nat → Nat) (σ : St) (κ : KC) (oa : Nat) (f : Nat → Int64) {e_i : Int} (i : Nat) (he_i : e_i = (i : Int)) (rk : Int) (hI : okC σ) (h1 : i < σ.1 6) (h3 : zR rk) (h4 : rk < 0 ∨ (((gth (shw σ i) (anw1 (isAh σ) (σ.1 4) (κ.2.2) (σ.1 4)) (κ.1) (σ.1 4)).1 : Nat) : Int) ≤ rk) :
  MC l G yL_riverAtAnew (wYW yL_riverAtAnew cL_riverAtAnew 5 (some .int) [(0, 10, 13, 35), (0, 10, 17, 41)]) r_L_riverAtAnew_x2 (wC G q σ κ ++ [aL G oa 1 f]) [.ref (q 0), .int (zI e_i), .int (zI (rk : Int)), .ref (oa)] (QI G (fun r9 (_ : KC) => r9 = zI (2 : Int)) (fun u => wC G q σ u ++ [aL G oa 1 f])) := by
  subst he_i
  refine MC.mkW (by decide +kernel) (Nat.le_of_ble_eq_true rfl) ?_
  intro p e s m av below meth c A H locs ls Q Z ht hr hnm hQ hP hD hS hl
  have hx := Z.1
  have hb := Z.2.1
  have hl : lv_has ls 5 [(0, .ref (q 0)), (1, .int (zI ((i : Nat) : Int))), (2, .int (zI (rk : Int))), (3, .ref (oa))] := hl
  refine lv_aload_n hx hb dL_riverAtAnew_0 rfl (lv_at hl 3 rfl) ?_
  refine zr_iconst hx hb dL_riverAtAnew_1 ?_
  refine lv_aload_n hx hb dL_riverAtAnew_2 rfl (lv_at hl 0 rfl) ?_
  refine lv_iload_n hx hb dL_riverAtAnew_3 rfl (lv_at hl 1 rfl) ?_
  refine lv_iload_n hx hb dL_riverAtAnew_4 rfl (lv_at hl 2 rfl) ?_
  refine zcatch Z (zP_r hP) (zD_sep hD) (zD_l hD) hS (zrunXV (rest := [.int (zI (0 : Int)), .ref oa]) Z (zP_l hP) (zD_l hD) hS hl.1 (m_X5_riverAtAnew_x2 l G hst q σ κ i rfl rk hI h1 h3 h4) zY_X5_riverAtAnew km_L_88 (q0 := 0) rfl rfl rfl rfl ⟨⟨Nat.le_of_ble_eq_true rfl, Nat.le_of_ble_eq_true rfl⟩, Nat.le_of_ble_eq_true rfl, Nat.le_of_ble_eq_true rfl⟩ (Nat.le_of_ble_eq_true rfl) dL_riverAtAnew_5) [⟨0, 10, 13, 35⟩] ⟨0, 10, 17, 41⟩ [] ht (fun z hz => by
    rw [List.mem_singleton] at hz; subst hz; exact Or.inr ⟨by decide, "java/lang/IndexOutOfBoundsException", kc_L_35, by decide +kernel⟩) (by decide) (by decide) kc_L_41 (by decide +kernel) (fun u q9 H locs hP1 hD1 hP2 hs hS => ?_)
  have hP := hP1.app hP2
  have hD := va_D.app hD1 (zD_r hD) hs
  refine lv_astore (lv' := [(4, .ref (q9)), (0, .ref (q 0)), (1, .int (zI ((i : Nat) : Int))), (2, .int (zI (rk : Int))), (3, .ref (oa))]) hx hb dL_riverAtAnew_17 hl (by decide) rfl (fun ls hl => ?_)
  refine zr_iconst hx hb dL_riverAtAnew_19 ?_
  exact zret_I u Z hr hP hD hS rfl rfl ⟨Nat.le_of_ble_eq_true rfl, Nat.le_of_ble_eq_true rfl⟩ hQ dL_riverAtAnew_20
abbrev r_L_riverSize : Room := { frames := 7, cells := 0, slots := 0, locals := 154 }
set_option maxHeartbeats 4000000 in
set_option maxRecDepth 100000 in
theorem m_L_riverSize (l : Launch) (G : ZG) (q : Nat → Nat) (σ : St) (κ : KC) (oa : Nat) (f : Nat → Int64) {e_i : Int} (i : Nat) (he_i : e_i = (i : Int)) (hI : okC σ) (h1 : i < σ.1 6) :
  MC l G yL_riverSize (wYW yL_riverSize cL_riverSize 4 (some .int) [(0, 9, 12, 35)]) r_L_riverSize (wC G q σ κ ++ [aL G oa 1 f]) [.ref (q 0), .int (zI e_i), .ref (oa)] (QI G (fun r9 (_ : Unit) => r9 = zI (0 : Int)) (fun _ => wC G q σ ((gth (shw σ i) (σ.2.1 10) (κ.1) (σ.1 4)).2, κ.2.1, κ.2.2) ++ [aL G oa 1 (va_up f 0 ((zI (((gth (shw σ i) (σ.2.1 10) (κ.1) (σ.1 4)).1 : Nat) : Int)).toInt64))])) := by
  subst he_i
  refine MC.mkW (by decide +kernel) (Nat.le_of_ble_eq_true rfl) ?_
  intro p e s m av below meth c A H locs ls Q Z ht hr hnm hQ hP hD hS hl
  have hx := Z.1
  have hb := Z.2.1
  have hl : lv_has ls 4 [(0, .ref (q 0)), (1, .int (zI ((i : Nat) : Int))), (2, .ref (oa))] := hl
  refine lv_aload_n hx hb dL_riverSize_0 rfl (lv_at hl 2 rfl) ?_
  refine zr_iconst hx hb dL_riverSize_1 ?_
  refine lv_aload_n hx hb dL_riverSize_2 rfl (lv_at hl 0 rfl) ?_
  refine lv_iload_n hx hb dL_riverSize_3 rfl (lv_at hl 1 rfl) ?_
  refine zfr_I ⟨rfl, rfl⟩ Z (zP_r hP) (zD_sep hD) (zD_l hD) hS (zrunV (rest := [.int (zI (0 : Int)), .ref oa]) Z (zP_l hP) (zD_l hD) hS hl.1 (m_X5_riverSize l G q σ κ i rfl hI h1) zY_X5_riverSize km_L_82 (q0 := 0) rfl rfl rfl rfl ⟨⟨Nat.le_of_ble_eq_true rfl, Nat.le_of_ble_eq_true rfl⟩, Nat.le_of_ble_eq_true rfl, Nat.le_of_ble_eq_true rfl⟩ (Nat.le_of_ble_eq_true rfl) dL_riverSize_4) (fun r u H locs hp hP1 hD1 hP2 hs hS => ?_)
  obtain rfl : r = (zI (((gth (shw σ i) (σ.2.1 10) (κ.1) (σ.1 4)).1 : Nat) : Int)) := hp
  have hPn := hP1.app hP2
  have hDn := va_D.app hD1 (zD_r hD) hs
  refine lv_i2l hx hb dL_riverSize_7 rfl ?_
  refine stL (ws1 := wC G q σ ((gth (shw σ i) (σ.2.1 10) (κ.1) (σ.1 4)).2, κ.2.1, κ.2.2) ++ [aL G oa 1 (va_up f 0 ((zI (((gth (shw σ i) (σ.2.1 10) (κ.1) (σ.1 4)).1 : Nat) : Int)).toInt64))]) Z hPn hDn hS 30 f rfl 0 rfl (by decide) (by decide) rfl dL_riverSize_8 (fun H locs hP hD hS => ?_)
  refine lv_goto (tgt := 15) hx hb dL_riverSize_9 (by decide) ?_
  refine zr_iconst hx hb dL_riverSize_15 ?_
  exact zret_I () Z hr hP hD hS rfl rfl ⟨Nat.le_of_ble_eq_true rfl, Nat.le_of_ble_eq_true rfl⟩ hQ dL_riverSize_16
abbrev r_L_riverSize_x : Room := { frames := 8, cells := 1, slots := 6, locals := 142 }
set_option maxHeartbeats 4000000 in
set_option maxRecDepth 100000 in
theorem m_L_riverSize_x (l : Launch) (G : ZG) (hst : l.stackTraces = false) (q : Nat → Nat) (σ : St) (κ : KC) (oa : Nat) (f : Nat → Int64) (i : Int) (hI : okC σ) (h1 : zR i) (h2 : i < 0 ∨ ((σ.1 6 : Nat) : Int) ≤ i) :
  MC l G yL_riverSize (wYW yL_riverSize cL_riverSize 4 (some .int) [(0, 9, 12, 35)]) r_L_riverSize_x (wC G q σ κ ++ [aL G oa 1 f]) [.ref (q 0), .int (zI (i : Int)), .ref (oa)] (QI G (fun r9 (_ : Unit) => r9 = zI (1 : Int)) (fun _ => wC G q σ κ ++ [aL G oa 1 f])) := by
  refine MC.mkW (by decide +kernel) (Nat.le_of_ble_eq_true rfl) ?_
  intro p e s m av below meth c A H locs ls Q Z ht hr hnm hQ hP hD hS hl
  have hx := Z.1
  have hb := Z.2.1
  have hl : lv_has ls 4 [(0, .ref (q 0)), (1, .int (zI (i : Int))), (2, .ref (oa))] := hl
  refine lv_aload_n hx hb dL_riverSize_0 rfl (lv_at hl 2 rfl) ?_
  refine zr_iconst hx hb dL_riverSize_1 ?_
  refine lv_aload_n hx hb dL_riverSize_2 rfl (lv_at hl 0 rfl) ?_
  refine lv_iload_n hx hb dL_riverSize_3 rfl (lv_at hl 1 rfl) ?_
  refine zcatch Z (zP_r hP) (zD_sep hD) (zD_l hD) hS (zrunXV (rest := [.int (zI (0 : Int)), .ref oa]) Z (zP_l hP) (zD_l hD) hS hl.1 (m_X5_riverSize_x l G hst q σ κ i hI h1 h2) zY_X5_riverSize km_L_82 (q0 := 0) rfl rfl rfl rfl ⟨⟨Nat.le_of_ble_eq_true rfl, Nat.le_of_ble_eq_true rfl⟩, Nat.le_of_ble_eq_true rfl, Nat.le_of_ble_eq_true rfl⟩ (Nat.le_of_ble_eq_true rfl) dL_riverSize_4) [] ⟨0, 9, 12, 35⟩ [] ht (fun z hz => by cases hz) (by decide) (by decide) kc_L_35 (by decide +kernel) (fun u q9 H locs hP1 hD1 hP2 hs hS => ?_)
  have hP := hP1.app hP2
  have hD := va_D.app hD1 (zD_r hD) hs
  refine lv_astore_n (lv' := [(3, .ref (q9)), (0, .ref (q 0)), (1, .int (zI (i : Int))), (2, .ref (oa))]) hx hb dL_riverSize_12 rfl hl (by decide) rfl (fun ls hl => ?_)
  refine zr_iconst hx hb dL_riverSize_13 ?_
  exact zret_I () Z hr hP hD hS rfl rfl ⟨Nat.le_of_ble_eq_true rfl, Nat.le_of_ble_eq_true rfl⟩ hQ dL_riverSize_14
abbrev r_L_setThreshold : Room := { frames := 1, cells := 0, slots := 0, locals := 22 }
set_option maxHeartbeats 4000000 in
set_option maxRecDepth 100000 in
theorem m_L_setThreshold (l : Launch) (G : ZG) (q : Nat → Nat) (σ : St) (κ : KC) (oa : Nat) (f : Nat → Int64) {e_a : Int} (a : Nat) (he_a : e_a = (a : Int)) (h1 : 1 ≤ a) (h2 : a ≤ 100) :
  MC l G yL_setThreshold (wYW yL_setThreshold cL_setThreshold 4 (some .int) [(0, 9, 12, 13)]) r_L_setThreshold (wC G q σ κ ++ [aL G oa 1 f]) [.ref (q 0), .int (zI e_a), .ref (oa)] (QI G (fun r9 (_ : Unit) => r9 = zI (0 : Int)) (fun _ => wC G q (sN σ 1 (a)) κ ++ [aL G oa 1 (va_up f 0 ((zI ((σ.1 1 : Nat) : Int)).toInt64))])) := by
  subst he_a
  refine MC.mkW (by decide +kernel) (Nat.le_of_ble_eq_true rfl) ?_
  intro p e s m av below meth c A H locs ls Q Z ht hr hnm hQ hP hD hS hl
  have hx := Z.1
  have hb := Z.2.1
  have hl : lv_has ls 4 [(0, .ref (q 0)), (1, .int (zI ((a : Nat) : Int))), (2, .ref (oa))] := hl
  refine lv_aload_n hx hb dL_setThreshold_0 rfl (lv_at hl 2 rfl) ?_
  refine zr_iconst hx hb dL_setThreshold_1 ?_
  refine lv_aload_n hx hb dL_setThreshold_2 rfl (lv_at hl 0 rfl) ?_
  refine lv_iload_n hx hb dL_setThreshold_3 rfl (lv_at hl 1 rfl) ?_
  refine zfr_I ⟨rfl, rfl⟩ Z (zP_r hP) (zD_sep hD) (zD_l hD) hS (zrunV (rest := [.int (zI (0 : Int)), .ref oa]) Z (zP_l hP) (zD_l hD) hS hl.1 (m_X5_setThreshold l G q σ κ a rfl h1 h2) zY_X5_setThreshold km_L_17 (q0 := 0) rfl rfl rfl rfl ⟨⟨Nat.le_of_ble_eq_true rfl, Nat.le_of_ble_eq_true rfl⟩, Nat.le_of_ble_eq_true rfl, Nat.le_of_ble_eq_true rfl⟩ (Nat.le_of_ble_eq_true rfl) dL_setThreshold_4) (fun r u H locs hp hP1 hD1 hP2 hs hS => ?_)
  obtain rfl : r = (zI ((σ.1 1 : Nat) : Int)) := hp
  have hPn := hP1.app hP2
  have hDn := va_D.app hD1 (zD_r hD) hs
  refine lv_i2l hx hb dL_setThreshold_7 rfl ?_
  refine stL (ws1 := wC G q (sN σ 1 (a)) κ ++ [aL G oa 1 (va_up f 0 ((zI ((σ.1 1 : Nat) : Int)).toInt64))]) Z hPn hDn hS 30 f rfl 0 rfl (by decide) (by decide) rfl dL_setThreshold_8 (fun H locs hP hD hS => ?_)
  refine lv_goto (tgt := 15) hx hb dL_setThreshold_9 (by decide) ?_
  refine zr_iconst hx hb dL_setThreshold_15 ?_
  exact zret_I () Z hr hP hD hS rfl rfl ⟨Nat.le_of_ble_eq_true rfl, Nat.le_of_ble_eq_true rfl⟩ hQ dL_setThreshold_16
abbrev r_L_setThreshold_x : Room := { frames := 7, cells := 1, slots := 6, locals := 122 }
set_option maxHeartbeats 4000000 in
set_option maxRecDepth 100000 in
theorem m_L_setThreshold_x (l : Launch) (G : ZG) (hst : l.stackTraces = false) (q : Nat → Nat) (σ : St) (κ : KC) (oa : Nat) (f : Nat → Int64) (a : Int) (h1 : zR a) (h2 : a < 1 ∨ 100 < a) :
  MC l G yL_setThreshold (wYW yL_setThreshold cL_setThreshold 4 (some .int) [(0, 9, 12, 13)]) r_L_setThreshold_x (wC G q σ κ ++ [aL G oa 1 f]) [.ref (q 0), .int (zI (a : Int)), .ref (oa)] (QI G (fun r9 (_ : Unit) => r9 = zI (1 : Int)) (fun _ => wC G q σ κ ++ [aL G oa 1 f])) := by
  refine MC.mkW (by decide +kernel) (Nat.le_of_ble_eq_true rfl) ?_
  intro p e s m av below meth c A H locs ls Q Z ht hr hnm hQ hP hD hS hl
  have hx := Z.1
  have hb := Z.2.1
  have hl : lv_has ls 4 [(0, .ref (q 0)), (1, .int (zI (a : Int))), (2, .ref (oa))] := hl
  refine lv_aload_n hx hb dL_setThreshold_0 rfl (lv_at hl 2 rfl) ?_
  refine zr_iconst hx hb dL_setThreshold_1 ?_
  refine lv_aload_n hx hb dL_setThreshold_2 rfl (lv_at hl 0 rfl) ?_
  refine lv_iload_n hx hb dL_setThreshold_3 rfl (lv_at hl 1 rfl) ?_
  refine zcatch Z (zP_r hP) (zD_sep hD) (zD_l hD) hS (zrunXV (rest := [.int (zI (0 : Int)), .ref oa]) Z (zP_l hP) (zD_l hD) hS hl.1 (m_X5_setThreshold_x l G hst q σ κ a h1 h2) zY_X5_setThreshold km_L_17 (q0 := 0) rfl rfl rfl rfl ⟨⟨Nat.le_of_ble_eq_true rfl, Nat.le_of_ble_eq_true rfl⟩, Nat.le_of_ble_eq_true rfl, Nat.le_of_ble_eq_true rfl⟩ (Nat.le_of_ble_eq_true rfl) dL_setThreshold_4) [] ⟨0, 9, 12, 13⟩ [] ht (fun z hz => by cases hz) (by decide) (by decide) kc_L_13 (by decide +kernel) (fun u q9 H locs hP1 hD1 hP2 hs hS => ?_)
  have hP := hP1.app hP2
  have hD := va_D.app hD1 (zD_r hD) hs
  refine lv_astore_n (lv' := [(3, .ref (q9)), (0, .ref (q 0)), (1, .int (zI (a : Int))), (2, .ref (oa))]) hx hb dL_setThreshold_12 rfl hl (by decide) rfl (fun ls hl => ?_)
  refine zr_iconst hx hb dL_setThreshold_13 ?_
  exact zret_I () Z hr hP hD hS rfl rfl ⟨Nat.le_of_ble_eq_true rfl, Nat.le_of_ble_eq_true rfl⟩ hQ dL_setThreshold_14
abbrev r_L_setWindow : Room := { frames := 1, cells := 0, slots := 0, locals := 22 }
set_option maxHeartbeats 4000000 in
set_option maxRecDepth 100000 in
theorem m_L_setWindow (l : Launch) (G : ZG) (q : Nat → Nat) (σ : St) (κ : KC) (oa : Nat) (f : Nat → Int64) {e_a : Int} (a : Nat) (he_a : e_a = (a : Int)) (h1 : 0 ≤ a) (h2 : a ≤ 1440) :
  MC l G yL_setWindow (wYW yL_setWindow cL_setWindow 4 (some .int) [(0, 9, 12, 13)]) r_L_setWindow (wC G q σ κ ++ [aL G oa 1 f]) [.ref (q 0), .int (zI e_a), .ref (oa)] (QI G (fun r9 (_ : Unit) => r9 = zI (0 : Int)) (fun _ => wC G q (sN σ 2 (a)) κ ++ [aL G oa 1 (va_up f 0 ((zI ((σ.1 2 : Nat) : Int)).toInt64))])) := by
  subst he_a
  refine MC.mkW (by decide +kernel) (Nat.le_of_ble_eq_true rfl) ?_
  intro p e s m av below meth c A H locs ls Q Z ht hr hnm hQ hP hD hS hl
  have hx := Z.1
  have hb := Z.2.1
  have hl : lv_has ls 4 [(0, .ref (q 0)), (1, .int (zI ((a : Nat) : Int))), (2, .ref (oa))] := hl
  refine lv_aload_n hx hb dL_setWindow_0 rfl (lv_at hl 2 rfl) ?_
  refine zr_iconst hx hb dL_setWindow_1 ?_
  refine lv_aload_n hx hb dL_setWindow_2 rfl (lv_at hl 0 rfl) ?_
  refine lv_iload_n hx hb dL_setWindow_3 rfl (lv_at hl 1 rfl) ?_
  refine zfr_I ⟨rfl, rfl⟩ Z (zP_r hP) (zD_sep hD) (zD_l hD) hS (zrunV (rest := [.int (zI (0 : Int)), .ref oa]) Z (zP_l hP) (zD_l hD) hS hl.1 (m_X5_setWindow l G q σ κ a rfl h1 h2) zY_X5_setWindow km_L_20 (q0 := 0) rfl rfl rfl rfl ⟨⟨Nat.le_of_ble_eq_true rfl, Nat.le_of_ble_eq_true rfl⟩, Nat.le_of_ble_eq_true rfl, Nat.le_of_ble_eq_true rfl⟩ (Nat.le_of_ble_eq_true rfl) dL_setWindow_4) (fun r u H locs hp hP1 hD1 hP2 hs hS => ?_)
  obtain rfl : r = (zI ((σ.1 2 : Nat) : Int)) := hp
  have hPn := hP1.app hP2
  have hDn := va_D.app hD1 (zD_r hD) hs
  refine lv_i2l hx hb dL_setWindow_7 rfl ?_
  refine stL (ws1 := wC G q (sN σ 2 (a)) κ ++ [aL G oa 1 (va_up f 0 ((zI ((σ.1 2 : Nat) : Int)).toInt64))]) Z hPn hDn hS 30 f rfl 0 rfl (by decide) (by decide) rfl dL_setWindow_8 (fun H locs hP hD hS => ?_)
  refine lv_goto (tgt := 15) hx hb dL_setWindow_9 (by decide) ?_
  refine zr_iconst hx hb dL_setWindow_15 ?_
  exact zret_I () Z hr hP hD hS rfl rfl ⟨Nat.le_of_ble_eq_true rfl, Nat.le_of_ble_eq_true rfl⟩ hQ dL_setWindow_16
abbrev r_L_setWindow_x : Room := { frames := 7, cells := 1, slots := 6, locals := 122 }
set_option maxHeartbeats 4000000 in
set_option maxRecDepth 100000 in
theorem m_L_setWindow_x (l : Launch) (G : ZG) (hst : l.stackTraces = false) (q : Nat → Nat) (σ : St) (κ : KC) (oa : Nat) (f : Nat → Int64) (a : Int) (h1 : zR a) (h2 : a < 0 ∨ 1440 < a) :
  MC l G yL_setWindow (wYW yL_setWindow cL_setWindow 4 (some .int) [(0, 9, 12, 13)]) r_L_setWindow_x (wC G q σ κ ++ [aL G oa 1 f]) [.ref (q 0), .int (zI (a : Int)), .ref (oa)] (QI G (fun r9 (_ : Unit) => r9 = zI (1 : Int)) (fun _ => wC G q σ κ ++ [aL G oa 1 f])) := by
  refine MC.mkW (by decide +kernel) (Nat.le_of_ble_eq_true rfl) ?_
  intro p e s m av below meth c A H locs ls Q Z ht hr hnm hQ hP hD hS hl
  have hx := Z.1
  have hb := Z.2.1
  have hl : lv_has ls 4 [(0, .ref (q 0)), (1, .int (zI (a : Int))), (2, .ref (oa))] := hl
  refine lv_aload_n hx hb dL_setWindow_0 rfl (lv_at hl 2 rfl) ?_
  refine zr_iconst hx hb dL_setWindow_1 ?_
  refine lv_aload_n hx hb dL_setWindow_2 rfl (lv_at hl 0 rfl) ?_
  refine lv_iload_n hx hb dL_setWindow_3 rfl (lv_at hl 1 rfl) ?_
  refine zcatch Z (zP_r hP) (zD_sep hD) (zD_l hD) hS (zrunXV (rest := [.int (zI (0 : Int)), .ref oa]) Z (zP_l hP) (zD_l hD) hS hl.1 (m_X5_setWindow_x l G hst q σ κ a h1 h2) zY_X5_setWindow km_L_20 (q0 := 0) rfl rfl rfl rfl ⟨⟨Nat.le_of_ble_eq_true rfl, Nat.le_of_ble_eq_true rfl⟩, Nat.le_of_ble_eq_true rfl, Nat.le_of_ble_eq_true rfl⟩ (Nat.le_of_ble_eq_true rfl) dL_setWindow_4) [] ⟨0, 9, 12, 13⟩ [] ht (fun z hz => by cases hz) (by decide) (by decide) kc_L_13 (by decide +kernel) (fun u q9 H locs hP1 hD1 hP2 hs hS => ?_)
  have hP := hP1.app hP2
  have hD := va_D.app hD1 (zD_r hD) hs
  refine lv_astore_n (lv' := [(3, .ref (q9)), (0, .ref (q 0)), (1, .int (zI (a : Int))), (2, .ref (oa))]) hx hb dL_setWindow_12 rfl hl (by decide) rfl (fun ls hl => ?_)
  refine zr_iconst hx hb dL_setWindow_13 ?_
  exact zret_I () Z hr hP hD hS rfl rfl ⟨Nat.le_of_ble_eq_true rfl, Nat.le_of_ble_eq_true rfl⟩ hQ dL_setWindow_14
abbrev r_L_sourcesOf : Room := { frames := 3, cells := 0, slots := 0, locals := 62 }
set_option maxHeartbeats 4000000 in
set_option maxRecDepth 100000 in
theorem m_L_sourcesOf (l : Launch) (G : ZG) (q : Nat → Nat) (σ : St) (κ : KC) (oa : Nat) (f : Nat → Int64) {e_i : Int} (i : Nat) (he_i : e_i = (i : Int)) (hI : okC σ) (h1 : i < σ.1 4) :
  MC l G yL_sourcesOf (wYW yL_sourcesOf cL_sourcesOf 4 (some .int) [(0, 9, 12, 35)]) r_L_sourcesOf (wC G q σ κ ++ [aL G oa 1 f]) [.ref (q 0), .int (zI e_i), .ref (oa)] (QI G (fun r9 (_ : Unit) => r9 = zI (0 : Int)) (fun _ => wC G q σ κ ++ [aL G oa 1 (va_up f 0 (((σ.2.2.1 0) i).toInt64))])) := by
  subst he_i
  refine MC.mkW (by decide +kernel) (Nat.le_of_ble_eq_true rfl) ?_
  intro p e s m av below meth c A H locs ls Q Z ht hr hnm hQ hP hD hS hl
  have hx := Z.1
  have hb := Z.2.1
  have hl : lv_has ls 4 [(0, .ref (q 0)), (1, .int (zI ((i : Nat) : Int))), (2, .ref (oa))] := hl
  refine lv_aload_n hx hb dL_sourcesOf_0 rfl (lv_at hl 2 rfl) ?_
  refine zr_iconst hx hb dL_sourcesOf_1 ?_
  refine lv_aload_n hx hb dL_sourcesOf_2 rfl (lv_at hl 0 rfl) ?_
  refine lv_iload_n hx hb dL_sourcesOf_3 rfl (lv_at hl 1 rfl) ?_
  refine zfr_I ⟨rfl, rfl⟩ Z (zP_r hP) (zD_sep hD) (zD_l hD) hS (zrunV (rest := [.int (zI (0 : Int)), .ref oa]) Z (zP_l hP) (zD_l hD) hS hl.1 (m_X5_sourcesOf l G q σ κ i rfl hI h1) zY_X5_sourcesOf km_L_56 (q0 := 0) rfl rfl rfl rfl ⟨⟨Nat.le_of_ble_eq_true rfl, Nat.le_of_ble_eq_true rfl⟩, Nat.le_of_ble_eq_true rfl, Nat.le_of_ble_eq_true rfl⟩ (Nat.le_of_ble_eq_true rfl) dL_sourcesOf_4) (fun r u H locs hp hP1 hD1 hP2 hs hS => ?_)
  obtain rfl : r = ((σ.2.2.1 0) i) := hp
  have hPn := hP1.app hP2
  have hDn := va_D.app hD1 (zD_r hD) hs
  refine lv_i2l hx hb dL_sourcesOf_7 rfl ?_
  refine stL (ws1 := wC G q σ κ ++ [aL G oa 1 (va_up f 0 (((σ.2.2.1 0) i).toInt64))]) Z hPn hDn hS 30 f rfl 0 rfl (by decide) (by decide) rfl dL_sourcesOf_8 (fun H locs hP hD hS => ?_)
  refine lv_goto (tgt := 15) hx hb dL_sourcesOf_9 (by decide) ?_
  refine zr_iconst hx hb dL_sourcesOf_15 ?_
  exact zret_I () Z hr hP hD hS rfl rfl ⟨Nat.le_of_ble_eq_true rfl, Nat.le_of_ble_eq_true rfl⟩ hQ dL_sourcesOf_16
abbrev r_L_sourcesOf_x : Room := { frames := 8, cells := 1, slots := 6, locals := 142 }
set_option maxHeartbeats 4000000 in
set_option maxRecDepth 100000 in
theorem m_L_sourcesOf_x (l : Launch) (G : ZG) (hst : l.stackTraces = false) (q : Nat → Nat) (σ : St) (κ : KC) (oa : Nat) (f : Nat → Int64) (i : Int) (hI : okC σ) (h1 : zR i) (h2 : i < 0 ∨ ((σ.1 4 : Nat) : Int) ≤ i) :
  MC l G yL_sourcesOf (wYW yL_sourcesOf cL_sourcesOf 4 (some .int) [(0, 9, 12, 35)]) r_L_sourcesOf_x (wC G q σ κ ++ [aL G oa 1 f]) [.ref (q 0), .int (zI (i : Int)), .ref (oa)] (QI G (fun r9 (_ : Unit) => r9 = zI (1 : Int)) (fun _ => wC G q σ κ ++ [aL G oa 1 f])) := by
  refine MC.mkW (by decide +kernel) (Nat.le_of_ble_eq_true rfl) ?_
  intro p e s m av below meth c A H locs ls Q Z ht hr hnm hQ hP hD hS hl
  have hx := Z.1
  have hb := Z.2.1
  have hl : lv_has ls 4 [(0, .ref (q 0)), (1, .int (zI (i : Int))), (2, .ref (oa))] := hl
  refine lv_aload_n hx hb dL_sourcesOf_0 rfl (lv_at hl 2 rfl) ?_
  refine zr_iconst hx hb dL_sourcesOf_1 ?_
  refine lv_aload_n hx hb dL_sourcesOf_2 rfl (lv_at hl 0 rfl) ?_
  refine lv_iload_n hx hb dL_sourcesOf_3 rfl (lv_at hl 1 rfl) ?_
  refine zcatch Z (zP_r hP) (zD_sep hD) (zD_l hD) hS (zrunXV (rest := [.int (zI (0 : Int)), .ref oa]) Z (zP_l hP) (zD_l hD) hS hl.1 (m_X5_sourcesOf_x l G hst q σ κ i hI h1 h2) zY_X5_sourcesOf km_L_56 (q0 := 0) rfl rfl rfl rfl ⟨⟨Nat.le_of_ble_eq_true rfl, Nat.le_of_ble_eq_true rfl⟩, Nat.le_of_ble_eq_true rfl, Nat.le_of_ble_eq_true rfl⟩ (Nat.le_of_ble_eq_true rfl) dL_sourcesOf_4) [] ⟨0, 9, 12, 35⟩ [] ht (fun z hz => by cases hz) (by decide) (by decide) kc_L_35 (by decide +kernel) (fun u q9 H locs hP1 hD1 hP2 hs hS => ?_)
  have hP := hP1.app hP2
  have hD := va_D.app hD1 (zD_r hD) hs
  refine lv_astore_n (lv' := [(3, .ref (q9)), (0, .ref (q 0)), (1, .int (zI (i : Int))), (2, .ref (oa))]) hx hb dL_sourcesOf_12 rfl hl (by decide) rfl (fun ls hl => ?_)
  refine zr_iconst hx hb dL_sourcesOf_13 ?_
  exact zret_I () Z hr hP hD hS rfl rfl ⟨Nat.le_of_ble_eq_true rfl, Nat.le_of_ble_eq_true rfl⟩ hQ dL_sourcesOf_14
abbrev r_L_sync : Room := { frames := 3, cells := 0, slots := 0, locals := 71 }
set_option maxHeartbeats 4000000 in
set_option maxRecDepth 100000 in
theorem m_L_sync (l : Launch) (G : ZG) (q : Nat → Nat) (σ : St) (κ : KC) (oa : Nat) (f : Nat → Int64) {e_d : Int} (d : Nat) (he_d : e_d = (d : Int)) (hI : okC σ) (h1 : d < σ.1 7) :
  MC l G yL_sync (wYW yL_sync cL_sync 4 (some .int) [(0, 9, 12, 35)]) r_L_sync (wC G q σ κ ++ [aL G oa 1 f]) [.ref (q 0), .int (zI e_d), .ref (oa)] (QI G (fun r9 (_ : Unit) => r9 = zI (0 : Int)) (fun _ => wC G q (syS σ d (σ.1 4)) κ ++ [aL G oa 1 (va_up f 0 ((zI ((syC σ d (σ.1 4) : Nat) : Int)).toInt64))])) := by
  subst he_d
  refine MC.mkW (by decide +kernel) (Nat.le_of_ble_eq_true rfl) ?_
  intro p e s m av below meth c A H locs ls Q Z ht hr hnm hQ hP hD hS hl
  have hx := Z.1
  have hb := Z.2.1
  have hl : lv_has ls 4 [(0, .ref (q 0)), (1, .int (zI ((d : Nat) : Int))), (2, .ref (oa))] := hl
  refine lv_aload_n hx hb dL_sync_0 rfl (lv_at hl 2 rfl) ?_
  refine zr_iconst hx hb dL_sync_1 ?_
  refine lv_aload_n hx hb dL_sync_2 rfl (lv_at hl 0 rfl) ?_
  refine lv_iload_n hx hb dL_sync_3 rfl (lv_at hl 1 rfl) ?_
  refine zfr_I ⟨rfl, rfl⟩ Z (zP_r hP) (zD_sep hD) (zD_l hD) hS (zrunV (rest := [.int (zI (0 : Int)), .ref oa]) Z (zP_l hP) (zD_l hD) hS hl.1 (m_X5_sync l G q σ κ d rfl hI h1) zY_X5_sync km_L_116 (q0 := 0) rfl rfl rfl rfl ⟨⟨Nat.le_of_ble_eq_true rfl, Nat.le_of_ble_eq_true rfl⟩, Nat.le_of_ble_eq_true rfl, Nat.le_of_ble_eq_true rfl⟩ (Nat.le_of_ble_eq_true rfl) dL_sync_4) (fun r u H locs hp hP1 hD1 hP2 hs hS => ?_)
  obtain rfl : r = (zI ((syC σ d (σ.1 4) : Nat) : Int)) := hp
  have hPn := hP1.app hP2
  have hDn := va_D.app hD1 (zD_r hD) hs
  refine lv_i2l hx hb dL_sync_7 rfl ?_
  refine stL (ws1 := wC G q (syS σ d (σ.1 4)) κ ++ [aL G oa 1 (va_up f 0 ((zI ((syC σ d (σ.1 4) : Nat) : Int)).toInt64))]) Z hPn hDn hS 30 f rfl 0 rfl (by decide) (by decide) rfl dL_sync_8 (fun H locs hP hD hS => ?_)
  refine lv_goto (tgt := 15) hx hb dL_sync_9 (by decide) ?_
  refine zr_iconst hx hb dL_sync_15 ?_
  exact zret_I () Z hr hP hD hS rfl rfl ⟨Nat.le_of_ble_eq_true rfl, Nat.le_of_ble_eq_true rfl⟩ hQ dL_sync_16
abbrev r_L_sync_x : Room := { frames := 8, cells := 1, slots := 6, locals := 145 }
set_option maxHeartbeats 4000000 in
set_option maxRecDepth 100000 in
theorem m_L_sync_x (l : Launch) (G : ZG) (hst : l.stackTraces = false) (q : Nat → Nat) (σ : St) (κ : KC) (oa : Nat) (f : Nat → Int64) (d : Int) (hI : okC σ) (h1 : zR d) (h2 : d < 0 ∨ ((σ.1 7 : Nat) : Int) ≤ d) :
  MC l G yL_sync (wYW yL_sync cL_sync 4 (some .int) [(0, 9, 12, 35)]) r_L_sync_x (wC G q σ κ ++ [aL G oa 1 f]) [.ref (q 0), .int (zI (d : Int)), .ref (oa)] (QI G (fun r9 (_ : Unit) => r9 = zI (1 : Int)) (fun _ => wC G q σ κ ++ [aL G oa 1 f])) := by
  refine MC.mkW (by decide +kernel) (Nat.le_of_ble_eq_true rfl) ?_
  intro p e s m av below meth c A H locs ls Q Z ht hr hnm hQ hP hD hS hl
  have hx := Z.1
  have hb := Z.2.1
  have hl : lv_has ls 4 [(0, .ref (q 0)), (1, .int (zI (d : Int))), (2, .ref (oa))] := hl
  refine lv_aload_n hx hb dL_sync_0 rfl (lv_at hl 2 rfl) ?_
  refine zr_iconst hx hb dL_sync_1 ?_
  refine lv_aload_n hx hb dL_sync_2 rfl (lv_at hl 0 rfl) ?_
  refine lv_iload_n hx hb dL_sync_3 rfl (lv_at hl 1 rfl) ?_
  refine zcatch Z (zP_r hP) (zD_sep hD) (zD_l hD) hS (zrunXV (rest := [.int (zI (0 : Int)), .ref oa]) Z (zP_l hP) (zD_l hD) hS hl.1 (m_X5_sync_x l G hst q σ κ d hI h1 h2) zY_X5_sync km_L_116 (q0 := 0) rfl rfl rfl rfl ⟨⟨Nat.le_of_ble_eq_true rfl, Nat.le_of_ble_eq_true rfl⟩, Nat.le_of_ble_eq_true rfl, Nat.le_of_ble_eq_true rfl⟩ (Nat.le_of_ble_eq_true rfl) dL_sync_4) [] ⟨0, 9, 12, 35⟩ [] ht (fun z hz => by cases hz) (by decide) (by decide) kc_L_35 (by decide +kernel) (fun u q9 H locs hP1 hD1 hP2 hs hS => ?_)
  have hP := hP1.app hP2
  have hD := va_D.app hD1 (zD_r hD) hs
  refine lv_astore_n (lv' := [(3, .ref (q9)), (0, .ref (q 0)), (1, .int (zI (d : Int))), (2, .ref (oa))]) hx hb dL_sync_12 rfl hl (by decide) rfl (fun ls hl => ?_)
  refine zr_iconst hx hb dL_sync_13 ?_
  exact zret_I () Z hr hP hD hS rfl rfl ⟨Nat.le_of_ble_eq_true rfl, Nat.le_of_ble_eq_true rfl⟩ hQ dL_sync_14
abbrev r_L_tagsOf : Room := { frames := 6, cells := 0, slots := 0, locals := 128 }
set_option maxHeartbeats 4000000 in
set_option maxRecDepth 100000 in
theorem m_L_tagsOf (l : Launch) (G : ZG) (q : Nat → Nat) (σ : St) (κ : KC) (oa : Nat) (f : Nat → Int64) {e_i : Int} (i : Nat) (he_i : e_i = (i : Int)) (hI : okC σ) (h1 : i < σ.1 4) :
  MC l G yL_tagsOf (wYW yL_tagsOf cL_tagsOf 4 (some .int) [(0, 9, 12, 35)]) r_L_tagsOf (wC G q σ κ ++ [aL G oa 1 f]) [.ref (q 0), .int (zI e_i), .ref (oa)] (QI G (fun r9 (_ : Unit) => r9 = zI (0 : Int)) (fun _ => wC G q σ κ ++ [aL G oa 1 (va_up f 0 ((out σ i &&& zI 255).toInt64))])) := by
  subst he_i
  refine MC.mkW (by decide +kernel) (Nat.le_of_ble_eq_true rfl) ?_
  intro p e s m av below meth c A H locs ls Q Z ht hr hnm hQ hP hD hS hl
  have hx := Z.1
  have hb := Z.2.1
  have hl : lv_has ls 4 [(0, .ref (q 0)), (1, .int (zI ((i : Nat) : Int))), (2, .ref (oa))] := hl
  refine lv_aload_n hx hb dL_tagsOf_0 rfl (lv_at hl 2 rfl) ?_
  refine zr_iconst hx hb dL_tagsOf_1 ?_
  refine lv_aload_n hx hb dL_tagsOf_2 rfl (lv_at hl 0 rfl) ?_
  refine lv_iload_n hx hb dL_tagsOf_3 rfl (lv_at hl 1 rfl) ?_
  refine zfr_I ⟨rfl, rfl⟩ Z (zP_r hP) (zD_sep hD) (zD_l hD) hS (zrunV (rest := [.int (zI (0 : Int)), .ref oa]) Z (zP_l hP) (zD_l hD) hS hl.1 (m_X5_tagsOf l G q σ κ i rfl hI h1) zY_X5_tagsOf km_L_69 (q0 := 0) rfl rfl rfl rfl ⟨⟨Nat.le_of_ble_eq_true rfl, Nat.le_of_ble_eq_true rfl⟩, Nat.le_of_ble_eq_true rfl, Nat.le_of_ble_eq_true rfl⟩ (Nat.le_of_ble_eq_true rfl) dL_tagsOf_4) (fun r u H locs hp hP1 hD1 hP2 hs hS => ?_)
  obtain rfl : r = (out σ i &&& zI 255) := hp
  have hPn := hP1.app hP2
  have hDn := va_D.app hD1 (zD_r hD) hs
  refine lv_i2l hx hb dL_tagsOf_7 rfl ?_
  refine stL (ws1 := wC G q σ κ ++ [aL G oa 1 (va_up f 0 ((out σ i &&& zI 255).toInt64))]) Z hPn hDn hS 30 f rfl 0 rfl (by decide) (by decide) rfl dL_tagsOf_8 (fun H locs hP hD hS => ?_)
  refine lv_goto (tgt := 15) hx hb dL_tagsOf_9 (by decide) ?_
  refine zr_iconst hx hb dL_tagsOf_15 ?_
  exact zret_I () Z hr hP hD hS rfl rfl ⟨Nat.le_of_ble_eq_true rfl, Nat.le_of_ble_eq_true rfl⟩ hQ dL_tagsOf_16
abbrev r_L_tagsOf_x : Room := { frames := 8, cells := 1, slots := 6, locals := 142 }
set_option maxHeartbeats 4000000 in
set_option maxRecDepth 100000 in
theorem m_L_tagsOf_x (l : Launch) (G : ZG) (hst : l.stackTraces = false) (q : Nat → Nat) (σ : St) (κ : KC) (oa : Nat) (f : Nat → Int64) (i : Int) (hI : okC σ) (h1 : zR i) (h2 : i < 0 ∨ ((σ.1 4 : Nat) : Int) ≤ i) :
  MC l G yL_tagsOf (wYW yL_tagsOf cL_tagsOf 4 (some .int) [(0, 9, 12, 35)]) r_L_tagsOf_x (wC G q σ κ ++ [aL G oa 1 f]) [.ref (q 0), .int (zI (i : Int)), .ref (oa)] (QI G (fun r9 (_ : Unit) => r9 = zI (1 : Int)) (fun _ => wC G q σ κ ++ [aL G oa 1 f])) := by
  refine MC.mkW (by decide +kernel) (Nat.le_of_ble_eq_true rfl) ?_
  intro p e s m av below meth c A H locs ls Q Z ht hr hnm hQ hP hD hS hl
  have hx := Z.1
  have hb := Z.2.1
  have hl : lv_has ls 4 [(0, .ref (q 0)), (1, .int (zI (i : Int))), (2, .ref (oa))] := hl
  refine lv_aload_n hx hb dL_tagsOf_0 rfl (lv_at hl 2 rfl) ?_
  refine zr_iconst hx hb dL_tagsOf_1 ?_
  refine lv_aload_n hx hb dL_tagsOf_2 rfl (lv_at hl 0 rfl) ?_
  refine lv_iload_n hx hb dL_tagsOf_3 rfl (lv_at hl 1 rfl) ?_
  refine zcatch Z (zP_r hP) (zD_sep hD) (zD_l hD) hS (zrunXV (rest := [.int (zI (0 : Int)), .ref oa]) Z (zP_l hP) (zD_l hD) hS hl.1 (m_X5_tagsOf_x l G hst q σ κ i hI h1 h2) zY_X5_tagsOf km_L_69 (q0 := 0) rfl rfl rfl rfl ⟨⟨Nat.le_of_ble_eq_true rfl, Nat.le_of_ble_eq_true rfl⟩, Nat.le_of_ble_eq_true rfl, Nat.le_of_ble_eq_true rfl⟩ (Nat.le_of_ble_eq_true rfl) dL_tagsOf_4) [] ⟨0, 9, 12, 35⟩ [] ht (fun z hz => by cases hz) (by decide) (by decide) kc_L_35 (by decide +kernel) (fun u q9 H locs hP1 hD1 hP2 hs hS => ?_)
  have hP := hP1.app hP2
  have hD := va_D.app hD1 (zD_r hD) hs
  refine lv_astore_n (lv' := [(3, .ref (q9)), (0, .ref (q 0)), (1, .int (zI (i : Int))), (2, .ref (oa))]) hx hb dL_tagsOf_12 rfl hl (by decide) rfl (fun ls hl => ?_)
  refine zr_iconst hx hb dL_tagsOf_13 ?_
  exact zret_I () Z hr hP hD hS rfl rfl ⟨Nat.le_of_ble_eq_true rfl, Nat.le_of_ble_eq_true rfl⟩ hQ dL_tagsOf_14
abbrev r_L_timeOf : Room := { frames := 3, cells := 0, slots := 0, locals := 62 }
set_option maxHeartbeats 4000000 in
set_option maxRecDepth 100000 in
theorem m_L_timeOf (l : Launch) (G : ZG) (q : Nat → Nat) (σ : St) (κ : KC) (oa : Nat) (f : Nat → Int64) {e_i : Int} (i : Nat) (he_i : e_i = (i : Int)) (hI : okC σ) (h1 : i < σ.1 4) :
  MC l G yL_timeOf (wYW yL_timeOf cL_timeOf 4 (some .int) [(0, 9, 12, 35)]) r_L_timeOf (wC G q σ κ ++ [aL G oa 1 f]) [.ref (q 0), .int (zI e_i), .ref (oa)] (QI G (fun r9 (_ : Unit) => r9 = zI (0 : Int)) (fun _ => wC G q σ κ ++ [aL G oa 1 (va_up f 0 ((zI (((σ.2.1 1) i : Nat) : Int)).toInt64))])) := by
  subst he_i
  refine MC.mkW (by decide +kernel) (Nat.le_of_ble_eq_true rfl) ?_
  intro p e s m av below meth c A H locs ls Q Z ht hr hnm hQ hP hD hS hl
  have hx := Z.1
  have hb := Z.2.1
  have hl : lv_has ls 4 [(0, .ref (q 0)), (1, .int (zI ((i : Nat) : Int))), (2, .ref (oa))] := hl
  refine lv_aload_n hx hb dL_timeOf_0 rfl (lv_at hl 2 rfl) ?_
  refine zr_iconst hx hb dL_timeOf_1 ?_
  refine lv_aload_n hx hb dL_timeOf_2 rfl (lv_at hl 0 rfl) ?_
  refine lv_iload_n hx hb dL_timeOf_3 rfl (lv_at hl 1 rfl) ?_
  refine zfr_I ⟨rfl, rfl⟩ Z (zP_r hP) (zD_sep hD) (zD_l hD) hS (zrunV (rest := [.int (zI (0 : Int)), .ref oa]) Z (zP_l hP) (zD_l hD) hS hl.1 (m_X5_timeOf l G q σ κ i rfl hI h1) zY_X5_timeOf km_L_59 (q0 := 0) rfl rfl rfl rfl ⟨⟨Nat.le_of_ble_eq_true rfl, Nat.le_of_ble_eq_true rfl⟩, Nat.le_of_ble_eq_true rfl, Nat.le_of_ble_eq_true rfl⟩ (Nat.le_of_ble_eq_true rfl) dL_timeOf_4) (fun r u H locs hp hP1 hD1 hP2 hs hS => ?_)
  obtain rfl : r = (zI (((σ.2.1 1) i : Nat) : Int)) := hp
  have hPn := hP1.app hP2
  have hDn := va_D.app hD1 (zD_r hD) hs
  refine lv_i2l hx hb dL_timeOf_7 rfl ?_
  refine stL (ws1 := wC G q σ κ ++ [aL G oa 1 (va_up f 0 ((zI (((σ.2.1 1) i : Nat) : Int)).toInt64))]) Z hPn hDn hS 30 f rfl 0 rfl (by decide) (by decide) rfl dL_timeOf_8 (fun H locs hP hD hS => ?_)
  refine lv_goto (tgt := 15) hx hb dL_timeOf_9 (by decide) ?_
  refine zr_iconst hx hb dL_timeOf_15 ?_
  exact zret_I () Z hr hP hD hS rfl rfl ⟨Nat.le_of_ble_eq_true rfl, Nat.le_of_ble_eq_true rfl⟩ hQ dL_timeOf_16
abbrev r_L_timeOf_x : Room := { frames := 8, cells := 1, slots := 6, locals := 142 }
set_option maxHeartbeats 4000000 in
set_option maxRecDepth 100000 in
theorem m_L_timeOf_x (l : Launch) (G : ZG) (hst : l.stackTraces = false) (q : Nat → Nat) (σ : St) (κ : KC) (oa : Nat) (f : Nat → Int64) (i : Int) (hI : okC σ) (h1 : zR i) (h2 : i < 0 ∨ ((σ.1 4 : Nat) : Int) ≤ i) :
  MC l G yL_timeOf (wYW yL_timeOf cL_timeOf 4 (some .int) [(0, 9, 12, 35)]) r_L_timeOf_x (wC G q σ κ ++ [aL G oa 1 f]) [.ref (q 0), .int (zI (i : Int)), .ref (oa)] (QI G (fun r9 (_ : Unit) => r9 = zI (1 : Int)) (fun _ => wC G q σ κ ++ [aL G oa 1 f])) := by
  refine MC.mkW (by decide +kernel) (Nat.le_of_ble_eq_true rfl) ?_
  intro p e s m av below meth c A H locs ls Q Z ht hr hnm hQ hP hD hS hl
  have hx := Z.1
  have hb := Z.2.1
  have hl : lv_has ls 4 [(0, .ref (q 0)), (1, .int (zI (i : Int))), (2, .ref (oa))] := hl
  refine lv_aload_n hx hb dL_timeOf_0 rfl (lv_at hl 2 rfl) ?_
  refine zr_iconst hx hb dL_timeOf_1 ?_
  refine lv_aload_n hx hb dL_timeOf_2 rfl (lv_at hl 0 rfl) ?_
  refine lv_iload_n hx hb dL_timeOf_3 rfl (lv_at hl 1 rfl) ?_
  refine zcatch Z (zP_r hP) (zD_sep hD) (zD_l hD) hS (zrunXV (rest := [.int (zI (0 : Int)), .ref oa]) Z (zP_l hP) (zD_l hD) hS hl.1 (m_X5_timeOf_x l G hst q σ κ i hI h1 h2) zY_X5_timeOf km_L_59 (q0 := 0) rfl rfl rfl rfl ⟨⟨Nat.le_of_ble_eq_true rfl, Nat.le_of_ble_eq_true rfl⟩, Nat.le_of_ble_eq_true rfl, Nat.le_of_ble_eq_true rfl⟩ (Nat.le_of_ble_eq_true rfl) dL_timeOf_4) [] ⟨0, 9, 12, 35⟩ [] ht (fun z hz => by cases hz) (by decide) (by decide) kc_L_35 (by decide +kernel) (fun u q9 H locs hP1 hD1 hP2 hs hS => ?_)
  have hP := hP1.app hP2
  have hD := va_D.app hD1 (zD_r hD) hs
  refine lv_astore_n (lv' := [(3, .ref (q9)), (0, .ref (q 0)), (1, .int (zI (i : Int))), (2, .ref (oa))]) hx hb dL_timeOf_12 rfl hl (by decide) rfl (fun ls hl => ?_)
  refine zr_iconst hx hb dL_timeOf_13 ?_
  exact zret_I () Z hr hP hD hS rfl rfl ⟨Nat.le_of_ble_eq_true rfl, Nat.le_of_ble_eq_true rfl⟩ hQ dL_timeOf_14
abbrev r_L_title : Room := { frames := 4, cells := 0, slots := 0, locals := 87 }
set_option maxHeartbeats 4000000 in
set_option maxRecDepth 100000 in
theorem m_L_title (l : Launch) (G : ZG) (q : Nat → Nat) (σ : St) (κ : KC) (oa : Nat) (f : Nat → Int64) {e_i : Int} (i : Nat) (he_i : e_i = (i : Int)) {e_b : Int} (b : Nat) (he_b : e_b = (b : Int)) (hI : okC σ) (h1 : i < σ.1 4) (h2 : b < σ.2.1 2 i) (h3 : σ.2.1 2 i ≤ b + 4) :
  MC l G yL_title (wYW yL_title cL_title 5 (some .int) [(0, 9, 12, 35), (0, 9, 16, 41)]) r_L_title (wC G q σ κ ++ [aL G oa 1 f]) [.ref (q 0), .int (zI e_i), .int (zI e_b), .ref (oa)] (QI G (fun r9 (_ : Unit) => r9 = zI (0 : Int)) (fun _ => wC G q σ κ ++ [aL G oa 1 (va_up f 0 ((σ.2.2.2 0) (4 * i + b % 4)))])) := by
  subst he_i
  subst he_b
  refine MC.mkW (by decide +kernel) (Nat.le_of_ble_eq_true rfl) ?_
  intro p e s m av below meth c A H locs ls Q Z ht hr hnm hQ hP hD hS hl
  have hx := Z.1
  have hb := Z.2.1
  have hl : lv_has ls 5 [(0, .ref (q 0)), (1, .int (zI ((i : Nat) : Int))), (2, .int (zI ((b : Nat) : Int))), (3, .ref (oa))] := hl
  refine lv_aload_n hx hb dL_title_0 rfl (lv_at hl 3 rfl) ?_
  refine zr_iconst hx hb dL_title_1 ?_
  refine lv_aload_n hx hb dL_title_2 rfl (lv_at hl 0 rfl) ?_
  refine lv_iload_n hx hb dL_title_3 rfl (lv_at hl 1 rfl) ?_
  refine lv_iload_n hx hb dL_title_4 rfl (lv_at hl 2 rfl) ?_
  refine zfr_L ⟨rfl, rfl⟩ Z (zP_r hP) (zD_sep hD) (zD_l hD) hS (zrunV (rest := [.int (zI (0 : Int)), .ref oa]) Z (zP_l hP) (zD_l hD) hS hl.1 (m_X5_title l G q σ κ i rfl b rfl hI h1 h2 h3) zY_X5_title km_L_46 (q0 := 0) rfl rfl rfl rfl ⟨⟨Nat.le_of_ble_eq_true rfl, Nat.le_of_ble_eq_true rfl⟩, Nat.le_of_ble_eq_true rfl, Nat.le_of_ble_eq_true rfl⟩ (Nat.le_of_ble_eq_true rfl) dL_title_5) (fun r u H locs hp hP1 hD1 hP2 hs hS => ?_)
  obtain rfl : r = ((σ.2.2.2 0) (4 * i + b % 4)) := hp
  have hPn := hP1.app hP2
  have hDn := va_D.app hD1 (zD_r hD) hs
  refine stL (ws1 := wC G q σ κ ++ [aL G oa 1 (va_up f 0 ((σ.2.2.2 0) (4 * i + b % 4)))]) Z hPn hDn hS 30 f rfl 0 rfl (by decide) (by decide) rfl dL_title_8 (fun H locs hP hD hS => ?_)
  refine lv_goto (tgt := 20) hx hb dL_title_9 (by decide) ?_
  refine zr_iconst hx hb dL_title_20 ?_
  exact zret_I () Z hr hP hD hS rfl rfl ⟨Nat.le_of_ble_eq_true rfl, Nat.le_of_ble_eq_true rfl⟩ hQ dL_title_21
abbrev r_L_title_x1 : Room := { frames := 8, cells := 1, slots := 6, locals := 143 }
set_option maxHeartbeats 4000000 in
set_option maxRecDepth 100000 in
theorem m_L_title_x1 (l : Launch) (G : ZG) (hst : l.stackTraces = false) (q : Nat → Nat) (σ : St) (κ : KC) (oa : Nat) (f : Nat → Int64) (i : Int) (b : Int) (hI : okC σ) (h1 : zR i) (h2 : i < 0 ∨ ((σ.1 4 : Nat) : Int) ≤ i) :
  MC l G yL_title (wYW yL_title cL_title 5 (some .int) [(0, 9, 12, 35), (0, 9, 16, 41)]) r_L_title_x1 (wC G q σ κ ++ [aL G oa 1 f]) [.ref (q 0), .int (zI (i : Int)), .int (zI (b : Int)), .ref (oa)] (QI G (fun r9 (_ : Unit) => r9 = zI (1 : Int)) (fun _ => wC G q σ κ ++ [aL G oa 1 f])) := by
  refine MC.mkW (by decide +kernel) (Nat.le_of_ble_eq_true rfl) ?_
  intro p e s m av below meth c A H locs ls Q Z ht hr hnm hQ hP hD hS hl
  have hx := Z.1
  have hb := Z.2.1
  have hl : lv_has ls 5 [(0, .ref (q 0)), (1, .int (zI (i : Int))), (2, .int (zI (b : Int))), (3, .ref (oa))] := hl
  refine lv_aload_n hx hb dL_title_0 rfl (lv_at hl 3 rfl) ?_
  refine zr_iconst hx hb dL_title_1 ?_
  refine lv_aload_n hx hb dL_title_2 rfl (lv_at hl 0 rfl) ?_
  refine lv_iload_n hx hb dL_title_3 rfl (lv_at hl 1 rfl) ?_
  refine lv_iload_n hx hb dL_title_4 rfl (lv_at hl 2 rfl) ?_
  refine zcatch Z (zP_r hP) (zD_sep hD) (zD_l hD) hS (zrunXV (rest := [.int (zI (0 : Int)), .ref oa]) Z (zP_l hP) (zD_l hD) hS hl.1 (m_X5_title_x1 l G hst q σ κ i b hI h1 h2) zY_X5_title km_L_46 (q0 := 0) rfl rfl rfl rfl ⟨⟨Nat.le_of_ble_eq_true rfl, Nat.le_of_ble_eq_true rfl⟩, Nat.le_of_ble_eq_true rfl, Nat.le_of_ble_eq_true rfl⟩ (Nat.le_of_ble_eq_true rfl) dL_title_5) [] ⟨0, 9, 12, 35⟩ [⟨0, 9, 16, 41⟩] ht (fun z hz => by cases hz) (by decide) (by decide) kc_L_35 (by decide +kernel) (fun u q9 H locs hP1 hD1 hP2 hs hS => ?_)
  have hP := hP1.app hP2
  have hD := va_D.app hD1 (zD_r hD) hs
  refine lv_astore (lv' := [(4, .ref (q9)), (0, .ref (q 0)), (1, .int (zI (i : Int))), (2, .int (zI (b : Int))), (3, .ref (oa))]) hx hb dL_title_12 hl (by decide) rfl (fun ls hl => ?_)
  refine zr_iconst hx hb dL_title_14 ?_
  exact zret_I () Z hr hP hD hS rfl rfl ⟨Nat.le_of_ble_eq_true rfl, Nat.le_of_ble_eq_true rfl⟩ hQ dL_title_15
abbrev r_L_title_x2 : Room := { frames := 7, cells := 1, slots := 6, locals := 122 }
set_option maxHeartbeats 4000000 in
set_option maxRecDepth 100000 in
theorem m_L_title_x2 (l : Launch) (G : ZG) (hst : l.stackTraces = false) (q : Nat → Nat) (σ : St) (κ : KC) (oa : Nat) (f : Nat → Int64) {e_i : Int} (i : Nat) (he_i : e_i = (i : Int)) (b : Int) (hI : okC σ) (h1 : i < σ.1 4) (h4 : zR b) (h2 : ¬ (0 ≤ b ∧ b < ((σ.2.1 2 i : Nat) : Int) ∧ ((σ.2.1 2 i : Nat) : Int) - 4 ≤ b)) :
  MC l G yL_title (wYW yL_title cL_title 5 (some .int) [(0, 9, 12, 35), (0, 9, 16, 41)]) r_L_title_x2 (wC G q σ κ ++ [aL G oa 1 f]) [.ref (q 0), .int (zI e_i), .int (zI (b : Int)), .ref (oa)] (QI G (fun r9 (_ : Unit) => r9 = zI (2 : Int)) (fun _ => wC G q σ κ ++ [aL G oa 1 f])) := by
  subst he_i
  refine MC.mkW (by decide +kernel) (Nat.le_of_ble_eq_true rfl) ?_
  intro p e s m av below meth c A H locs ls Q Z ht hr hnm hQ hP hD hS hl
  have hx := Z.1
  have hb := Z.2.1
  have hl : lv_has ls 5 [(0, .ref (q 0)), (1, .int (zI ((i : Nat) : Int))), (2, .int (zI (b : Int))), (3, .ref (oa))] := hl
  refine lv_aload_n hx hb dL_title_0 rfl (lv_at hl 3 rfl) ?_
  refine zr_iconst hx hb dL_title_1 ?_
  refine lv_aload_n hx hb dL_title_2 rfl (lv_at hl 0 rfl) ?_
  refine lv_iload_n hx hb dL_title_3 rfl (lv_at hl 1 rfl) ?_
  refine lv_iload_n hx hb dL_title_4 rfl (lv_at hl 2 rfl) ?_
  refine zcatch Z (zP_r hP) (zD_sep hD) (zD_l hD) hS (zrunXV (rest := [.int (zI (0 : Int)), .ref oa]) Z (zP_l hP) (zD_l hD) hS hl.1 (m_X5_title_x2 l G hst q σ κ i rfl b hI h1 h4 h2) zY_X5_title km_L_46 (q0 := 0) rfl rfl rfl rfl ⟨⟨Nat.le_of_ble_eq_true rfl, Nat.le_of_ble_eq_true rfl⟩, Nat.le_of_ble_eq_true rfl, Nat.le_of_ble_eq_true rfl⟩ (Nat.le_of_ble_eq_true rfl) dL_title_5) [⟨0, 9, 12, 35⟩] ⟨0, 9, 16, 41⟩ [] ht (fun z hz => by
    rw [List.mem_singleton] at hz; subst hz; exact Or.inr ⟨by decide, "java/lang/IndexOutOfBoundsException", kc_L_35, by decide +kernel⟩) (by decide) (by decide) kc_L_41 (by decide +kernel) (fun u q9 H locs hP1 hD1 hP2 hs hS => ?_)
  have hP := hP1.app hP2
  have hD := va_D.app hD1 (zD_r hD) hs
  refine lv_astore (lv' := [(4, .ref (q9)), (0, .ref (q 0)), (1, .int (zI ((i : Nat) : Int))), (2, .int (zI (b : Int))), (3, .ref (oa))]) hx hb dL_title_16 hl (by decide) rfl (fun ls hl => ?_)
  refine zr_iconst hx hb dL_title_18 ?_
  exact zret_I () Z hr hP hD hS rfl rfl ⟨Nat.le_of_ble_eq_true rfl, Nat.le_of_ble_eq_true rfl⟩ hQ dL_title_19
abbrev r_L_unread : Room := { frames := 7, cells := 0, slots := 0, locals := 154 }
set_option maxHeartbeats 4000000 in
set_option maxRecDepth 100000 in
theorem m_L_unread (l : Launch) (G : ZG) (q : Nat → Nat) (σ : St) (κ : KC) (oa : Nat) (f : Nat → Int64) {e_i : Int} (i : Nat) (he_i : e_i = (i : Int)) (hI : okC σ) (h1 : i < σ.1 6) :
  MC l G yL_unread (wYW yL_unread cL_unread 4 (some .int) [(0, 9, 12, 35)]) r_L_unread (wC G q σ κ ++ [aL G oa 1 f]) [.ref (q 0), .int (zI e_i), .ref (oa)] (QI G (fun r9 (_ : Unit) => r9 = zI (0 : Int)) (fun _ => wC G q σ ((gth (shw σ i) (σ.2.1 10) (κ.1) (σ.1 4)).2, κ.2.1, κ.2.2) ++ [aL G oa 1 (va_up f 0 ((zI ((cnt (fun y9 => !rdR σ ((gth (shw σ i) (σ.2.1 10) (κ.1) (σ.1 4)).2 y9)) (gth (shw σ i) (σ.2.1 10) (κ.1) (σ.1 4)).1 : Nat) : Int)).toInt64))])) := by
  subst he_i
  refine MC.mkW (by decide +kernel) (Nat.le_of_ble_eq_true rfl) ?_
  intro p e s m av below meth c A H locs ls Q Z ht hr hnm hQ hP hD hS hl
  have hx := Z.1
  have hb := Z.2.1
  have hl : lv_has ls 4 [(0, .ref (q 0)), (1, .int (zI ((i : Nat) : Int))), (2, .ref (oa))] := hl
  refine lv_aload_n hx hb dL_unread_0 rfl (lv_at hl 2 rfl) ?_
  refine zr_iconst hx hb dL_unread_1 ?_
  refine lv_aload_n hx hb dL_unread_2 rfl (lv_at hl 0 rfl) ?_
  refine lv_iload_n hx hb dL_unread_3 rfl (lv_at hl 1 rfl) ?_
  refine zfr_I ⟨rfl, rfl⟩ Z (zP_r hP) (zD_sep hD) (zD_l hD) hS (zrunV (rest := [.int (zI (0 : Int)), .ref oa]) Z (zP_l hP) (zD_l hD) hS hl.1 (m_X5_unread l G q σ κ i rfl hI h1) zY_X5_unread km_L_94 (q0 := 0) rfl rfl rfl rfl ⟨⟨Nat.le_of_ble_eq_true rfl, Nat.le_of_ble_eq_true rfl⟩, Nat.le_of_ble_eq_true rfl, Nat.le_of_ble_eq_true rfl⟩ (Nat.le_of_ble_eq_true rfl) dL_unread_4) (fun r u H locs hp hP1 hD1 hP2 hs hS => ?_)
  obtain rfl : r = (zI ((cnt (fun y9 => !rdR σ ((gth (shw σ i) (σ.2.1 10) (κ.1) (σ.1 4)).2 y9)) (gth (shw σ i) (σ.2.1 10) (κ.1) (σ.1 4)).1 : Nat) : Int)) := hp
  have hPn := hP1.app hP2
  have hDn := va_D.app hD1 (zD_r hD) hs
  refine lv_i2l hx hb dL_unread_7 rfl ?_
  refine stL (ws1 := wC G q σ ((gth (shw σ i) (σ.2.1 10) (κ.1) (σ.1 4)).2, κ.2.1, κ.2.2) ++ [aL G oa 1 (va_up f 0 ((zI ((cnt (fun y9 => !rdR σ ((gth (shw σ i) (σ.2.1 10) (κ.1) (σ.1 4)).2 y9)) (gth (shw σ i) (σ.2.1 10) (κ.1) (σ.1 4)).1 : Nat) : Int)).toInt64))]) Z hPn hDn hS 30 f rfl 0 rfl (by decide) (by decide) rfl dL_unread_8 (fun H locs hP hD hS => ?_)
  refine lv_goto (tgt := 15) hx hb dL_unread_9 (by decide) ?_
  refine zr_iconst hx hb dL_unread_15 ?_
  exact zret_I () Z hr hP hD hS rfl rfl ⟨Nat.le_of_ble_eq_true rfl, Nat.le_of_ble_eq_true rfl⟩ hQ dL_unread_16
abbrev r_L_unread_x : Room := { frames := 8, cells := 1, slots := 6, locals := 142 }
set_option maxHeartbeats 4000000 in
set_option maxRecDepth 100000 in
theorem m_L_unread_x (l : Launch) (G : ZG) (hst : l.stackTraces = false) (q : Nat → Nat) (σ : St) (κ : KC) (oa : Nat) (f : Nat → Int64) (i : Int) (hI : okC σ) (h1 : zR i) (h2 : i < 0 ∨ ((σ.1 6 : Nat) : Int) ≤ i) :
  MC l G yL_unread (wYW yL_unread cL_unread 4 (some .int) [(0, 9, 12, 35)]) r_L_unread_x (wC G q σ κ ++ [aL G oa 1 f]) [.ref (q 0), .int (zI (i : Int)), .ref (oa)] (QI G (fun r9 (_ : Unit) => r9 = zI (1 : Int)) (fun _ => wC G q σ κ ++ [aL G oa 1 f])) := by
  refine MC.mkW (by decide +kernel) (Nat.le_of_ble_eq_true rfl) ?_
  intro p e s m av below meth c A H locs ls Q Z ht hr hnm hQ hP hD hS hl
  have hx := Z.1
  have hb := Z.2.1
  have hl : lv_has ls 4 [(0, .ref (q 0)), (1, .int (zI (i : Int))), (2, .ref (oa))] := hl
  refine lv_aload_n hx hb dL_unread_0 rfl (lv_at hl 2 rfl) ?_
  refine zr_iconst hx hb dL_unread_1 ?_
  refine lv_aload_n hx hb dL_unread_2 rfl (lv_at hl 0 rfl) ?_
  refine lv_iload_n hx hb dL_unread_3 rfl (lv_at hl 1 rfl) ?_
  refine zcatch Z (zP_r hP) (zD_sep hD) (zD_l hD) hS (zrunXV (rest := [.int (zI (0 : Int)), .ref oa]) Z (zP_l hP) (zD_l hD) hS hl.1 (m_X5_unread_x l G hst q σ κ i hI h1 h2) zY_X5_unread km_L_94 (q0 := 0) rfl rfl rfl rfl ⟨⟨Nat.le_of_ble_eq_true rfl, Nat.le_of_ble_eq_true rfl⟩, Nat.le_of_ble_eq_true rfl, Nat.le_of_ble_eq_true rfl⟩ (Nat.le_of_ble_eq_true rfl) dL_unread_4) [] ⟨0, 9, 12, 35⟩ [] ht (fun z hz => by cases hz) (by decide) (by decide) kc_L_35 (by decide +kernel) (fun u q9 H locs hP1 hD1 hP2 hs hS => ?_)
  have hP := hP1.app hP2
  have hD := va_D.app hD1 (zD_r hD) hs
  refine lv_astore_n (lv' := [(3, .ref (q9)), (0, .ref (q 0)), (1, .int (zI (i : Int))), (2, .ref (oa))]) hx hb dL_unread_12 rfl hl (by decide) rfl (fun ls hl => ?_)
  refine zr_iconst hx hb dL_unread_13 ?_
  exact zret_I () Z hr hP hD hS rfl rfl ⟨Nat.le_of_ble_eq_true rfl, Nat.le_of_ble_eq_true rfl⟩ hQ dL_unread_14
abbrev r_L_versions : Room := { frames := 3, cells := 0, slots := 0, locals := 62 }
set_option maxHeartbeats 4000000 in
set_option maxRecDepth 100000 in
theorem m_L_versions (l : Launch) (G : ZG) (q : Nat → Nat) (σ : St) (κ : KC) (oa : Nat) (f : Nat → Int64) {e_i : Int} (i : Nat) (he_i : e_i = (i : Int)) (hI : okC σ) (h1 : i < σ.1 4) :
  MC l G yL_versions (wYW yL_versions cL_versions 4 (some .int) [(0, 9, 12, 35)]) r_L_versions (wC G q σ κ ++ [aL G oa 1 f]) [.ref (q 0), .int (zI e_i), .ref (oa)] (QI G (fun r9 (_ : Unit) => r9 = zI (0 : Int)) (fun _ => wC G q σ κ ++ [aL G oa 1 (va_up f 0 ((zI (((σ.2.1 2) i : Nat) : Int)).toInt64))])) := by
  subst he_i
  refine MC.mkW (by decide +kernel) (Nat.le_of_ble_eq_true rfl) ?_
  intro p e s m av below meth c A H locs ls Q Z ht hr hnm hQ hP hD hS hl
  have hx := Z.1
  have hb := Z.2.1
  have hl : lv_has ls 4 [(0, .ref (q 0)), (1, .int (zI ((i : Nat) : Int))), (2, .ref (oa))] := hl
  refine lv_aload_n hx hb dL_versions_0 rfl (lv_at hl 2 rfl) ?_
  refine zr_iconst hx hb dL_versions_1 ?_
  refine lv_aload_n hx hb dL_versions_2 rfl (lv_at hl 0 rfl) ?_
  refine lv_iload_n hx hb dL_versions_3 rfl (lv_at hl 1 rfl) ?_
  refine zfr_I ⟨rfl, rfl⟩ Z (zP_r hP) (zD_sep hD) (zD_l hD) hS (zrunV (rest := [.int (zI (0 : Int)), .ref oa]) Z (zP_l hP) (zD_l hD) hS hl.1 (m_X5_versions l G q σ κ i rfl hI h1) zY_X5_versions km_L_50 (q0 := 0) rfl rfl rfl rfl ⟨⟨Nat.le_of_ble_eq_true rfl, Nat.le_of_ble_eq_true rfl⟩, Nat.le_of_ble_eq_true rfl, Nat.le_of_ble_eq_true rfl⟩ (Nat.le_of_ble_eq_true rfl) dL_versions_4) (fun r u H locs hp hP1 hD1 hP2 hs hS => ?_)
  obtain rfl : r = (zI (((σ.2.1 2) i : Nat) : Int)) := hp
  have hPn := hP1.app hP2
  have hDn := va_D.app hD1 (zD_r hD) hs
  refine lv_i2l hx hb dL_versions_7 rfl ?_
  refine stL (ws1 := wC G q σ κ ++ [aL G oa 1 (va_up f 0 ((zI (((σ.2.1 2) i : Nat) : Int)).toInt64))]) Z hPn hDn hS 30 f rfl 0 rfl (by decide) (by decide) rfl dL_versions_8 (fun H locs hP hD hS => ?_)
  refine lv_goto (tgt := 15) hx hb dL_versions_9 (by decide) ?_
  refine zr_iconst hx hb dL_versions_15 ?_
  exact zret_I () Z hr hP hD hS rfl rfl ⟨Nat.le_of_ble_eq_true rfl, Nat.le_of_ble_eq_true rfl⟩ hQ dL_versions_16
abbrev r_L_versions_x : Room := { frames := 8, cells := 1, slots := 6, locals := 142 }
set_option maxHeartbeats 4000000 in
set_option maxRecDepth 100000 in
theorem m_L_versions_x (l : Launch) (G : ZG) (hst : l.stackTraces = false) (q : Nat → Nat) (σ : St) (κ : KC) (oa : Nat) (f : Nat → Int64) (i : Int) (hI : okC σ) (h1 : zR i) (h2 : i < 0 ∨ ((σ.1 4 : Nat) : Int) ≤ i) :
  MC l G yL_versions (wYW yL_versions cL_versions 4 (some .int) [(0, 9, 12, 35)]) r_L_versions_x (wC G q σ κ ++ [aL G oa 1 f]) [.ref (q 0), .int (zI (i : Int)), .ref (oa)] (QI G (fun r9 (_ : Unit) => r9 = zI (1 : Int)) (fun _ => wC G q σ κ ++ [aL G oa 1 f])) := by
  refine MC.mkW (by decide +kernel) (Nat.le_of_ble_eq_true rfl) ?_
  intro p e s m av below meth c A H locs ls Q Z ht hr hnm hQ hP hD hS hl
  have hx := Z.1
  have hb := Z.2.1
  have hl : lv_has ls 4 [(0, .ref (q 0)), (1, .int (zI (i : Int))), (2, .ref (oa))] := hl
  refine lv_aload_n hx hb dL_versions_0 rfl (lv_at hl 2 rfl) ?_
  refine zr_iconst hx hb dL_versions_1 ?_
  refine lv_aload_n hx hb dL_versions_2 rfl (lv_at hl 0 rfl) ?_
  refine lv_iload_n hx hb dL_versions_3 rfl (lv_at hl 1 rfl) ?_
  refine zcatch Z (zP_r hP) (zD_sep hD) (zD_l hD) hS (zrunXV (rest := [.int (zI (0 : Int)), .ref oa]) Z (zP_l hP) (zD_l hD) hS hl.1 (m_X5_versions_x l G hst q σ κ i hI h1 h2) zY_X5_versions km_L_50 (q0 := 0) rfl rfl rfl rfl ⟨⟨Nat.le_of_ble_eq_true rfl, Nat.le_of_ble_eq_true rfl⟩, Nat.le_of_ble_eq_true rfl, Nat.le_of_ble_eq_true rfl⟩ (Nat.le_of_ble_eq_true rfl) dL_versions_4) [] ⟨0, 9, 12, 35⟩ [] ht (fun z hz => by cases hz) (by decide) (by decide) kc_L_35 (by decide +kernel) (fun u q9 H locs hP1 hD1 hP2 hs hS => ?_)
  have hP := hP1.app hP2
  have hD := va_D.app hD1 (zD_r hD) hs
  refine lv_astore_n (lv' := [(3, .ref (q9)), (0, .ref (q 0)), (1, .int (zI (i : Int))), (2, .ref (oa))]) hx hb dL_versions_12 rfl hl (by decide) rfl (fun ls hl => ?_)
  refine zr_iconst hx hb dL_versions_13 ?_
  exact zret_I () Z hr hP hD hS rfl rfl ⟨Nat.le_of_ble_eq_true rfl, Nat.le_of_ble_eq_true rfl⟩ hQ dL_versions_14
abbrev r_L_withIdentifier : Room := { frames := 2, cells := 0, slots := 0, locals := 45 }
set_option maxHeartbeats 4000000 in
set_option maxRecDepth 100000 in
theorem m_L_withIdentifier (l : Launch) (G : ZG) (q : Nat → Nat) (σ : St) (κ : KC) (oa : Nat) (f : Nat → Int64) (a : Int) (b : Int) (hI : okC σ) (h1 : zR a) (h2 : zR b) (h3 : own σ a b ≠ -1) :
  MC l G yL_withIdentifier (wYW yL_withIdentifier cL_withIdentifier 5 (some .int) [(0, 10, 13, 41)]) r_L_withIdentifier (wC G q σ κ ++ [aL G oa 1 f]) [.ref (q 0), .int (zI (a : Int)), .int (zI (b : Int)), .ref (oa)] (QI G (fun r9 (_ : Unit) => r9 = zI (0 : Int)) (fun _ => wC G q σ κ ++ [aL G oa 1 (va_up f 0 ((zI (own σ a b : Int)).toInt64))])) := by
  refine MC.mkW (by decide +kernel) (Nat.le_of_ble_eq_true rfl) ?_
  intro p e s m av below meth c A H locs ls Q Z ht hr hnm hQ hP hD hS hl
  have hx := Z.1
  have hb := Z.2.1
  have hl : lv_has ls 5 [(0, .ref (q 0)), (1, .int (zI (a : Int))), (2, .int (zI (b : Int))), (3, .ref (oa))] := hl
  refine lv_aload_n hx hb dL_withIdentifier_0 rfl (lv_at hl 3 rfl) ?_
  refine zr_iconst hx hb dL_withIdentifier_1 ?_
  refine lv_aload_n hx hb dL_withIdentifier_2 rfl (lv_at hl 0 rfl) ?_
  refine lv_iload_n hx hb dL_withIdentifier_3 rfl (lv_at hl 1 rfl) ?_
  refine lv_iload_n hx hb dL_withIdentifier_4 rfl (lv_at hl 2 rfl) ?_
  refine zfr_I ⟨rfl, rfl⟩ Z (zP_r hP) (zD_sep hD) (zD_l hD) hS (zrunV (rest := [.int (zI (0 : Int)), .ref oa]) Z (zP_l hP) (zD_l hD) hS hl.1 (m_X5_withIdentifier l G q σ κ a b hI h1 h2 h3) zY_X5_withIdentifier km_L_37 (q0 := 0) rfl rfl rfl rfl ⟨⟨Nat.le_of_ble_eq_true rfl, Nat.le_of_ble_eq_true rfl⟩, Nat.le_of_ble_eq_true rfl, Nat.le_of_ble_eq_true rfl⟩ (Nat.le_of_ble_eq_true rfl) dL_withIdentifier_5) (fun r u H locs hp hP1 hD1 hP2 hs hS => ?_)
  obtain rfl : r = (zI (own σ a b : Int)) := hp
  have hPn := hP1.app hP2
  have hDn := va_D.app hD1 (zD_r hD) hs
  refine lv_i2l hx hb dL_withIdentifier_8 rfl ?_
  refine stL (ws1 := wC G q σ κ ++ [aL G oa 1 (va_up f 0 ((zI (own σ a b : Int)).toInt64))]) Z hPn hDn hS 30 f rfl 0 rfl (by decide) (by decide) rfl dL_withIdentifier_9 (fun H locs hP hD hS => ?_)
  refine lv_goto (tgt := 17) hx hb dL_withIdentifier_10 (by decide) ?_
  refine zr_iconst hx hb dL_withIdentifier_17 ?_
  exact zret_I () Z hr hP hD hS rfl rfl ⟨Nat.le_of_ble_eq_true rfl, Nat.le_of_ble_eq_true rfl⟩ hQ dL_withIdentifier_18
abbrev r_L_withIdentifier_x : Room := { frames := 7, cells := 1, slots := 6, locals := 123 }
set_option maxHeartbeats 4000000 in
set_option maxRecDepth 100000 in
theorem m_L_withIdentifier_x (l : Launch) (G : ZG) (hst : l.stackTraces = false) (q : Nat → Nat) (σ : St) (κ : KC) (oa : Nat) (f : Nat → Int64) (a : Int) (b : Int) (hI : okC σ) (h1 : zR a) (h2 : zR b) (h3 : own σ a b = -1) :
  MC l G yL_withIdentifier (wYW yL_withIdentifier cL_withIdentifier 5 (some .int) [(0, 10, 13, 41)]) r_L_withIdentifier_x (wC G q σ κ ++ [aL G oa 1 f]) [.ref (q 0), .int (zI (a : Int)), .int (zI (b : Int)), .ref (oa)] (QI G (fun r9 (_ : Unit) => r9 = zI (1 : Int)) (fun _ => wC G q σ κ ++ [aL G oa 1 f])) := by
  refine MC.mkW (by decide +kernel) (Nat.le_of_ble_eq_true rfl) ?_
  intro p e s m av below meth c A H locs ls Q Z ht hr hnm hQ hP hD hS hl
  have hx := Z.1
  have hb := Z.2.1
  have hl : lv_has ls 5 [(0, .ref (q 0)), (1, .int (zI (a : Int))), (2, .int (zI (b : Int))), (3, .ref (oa))] := hl
  refine lv_aload_n hx hb dL_withIdentifier_0 rfl (lv_at hl 3 rfl) ?_
  refine zr_iconst hx hb dL_withIdentifier_1 ?_
  refine lv_aload_n hx hb dL_withIdentifier_2 rfl (lv_at hl 0 rfl) ?_
  refine lv_iload_n hx hb dL_withIdentifier_3 rfl (lv_at hl 1 rfl) ?_
  refine lv_iload_n hx hb dL_withIdentifier_4 rfl (lv_at hl 2 rfl) ?_
  refine zcatch Z (zP_r hP) (zD_sep hD) (zD_l hD) hS (zrunXV (rest := [.int (zI (0 : Int)), .ref oa]) Z (zP_l hP) (zD_l hD) hS hl.1 (m_X5_withIdentifier_x l G hst q σ κ a b hI h1 h2 h3) zY_X5_withIdentifier km_L_37 (q0 := 0) rfl rfl rfl rfl ⟨⟨Nat.le_of_ble_eq_true rfl, Nat.le_of_ble_eq_true rfl⟩, Nat.le_of_ble_eq_true rfl, Nat.le_of_ble_eq_true rfl⟩ (Nat.le_of_ble_eq_true rfl) dL_withIdentifier_5) [] ⟨0, 10, 13, 41⟩ [] ht (fun z hz => by cases hz) (by decide) (by decide) kc_L_41 (by decide +kernel) (fun u q9 H locs hP1 hD1 hP2 hs hS => ?_)
  have hP := hP1.app hP2
  have hD := va_D.app hD1 (zD_r hD) hs
  refine lv_astore (lv' := [(4, .ref (q9)), (0, .ref (q 0)), (1, .int (zI (a : Int))), (2, .int (zI (b : Int))), (3, .ref (oa))]) hx hb dL_withIdentifier_13 hl (by decide) rfl (fun ls hl => ?_)
  refine zr_iconst hx hb dL_withIdentifier_15 ?_
  exact zret_I () Z hr hP hD hS rfl rfl ⟨Nat.le_of_ble_eq_true rfl, Nat.le_of_ble_eq_true rfl⟩ hQ dL_withIdentifier_16
abbrev r_L_withLink : Room := { frames := 2, cells := 0, slots := 0, locals := 43 }
set_option maxHeartbeats 4000000 in
set_option maxRecDepth 100000 in
theorem m_L_withLink (l : Launch) (G : ZG) (q : Nat → Nat) (σ : St) (κ : KC) (oa : Nat) (f : Nat → Int64) (a : Int) (hI : okC σ) (h1 : zR a) (h3 : ownL σ a ≠ -1) :
  MC l G yL_withLink (wYW yL_withLink cL_withLink 4 (some .int) [(0, 9, 12, 41)]) r_L_withLink (wC G q σ κ ++ [aL G oa 1 f]) [.ref (q 0), .int (zI (a : Int)), .ref (oa)] (QI G (fun r9 (_ : Unit) => r9 = zI (0 : Int)) (fun _ => wC G q σ κ ++ [aL G oa 1 (va_up f 0 ((zI (ownL σ a : Int)).toInt64))])) := by
  refine MC.mkW (by decide +kernel) (Nat.le_of_ble_eq_true rfl) ?_
  intro p e s m av below meth c A H locs ls Q Z ht hr hnm hQ hP hD hS hl
  have hx := Z.1
  have hb := Z.2.1
  have hl : lv_has ls 4 [(0, .ref (q 0)), (1, .int (zI (a : Int))), (2, .ref (oa))] := hl
  refine lv_aload_n hx hb dL_withLink_0 rfl (lv_at hl 2 rfl) ?_
  refine zr_iconst hx hb dL_withLink_1 ?_
  refine lv_aload_n hx hb dL_withLink_2 rfl (lv_at hl 0 rfl) ?_
  refine lv_iload_n hx hb dL_withLink_3 rfl (lv_at hl 1 rfl) ?_
  refine zfr_I ⟨rfl, rfl⟩ Z (zP_r hP) (zD_sep hD) (zD_l hD) hS (zrunV (rest := [.int (zI (0 : Int)), .ref oa]) Z (zP_l hP) (zD_l hD) hS hl.1 (m_X5_withLink l G q σ κ a hI h1 h3) zY_X5_withLink km_L_43 (q0 := 0) rfl rfl rfl rfl ⟨⟨Nat.le_of_ble_eq_true rfl, Nat.le_of_ble_eq_true rfl⟩, Nat.le_of_ble_eq_true rfl, Nat.le_of_ble_eq_true rfl⟩ (Nat.le_of_ble_eq_true rfl) dL_withLink_4) (fun r u H locs hp hP1 hD1 hP2 hs hS => ?_)
  obtain rfl : r = (zI (ownL σ a : Int)) := hp
  have hPn := hP1.app hP2
  have hDn := va_D.app hD1 (zD_r hD) hs
  refine lv_i2l hx hb dL_withLink_7 rfl ?_
  refine stL (ws1 := wC G q σ κ ++ [aL G oa 1 (va_up f 0 ((zI (ownL σ a : Int)).toInt64))]) Z hPn hDn hS 30 f rfl 0 rfl (by decide) (by decide) rfl dL_withLink_8 (fun H locs hP hD hS => ?_)
  refine lv_goto (tgt := 15) hx hb dL_withLink_9 (by decide) ?_
  refine zr_iconst hx hb dL_withLink_15 ?_
  exact zret_I () Z hr hP hD hS rfl rfl ⟨Nat.le_of_ble_eq_true rfl, Nat.le_of_ble_eq_true rfl⟩ hQ dL_withLink_16
abbrev r_L_withLink_x : Room := { frames := 7, cells := 1, slots := 6, locals := 122 }
set_option maxHeartbeats 4000000 in
set_option maxRecDepth 100000 in
theorem m_L_withLink_x (l : Launch) (G : ZG) (hst : l.stackTraces = false) (q : Nat → Nat) (σ : St) (κ : KC) (oa : Nat) (f : Nat → Int64) (a : Int) (hI : okC σ) (h1 : zR a) (h3 : ownL σ a = -1) :
  MC l G yL_withLink (wYW yL_withLink cL_withLink 4 (some .int) [(0, 9, 12, 41)]) r_L_withLink_x (wC G q σ κ ++ [aL G oa 1 f]) [.ref (q 0), .int (zI (a : Int)), .ref (oa)] (QI G (fun r9 (_ : Unit) => r9 = zI (1 : Int)) (fun _ => wC G q σ κ ++ [aL G oa 1 f])) := by
  refine MC.mkW (by decide +kernel) (Nat.le_of_ble_eq_true rfl) ?_
  intro p e s m av below meth c A H locs ls Q Z ht hr hnm hQ hP hD hS hl
  have hx := Z.1
  have hb := Z.2.1
  have hl : lv_has ls 4 [(0, .ref (q 0)), (1, .int (zI (a : Int))), (2, .ref (oa))] := hl
  refine lv_aload_n hx hb dL_withLink_0 rfl (lv_at hl 2 rfl) ?_
  refine zr_iconst hx hb dL_withLink_1 ?_
  refine lv_aload_n hx hb dL_withLink_2 rfl (lv_at hl 0 rfl) ?_
  refine lv_iload_n hx hb dL_withLink_3 rfl (lv_at hl 1 rfl) ?_
  refine zcatch Z (zP_r hP) (zD_sep hD) (zD_l hD) hS (zrunXV (rest := [.int (zI (0 : Int)), .ref oa]) Z (zP_l hP) (zD_l hD) hS hl.1 (m_X5_withLink_x l G hst q σ κ a hI h1 h3) zY_X5_withLink km_L_43 (q0 := 0) rfl rfl rfl rfl ⟨⟨Nat.le_of_ble_eq_true rfl, Nat.le_of_ble_eq_true rfl⟩, Nat.le_of_ble_eq_true rfl, Nat.le_of_ble_eq_true rfl⟩ (Nat.le_of_ble_eq_true rfl) dL_withLink_4) [] ⟨0, 9, 12, 41⟩ [] ht (fun z hz => by cases hz) (by decide) (by decide) kc_L_41 (by decide +kernel) (fun u q9 H locs hP1 hD1 hP2 hs hS => ?_)
  have hP := hP1.app hP2
  have hD := va_D.app hD1 (zD_r hD) hs
  refine lv_astore_n (lv' := [(3, .ref (q9)), (0, .ref (q 0)), (1, .int (zI (a : Int))), (2, .ref (oa))]) hx hb dL_withLink_12 rfl hl (by decide) rfl (fun ls hl => ?_)
  refine zr_iconst hx hb dL_withLink_13 ?_
  exact zret_I () Z hr hP hD hS rfl rfl ⟨Nat.le_of_ble_eq_true rfl, Nat.le_of_ble_eq_true rfl⟩ hQ dL_withLink_14
