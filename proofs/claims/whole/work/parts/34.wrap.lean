abbrev r_L_setThreshold : Room := { frames := 1, cells := 0, slots := 0, locals := 40 }
set_option maxHeartbeats 4000000 in
set_option maxRecDepth 100000 in
theorem m_L_setThreshold (l : Launch) (G : ZG) (q : Nat → Nat) (σ : St) (κ : KC) (oa : Nat) (f : Nat → Int64) {e_a : Int} (a : Nat) (he_a : e_a = (a : Int)) (h1 : 1 ≤ a) (h2 : a ≤ 100) :
    MC l G yL_setThreshold (wYW yL_setThreshold cL_setThreshold 4 (some .int) [(0, 9, 12, 13)]) r_L_setThreshold (wC G q σ κ ++ [aL G oa 1 f]) [.ref (q 0), .int (zI e_a), .ref oa] (QI G (fun r9 (_ : Unit) => r9 = zI (0 : Int)) (fun _ => wC G q (sN σ 1 a) κ ++ [aL G oa 1 (va_up f 0 ((zI ((σ.1 1 : Nat) : Int)).toInt64))])) := by
  subst he_a
  refine MC.mkW (by decide +kernel) (Nat.le_of_ble_eq_true rfl) ?_
  intro p e s m av below meth c A H locs ls Q Z ht hr hnm hQ hP hD hS hl
  have hx := Z.1
  have hb := Z.2.1
  have hl : lv_has ls 4 [(0, .ref (q 0)), (1, .int (zI ((a : Nat) : Int))), (2, .ref oa)] := hl
  refine lv_aload_n hx hb dL_setThreshold_0 rfl (lv_at hl 2 rfl) ?_
  refine zr_iconst hx hb dL_setThreshold_1 ?_
  refine lv_aload_n hx hb dL_setThreshold_2 rfl (lv_at hl 0 rfl) ?_
  refine lv_iload_n hx hb dL_setThreshold_3 rfl (lv_at hl 1 rfl) ?_
  refine zfr_I ⟨rfl, rfl⟩ Z (zP_r hP) (zD_sep hD) (zD_l hD) hS (zrunV (rest := [.int (zI (0 : Int)), .ref oa]) Z (zP_l hP) (zD_l hD) hS hl.1 (m_X5_setThreshold l G q σ κ a rfl h1 h2) zY_X5_setThreshold km_L_17 (q0 := 0) rfl rfl rfl rfl ⟨⟨Nat.le_of_ble_eq_true rfl, Nat.le_of_ble_eq_true rfl⟩, Nat.le_of_ble_eq_true rfl, Nat.le_of_ble_eq_true rfl⟩ (Nat.le_of_ble_eq_true rfl) dL_setThreshold_4) (fun r u H locs hp hP1 hD1 hP2 hs hS => ?_)
  obtain rfl : r = zI ((σ.1 1 : Nat) : Int) := hp
  have hPn := hP1.app hP2
  have hDn := va_D.app hD1 (zD_r hD) hs
  refine lv_i2l hx hb dL_setThreshold_7 rfl ?_
  refine stL (ws1 := wC G q (sN σ 1 a) κ ++ [aL G oa 1 (va_up f 0 ((zI ((σ.1 1 : Nat) : Int)).toInt64))]) Z hPn hDn hS 30 f rfl 0 rfl (by decide) (by decide) rfl dL_setThreshold_8 (fun H locs hP hD hS => ?_)
  refine lv_goto (tgt := 15) hx hb dL_setThreshold_9 (by decide) ?_
  refine zr_iconst hx hb dL_setThreshold_15 ?_
  exact zret_I () Z hr hP hD hS rfl rfl ⟨Nat.le_refl _, Nat.le_refl _⟩ hQ dL_setThreshold_16
