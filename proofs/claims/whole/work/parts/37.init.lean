abbrev r_X0_init : Room := { frames := 1, cells := 2, slots := 240, locals := 40 }
set_option maxHeartbeats 4000000 in
set_option maxRecDepth 100000 in
theorem m_X0_init (l : Launch) (G : ZG) (a : Nat) :
    MC l G yX0_init (wY yX0_init cX0_init 1 none) r_X0_init [(a, .inr (2, [.int (zI (0 : Int)), .null, .null]))] [.ref a] (QV G (fun (_ : Nat × Nat) => True) (fun u => [(a, .inr (2, [.int (zI (0 : Int)), .ref u.1, .ref u.2])), aN G u.1 120 (fun _ => 0), aN G u.2 120 (fun _ => 0)])) := by
  refine MC.mk (by decide +kernel) (Nat.le_of_ble_eq_true rfl) ?_
  intro p e s m av below meth c A H locs ls Q Z hr hnm hQ hP hD hS hl
  have hx := Z.1
  have hb := Z.2.1
  have hown := Z.2.2.2.1
  have hW := Z.2.2.2.2.1
  have hA := Z.2.2.2.2.2.1
  have hK := Z.2.2.2.2.2.2.1
  have hl : lv_has ls 1 [(0, .ref a)] := hl
  refine lv_aload_n hx hb dX0_init_0 rfl (lv_at hl 0 rfl) ?_
  refine W.objInit hx hb hown (hW _ km_X0_3) (hW _ k_oi) (hW _ k_oc) rfl (by rw [Z.2.2.1]; exact hl.1) rfl dX0_init_1 (Nat.le_of_ble_eq_true rfl) (Nat.le_of_ble_eq_true rfl) ?_
  refine lv_aload_n hx hb dX0_init_4 rfl (lv_at hl 0 rfl) ?_
  refine zr_iconst hx hb dX0_init_5 ?_
  refine va_put (D := G.1) (T := TX0) (N := 3) (ci := 2) (ty := tyX0 0) (v := .int (zI (0 : Int))) hx hb hW ku_X0 tyX0 tyX0_ok nmX0 hown hK hP hD hS 0 rfl rfl 0 (by decide) (hW _ kf_X0_9) (fun _ h => h) rfl (by decide +kernel) rfl rfl (Nat.le_of_ble_eq_true rfl) dX0_init_6 (fun H locs hP hD hS => ?_)
  have hP : va_P G.1 vwCl [(a, .inr (2, [.int (zI (0 : Int)), .null, .null]))] H := hP
  have hD : va_D A [(a, .inr (2, [.int (zI (0 : Int)), .null, .null]))] := hD
  refine lv_aload_n hx hb dX0_init_9 rfl (lv_at hl 0 rfl) ?_
  refine zr_bipush (n := 120) hx hb dX0_init_10 (by decide +kernel) ?_
  refine zr_newI (N := 120) Z hP hD hS ka_int rfl (Nat.le_of_ble_eq_true rfl) (Nat.le_of_ble_eq_true rfl) (Nat.le_of_ble_eq_true rfl) dX0_init_12 (fun q1 H hP hD hS => ?_)
  have hP : va_P G.1 vwCl [(a, .inr (2, [.int (zI (0 : Int)), .null, .null])), aN G q1 120 (fun _ => 0)] H := hP
  have hD : va_D A [(a, .inr (2, [.int (zI (0 : Int)), .null, .null])), aN G q1 120 (fun _ => 0)] := hD
  refine va_putF (D := G.1) (T := TX0) (N := 3) (ci := 2) (ty := tyX0 1) (v := .ref q1) hx hb hW ku_X0 tyX0 tyX0_ok nmX0 hown hK hP hD hS 0 rfl rfl 1 (by decide) (hW _ kf_X0_15) (fun _ h => h) rfl hnm rfl (by decide +kernel) rfl rfl (Nat.le_of_ble_eq_true rfl) dX0_init_14 (fun H locs hP hD hS => ?_)
  have hP : va_P G.1 vwCl [(a, .inr (2, [.int (zI (0 : Int)), .ref q1, .null])), aN G q1 120 (fun _ => 0)] H := hP
  have hD : va_D A [(a, .inr (2, [.int (zI (0 : Int)), .ref q1, .null])), aN G q1 120 (fun _ => 0)] := hD
  refine lv_aload_n hx hb dX0_init_17 rfl (lv_at hl 0 rfl) ?_
  refine zr_bipush (n := 120) hx hb dX0_init_18 (by decide +kernel) ?_
  refine zr_newI (N := 120) Z hP hD hS ka_int rfl (Nat.le_of_ble_eq_true rfl) (Nat.le_of_ble_eq_true rfl) (Nat.le_of_ble_eq_true rfl) dX0_init_20 (fun q2 H hP hD hS => ?_)
  have hP : va_P G.1 vwCl [(a, .inr (2, [.int (zI (0 : Int)), .ref q1, .null])), aN G q1 120 (fun _ => 0), aN G q2 120 (fun _ => 0)] H := hP
  have hD : va_D A [(a, .inr (2, [.int (zI (0 : Int)), .ref q1, .null])), aN G q1 120 (fun _ => 0), aN G q2 120 (fun _ => 0)] := hD
  refine va_putF (D := G.1) (T := TX0) (N := 3) (ci := 2) (ty := tyX0 2) (v := .ref q2) hx hb hW ku_X0 tyX0 tyX0_ok nmX0 hown hK hP hD hS 0 rfl rfl 2 (by decide) (hW _ kf_X0_19) (fun _ h => h) rfl hnm rfl (by decide +kernel) rfl rfl (Nat.le_of_ble_eq_true rfl) dX0_init_22 (fun H locs hP hD hS => ?_)
  have hP : va_P G.1 vwCl [(a, .inr (2, [.int (zI (0 : Int)), .ref q1, .ref q2])), aN G q1 120 (fun _ => 0), aN G q2 120 (fun _ => 0)] H := hP
  have hD : va_D A [(a, .inr (2, [.int (zI (0 : Int)), .ref q1, .ref q2])), aN G q1 120 (fun _ => 0), aN G q2 120 (fun _ => 0)] := hD
  exact zret_V (q1, q2) Z hr hP hD hS trivial rfl ⟨Nat.le_of_ble_eq_true rfl, Nat.le_of_ble_eq_true rfl⟩ hQ dX0_init_25
abbrev r_X1_init : Room := { frames := 1, cells := 10, slots := 7330, locals := 40 }
set_option maxHeartbeats 4000000 in
set_option maxRecDepth 100000 in
theorem m_X1_init (l : Launch) (G : ZG) (a : Nat) :
    MC l G yX1_init (wY yX1_init cX1_init 1 none) r_X1_init [(a, .inr (3, [.int (zI (0 : Int)), .null, .null, .null, .null, .null, .null, .null, .null, .null, .null]))] [.ref a] (QV G (fun (_ : Nat × Nat × Nat × Nat × Nat × Nat × Nat × Nat × Nat × Nat) => True) (fun u => [(a, .inr (3, [.int (zI (0 : Int)), .ref u.1, .ref u.2.1, .ref u.2.2.1, .ref u.2.2.2.1, .ref u.2.2.2.2.1, .ref u.2.2.2.2.2.1, .ref u.2.2.2.2.2.2.1, .ref u.2.2.2.2.2.2.2.1, .ref u.2.2.2.2.2.2.2.2.1, .ref u.2.2.2.2.2.2.2.2.2])), aN G u.1 30 (fun _ => 0), aN G u.2.1 30 (fun _ => 0), aN G u.2.2.1 30 (fun _ => 0), aN G u.2.2.2.1 30 (fun _ => 0), aN G u.2.2.2.2.1 30 (fun _ => 0), aL G u.2.2.2.2.2.1 120 (fun _ => 0), aN G u.2.2.2.2.2.2.1 30 (fun _ => 0), aN G u.2.2.2.2.2.2.2.1 30 (fun _ => 0), aN G u.2.2.2.2.2.2.2.2.1 6000 (fun _ => 0), aN G u.2.2.2.2.2.2.2.2.2 1000 (fun _ => 0)])) := by
  refine MC.mk (by decide +kernel) (Nat.le_of_ble_eq_true rfl) ?_
  intro p e s m av below meth c A H locs ls Q Z hr hnm hQ hP hD hS hl
  have hx := Z.1
  have hb := Z.2.1
  have hown := Z.2.2.2.1
  have hW := Z.2.2.2.2.1
  have hA := Z.2.2.2.2.2.1
  have hK := Z.2.2.2.2.2.2.1
  have hl : lv_has ls 1 [(0, .ref a)] := hl
  refine lv_aload_n hx hb dX1_init_0 rfl (lv_at hl 0 rfl) ?_
  refine W.objInit hx hb hown (hW _ km_X1_3) (hW _ k_oi) (hW _ k_oc) rfl (by rw [Z.2.2.1]; exact hl.1) rfl dX1_init_1 (Nat.le_of_ble_eq_true rfl) (Nat.le_of_ble_eq_true rfl) ?_
  refine lv_aload_n hx hb dX1_init_4 rfl (lv_at hl 0 rfl) ?_
  refine zr_iconst hx hb dX1_init_5 ?_
  refine va_put (D := G.1) (T := TX1) (N := 11) (ci := 3) (ty := tyX1 0) (v := .int (zI (0 : Int))) hx hb hW ku_X1 tyX1 tyX1_ok nmX1 hown hK hP hD hS 0 rfl rfl 0 (by decide) (hW _ kf_X1_9) (fun _ h => h) rfl (by decide +kernel) rfl rfl (Nat.le_of_ble_eq_true rfl) dX1_init_6 (fun H locs hP hD hS => ?_)
  have hP : va_P G.1 vwCl [(a, .inr (3, [.int (zI (0 : Int)), .null, .null, .null, .null, .null, .null, .null, .null, .null, .null]))] H := hP
  have hD : va_D A [(a, .inr (3, [.int (zI (0 : Int)), .null, .null, .null, .null, .null, .null, .null, .null, .null, .null]))] := hD
  refine lv_aload_n hx hb dX1_init_9 rfl (lv_at hl 0 rfl) ?_
  refine zr_bipush (n := 30) hx hb dX1_init_10 (by decide +kernel) ?_
  refine zr_newI (N := 30) Z hP hD hS ka_int rfl (Nat.le_of_ble_eq_true rfl) (Nat.le_of_ble_eq_true rfl) (Nat.le_of_ble_eq_true rfl) dX1_init_12 (fun q1 H hP hD hS => ?_)
  have hP : va_P G.1 vwCl [(a, .inr (3, [.int (zI (0 : Int)), .null, .null, .null, .null, .null, .null, .null, .null, .null, .null])), aN G q1 30 (fun _ => 0)] H := hP
  have hD : va_D A [(a, .inr (3, [.int (zI (0 : Int)), .null, .null, .null, .null, .null, .null, .null, .null, .null, .null])), aN G q1 30 (fun _ => 0)] := hD
  refine va_putF (D := G.1) (T := TX1) (N := 11) (ci := 3) (ty := tyX1 1) (v := .ref q1) hx hb hW ku_X1 tyX1 tyX1_ok nmX1 hown hK hP hD hS 0 rfl rfl 1 (by decide) (hW _ kf_X1_15) (fun _ h => h) rfl hnm rfl (by decide +kernel) rfl rfl (Nat.le_of_ble_eq_true rfl) dX1_init_14 (fun H locs hP hD hS => ?_)
  have hP : va_P G.1 vwCl [(a, .inr (3, [.int (zI (0 : Int)), .ref q1, .null, .null, .null, .null, .null, .null, .null, .null, .null])), aN G q1 30 (fun _ => 0)] H := hP
  have hD : va_D A [(a, .inr (3, [.int (zI (0 : Int)), .ref q1, .null, .null, .null, .null, .null, .null, .null, .null, .null])), aN G q1 30 (fun _ => 0)] := hD
  refine lv_aload_n hx hb dX1_init_17 rfl (lv_at hl 0 rfl) ?_
  refine zr_bipush (n := 30) hx hb dX1_init_18 (by decide +kernel) ?_
  refine zr_newI (N := 30) Z hP hD hS ka_int rfl (Nat.le_of_ble_eq_true rfl) (Nat.le_of_ble_eq_true rfl) (Nat.le_of_ble_eq_true rfl) dX1_init_20 (fun q2 H hP hD hS => ?_)
  have hP : va_P G.1 vwCl [(a, .inr (3, [.int (zI (0 : Int)), .ref q1, .null, .null, .null, .null, .null, .null, .null, .null, .null])), aN G q1 30 (fun _ => 0), aN G q2 30 (fun _ => 0)] H := hP
  have hD : va_D A [(a, .inr (3, [.int (zI (0 : Int)), .ref q1, .null, .null, .null, .null, .null, .null, .null, .null, .null])), aN G q1 30 (fun _ => 0), aN G q2 30 (fun _ => 0)] := hD
  refine va_putF (D := G.1) (T := TX1) (N := 11) (ci := 3) (ty := tyX1 2) (v := .ref q2) hx hb hW ku_X1 tyX1 tyX1_ok nmX1 hown hK hP hD hS 0 rfl rfl 2 (by decide) (hW _ kf_X1_19) (fun _ h => h) rfl hnm rfl (by decide +kernel) rfl rfl (Nat.le_of_ble_eq_true rfl) dX1_init_22 (fun H locs hP hD hS => ?_)
  have hP : va_P G.1 vwCl [(a, .inr (3, [.int (zI (0 : Int)), .ref q1, .ref q2, .null, .null, .null, .null, .null, .null, .null, .null])), aN G q1 30 (fun _ => 0), aN G q2 30 (fun _ => 0)] H := hP
  have hD : va_D A [(a, .inr (3, [.int (zI (0 : Int)), .ref q1, .ref q2, .null, .null, .null, .null, .null, .null, .null, .null])), aN G q1 30 (fun _ => 0), aN G q2 30 (fun _ => 0)] := hD
  refine lv_aload_n hx hb dX1_init_25 rfl (lv_at hl 0 rfl) ?_
  refine zr_bipush (n := 30) hx hb dX1_init_26 (by decide +kernel) ?_
  refine zr_newI (N := 30) Z hP hD hS ka_int rfl (Nat.le_of_ble_eq_true rfl) (Nat.le_of_ble_eq_true rfl) (Nat.le_of_ble_eq_true rfl) dX1_init_28 (fun q3 H hP hD hS => ?_)
  have hP : va_P G.1 vwCl [(a, .inr (3, [.int (zI (0 : Int)), .ref q1, .ref q2, .null, .null, .null, .null, .null, .null, .null, .null])), aN G q1 30 (fun _ => 0), aN G q2 30 (fun _ => 0), aN G q3 30 (fun _ => 0)] H := hP
  have hD : va_D A [(a, .inr (3, [.int (zI (0 : Int)), .ref q1, .ref q2, .null, .null, .null, .null, .null, .null, .null, .null])), aN G q1 30 (fun _ => 0), aN G q2 30 (fun _ => 0), aN G q3 30 (fun _ => 0)] := hD
  refine va_putF (D := G.1) (T := TX1) (N := 11) (ci := 3) (ty := tyX1 3) (v := .ref q3) hx hb hW ku_X1 tyX1 tyX1_ok nmX1 hown hK hP hD hS 0 rfl rfl 3 (by decide) (hW _ kf_X1_22) (fun _ h => h) rfl hnm rfl (by decide +kernel) rfl rfl (Nat.le_of_ble_eq_true rfl) dX1_init_30 (fun H locs hP hD hS => ?_)
  have hP : va_P G.1 vwCl [(a, .inr (3, [.int (zI (0 : Int)), .ref q1, .ref q2, .ref q3, .null, .null, .null, .null, .null, .null, .null])), aN G q1 30 (fun _ => 0), aN G q2 30 (fun _ => 0), aN G q3 30 (fun _ => 0)] H := hP
  have hD : va_D A [(a, .inr (3, [.int (zI (0 : Int)), .ref q1, .ref q2, .ref q3, .null, .null, .null, .null, .null, .null, .null])), aN G q1 30 (fun _ => 0), aN G q2 30 (fun _ => 0), aN G q3 30 (fun _ => 0)] := hD
  refine lv_aload_n hx hb dX1_init_33 rfl (lv_at hl 0 rfl) ?_
  refine zr_bipush (n := 30) hx hb dX1_init_34 (by decide +kernel) ?_
  refine zr_newI (N := 30) Z hP hD hS ka_int rfl (Nat.le_of_ble_eq_true rfl) (Nat.le_of_ble_eq_true rfl) (Nat.le_of_ble_eq_true rfl) dX1_init_36 (fun q4 H hP hD hS => ?_)
  have hP : va_P G.1 vwCl [(a, .inr (3, [.int (zI (0 : Int)), .ref q1, .ref q2, .ref q3, .null, .null, .null, .null, .null, .null, .null])), aN G q1 30 (fun _ => 0), aN G q2 30 (fun _ => 0), aN G q3 30 (fun _ => 0), aN G q4 30 (fun _ => 0)] H := hP
  have hD : va_D A [(a, .inr (3, [.int (zI (0 : Int)), .ref q1, .ref q2, .ref q3, .null, .null, .null, .null, .null, .null, .null])), aN G q1 30 (fun _ => 0), aN G q2 30 (fun _ => 0), aN G q3 30 (fun _ => 0), aN G q4 30 (fun _ => 0)] := hD
  refine va_putF (D := G.1) (T := TX1) (N := 11) (ci := 3) (ty := tyX1 4) (v := .ref q4) hx hb hW ku_X1 tyX1 tyX1_ok nmX1 hown hK hP hD hS 0 rfl rfl 4 (by decide) (hW _ kf_X1_25) (fun _ h => h) rfl hnm rfl (by decide +kernel) rfl rfl (Nat.le_of_ble_eq_true rfl) dX1_init_38 (fun H locs hP hD hS => ?_)
  have hP : va_P G.1 vwCl [(a, .inr (3, [.int (zI (0 : Int)), .ref q1, .ref q2, .ref q3, .ref q4, .null, .null, .null, .null, .null, .null])), aN G q1 30 (fun _ => 0), aN G q2 30 (fun _ => 0), aN G q3 30 (fun _ => 0), aN G q4 30 (fun _ => 0)] H := hP
  have hD : va_D A [(a, .inr (3, [.int (zI (0 : Int)), .ref q1, .ref q2, .ref q3, .ref q4, .null, .null, .null, .null, .null, .null])), aN G q1 30 (fun _ => 0), aN G q2 30 (fun _ => 0), aN G q3 30 (fun _ => 0), aN G q4 30 (fun _ => 0)] := hD
  refine lv_aload_n hx hb dX1_init_41 rfl (lv_at hl 0 rfl) ?_
  refine zr_bipush (n := 30) hx hb dX1_init_42 (by decide +kernel) ?_
  refine zr_newI (N := 30) Z hP hD hS ka_int rfl (Nat.le_of_ble_eq_true rfl) (Nat.le_of_ble_eq_true rfl) (Nat.le_of_ble_eq_true rfl) dX1_init_44 (fun q5 H hP hD hS => ?_)
  have hP : va_P G.1 vwCl [(a, .inr (3, [.int (zI (0 : Int)), .ref q1, .ref q2, .ref q3, .ref q4, .null, .null, .null, .null, .null, .null])), aN G q1 30 (fun _ => 0), aN G q2 30 (fun _ => 0), aN G q3 30 (fun _ => 0), aN G q4 30 (fun _ => 0), aN G q5 30 (fun _ => 0)] H := hP
  have hD : va_D A [(a, .inr (3, [.int (zI (0 : Int)), .ref q1, .ref q2, .ref q3, .ref q4, .null, .null, .null, .null, .null, .null])), aN G q1 30 (fun _ => 0), aN G q2 30 (fun _ => 0), aN G q3 30 (fun _ => 0), aN G q4 30 (fun _ => 0), aN G q5 30 (fun _ => 0)] := hD
  refine va_putF (D := G.1) (T := TX1) (N := 11) (ci := 3) (ty := tyX1 5) (v := .ref q5) hx hb hW ku_X1 tyX1 tyX1_ok nmX1 hown hK hP hD hS 0 rfl rfl 5 (by decide) (hW _ kf_X1_28) (fun _ h => h) rfl hnm rfl (by decide +kernel) rfl rfl (Nat.le_of_ble_eq_true rfl) dX1_init_46 (fun H locs hP hD hS => ?_)
  have hP : va_P G.1 vwCl [(a, .inr (3, [.int (zI (0 : Int)), .ref q1, .ref q2, .ref q3, .ref q4, .ref q5, .null, .null, .null, .null, .null])), aN G q1 30 (fun _ => 0), aN G q2 30 (fun _ => 0), aN G q3 30 (fun _ => 0), aN G q4 30 (fun _ => 0), aN G q5 30 (fun _ => 0)] H := hP
  have hD : va_D A [(a, .inr (3, [.int (zI (0 : Int)), .ref q1, .ref q2, .ref q3, .ref q4, .ref q5, .null, .null, .null, .null, .null])), aN G q1 30 (fun _ => 0), aN G q2 30 (fun _ => 0), aN G q3 30 (fun _ => 0), aN G q4 30 (fun _ => 0), aN G q5 30 (fun _ => 0)] := hD
  refine lv_aload_n hx hb dX1_init_49 rfl (lv_at hl 0 rfl) ?_
  refine zr_bipush (n := 120) hx hb dX1_init_50 (by decide +kernel) ?_
  refine zr_newL (N := 120) Z hP hD hS ka_long rfl (Nat.le_of_ble_eq_true rfl) (Nat.le_of_ble_eq_true rfl) (Nat.le_of_ble_eq_true rfl) dX1_init_52 (fun q6 H hP hD hS => ?_)
  have hP : va_P G.1 vwCl [(a, .inr (3, [.int (zI (0 : Int)), .ref q1, .ref q2, .ref q3, .ref q4, .ref q5, .null, .null, .null, .null, .null])), aN G q1 30 (fun _ => 0), aN G q2 30 (fun _ => 0), aN G q3 30 (fun _ => 0), aN G q4 30 (fun _ => 0), aN G q5 30 (fun _ => 0), aL G q6 120 (fun _ => 0)] H := hP
  have hD : va_D A [(a, .inr (3, [.int (zI (0 : Int)), .ref q1, .ref q2, .ref q3, .ref q4, .ref q5, .null, .null, .null, .null, .null])), aN G q1 30 (fun _ => 0), aN G q2 30 (fun _ => 0), aN G q3 30 (fun _ => 0), aN G q4 30 (fun _ => 0), aN G q5 30 (fun _ => 0), aL G q6 120 (fun _ => 0)] := hD
  refine va_putF (D := G.1) (T := TX1) (N := 11) (ci := 3) (ty := tyX1 6) (v := .ref q6) hx hb hW ku_X1 tyX1 tyX1_ok nmX1 hown hK hP hD hS 0 rfl rfl 6 (by decide) (hW _ kf_X1_31) (fun _ h => h) rfl hnm rfl (by decide +kernel) rfl rfl (Nat.le_of_ble_eq_true rfl) dX1_init_54 (fun H locs hP hD hS => ?_)
  have hP : va_P G.1 vwCl [(a, .inr (3, [.int (zI (0 : Int)), .ref q1, .ref q2, .ref q3, .ref q4, .ref q5, .ref q6, .null, .null, .null, .null])), aN G q1 30 (fun _ => 0), aN G q2 30 (fun _ => 0), aN G q3 30 (fun _ => 0), aN G q4 30 (fun _ => 0), aN G q5 30 (fun _ => 0), aL G q6 120 (fun _ => 0)] H := hP
  have hD : va_D A [(a, .inr (3, [.int (zI (0 : Int)), .ref q1, .ref q2, .ref q3, .ref q4, .ref q5, .ref q6, .null, .null, .null, .null])), aN G q1 30 (fun _ => 0), aN G q2 30 (fun _ => 0), aN G q3 30 (fun _ => 0), aN G q4 30 (fun _ => 0), aN G q5 30 (fun _ => 0), aL G q6 120 (fun _ => 0)] := hD
  refine lv_aload_n hx hb dX1_init_57 rfl (lv_at hl 0 rfl) ?_
  refine zr_bipush (n := 30) hx hb dX1_init_58 (by decide +kernel) ?_
  refine zr_newI (N := 30) Z hP hD hS ka_int rfl (Nat.le_of_ble_eq_true rfl) (Nat.le_of_ble_eq_true rfl) (Nat.le_of_ble_eq_true rfl) dX1_init_60 (fun q7 H hP hD hS => ?_)
  have hP : va_P G.1 vwCl [(a, .inr (3, [.int (zI (0 : Int)), .ref q1, .ref q2, .ref q3, .ref q4, .ref q5, .ref q6, .null, .null, .null, .null])), aN G q1 30 (fun _ => 0), aN G q2 30 (fun _ => 0), aN G q3 30 (fun _ => 0), aN G q4 30 (fun _ => 0), aN G q5 30 (fun _ => 0), aL G q6 120 (fun _ => 0), aN G q7 30 (fun _ => 0)] H := hP
  have hD : va_D A [(a, .inr (3, [.int (zI (0 : Int)), .ref q1, .ref q2, .ref q3, .ref q4, .ref q5, .ref q6, .null, .null, .null, .null])), aN G q1 30 (fun _ => 0), aN G q2 30 (fun _ => 0), aN G q3 30 (fun _ => 0), aN G q4 30 (fun _ => 0), aN G q5 30 (fun _ => 0), aL G q6 120 (fun _ => 0), aN G q7 30 (fun _ => 0)] := hD
  refine va_putF (D := G.1) (T := TX1) (N := 11) (ci := 3) (ty := tyX1 7) (v := .ref q7) hx hb hW ku_X1 tyX1 tyX1_ok nmX1 hown hK hP hD hS 0 rfl rfl 7 (by decide) (hW _ kf_X1_35) (fun _ h => h) rfl hnm rfl (by decide +kernel) rfl rfl (Nat.le_of_ble_eq_true rfl) dX1_init_62 (fun H locs hP hD hS => ?_)
  have hP : va_P G.1 vwCl [(a, .inr (3, [.int (zI (0 : Int)), .ref q1, .ref q2, .ref q3, .ref q4, .ref q5, .ref q6, .ref q7, .null, .null, .null])), aN G q1 30 (fun _ => 0), aN G q2 30 (fun _ => 0), aN G q3 30 (fun _ => 0), aN G q4 30 (fun _ => 0), aN G q5 30 (fun _ => 0), aL G q6 120 (fun _ => 0), aN G q7 30 (fun _ => 0)] H := hP
  have hD : va_D A [(a, .inr (3, [.int (zI (0 : Int)), .ref q1, .ref q2, .ref q3, .ref q4, .ref q5, .ref q6, .ref q7, .null, .null, .null])), aN G q1 30 (fun _ => 0), aN G q2 30 (fun _ => 0), aN G q3 30 (fun _ => 0), aN G q4 30 (fun _ => 0), aN G q5 30 (fun _ => 0), aL G q6 120 (fun _ => 0), aN G q7 30 (fun _ => 0)] := hD
  refine lv_aload_n hx hb dX1_init_65 rfl (lv_at hl 0 rfl) ?_
  refine zr_bipush (n := 30) hx hb dX1_init_66 (by decide +kernel) ?_
  refine zr_newI (N := 30) Z hP hD hS ka_int rfl (Nat.le_of_ble_eq_true rfl) (Nat.le_of_ble_eq_true rfl) (Nat.le_of_ble_eq_true rfl) dX1_init_68 (fun q8 H hP hD hS => ?_)
  have hP : va_P G.1 vwCl [(a, .inr (3, [.int (zI (0 : Int)), .ref q1, .ref q2, .ref q3, .ref q4, .ref q5, .ref q6, .ref q7, .null, .null, .null])), aN G q1 30 (fun _ => 0), aN G q2 30 (fun _ => 0), aN G q3 30 (fun _ => 0), aN G q4 30 (fun _ => 0), aN G q5 30 (fun _ => 0), aL G q6 120 (fun _ => 0), aN G q7 30 (fun _ => 0), aN G q8 30 (fun _ => 0)] H := hP
  have hD : va_D A [(a, .inr (3, [.int (zI (0 : Int)), .ref q1, .ref q2, .ref q3, .ref q4, .ref q5, .ref q6, .ref q7, .null, .null, .null])), aN G q1 30 (fun _ => 0), aN G q2 30 (fun _ => 0), aN G q3 30 (fun _ => 0), aN G q4 30 (fun _ => 0), aN G q5 30 (fun _ => 0), aL G q6 120 (fun _ => 0), aN G q7 30 (fun _ => 0), aN G q8 30 (fun _ => 0)] := hD
  refine va_putF (D := G.1) (T := TX1) (N := 11) (ci := 3) (ty := tyX1 8) (v := .ref q8) hx hb hW ku_X1 tyX1 tyX1_ok nmX1 hown hK hP hD hS 0 rfl rfl 8 (by decide) (hW _ kf_X1_38) (fun _ h => h) rfl hnm rfl (by decide +kernel) rfl rfl (Nat.le_of_ble_eq_true rfl) dX1_init_70 (fun H locs hP hD hS => ?_)
  have hP : va_P G.1 vwCl [(a, .inr (3, [.int (zI (0 : Int)), .ref q1, .ref q2, .ref q3, .ref q4, .ref q5, .ref q6, .ref q7, .ref q8, .null, .null])), aN G q1 30 (fun _ => 0), aN G q2 30 (fun _ => 0), aN G q3 30 (fun _ => 0), aN G q4 30 (fun _ => 0), aN G q5 30 (fun _ => 0), aL G q6 120 (fun _ => 0), aN G q7 30 (fun _ => 0), aN G q8 30 (fun _ => 0)] H := hP
  have hD : va_D A [(a, .inr (3, [.int (zI (0 : Int)), .ref q1, .ref q2, .ref q3, .ref q4, .ref q5, .ref q6, .ref q7, .ref q8, .null, .null])), aN G q1 30 (fun _ => 0), aN G q2 30 (fun _ => 0), aN G q3 30 (fun _ => 0), aN G q4 30 (fun _ => 0), aN G q5 30 (fun _ => 0), aL G q6 120 (fun _ => 0), aN G q7 30 (fun _ => 0), aN G q8 30 (fun _ => 0)] := hD
  refine lv_aload_n hx hb dX1_init_73 rfl (lv_at hl 0 rfl) ?_
  refine zr_sipush (n := 6000) hx hb dX1_init_74 (by decide +kernel) ?_
  refine zr_newI (N := 6000) Z hP hD hS ka_int rfl (Nat.le_of_ble_eq_true rfl) (Nat.le_of_ble_eq_true rfl) (Nat.le_of_ble_eq_true rfl) dX1_init_77 (fun q9 H hP hD hS => ?_)
  have hP : va_P G.1 vwCl [(a, .inr (3, [.int (zI (0 : Int)), .ref q1, .ref q2, .ref q3, .ref q4, .ref q5, .ref q6, .ref q7, .ref q8, .null, .null])), aN G q1 30 (fun _ => 0), aN G q2 30 (fun _ => 0), aN G q3 30 (fun _ => 0), aN G q4 30 (fun _ => 0), aN G q5 30 (fun _ => 0), aL G q6 120 (fun _ => 0), aN G q7 30 (fun _ => 0), aN G q8 30 (fun _ => 0), aN G q9 6000 (fun _ => 0)] H := hP
  have hD : va_D A [(a, .inr (3, [.int (zI (0 : Int)), .ref q1, .ref q2, .ref q3, .ref q4, .ref q5, .ref q6, .ref q7, .ref q8, .null, .null])), aN G q1 30 (fun _ => 0), aN G q2 30 (fun _ => 0), aN G q3 30 (fun _ => 0), aN G q4 30 (fun _ => 0), aN G q5 30 (fun _ => 0), aL G q6 120 (fun _ => 0), aN G q7 30 (fun _ => 0), aN G q8 30 (fun _ => 0), aN G q9 6000 (fun _ => 0)] := hD
  refine va_putF (D := G.1) (T := TX1) (N := 11) (ci := 3) (ty := tyX1 9) (v := .ref q9) hx hb hW ku_X1 tyX1 tyX1_ok nmX1 hown hK hP hD hS 0 rfl rfl 9 (by decide) (hW _ kf_X1_41) (fun _ h => h) rfl hnm rfl (by decide +kernel) rfl rfl (Nat.le_of_ble_eq_true rfl) dX1_init_79 (fun H locs hP hD hS => ?_)
  have hP : va_P G.1 vwCl [(a, .inr (3, [.int (zI (0 : Int)), .ref q1, .ref q2, .ref q3, .ref q4, .ref q5, .ref q6, .ref q7, .ref q8, .ref q9, .null])), aN G q1 30 (fun _ => 0), aN G q2 30 (fun _ => 0), aN G q3 30 (fun _ => 0), aN G q4 30 (fun _ => 0), aN G q5 30 (fun _ => 0), aL G q6 120 (fun _ => 0), aN G q7 30 (fun _ => 0), aN G q8 30 (fun _ => 0), aN G q9 6000 (fun _ => 0)] H := hP
  have hD : va_D A [(a, .inr (3, [.int (zI (0 : Int)), .ref q1, .ref q2, .ref q3, .ref q4, .ref q5, .ref q6, .ref q7, .ref q8, .ref q9, .null])), aN G q1 30 (fun _ => 0), aN G q2 30 (fun _ => 0), aN G q3 30 (fun _ => 0), aN G q4 30 (fun _ => 0), aN G q5 30 (fun _ => 0), aL G q6 120 (fun _ => 0), aN G q7 30 (fun _ => 0), aN G q8 30 (fun _ => 0), aN G q9 6000 (fun _ => 0)] := hD
  refine lv_aload_n hx hb dX1_init_82 rfl (lv_at hl 0 rfl) ?_
  refine zr_sipush (n := 1000) hx hb dX1_init_83 (by decide +kernel) ?_
  refine zr_newI (N := 1000) Z hP hD hS ka_int rfl (Nat.le_of_ble_eq_true rfl) (Nat.le_of_ble_eq_true rfl) (Nat.le_of_ble_eq_true rfl) dX1_init_86 (fun q10 H hP hD hS => ?_)
  have hP : va_P G.1 vwCl [(a, .inr (3, [.int (zI (0 : Int)), .ref q1, .ref q2, .ref q3, .ref q4, .ref q5, .ref q6, .ref q7, .ref q8, .ref q9, .null])), aN G q1 30 (fun _ => 0), aN G q2 30 (fun _ => 0), aN G q3 30 (fun _ => 0), aN G q4 30 (fun _ => 0), aN G q5 30 (fun _ => 0), aL G q6 120 (fun _ => 0), aN G q7 30 (fun _ => 0), aN G q8 30 (fun _ => 0), aN G q9 6000 (fun _ => 0), aN G q10 1000 (fun _ => 0)] H := hP
  have hD : va_D A [(a, .inr (3, [.int (zI (0 : Int)), .ref q1, .ref q2, .ref q3, .ref q4, .ref q5, .ref q6, .ref q7, .ref q8, .ref q9, .null])), aN G q1 30 (fun _ => 0), aN G q2 30 (fun _ => 0), aN G q3 30 (fun _ => 0), aN G q4 30 (fun _ => 0), aN G q5 30 (fun _ => 0), aL G q6 120 (fun _ => 0), aN G q7 30 (fun _ => 0), aN G q8 30 (fun _ => 0), aN G q9 6000 (fun _ => 0), aN G q10 1000 (fun _ => 0)] := hD
  refine va_putF (D := G.1) (T := TX1) (N := 11) (ci := 3) (ty := tyX1 10) (v := .ref q10) hx hb hW ku_X1 tyX1 tyX1_ok nmX1 hown hK hP hD hS 0 rfl rfl 10 (by decide) (hW _ kf_X1_44) (fun _ h => h) rfl hnm rfl (by decide +kernel) rfl rfl (Nat.le_of_ble_eq_true rfl) dX1_init_88 (fun H locs hP hD hS => ?_)
  have hP : va_P G.1 vwCl [(a, .inr (3, [.int (zI (0 : Int)), .ref q1, .ref q2, .ref q3, .ref q4, .ref q5, .ref q6, .ref q7, .ref q8, .ref q9, .ref q10])), aN G q1 30 (fun _ => 0), aN G q2 30 (fun _ => 0), aN G q3 30 (fun _ => 0), aN G q4 30 (fun _ => 0), aN G q5 30 (fun _ => 0), aL G q6 120 (fun _ => 0), aN G q7 30 (fun _ => 0), aN G q8 30 (fun _ => 0), aN G q9 6000 (fun _ => 0), aN G q10 1000 (fun _ => 0)] H := hP
  have hD : va_D A [(a, .inr (3, [.int (zI (0 : Int)), .ref q1, .ref q2, .ref q3, .ref q4, .ref q5, .ref q6, .ref q7, .ref q8, .ref q9, .ref q10])), aN G q1 30 (fun _ => 0), aN G q2 30 (fun _ => 0), aN G q3 30 (fun _ => 0), aN G q4 30 (fun _ => 0), aN G q5 30 (fun _ => 0), aL G q6 120 (fun _ => 0), aN G q7 30 (fun _ => 0), aN G q8 30 (fun _ => 0), aN G q9 6000 (fun _ => 0), aN G q10 1000 (fun _ => 0)] := hD
  exact zret_V (q1, q2, q3, q4, q5, q6, q7, q8, q9, q10) Z hr hP hD hS trivial rfl ⟨Nat.le_of_ble_eq_true rfl, Nat.le_of_ble_eq_true rfl⟩ hQ dX1_init_91
abbrev r_X2_init : Room := { frames := 1, cells := 3, slots := 450, locals := 40 }
set_option maxHeartbeats 4000000 in
set_option maxRecDepth 100000 in
theorem m_X2_init (l : Launch) (G : ZG) (a : Nat) :
    MC l G yX2_init (wY yX2_init cX2_init 1 none) r_X2_init [(a, .inr (4, [.null, .null, .null]))] [.ref a] (QV G (fun (_ : Nat × Nat × Nat) => True) (fun u => [(a, .inr (4, [.ref u.1, .ref u.2.1, .ref u.2.2])), aN G u.1 150 (fun _ => 0), aN G u.2.1 150 (fun _ => 0), aN G u.2.2 150 (fun _ => 0)])) := by
  refine MC.mk (by decide +kernel) (Nat.le_of_ble_eq_true rfl) ?_
  intro p e s m av below meth c A H locs ls Q Z hr hnm hQ hP hD hS hl
  have hx := Z.1
  have hb := Z.2.1
  have hown := Z.2.2.2.1
  have hW := Z.2.2.2.2.1
  have hA := Z.2.2.2.2.2.1
  have hK := Z.2.2.2.2.2.2.1
  have hl : lv_has ls 1 [(0, .ref a)] := hl
  refine lv_aload_n hx hb dX2_init_0 rfl (lv_at hl 0 rfl) ?_
  refine W.objInit hx hb hown (hW _ km_X2_3) (hW _ k_oi) (hW _ k_oc) rfl (by rw [Z.2.2.1]; exact hl.1) rfl dX2_init_1 (Nat.le_of_ble_eq_true rfl) (Nat.le_of_ble_eq_true rfl) ?_
  refine lv_aload_n hx hb dX2_init_4 rfl (lv_at hl 0 rfl) ?_
  refine zr_sipush (n := 150) hx hb dX2_init_5 (by decide +kernel) ?_
  refine zr_newI (N := 150) Z hP hD hS ka_int rfl (Nat.le_of_ble_eq_true rfl) (Nat.le_of_ble_eq_true rfl) (Nat.le_of_ble_eq_true rfl) dX2_init_8 (fun q1 H hP hD hS => ?_)
  have hP : va_P G.1 vwCl [(a, .inr (4, [.null, .null, .null])), aN G q1 150 (fun _ => 0)] H := hP
  have hD : va_D A [(a, .inr (4, [.null, .null, .null])), aN G q1 150 (fun _ => 0)] := hD
  refine va_putF (D := G.1) (T := TX2) (N := 3) (ci := 4) (ty := tyX2 0) (v := .ref q1) hx hb hW ku_X2 tyX2 tyX2_ok nmX2 hown hK hP hD hS 0 rfl rfl 0 (by decide) (hW _ kf_X2_9) (fun _ h => h) rfl hnm rfl (by decide +kernel) rfl rfl (Nat.le_of_ble_eq_true rfl) dX2_init_10 (fun H locs hP hD hS => ?_)
  have hP : va_P G.1 vwCl [(a, .inr (4, [.ref q1, .null, .null])), aN G q1 150 (fun _ => 0)] H := hP
  have hD : va_D A [(a, .inr (4, [.ref q1, .null, .null])), aN G q1 150 (fun _ => 0)] := hD
  refine lv_aload_n hx hb dX2_init_13 rfl (lv_at hl 0 rfl) ?_
  refine zr_sipush (n := 150) hx hb dX2_init_14 (by decide +kernel) ?_
  refine zr_newI (N := 150) Z hP hD hS ka_int rfl (Nat.le_of_ble_eq_true rfl) (Nat.le_of_ble_eq_true rfl) (Nat.le_of_ble_eq_true rfl) dX2_init_17 (fun q2 H hP hD hS => ?_)
  have hP : va_P G.1 vwCl [(a, .inr (4, [.ref q1, .null, .null])), aN G q1 150 (fun _ => 0), aN G q2 150 (fun _ => 0)] H := hP
  have hD : va_D A [(a, .inr (4, [.ref q1, .null, .null])), aN G q1 150 (fun _ => 0), aN G q2 150 (fun _ => 0)] := hD
  refine va_putF (D := G.1) (T := TX2) (N := 3) (ci := 4) (ty := tyX2 1) (v := .ref q2) hx hb hW ku_X2 tyX2 tyX2_ok nmX2 hown hK hP hD hS 0 rfl rfl 1 (by decide) (hW _ kf_X2_15) (fun _ h => h) rfl hnm rfl (by decide +kernel) rfl rfl (Nat.le_of_ble_eq_true rfl) dX2_init_19 (fun H locs hP hD hS => ?_)
  have hP : va_P G.1 vwCl [(a, .inr (4, [.ref q1, .ref q2, .null])), aN G q1 150 (fun _ => 0), aN G q2 150 (fun _ => 0)] H := hP
  have hD : va_D A [(a, .inr (4, [.ref q1, .ref q2, .null])), aN G q1 150 (fun _ => 0), aN G q2 150 (fun _ => 0)] := hD
  refine lv_aload_n hx hb dX2_init_22 rfl (lv_at hl 0 rfl) ?_
  refine zr_sipush (n := 150) hx hb dX2_init_23 (by decide +kernel) ?_
  refine zr_newI (N := 150) Z hP hD hS ka_int rfl (Nat.le_of_ble_eq_true rfl) (Nat.le_of_ble_eq_true rfl) (Nat.le_of_ble_eq_true rfl) dX2_init_26 (fun q3 H hP hD hS => ?_)
  have hP : va_P G.1 vwCl [(a, .inr (4, [.ref q1, .ref q2, .null])), aN G q1 150 (fun _ => 0), aN G q2 150 (fun _ => 0), aN G q3 150 (fun _ => 0)] H := hP
  have hD : va_D A [(a, .inr (4, [.ref q1, .ref q2, .null])), aN G q1 150 (fun _ => 0), aN G q2 150 (fun _ => 0), aN G q3 150 (fun _ => 0)] := hD
  refine va_putF (D := G.1) (T := TX2) (N := 3) (ci := 4) (ty := tyX2 2) (v := .ref q3) hx hb hW ku_X2 tyX2 tyX2_ok nmX2 hown hK hP hD hS 0 rfl rfl 2 (by decide) (hW _ kf_X2_18) (fun _ h => h) rfl hnm rfl (by decide +kernel) rfl rfl (Nat.le_of_ble_eq_true rfl) dX2_init_28 (fun H locs hP hD hS => ?_)
  have hP : va_P G.1 vwCl [(a, .inr (4, [.ref q1, .ref q2, .ref q3])), aN G q1 150 (fun _ => 0), aN G q2 150 (fun _ => 0), aN G q3 150 (fun _ => 0)] H := hP
  have hD : va_D A [(a, .inr (4, [.ref q1, .ref q2, .ref q3])), aN G q1 150 (fun _ => 0), aN G q2 150 (fun _ => 0), aN G q3 150 (fun _ => 0)] := hD
  exact zret_V (q1, q2, q3) Z hr hP hD hS trivial rfl ⟨Nat.le_of_ble_eq_true rfl, Nat.le_of_ble_eq_true rfl⟩ hQ dX2_init_31
abbrev r_X3_init : Room := { frames := 1, cells := 2, slots := 8, locals := 40 }
set_option maxHeartbeats 4000000 in
set_option maxRecDepth 100000 in
theorem m_X3_init (l : Launch) (G : ZG) (a : Nat) :
    MC l G yX3_init (wY yX3_init cX3_init 1 none) r_X3_init [(a, .inr (5, [.int (zI (0 : Int)), .null, .null]))] [.ref a] (QV G (fun (_ : Nat × Nat) => True) (fun u => [(a, .inr (5, [.int (zI (0 : Int)), .ref u.1, .ref u.2])), aN G u.1 4 (fun _ => 0), aN G u.2 4 (fun _ => 0)])) := by
  refine MC.mk (by decide +kernel) (Nat.le_of_ble_eq_true rfl) ?_
  intro p e s m av below meth c A H locs ls Q Z hr hnm hQ hP hD hS hl
  have hx := Z.1
  have hb := Z.2.1
  have hown := Z.2.2.2.1
  have hW := Z.2.2.2.2.1
  have hA := Z.2.2.2.2.2.1
  have hK := Z.2.2.2.2.2.2.1
  have hl : lv_has ls 1 [(0, .ref a)] := hl
  refine lv_aload_n hx hb dX3_init_0 rfl (lv_at hl 0 rfl) ?_
  refine W.objInit hx hb hown (hW _ km_X3_3) (hW _ k_oi) (hW _ k_oc) rfl (by rw [Z.2.2.1]; exact hl.1) rfl dX3_init_1 (Nat.le_of_ble_eq_true rfl) (Nat.le_of_ble_eq_true rfl) ?_
  refine lv_aload_n hx hb dX3_init_4 rfl (lv_at hl 0 rfl) ?_
  refine zr_iconst hx hb dX3_init_5 ?_
  refine va_put (D := G.1) (T := TX3) (N := 3) (ci := 5) (ty := tyX3 0) (v := .int (zI (0 : Int))) hx hb hW ku_X3 tyX3 tyX3_ok nmX3 hown hK hP hD hS 0 rfl rfl 0 (by decide) (hW _ kf_X3_9) (fun _ h => h) rfl (by decide +kernel) rfl rfl (Nat.le_of_ble_eq_true rfl) dX3_init_6 (fun H locs hP hD hS => ?_)
  have hP : va_P G.1 vwCl [(a, .inr (5, [.int (zI (0 : Int)), .null, .null]))] H := hP
  have hD : va_D A [(a, .inr (5, [.int (zI (0 : Int)), .null, .null]))] := hD
  refine lv_aload_n hx hb dX3_init_9 rfl (lv_at hl 0 rfl) ?_
  refine zr_iconst hx hb dX3_init_10 ?_
  refine zr_newI (N := 4) Z hP hD hS ka_int rfl (Nat.le_of_ble_eq_true rfl) (Nat.le_of_ble_eq_true rfl) (Nat.le_of_ble_eq_true rfl) dX3_init_11 (fun q1 H hP hD hS => ?_)
  have hP : va_P G.1 vwCl [(a, .inr (5, [.int (zI (0 : Int)), .null, .null])), aN G q1 4 (fun _ => 0)] H := hP
  have hD : va_D A [(a, .inr (5, [.int (zI (0 : Int)), .null, .null])), aN G q1 4 (fun _ => 0)] := hD
  refine va_putF (D := G.1) (T := TX3) (N := 3) (ci := 5) (ty := tyX3 1) (v := .ref q1) hx hb hW ku_X3 tyX3 tyX3_ok nmX3 hown hK hP hD hS 0 rfl rfl 1 (by decide) (hW _ kf_X3_15) (fun _ h => h) rfl hnm rfl (by decide +kernel) rfl rfl (Nat.le_of_ble_eq_true rfl) dX3_init_13 (fun H locs hP hD hS => ?_)
  have hP : va_P G.1 vwCl [(a, .inr (5, [.int (zI (0 : Int)), .ref q1, .null])), aN G q1 4 (fun _ => 0)] H := hP
  have hD : va_D A [(a, .inr (5, [.int (zI (0 : Int)), .ref q1, .null])), aN G q1 4 (fun _ => 0)] := hD
  refine lv_aload_n hx hb dX3_init_16 rfl (lv_at hl 0 rfl) ?_
  refine zr_iconst hx hb dX3_init_17 ?_
  refine zr_newI (N := 4) Z hP hD hS ka_int rfl (Nat.le_of_ble_eq_true rfl) (Nat.le_of_ble_eq_true rfl) (Nat.le_of_ble_eq_true rfl) dX3_init_18 (fun q2 H hP hD hS => ?_)
  have hP : va_P G.1 vwCl [(a, .inr (5, [.int (zI (0 : Int)), .ref q1, .null])), aN G q1 4 (fun _ => 0), aN G q2 4 (fun _ => 0)] H := hP
  have hD : va_D A [(a, .inr (5, [.int (zI (0 : Int)), .ref q1, .null])), aN G q1 4 (fun _ => 0), aN G q2 4 (fun _ => 0)] := hD
  refine va_putF (D := G.1) (T := TX3) (N := 3) (ci := 5) (ty := tyX3 2) (v := .ref q2) hx hb hW ku_X3 tyX3 tyX3_ok nmX3 hown hK hP hD hS 0 rfl rfl 2 (by decide) (hW _ kf_X3_19) (fun _ h => h) rfl hnm rfl (by decide +kernel) rfl rfl (Nat.le_of_ble_eq_true rfl) dX3_init_20 (fun H locs hP hD hS => ?_)
  have hP : va_P G.1 vwCl [(a, .inr (5, [.int (zI (0 : Int)), .ref q1, .ref q2])), aN G q1 4 (fun _ => 0), aN G q2 4 (fun _ => 0)] H := hP
  have hD : va_D A [(a, .inr (5, [.int (zI (0 : Int)), .ref q1, .ref q2])), aN G q1 4 (fun _ => 0), aN G q2 4 (fun _ => 0)] := hD
  exact zret_V (q1, q2) Z hr hP hD hS trivial rfl ⟨Nat.le_of_ble_eq_true rfl, Nat.le_of_ble_eq_true rfl⟩ hQ dX3_init_23
abbrev r_X4_init : Room := { frames := 1, cells := 5, slots := 30, locals := 40 }
set_option maxHeartbeats 4000000 in
set_option maxRecDepth 100000 in
theorem m_X4_init (l : Launch) (G : ZG) (a : Nat) :
    MC l G yX4_init (wY yX4_init cX4_init 1 none) r_X4_init [(a, .inr (6, [.int (zI (0 : Int)), .null, .null, .null, .null, .null]))] [.ref a] (QV G (fun (_ : Nat × Nat × Nat × Nat × Nat) => True) (fun u => [(a, .inr (6, [.int (zI (0 : Int)), .ref u.1, .ref u.2.1, .ref u.2.2.1, .ref u.2.2.2.1, .ref u.2.2.2.2])), aL G u.1 6 (fun _ => 0), aL G u.2.1 6 (fun _ => 0), aN G u.2.2.1 6 (fun _ => 0), aN G u.2.2.2.1 6 (fun _ => 0), aN G u.2.2.2.2 6 (fun _ => 0)])) := by
  refine MC.mk (by decide +kernel) (Nat.le_of_ble_eq_true rfl) ?_
  intro p e s m av below meth c A H locs ls Q Z hr hnm hQ hP hD hS hl
  have hx := Z.1
  have hb := Z.2.1
  have hown := Z.2.2.2.1
  have hW := Z.2.2.2.2.1
  have hA := Z.2.2.2.2.2.1
  have hK := Z.2.2.2.2.2.2.1
  have hl : lv_has ls 1 [(0, .ref a)] := hl
  refine lv_aload_n hx hb dX4_init_0 rfl (lv_at hl 0 rfl) ?_
  refine W.objInit hx hb hown (hW _ km_X4_3) (hW _ k_oi) (hW _ k_oc) rfl (by rw [Z.2.2.1]; exact hl.1) rfl dX4_init_1 (Nat.le_of_ble_eq_true rfl) (Nat.le_of_ble_eq_true rfl) ?_
  refine lv_aload_n hx hb dX4_init_4 rfl (lv_at hl 0 rfl) ?_
  refine zr_iconst hx hb dX4_init_5 ?_
  refine va_put (D := G.1) (T := TX4) (N := 6) (ci := 6) (ty := tyX4 0) (v := .int (zI (0 : Int))) hx hb hW ku_X4 tyX4 tyX4_ok nmX4 hown hK hP hD hS 0 rfl rfl 0 (by decide) (hW _ kf_X4_9) (fun _ h => h) rfl (by decide +kernel) rfl rfl (Nat.le_of_ble_eq_true rfl) dX4_init_6 (fun H locs hP hD hS => ?_)
  have hP : va_P G.1 vwCl [(a, .inr (6, [.int (zI (0 : Int)), .null, .null, .null, .null, .null]))] H := hP
  have hD : va_D A [(a, .inr (6, [.int (zI (0 : Int)), .null, .null, .null, .null, .null]))] := hD
  refine lv_aload_n hx hb dX4_init_9 rfl (lv_at hl 0 rfl) ?_
  refine zr_bipush (n := 6) hx hb dX4_init_10 (by decide +kernel) ?_
  refine zr_newL (N := 6) Z hP hD hS ka_long rfl (Nat.le_of_ble_eq_true rfl) (Nat.le_of_ble_eq_true rfl) (Nat.le_of_ble_eq_true rfl) dX4_init_12 (fun q1 H hP hD hS => ?_)
  have hP : va_P G.1 vwCl [(a, .inr (6, [.int (zI (0 : Int)), .null, .null, .null, .null, .null])), aL G q1 6 (fun _ => 0)] H := hP
  have hD : va_D A [(a, .inr (6, [.int (zI (0 : Int)), .null, .null, .null, .null, .null])), aL G q1 6 (fun _ => 0)] := hD
  refine va_putF (D := G.1) (T := TX4) (N := 6) (ci := 6) (ty := tyX4 1) (v := .ref q1) hx hb hW ku_X4 tyX4 tyX4_ok nmX4 hown hK hP hD hS 0 rfl rfl 1 (by decide) (hW _ kf_X4_15) (fun _ h => h) rfl hnm rfl (by decide +kernel) rfl rfl (Nat.le_of_ble_eq_true rfl) dX4_init_14 (fun H locs hP hD hS => ?_)
  have hP : va_P G.1 vwCl [(a, .inr (6, [.int (zI (0 : Int)), .ref q1, .null, .null, .null, .null])), aL G q1 6 (fun _ => 0)] H := hP
  have hD : va_D A [(a, .inr (6, [.int (zI (0 : Int)), .ref q1, .null, .null, .null, .null])), aL G q1 6 (fun _ => 0)] := hD
  refine lv_aload_n hx hb dX4_init_17 rfl (lv_at hl 0 rfl) ?_
  refine zr_bipush (n := 6) hx hb dX4_init_18 (by decide +kernel) ?_
  refine zr_newL (N := 6) Z hP hD hS ka_long rfl (Nat.le_of_ble_eq_true rfl) (Nat.le_of_ble_eq_true rfl) (Nat.le_of_ble_eq_true rfl) dX4_init_20 (fun q2 H hP hD hS => ?_)
  have hP : va_P G.1 vwCl [(a, .inr (6, [.int (zI (0 : Int)), .ref q1, .null, .null, .null, .null])), aL G q1 6 (fun _ => 0), aL G q2 6 (fun _ => 0)] H := hP
  have hD : va_D A [(a, .inr (6, [.int (zI (0 : Int)), .ref q1, .null, .null, .null, .null])), aL G q1 6 (fun _ => 0), aL G q2 6 (fun _ => 0)] := hD
  refine va_putF (D := G.1) (T := TX4) (N := 6) (ci := 6) (ty := tyX4 2) (v := .ref q2) hx hb hW ku_X4 tyX4 tyX4_ok nmX4 hown hK hP hD hS 0 rfl rfl 2 (by decide) (hW _ kf_X4_19) (fun _ h => h) rfl hnm rfl (by decide +kernel) rfl rfl (Nat.le_of_ble_eq_true rfl) dX4_init_22 (fun H locs hP hD hS => ?_)
  have hP : va_P G.1 vwCl [(a, .inr (6, [.int (zI (0 : Int)), .ref q1, .ref q2, .null, .null, .null])), aL G q1 6 (fun _ => 0), aL G q2 6 (fun _ => 0)] H := hP
  have hD : va_D A [(a, .inr (6, [.int (zI (0 : Int)), .ref q1, .ref q2, .null, .null, .null])), aL G q1 6 (fun _ => 0), aL G q2 6 (fun _ => 0)] := hD
  refine lv_aload_n hx hb dX4_init_25 rfl (lv_at hl 0 rfl) ?_
  refine zr_bipush (n := 6) hx hb dX4_init_26 (by decide +kernel) ?_
  refine zr_newI (N := 6) Z hP hD hS ka_int rfl (Nat.le_of_ble_eq_true rfl) (Nat.le_of_ble_eq_true rfl) (Nat.le_of_ble_eq_true rfl) dX4_init_28 (fun q3 H hP hD hS => ?_)
  have hP : va_P G.1 vwCl [(a, .inr (6, [.int (zI (0 : Int)), .ref q1, .ref q2, .null, .null, .null])), aL G q1 6 (fun _ => 0), aL G q2 6 (fun _ => 0), aN G q3 6 (fun _ => 0)] H := hP
  have hD : va_D A [(a, .inr (6, [.int (zI (0 : Int)), .ref q1, .ref q2, .null, .null, .null])), aL G q1 6 (fun _ => 0), aL G q2 6 (fun _ => 0), aN G q3 6 (fun _ => 0)] := hD
  refine va_putF (D := G.1) (T := TX4) (N := 6) (ci := 6) (ty := tyX4 3) (v := .ref q3) hx hb hW ku_X4 tyX4 tyX4_ok nmX4 hown hK hP hD hS 0 rfl rfl 3 (by decide) (hW _ kf_X4_22) (fun _ h => h) rfl hnm rfl (by decide +kernel) rfl rfl (Nat.le_of_ble_eq_true rfl) dX4_init_30 (fun H locs hP hD hS => ?_)
  have hP : va_P G.1 vwCl [(a, .inr (6, [.int (zI (0 : Int)), .ref q1, .ref q2, .ref q3, .null, .null])), aL G q1 6 (fun _ => 0), aL G q2 6 (fun _ => 0), aN G q3 6 (fun _ => 0)] H := hP
  have hD : va_D A [(a, .inr (6, [.int (zI (0 : Int)), .ref q1, .ref q2, .ref q3, .null, .null])), aL G q1 6 (fun _ => 0), aL G q2 6 (fun _ => 0), aN G q3 6 (fun _ => 0)] := hD
  refine lv_aload_n hx hb dX4_init_33 rfl (lv_at hl 0 rfl) ?_
  refine zr_bipush (n := 6) hx hb dX4_init_34 (by decide +kernel) ?_
  refine zr_newI (N := 6) Z hP hD hS ka_int rfl (Nat.le_of_ble_eq_true rfl) (Nat.le_of_ble_eq_true rfl) (Nat.le_of_ble_eq_true rfl) dX4_init_36 (fun q4 H hP hD hS => ?_)
  have hP : va_P G.1 vwCl [(a, .inr (6, [.int (zI (0 : Int)), .ref q1, .ref q2, .ref q3, .null, .null])), aL G q1 6 (fun _ => 0), aL G q2 6 (fun _ => 0), aN G q3 6 (fun _ => 0), aN G q4 6 (fun _ => 0)] H := hP
  have hD : va_D A [(a, .inr (6, [.int (zI (0 : Int)), .ref q1, .ref q2, .ref q3, .null, .null])), aL G q1 6 (fun _ => 0), aL G q2 6 (fun _ => 0), aN G q3 6 (fun _ => 0), aN G q4 6 (fun _ => 0)] := hD
  refine va_putF (D := G.1) (T := TX4) (N := 6) (ci := 6) (ty := tyX4 4) (v := .ref q4) hx hb hW ku_X4 tyX4 tyX4_ok nmX4 hown hK hP hD hS 0 rfl rfl 4 (by decide) (hW _ kf_X4_26) (fun _ h => h) rfl hnm rfl (by decide +kernel) rfl rfl (Nat.le_of_ble_eq_true rfl) dX4_init_38 (fun H locs hP hD hS => ?_)
  have hP : va_P G.1 vwCl [(a, .inr (6, [.int (zI (0 : Int)), .ref q1, .ref q2, .ref q3, .ref q4, .null])), aL G q1 6 (fun _ => 0), aL G q2 6 (fun _ => 0), aN G q3 6 (fun _ => 0), aN G q4 6 (fun _ => 0)] H := hP
  have hD : va_D A [(a, .inr (6, [.int (zI (0 : Int)), .ref q1, .ref q2, .ref q3, .ref q4, .null])), aL G q1 6 (fun _ => 0), aL G q2 6 (fun _ => 0), aN G q3 6 (fun _ => 0), aN G q4 6 (fun _ => 0)] := hD
  refine lv_aload_n hx hb dX4_init_41 rfl (lv_at hl 0 rfl) ?_
  refine zr_bipush (n := 6) hx hb dX4_init_42 (by decide +kernel) ?_
  refine zr_newI (N := 6) Z hP hD hS ka_int rfl (Nat.le_of_ble_eq_true rfl) (Nat.le_of_ble_eq_true rfl) (Nat.le_of_ble_eq_true rfl) dX4_init_44 (fun q5 H hP hD hS => ?_)
  have hP : va_P G.1 vwCl [(a, .inr (6, [.int (zI (0 : Int)), .ref q1, .ref q2, .ref q3, .ref q4, .null])), aL G q1 6 (fun _ => 0), aL G q2 6 (fun _ => 0), aN G q3 6 (fun _ => 0), aN G q4 6 (fun _ => 0), aN G q5 6 (fun _ => 0)] H := hP
  have hD : va_D A [(a, .inr (6, [.int (zI (0 : Int)), .ref q1, .ref q2, .ref q3, .ref q4, .null])), aL G q1 6 (fun _ => 0), aL G q2 6 (fun _ => 0), aN G q3 6 (fun _ => 0), aN G q4 6 (fun _ => 0), aN G q5 6 (fun _ => 0)] := hD
  refine va_putF (D := G.1) (T := TX4) (N := 6) (ci := 6) (ty := tyX4 5) (v := .ref q5) hx hb hW ku_X4 tyX4 tyX4_ok nmX4 hown hK hP hD hS 0 rfl rfl 5 (by decide) (hW _ kf_X4_29) (fun _ h => h) rfl hnm rfl (by decide +kernel) rfl rfl (Nat.le_of_ble_eq_true rfl) dX4_init_46 (fun H locs hP hD hS => ?_)
  have hP : va_P G.1 vwCl [(a, .inr (6, [.int (zI (0 : Int)), .ref q1, .ref q2, .ref q3, .ref q4, .ref q5])), aL G q1 6 (fun _ => 0), aL G q2 6 (fun _ => 0), aN G q3 6 (fun _ => 0), aN G q4 6 (fun _ => 0), aN G q5 6 (fun _ => 0)] H := hP
  have hD : va_D A [(a, .inr (6, [.int (zI (0 : Int)), .ref q1, .ref q2, .ref q3, .ref q4, .ref q5])), aL G q1 6 (fun _ => 0), aL G q2 6 (fun _ => 0), aN G q3 6 (fun _ => 0), aN G q4 6 (fun _ => 0), aN G q5 6 (fun _ => 0)] := hD
  exact zret_V (q1, q2, q3, q4, q5) Z hr hP hD hS trivial rfl ⟨Nat.le_of_ble_eq_true rfl, Nat.le_of_ble_eq_true rfl⟩ hQ dX4_init_49
