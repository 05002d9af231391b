abbrev r_X0_init : Room := { frames := 1, cells := 2, slots := 240, locals := 40 }
set_option maxHeartbeats 4000000 in
set_option maxRecDepth 100000 in
theorem m_X0_init (l : Launch) (G : ZG) (a : Nat) :
    MC l G yX0_init (wY yX0_init cX0_init 1 none) r_X0_init [(a, .inr (2, [.int (zI (0 : Int)), .null, .null]))] [.ref a] (QV G (fun (_ : Nat × Nat) => True) (fun u => [(a, .inr (2, [.int (zI (0 : Int)), .ref u.1, .ref u.2])), aN G u.1 120 (fun _ => 0), aN G u.2 120 (fun _ => 0)])) := by
  refine MC.mk (by decide +kernel) (Nat.le_of_ble_eq_true rfl) ?_
  intro p e s m av below meth c A H locs ls Q Z hr hnm hQ hP hD hS hl
  have hx := Z.1
  have hb := Z.2.1
  have hown := Z.2.2.2.1
  have hW := Z.2.2.2.2.1
  have hK := Z.2.2.2.2.2.2.1
  have hl : lv_has ls 1 [(0, .ref a)] := hl
  refine lv_aload_n hx hb dX0_init_0 rfl (lv_at hl 0 rfl) ?_
  refine W.objInit hx hb hown (hW _ km_X0_3) (hW _ k_oi) (hW _ k_oc) rfl (by rw [Z.2.2.1]; exact hl.1) rfl dX0_init_1 (Nat.le_of_ble_eq_true rfl) (Nat.le_of_ble_eq_true rfl) ?_
  refine lv_aload_n hx hb dX0_init_4 rfl (lv_at hl 0 rfl) ?_
  refine zr_iconst hx hb dX0_init_5 ?_
  refine va_put (D := G.1) (T := TX0) (N := 3) (ci := 2) (ty := .int) (v := .int (zI (0 : Int))) hx hb hW ku_X0 tyX0 tyX0_ok nmX0 hown hK hP hD hS 0 rfl rfl 0 (by decide) (hW _ kf_X0_9) (fun _ h => h) rfl (by decide +kernel) rfl rfl (Nat.le_of_ble_eq_true rfl) dX0_init_6 (fun H locs hP hD hS => ?_)
  refine lv_aload_n hx hb dX0_init_9 rfl (lv_at hl 0 rfl) ?_
  refine zr_bipush hx hb dX0_init_10 (by decide) ?_
  refine zr_newI (N := 120) Z hP hD hS ka_int rfl (by decide) (Nat.le_of_ble_eq_true rfl) (Nat.le_of_ble_eq_true rfl) dX0_init_12 (fun q1 H hP hD hS => ?_)
  refine va_putF (D := G.1) (T := TX0) (N := 3) (ci := 2) (ty := tyX0 1) hx hb hW ku_X0 tyX0 tyX0_ok nmX0 hown hK hP hD hS 0 rfl rfl 1 (by decide) (hW _ kf_X0_15) (fun _ h => h) rfl hnm rfl (by decide +kernel) rfl rfl (Nat.le_of_ble_eq_true rfl) dX0_init_14 (fun H locs hP hD hS => ?_)
  refine lv_aload_n hx hb dX0_init_17 rfl (lv_at hl 0 rfl) ?_
  refine zr_bipush hx hb dX0_init_18 (by decide) ?_
  refine zr_newI (N := 120) Z hP hD hS ka_int rfl (by decide) (Nat.le_of_ble_eq_true rfl) (Nat.le_of_ble_eq_true rfl) dX0_init_20 (fun q2 H hP hD hS => ?_)
  refine va_putF (D := G.1) (T := TX0) (N := 3) (ci := 2) (ty := tyX0 2) hx hb hW ku_X0 tyX0 tyX0_ok nmX0 hown hK hP hD hS 0 rfl rfl 2 (by decide) (hW _ kf_X0_19) (fun _ h => h) rfl hnm rfl (by decide +kernel) rfl rfl (Nat.le_of_ble_eq_true rfl) dX0_init_22 (fun H locs hP hD hS => ?_)
  exact zret_V (q1, q2) Z hr hP hD hS trivial rfl ⟨Nat.le_of_ble_eq_true rfl, Nat.le_of_ble_eq_true rfl⟩ hQ dX0_init_25
