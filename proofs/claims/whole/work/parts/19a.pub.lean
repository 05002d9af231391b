abbrev r_X5_pass : Room := { frames := 0, cells := 0, slots := 0, locals := 0 }
set_option maxHeartbeats 4000000 in
set_option maxRecDepth 100000 in
theorem m_X5_pass (l : Launch) (G : ZG) (q : Nat → Nat) (σ : St) (κ : KC) {e_a : Int} (a : Nat) (he_a : e_a = (a : Int)) (hI : okC σ) (h1 : 1 ≤ a) (h2 : a ≤ 2000) (h3 : σ.1 0 + a ≤ 99999) :
    MC l G yX5_pass (wY yX5_pass cX5_pass 2 (some .int)) r_X5_pass (wC G q σ κ) [.ref (q 0), .int (zI e_a)] (QI G (fun r9 (_ : Unit) => r9 = (zI ((σ.1 0 + a : Nat) : Int))) (fun _ => wC G q (sN σ 0 (σ.1 0 + a)) κ)) := by
  subst he_a
  refine MC.mk (by decide +kernel) (Nat.le_of_ble_eq_true rfl) ?_
  intro p e s m av below meth c A H locs ls Q Z hr hnm hQ hP hD hS hl
  have hx := Z.1
  have hb := Z.2.1
  have hown := Z.2.2.2.1
  have hW := Z.2.2.2.2.1
  have hl : lv_has ls 2 [(0, .ref (q 0)), (1, .int (zI ((a : Nat) : Int)))] := hl
  obtain ⟨hn, hru, hrv, hdv, hsr, hmn, ht1, ht2, hwn, hv1, hv2, hmj, htm, hse, htg, hrt, hac, hk1, hk2, hkd, hmm, hmv, hord, hpo, hlo⟩ := id hI
  refine lv_iload_n hx hb dX5_pass_0 rfl (lv_at hl 1 rfl) ?_
  refine zr_iconst hx hb dX5_pass_1 ?_
  refine zc_lt (tgt := 12) hx hb ((a : Nat) : Int) (1 : Int) (zI_toInt (by omega)) (zI_toInt (by decide)) dX5_pass_2 (by decide) (fun c2 => by exfalso; omega) (fun c2 => ?_)
  refine lv_iload_n hx hb dX5_pass_5 rfl (lv_at hl 1 rfl) ?_
  refine zr_sipush hx hb dX5_pass_6 (by decide) ?_
  refine zc_le (tgt := 22) hx hb ((a : Nat) : Int) (2000 : Int) (zI_toInt (by omega)) (zI_toInt (by decide)) dX5_pass_9 (by decide) (fun c9 => ?_) (fun c9 => by exfalso; omega)
  refine lv_aload_n hx hb dX5_pass_22 rfl (lv_at hl 0 rfl) ?_
  refine gC_0_0 Z hP kf_X5_9 dX5_pass_23 ?_
  refine lv_iload_n hx hb dX5_pass_26 rfl (lv_at hl 1 rfl) ?_
  refine zr_iadd hx hb dX5_pass_27 ?_
  refine zr_ldc hx hb 99999 (by decide) hown (hW _ kk_X5_71) dX5_pass_28 ?_
  refine zc_le (tgt := 43) hx hb (((σ.1 0 : Nat) : Int) + ((a : Nat) : Int)) (99999 : Int) (zI_toInt (by omega)) (zI_toInt (by decide)) dX5_pass_30 (by decide) (fun c30 => ?_) (fun c30 => by exfalso; omega)
  refine lv_aload_n hx hb dX5_pass_43 rfl (lv_at hl 0 rfl) ?_
  refine lv_dup hx hb dX5_pass_44 rfl ?_
  refine gC_0_0 Z hP kf_X5_9 dX5_pass_45 ?_
  refine lv_iload_n hx hb dX5_pass_48 rfl (lv_at hl 1 rfl) ?_
  refine zr_iadd hx hb dX5_pass_49 ?_
  refine pC_0_0 Z hP hD hS (σ.1 0 + a) (by omega) kf_X5_9 dX5_pass_50 (fun H locs hP hD hS => ?_)
  refine lv_aload_n hx hb dX5_pass_53 rfl (lv_at hl 0 rfl) ?_
  refine gC_0_0 Z hP kf_X5_9 dX5_pass_54 ?_
  refine zr_top (w := .int (zI ((σ.1 0 + a : Nat) : Int))) rfl ?_
  exact zret_I () Z hr hP hD hS rfl rfl ⟨Nat.le_refl _, Nat.le_refl _⟩ hQ dX5_pass_57
abbrev r_X5_pass_x1 : Room := { frames := 6, cells := 1, slots := 6, locals := 100 }
set_option maxHeartbeats 4000000 in
set_option maxRecDepth 100000 in
theorem m_X5_pass_x1 (l : Launch) (G : ZG) (hst : l.stackTraces = false) (q : Nat → Nat) (σ : St) (κ : KC) (a : Int) (hI : okC σ) (h1 : zR a) (h2 : a < 1 ∨ 2000 < a) :
    MX l G yX5_pass (wY yX5_pass cX5_pass 2 (some .int)) r_X5_pass_x1 (wC G q σ κ) [.ref (q 0), .int (zI (a : Int))] (S := Unit) "java/lang/IllegalArgumentException" (fun _ => wC G q σ κ) := by
  refine MX.mk (by decide +kernel) (Nat.le_of_ble_eq_true rfl) ?_
  intro p e s m av below meth c A H locs ls Q Z ht hQ hP hD hS hl
  have hx := Z.1
  have hb := Z.2.1
  have hown := Z.2.2.2.1
  have hW := Z.2.2.2.2.1
  have hl : lv_has ls 2 [(0, .ref (q 0)), (1, .int (zI (a : Int)))] := hl
  obtain ⟨hn, hru, hrv, hdv, hsr, hmn, ht1, ht2, hwn, hv1, hv2, hmj, htm, hse, htg, hrt, hac, hk1, hk2, hkd, hmm, hmv, hord, hpo, hlo⟩ := id hI
  refine lv_iload_n hx hb dX5_pass_0 rfl (lv_at hl 1 rfl) ?_
  refine zr_iconst hx hb dX5_pass_1 ?_
  refine zc_lt (tgt := 12) hx hb (a : Int) (1 : Int) (zI_toInt (by omega)) (zI_toInt (by decide)) dX5_pass_2 (by decide) (fun c2 => ?_) (fun c2 => ?_)
  · skip
    exact th_IAE (()) "the minutes are out of range" hst Z ht hP hD hS hl.1 rfl (by decide +kernel) ⟨Nat.le_of_ble_eq_true rfl, Nat.le_of_ble_eq_true rfl, Nat.le_of_ble_eq_true rfl, Nat.le_of_ble_eq_true rfl⟩ hQ dX5_pass_12 dX5_pass_15 dX5_pass_16 dX5_pass_18 dX5_pass_21
  · skip
    refine lv_iload_n hx hb dX5_pass_5 rfl (lv_at hl 1 rfl) ?_
    refine zr_sipush hx hb dX5_pass_6 (by decide) ?_
    refine zc_le (tgt := 22) hx hb (a : Int) (2000 : Int) (zI_toInt (by omega)) (zI_toInt (by decide)) dX5_pass_9 (by decide) (fun c9 => by exfalso; omega) (fun c9 => ?_)
    exact th_IAE (()) "the minutes are out of range" hst Z ht hP hD hS hl.1 rfl (by decide +kernel) ⟨Nat.le_of_ble_eq_true rfl, Nat.le_of_ble_eq_true rfl, Nat.le_of_ble_eq_true rfl, Nat.le_of_ble_eq_true rfl⟩ hQ dX5_pass_12 dX5_pass_15 dX5_pass_16 dX5_pass_18 dX5_pass_21
abbrev r_X5_pass_x2 : Room := { frames := 6, cells := 1, slots := 6, locals := 100 }
set_option maxHeartbeats 4000000 in
set_option maxRecDepth 100000 in
theorem m_X5_pass_x2 (l : Launch) (G : ZG) (hst : l.stackTraces = false) (q : Nat → Nat) (σ : St) (κ : KC) {e_a : Int} (a : Nat) (he_a : e_a = (a : Int)) (hI : okC σ) (h1 : 1 ≤ a) (h2 : a ≤ 2000) (h3 : 99999 < σ.1 0 + a) :
    MX l G yX5_pass (wY yX5_pass cX5_pass 2 (some .int)) r_X5_pass_x2 (wC G q σ κ) [.ref (q 0), .int (zI e_a)] (S := Unit) "java/lang/IllegalStateException" (fun _ => wC G q σ κ) := by
  subst he_a
  refine MX.mk (by decide +kernel) (Nat.le_of_ble_eq_true rfl) ?_
  intro p e s m av below meth c A H locs ls Q Z ht hQ hP hD hS hl
  have hx := Z.1
  have hb := Z.2.1
  have hown := Z.2.2.2.1
  have hW := Z.2.2.2.2.1
  have hl : lv_has ls 2 [(0, .ref (q 0)), (1, .int (zI ((a : Nat) : Int)))] := hl
  obtain ⟨hn, hru, hrv, hdv, hsr, hmn, ht1, ht2, hwn, hv1, hv2, hmj, htm, hse, htg, hrt, hac, hk1, hk2, hkd, hmm, hmv, hord, hpo, hlo⟩ := id hI
  refine lv_iload_n hx hb dX5_pass_0 rfl (lv_at hl 1 rfl) ?_
  refine zr_iconst hx hb dX5_pass_1 ?_
  refine zc_lt (tgt := 12) hx hb ((a : Nat) : Int) (1 : Int) (zI_toInt (by omega)) (zI_toInt (by decide)) dX5_pass_2 (by decide) (fun c2 => by exfalso; omega) (fun c2 => ?_)
  refine lv_iload_n hx hb dX5_pass_5 rfl (lv_at hl 1 rfl) ?_
  refine zr_sipush hx hb dX5_pass_6 (by decide) ?_
  refine zc_le (tgt := 22) hx hb ((a : Nat) : Int) (2000 : Int) (zI_toInt (by omega)) (zI_toInt (by decide)) dX5_pass_9 (by decide) (fun c9 => ?_) (fun c9 => by exfalso; omega)
  refine lv_aload_n hx hb dX5_pass_22 rfl (lv_at hl 0 rfl) ?_
  refine gC_0_0 Z hP kf_X5_9 dX5_pass_23 ?_
  refine lv_iload_n hx hb dX5_pass_26 rfl (lv_at hl 1 rfl) ?_
  refine zr_iadd hx hb dX5_pass_27 ?_
  refine zr_ldc hx hb 99999 (by decide) hown (hW _ kk_X5_71) dX5_pass_28 ?_
  refine zc_le (tgt := 43) hx hb (((σ.1 0 : Nat) : Int) + ((a : Nat) : Int)) (99999 : Int) (zI_toInt (by omega)) (zI_toInt (by decide)) dX5_pass_30 (by decide) (fun c30 => by exfalso; omega) (fun c30 => ?_)
  exact th_ISE (()) "the present minute would be too late" hst Z ht hP hD hS hl.1 rfl (by decide +kernel) ⟨Nat.le_of_ble_eq_true rfl, Nat.le_of_ble_eq_true rfl, Nat.le_of_ble_eq_true rfl, Nat.le_of_ble_eq_true rfl⟩ hQ dX5_pass_33 dX5_pass_36 dX5_pass_37 dX5_pass_39 dX5_pass_42
abbrev r_X5_now : Room := { frames := 0, cells := 0, slots := 0, locals := 0 }
set_option maxHeartbeats 4000000 in
set_option maxRecDepth 100000 in
theorem m_X5_now (l : Launch) (G : ZG) (q : Nat → Nat) (σ : St) (κ : KC)  :
    MC l G yX5_now (wY yX5_now cX5_now 1 (some .int)) r_X5_now (wC G q σ κ) [.ref (q 0)] (QI G (fun r9 (_ : Unit) => r9 = (zI ((σ.1 0 : Nat) : Int))) (fun _ => wC G q σ κ)) := by
  refine MC.mk (by decide +kernel) (Nat.le_of_ble_eq_true rfl) ?_
  intro p e s m av below meth c A H locs ls Q Z hr hnm hQ hP hD hS hl
  have hx := Z.1
  have hb := Z.2.1
  have hown := Z.2.2.2.1
  have hW := Z.2.2.2.2.1
  have hl : lv_has ls 1 [(0, .ref (q 0))] := hl
  refine lv_aload_n hx hb dX5_now_0 rfl (lv_at hl 0 rfl) ?_
  refine gC_0_0 Z hP kf_X5_9 dX5_now_1 ?_
  exact zret_I () Z hr hP hD hS rfl rfl ⟨Nat.le_refl _, Nat.le_refl _⟩ hQ dX5_now_4
abbrev r_X5_setThreshold : Room := { frames := 0, cells := 0, slots := 0, locals := 0 }
set_option maxHeartbeats 4000000 in
set_option maxRecDepth 100000 in
theorem m_X5_setThreshold (l : Launch) (G : ZG) (q : Nat → Nat) (σ : St) (κ : KC) {e_a : Int} (a : Nat) (he_a : e_a = (a : Int)) (h1 : 1 ≤ a) (h2 : a ≤ 100) :
    MC l G yX5_setThreshold (wY yX5_setThreshold cX5_setThreshold 3 (some .int)) r_X5_setThreshold (wC G q σ κ) [.ref (q 0), .int (zI e_a)] (QI G (fun r9 (_ : Unit) => r9 = (zI ((σ.1 1 : Nat) : Int))) (fun _ => wC G q (sN σ 1 (a)) κ)) := by
  subst he_a
  refine MC.mk (by decide +kernel) (Nat.le_of_ble_eq_true rfl) ?_
  intro p e s m av below meth c A H locs ls Q Z hr hnm hQ hP hD hS hl
  have hx := Z.1
  have hb := Z.2.1
  have hown := Z.2.2.2.1
  have hW := Z.2.2.2.2.1
  have hl : lv_has ls 3 [(0, .ref (q 0)), (1, .int (zI ((a : Nat) : Int)))] := hl
  refine lv_iload_n hx hb dX5_setThreshold_0 rfl (lv_at hl 1 rfl) ?_
  refine zr_iconst hx hb dX5_setThreshold_1 ?_
  refine zc_lt (tgt := 11) hx hb ((a : Nat) : Int) (1 : Int) (zI_toInt (by omega)) (zI_toInt (by decide)) dX5_setThreshold_2 (by decide) (fun c2 => by exfalso; omega) (fun c2 => ?_)
  refine lv_iload_n hx hb dX5_setThreshold_5 rfl (lv_at hl 1 rfl) ?_
  refine zr_bipush hx hb dX5_setThreshold_6 (by decide) ?_
  refine zc_le (tgt := 21) hx hb ((a : Nat) : Int) (100 : Int) (zI_toInt (by omega)) (zI_toInt (by decide)) dX5_setThreshold_8 (by decide) (fun c8 => ?_) (fun c8 => by exfalso; omega)
  refine lv_aload_n hx hb dX5_setThreshold_21 rfl (lv_at hl 0 rfl) ?_
  refine gC_0_1 Z hP kf_X5_13 dX5_setThreshold_22 ?_
  refine lv_istore_n (lv' := [(2, .int (zI ((σ.1 1 : Nat) : Int))), (0, .ref (q 0)), (1, .int (zI ((a : Nat) : Int)))]) hx hb dX5_setThreshold_25 rfl hl (by decide) rfl (fun ls hl => ?_)
  refine lv_aload_n hx hb dX5_setThreshold_26 rfl (lv_at hl 1 rfl) ?_
  refine lv_iload_n hx hb dX5_setThreshold_27 rfl (lv_at hl 2 rfl) ?_
  refine pC_0_1 Z hP hD hS (a) rfl kf_X5_13 dX5_setThreshold_28 (fun H locs hP hD hS => ?_)
  refine lv_iload_n hx hb dX5_setThreshold_31 rfl (lv_at hl 0 rfl) ?_
  exact zret_I () Z hr hP hD hS rfl rfl ⟨Nat.le_refl _, Nat.le_refl _⟩ hQ dX5_setThreshold_32
abbrev r_X5_setThreshold_x : Room := { frames := 6, cells := 1, slots := 6, locals := 100 }
set_option maxHeartbeats 4000000 in
set_option maxRecDepth 100000 in
theorem m_X5_setThreshold_x (l : Launch) (G : ZG) (hst : l.stackTraces = false) (q : Nat → Nat) (σ : St) (κ : KC) (a : Int) (h1 : zR a) (h2 : a < 1 ∨ 100 < a) :
    MX l G yX5_setThreshold (wY yX5_setThreshold cX5_setThreshold 3 (some .int)) r_X5_setThreshold_x (wC G q σ κ) [.ref (q 0), .int (zI (a : Int))] (S := Unit) "java/lang/IllegalArgumentException" (fun _ => wC G q σ κ) := by
  refine MX.mk (by decide +kernel) (Nat.le_of_ble_eq_true rfl) ?_
  intro p e s m av below meth c A H locs ls Q Z ht hQ hP hD hS hl
  have hx := Z.1
  have hb := Z.2.1
  have hown := Z.2.2.2.1
  have hW := Z.2.2.2.2.1
  have hl : lv_has ls 3 [(0, .ref (q 0)), (1, .int (zI (a : Int)))] := hl
  refine lv_iload_n hx hb dX5_setThreshold_0 rfl (lv_at hl 1 rfl) ?_
  refine zr_iconst hx hb dX5_setThreshold_1 ?_
  refine zc_lt (tgt := 11) hx hb (a : Int) (1 : Int) (zI_toInt (by omega)) (zI_toInt (by decide)) dX5_setThreshold_2 (by decide) (fun c2 => ?_) (fun c2 => ?_)
  · skip
    exact th_IAE (()) "the threshold is out of range" hst Z ht hP hD hS hl.1 rfl (by decide +kernel) ⟨Nat.le_of_ble_eq_true rfl, Nat.le_of_ble_eq_true rfl, Nat.le_of_ble_eq_true rfl, Nat.le_of_ble_eq_true rfl⟩ hQ dX5_setThreshold_11 dX5_setThreshold_14 dX5_setThreshold_15 dX5_setThreshold_17 dX5_setThreshold_20
  · skip
    refine lv_iload_n hx hb dX5_setThreshold_5 rfl (lv_at hl 1 rfl) ?_
    refine zr_bipush hx hb dX5_setThreshold_6 (by decide) ?_
    refine zc_le (tgt := 21) hx hb (a : Int) (100 : Int) (zI_toInt (by omega)) (zI_toInt (by decide)) dX5_setThreshold_8 (by decide) (fun c8 => by exfalso; omega) (fun c8 => ?_)
    exact th_IAE (()) "the threshold is out of range" hst Z ht hP hD hS hl.1 rfl (by decide +kernel) ⟨Nat.le_of_ble_eq_true rfl, Nat.le_of_ble_eq_true rfl, Nat.le_of_ble_eq_true rfl, Nat.le_of_ble_eq_true rfl⟩ hQ dX5_setThreshold_11 dX5_setThreshold_14 dX5_setThreshold_15 dX5_setThreshold_17 dX5_setThreshold_20
abbrev r_X5_setWindow : Room := { frames := 0, cells := 0, slots := 0, locals := 0 }
set_option maxHeartbeats 4000000 in
set_option maxRecDepth 100000 in
theorem m_X5_setWindow (l : Launch) (G : ZG) (q : Nat → Nat) (σ : St) (κ : KC) {e_a : Int} (a : Nat) (he_a : e_a = (a : Int)) (h1 : 0 ≤ a) (h2 : a ≤ 1440) :
    MC l G yX5_setWindow (wY yX5_setWindow cX5_setWindow 3 (some .int)) r_X5_setWindow (wC G q σ κ) [.ref (q 0), .int (zI e_a)] (QI G (fun r9 (_ : Unit) => r9 = (zI ((σ.1 2 : Nat) : Int))) (fun _ => wC G q (sN σ 2 (a)) κ)) := by
  subst he_a
  refine MC.mk (by decide +kernel) (Nat.le_of_ble_eq_true rfl) ?_
  intro p e s m av below meth c A H locs ls Q Z hr hnm hQ hP hD hS hl
  have hx := Z.1
  have hb := Z.2.1
  have hown := Z.2.2.2.1
  have hW := Z.2.2.2.2.1
  have hl : lv_has ls 3 [(0, .ref (q 0)), (1, .int (zI ((a : Nat) : Int)))] := hl
  refine lv_iload_n hx hb dX5_setWindow_0 rfl (lv_at hl 1 rfl) ?_
  refine zc0_lt (tgt := 11) hx hb ((a : Nat) : Int) (zI_toInt (by omega)) dX5_setWindow_1 (by decide) (fun c1 => by exfalso; omega) (fun c1 => ?_)
  refine lv_iload_n hx hb dX5_setWindow_4 rfl (lv_at hl 1 rfl) ?_
  refine zr_sipush hx hb dX5_setWindow_5 (by decide) ?_
  refine zc_le (tgt := 21) hx hb ((a : Nat) : Int) (1440 : Int) (zI_toInt (by omega)) (zI_toInt (by decide)) dX5_setWindow_8 (by decide) (fun c8 => ?_) (fun c8 => by exfalso; omega)
  refine lv_aload_n hx hb dX5_setWindow_21 rfl (lv_at hl 0 rfl) ?_
  refine gC_0_2 Z hP kf_X5_16 dX5_setWindow_22 ?_
  refine lv_istore_n (lv' := [(2, .int (zI ((σ.1 2 : Nat) : Int))), (0, .ref (q 0)), (1, .int (zI ((a : Nat) : Int)))]) hx hb dX5_setWindow_25 rfl hl (by decide) rfl (fun ls hl => ?_)
  refine lv_aload_n hx hb dX5_setWindow_26 rfl (lv_at hl 1 rfl) ?_
  refine lv_iload_n hx hb dX5_setWindow_27 rfl (lv_at hl 2 rfl) ?_
  refine pC_0_2 Z hP hD hS (a) rfl kf_X5_16 dX5_setWindow_28 (fun H locs hP hD hS => ?_)
  refine lv_iload_n hx hb dX5_setWindow_31 rfl (lv_at hl 0 rfl) ?_
  exact zret_I () Z hr hP hD hS rfl rfl ⟨Nat.le_refl _, Nat.le_refl _⟩ hQ dX5_setWindow_32
abbrev r_X5_setWindow_x : Room := { frames := 6, cells := 1, slots := 6, locals := 100 }
set_option maxHeartbeats 4000000 in
set_option maxRecDepth 100000 in
theorem m_X5_setWindow_x (l : Launch) (G : ZG) (hst : l.stackTraces = false) (q : Nat → Nat) (σ : St) (κ : KC) (a : Int) (h1 : zR a) (h2 : a < 0 ∨ 1440 < a) :
    MX l G yX5_setWindow (wY yX5_setWindow cX5_setWindow 3 (some .int)) r_X5_setWindow_x (wC G q σ κ) [.ref (q 0), .int (zI (a : Int))] (S := Unit) "java/lang/IllegalArgumentException" (fun _ => wC G q σ κ) := by
  refine MX.mk (by decide +kernel) (Nat.le_of_ble_eq_true rfl) ?_
  intro p e s m av below meth c A H locs ls Q Z ht hQ hP hD hS hl
  have hx := Z.1
  have hb := Z.2.1
  have hown := Z.2.2.2.1
  have hW := Z.2.2.2.2.1
  have hl : lv_has ls 3 [(0, .ref (q 0)), (1, .int (zI (a : Int)))] := hl
  refine lv_iload_n hx hb dX5_setWindow_0 rfl (lv_at hl 1 rfl) ?_
  refine zc0_lt (tgt := 11) hx hb (a : Int) (zI_toInt (by omega)) dX5_setWindow_1 (by decide) (fun c1 => ?_) (fun c1 => ?_)
  · skip
    exact th_IAE (()) "the window is out of range" hst Z ht hP hD hS hl.1 rfl (by decide +kernel) ⟨Nat.le_of_ble_eq_true rfl, Nat.le_of_ble_eq_true rfl, Nat.le_of_ble_eq_true rfl, Nat.le_of_ble_eq_true rfl⟩ hQ dX5_setWindow_11 dX5_setWindow_14 dX5_setWindow_15 dX5_setWindow_17 dX5_setWindow_20
  · skip
    refine lv_iload_n hx hb dX5_setWindow_4 rfl (lv_at hl 1 rfl) ?_
    refine zr_sipush hx hb dX5_setWindow_5 (by decide) ?_
    refine zc_le (tgt := 21) hx hb (a : Int) (1440 : Int) (zI_toInt (by omega)) (zI_toInt (by decide)) dX5_setWindow_8 (by decide) (fun c8 => by exfalso; omega) (fun c8 => ?_)
    exact th_IAE (()) "the window is out of range" hst Z ht hP hD hS hl.1 rfl (by decide +kernel) ⟨Nat.le_of_ble_eq_true rfl, Nat.le_of_ble_eq_true rfl, Nat.le_of_ble_eq_true rfl, Nat.le_of_ble_eq_true rfl⟩ hQ dX5_setWindow_11 dX5_setWindow_14 dX5_setWindow_15 dX5_setWindow_17 dX5_setWindow_20
abbrev r_X5_likeness : Room := { frames := 2, cells := 0, slots := 0, locals := 45 }
set_option maxHeartbeats 4000000 in
set_option maxRecDepth 100000 in
theorem m_X5_likeness (l : Launch) (G : ZG) (q : Nat → Nat) (σ : St) (κ : KC) (a : Int64) (b : Int64) (h1 : ¬ a = 0) (h2 : ¬ b = 0) :
    MC l G yX5_likeness (wY yX5_likeness cX5_likeness 5 (some .int)) r_X5_likeness (wC G q σ κ) [.ref (q 0), .long (a), .long (b)] (QI G (fun r9 (_ : Unit) => r9 = (zI ((like a b : Nat) : Int))) (fun _ => wC G q σ κ)) := by
  refine MC.mk (by decide +kernel) (Nat.le_of_ble_eq_true rfl) ?_
  intro p e s m av below meth c A H locs ls Q Z hr hnm hQ hP hD hS hl
  have hx := Z.1
  have hb := Z.2.1
  have hown := Z.2.2.2.1
  have hW := Z.2.2.2.2.1
  have hl : lv_has ls 5 [(0, .ref (q 0)), (1, .long (a)), (3, .long (b))] := hl
  refine lv_lload_n hx hb dX5_likeness_0 rfl (lv_at hl 1 rfl) ?_
  refine lv_lconst (v := 0) hx hb dX5_likeness_1 (by decide) ?_
  refine zl_eq (tgt := 12) hx hb dX5_likeness_2 dX5_likeness_3 (by decide) (fun c2 => absurd c2 h1) (fun c2 => ?_)
  refine lv_lload_n hx hb dX5_likeness_6 rfl (lv_at hl 2 rfl) ?_
  refine lv_lconst (v := 0) hx hb dX5_likeness_7 (by decide) ?_
  refine zl_ne (tgt := 22) hx hb dX5_likeness_8 dX5_likeness_9 (by decide) (fun c8 => ?_) (fun c8 => absurd c8 h2)
  refine lv_lload_n hx hb dX5_likeness_22 rfl (lv_at hl 1 rfl) ?_
  refine lv_lload_n hx hb dX5_likeness_23 rfl (lv_at hl 2 rfl) ?_
  refine zdet_I ⟨rfl, rfl⟩ Z hD hS (zrunS (rest := []) Z hP hD hS hl.1 (m_X5_percentInCommon l G (wC G q σ κ) (a) (b)) zY_X5_percentInCommon km_X5_83 rfl rfl ⟨⟨Nat.le_of_ble_eq_true rfl, Nat.le_of_ble_eq_true rfl⟩, Nat.le_of_ble_eq_true rfl, Nat.le_of_ble_eq_true rfl⟩ (Nat.le_of_ble_eq_true rfl) dX5_likeness_24) (fun H locs hP hD hS => ?_)
  exact zret_I () Z hr hP hD hS rfl rfl ⟨Nat.le_refl _, Nat.le_refl _⟩ hQ dX5_likeness_27
abbrev r_X5_likeness_x : Room := { frames := 6, cells := 1, slots := 6, locals := 100 }
set_option maxHeartbeats 4000000 in
set_option maxRecDepth 100000 in
theorem m_X5_likeness_x (l : Launch) (G : ZG) (hst : l.stackTraces = false) (q : Nat → Nat) (σ : St) (κ : KC) (a : Int64) (b : Int64) (h1 : a = 0 ∨ b = 0) :
    MX l G yX5_likeness (wY yX5_likeness cX5_likeness 5 (some .int)) r_X5_likeness_x (wC G q σ κ) [.ref (q 0), .long (a), .long (b)] (S := Unit) "java/lang/IllegalArgumentException" (fun _ => wC G q σ κ) := by
  refine MX.mk (by decide +kernel) (Nat.le_of_ble_eq_true rfl) ?_
  intro p e s m av below meth c A H locs ls Q Z ht hQ hP hD hS hl
  have hx := Z.1
  have hb := Z.2.1
  have hown := Z.2.2.2.1
  have hW := Z.2.2.2.2.1
  have hl : lv_has ls 5 [(0, .ref (q 0)), (1, .long (a)), (3, .long (b))] := hl
  refine lv_lload_n hx hb dX5_likeness_0 rfl (lv_at hl 1 rfl) ?_
  refine lv_lconst (v := 0) hx hb dX5_likeness_1 (by decide) ?_
  refine zl_eq (tgt := 12) hx hb dX5_likeness_2 dX5_likeness_3 (by decide) (fun c2 => ?_) (fun c2 => ?_)
  · skip
    exact th_IAE (()) "a title has no words" hst Z ht hP hD hS hl.1 rfl (by decide +kernel) ⟨Nat.le_of_ble_eq_true rfl, Nat.le_of_ble_eq_true rfl, Nat.le_of_ble_eq_true rfl, Nat.le_of_ble_eq_true rfl⟩ hQ dX5_likeness_12 dX5_likeness_15 dX5_likeness_16 dX5_likeness_18 dX5_likeness_21
  · skip
    refine lv_lload_n hx hb dX5_likeness_6 rfl (lv_at hl 2 rfl) ?_
    refine lv_lconst (v := 0) hx hb dX5_likeness_7 (by decide) ?_
    refine zl_ne (tgt := 22) hx hb dX5_likeness_8 dX5_likeness_9 (by decide) (fun c8 => by exfalso; rcases h1 with h | h; exact c2 h; exact c8 h) (fun c8 => ?_)
    exact th_IAE (()) "a title has no words" hst Z ht hP hD hS hl.1 rfl (by decide +kernel) ⟨Nat.le_of_ble_eq_true rfl, Nat.le_of_ble_eq_true rfl, Nat.le_of_ble_eq_true rfl, Nat.le_of_ble_eq_true rfl⟩ hQ dX5_likeness_12 dX5_likeness_15 dX5_likeness_16 dX5_likeness_18 dX5_likeness_21
abbrev r_X5_addSource : Room := { frames := 0, cells := 0, slots := 0, locals := 0 }
set_option maxHeartbeats 4000000 in
set_option maxRecDepth 100000 in
theorem m_X5_addSource (l : Launch) (G : ZG) (q : Nat → Nat) (σ : St) (κ : KC)  (h1 : σ.1 3 < 6) :
    MC l G yX5_addSource (wY yX5_addSource cX5_addSource 1 (some .int)) r_X5_addSource (wC G q σ κ) [.ref (q 0)] (QI G (fun r9 (_ : Unit) => r9 = (zI ((σ.1 3 : Nat) : Int))) (fun _ => wC G q (sN σ 3 (σ.1 3 + 1)) κ)) := by
  refine MC.mk (by decide +kernel) (Nat.le_of_ble_eq_true rfl) ?_
  intro p e s m av below meth c A H locs ls Q Z hr hnm hQ hP hD hS hl
  have hx := Z.1
  have hb := Z.2.1
  have hown := Z.2.2.2.1
  have hW := Z.2.2.2.2.1
  have hl : lv_has ls 1 [(0, .ref (q 0))] := hl
  refine lv_aload_n hx hb dX5_addSource_0 rfl (lv_at hl 0 rfl) ?_
  refine gC_0_3 Z hP kf_X5_19 dX5_addSource_1 ?_
  refine zr_bipush hx hb dX5_addSource_4 (by decide) ?_
  refine zc_lt (tgt := 19) hx hb ((σ.1 3 : Nat) : Int) (6 : Int) (zI_toInt (by omega)) (zI_toInt (by decide)) dX5_addSource_6 (by decide) (fun c6 => ?_) (fun c6 => by exfalso; omega)
  refine lv_aload_n hx hb dX5_addSource_19 rfl (lv_at hl 0 rfl) ?_
  refine lv_dup hx hb dX5_addSource_20 rfl ?_
  refine gC_0_3 Z hP kf_X5_19 dX5_addSource_21 ?_
  refine zr_iconst hx hb dX5_addSource_24 ?_
  refine zr_iadd hx hb dX5_addSource_25 ?_
  refine pC_0_3 Z hP hD hS ((σ.1 3 + 1)) (by omega) kf_X5_19 dX5_addSource_26 (fun H locs hP hD hS => ?_)
  refine lv_aload_n hx hb dX5_addSource_29 rfl (lv_at hl 0 rfl) ?_
  refine gC_0_3 Z hP kf_X5_19 dX5_addSource_30 ?_
  refine zr_top (w := .int (zI (((σ.1 3 + 1) : Nat) : Int))) rfl ?_
  refine zr_iconst hx hb dX5_addSource_33 ?_
  refine zr_isub hx hb dX5_addSource_34 ?_
  exact zret_I () Z hr hP hD hS (congrArg zI (by show ((σ.1 3 + 1 : Nat) : Int) - 1 = _; omega)) rfl ⟨Nat.le_refl _, Nat.le_refl _⟩ hQ dX5_addSource_35
abbrev r_X5_addSource_x : Room := { frames := 6, cells := 1, slots := 6, locals := 100 }
set_option maxHeartbeats 4000000 in
set_option maxRecDepth 100000 in
theorem m_X5_addSource_x (l : Launch) (G : ZG) (hst : l.stackTraces = false) (q : Nat → Nat) (σ : St) (κ : KC)  (h1 : σ.1 3 = 6) :
    MX l G yX5_addSource (wY yX5_addSource cX5_addSource 1 (some .int)) r_X5_addSource_x (wC G q σ κ) [.ref (q 0)] (S := Unit) "java/lang/IllegalStateException" (fun _ => wC G q σ κ) := by
  refine MX.mk (by decide +kernel) (Nat.le_of_ble_eq_true rfl) ?_
  intro p e s m av below meth c A H locs ls Q Z ht hQ hP hD hS hl
  have hx := Z.1
  have hb := Z.2.1
  have hown := Z.2.2.2.1
  have hW := Z.2.2.2.2.1
  have hl : lv_has ls 1 [(0, .ref (q 0))] := hl
  refine lv_aload_n hx hb dX5_addSource_0 rfl (lv_at hl 0 rfl) ?_
  refine gC_0_3 Z hP kf_X5_19 dX5_addSource_1 ?_
  refine zr_bipush hx hb dX5_addSource_4 (by decide) ?_
  refine zc_lt (tgt := 19) hx hb ((σ.1 3 : Nat) : Int) (6 : Int) (zI_toInt (by omega)) (zI_toInt (by decide)) dX5_addSource_6 (by decide) (fun c6 => by exfalso; omega) (fun c6 => ?_)
  exact th_ISE (()) "there are 6 sources" hst Z ht hP hD hS hl.1 rfl (by decide +kernel) ⟨Nat.le_of_ble_eq_true rfl, Nat.le_of_ble_eq_true rfl, Nat.le_of_ble_eq_true rfl, Nat.le_of_ble_eq_true rfl⟩ hQ dX5_addSource_9 dX5_addSource_12 dX5_addSource_13 dX5_addSource_15 dX5_addSource_18
abbrev r_X5_fetch : Room := { frames := 6, cells := 0, slots := 0, locals := 140 }
set_option maxHeartbeats 4000000 in
set_option maxRecDepth 100000 in
theorem m_X5_fetch (l : Launch) (G : ZG) (q : Nat → Nat) (σ : St) (κ : KC) {e_sr : Int} (sr : Nat) (he_sr : e_sr = (sr : Int)) (idn : Int) (lk : Int) (t : Int64) (td : Int) (hI : okC σ) (h1 : sr < σ.1 3) (h2 : -1 ≤ idn ∧ idn ≤ 999) (h3 : -1 ≤ lk ∧ lk ≤ 999) (h4 : -1 ≤ td ∧ td ≤ 99999) (h5 : ¬ t = 0) (h6 : fnd σ ((sr : Nat) : Int) idn lk t = -1 → σ.1 4 < 30) :
    MC l G yX5_fetch (wY yX5_fetch cX5_fetch 8 (some .int)) r_X5_fetch (wC G q σ κ) [.ref (q 0), .int (zI e_sr), .int (zI (idn : Int)), .int (zI (lk : Int)), .long (t), .int (zI (td : Int))] (QI G (fun r9 (_ : Unit) => r9 = (zI ((fit σ ((sr : Nat) : Int) idn lk t : Nat) : Int))) (fun _ => wC G q (fet σ sr idn lk t td) κ)) := by
  subst he_sr
  refine MC.mk (by decide +kernel) (Nat.le_of_ble_eq_true rfl) ?_
  intro p e s m av below meth c A H locs ls Q Z hr hnm hQ hP hD hS hl
  have hx := Z.1
  have hb := Z.2.1
  have hown := Z.2.2.2.1
  have hW := Z.2.2.2.2.1
  have hl : lv_has ls 8 [(0, .ref (q 0)), (1, .int (zI ((sr : Nat) : Int))), (2, .int (zI (idn : Int))), (3, .int (zI (lk : Int))), (4, .long (t)), (6, .int (zI (td : Int)))] := hl
  obtain ⟨hn, hru, hrv, hdv, hsr, hmn, ht1, ht2, hwn, hv1, hv2, hmj, htm, hse, htg, hrt, hac, hk1, hk2, hkd, hmm, hmv, hord, hpo, hlo⟩ := id hI
  refine lv_iload_n hx hb dX5_fetch_0 rfl (lv_at hl 1 rfl) ?_
  refine zc0_lt (tgt := 12) hx hb ((sr : Nat) : Int) (zI_toInt (by omega)) dX5_fetch_1 (by decide) (fun c1 => by exfalso; omega) (fun c1 => ?_)
  refine lv_iload_n hx hb dX5_fetch_4 rfl (lv_at hl 1 rfl) ?_
  refine lv_aload_n hx hb dX5_fetch_5 rfl (lv_at hl 0 rfl) ?_
  refine gC_0_3 Z hP kf_X5_19 dX5_fetch_6 ?_
  refine zc_lt (tgt := 22) hx hb ((sr : Nat) : Int) ((σ.1 3 : Nat) : Int) (zI_toInt (by omega)) (zI_toInt (by omega)) dX5_fetch_9 (by decide) (fun c9 => ?_) (fun c9 => by exfalso; omega)
  refine lv_iload_n hx hb dX5_fetch_22 rfl (lv_at hl 2 rfl) ?_
  refine zdet_I ⟨rfl, rfl⟩ Z hD hS (zrunS (rest := []) Z hP hD hS hl.1 (m_X5_isKeyOrNone l G (wC G q σ κ) (idn : Int) (by omega)) zY_X5_isKeyOrNone km_X5_94 rfl rfl ⟨⟨Nat.le_of_ble_eq_true rfl, Nat.le_of_ble_eq_true rfl⟩, Nat.le_of_ble_eq_true rfl, Nat.le_of_ble_eq_true rfl⟩ (Nat.le_of_ble_eq_true rfl) dX5_fetch_23) (fun H locs hP hD hS => ?_)
  refine zb_eq (tgt := 51) hx hb dX5_fetch_26 (by decide) (fun c26 => by exfalso; have := of_decide_eq_false c26; omega) (fun c26 => ?_)
  refine lv_iload_n hx hb dX5_fetch_29 rfl (lv_at hl 3 rfl) ?_
  refine zdet_I ⟨rfl, rfl⟩ Z hD hS (zrunS (rest := []) Z hP hD hS hl.1 (m_X5_isKeyOrNone l G (wC G q σ κ) (lk : Int) (by omega)) zY_X5_isKeyOrNone km_X5_94 rfl rfl ⟨⟨Nat.le_of_ble_eq_true rfl, Nat.le_of_ble_eq_true rfl⟩, Nat.le_of_ble_eq_true rfl, Nat.le_of_ble_eq_true rfl⟩ (Nat.le_of_ble_eq_true rfl) dX5_fetch_30) (fun H locs hP hD hS => ?_)
  refine zb_eq (tgt := 51) hx hb dX5_fetch_33 (by decide) (fun c33 => by exfalso; have := of_decide_eq_false c33; omega) (fun c33 => ?_)
  refine lv_iload hx hb dX5_fetch_36 (lv_at hl 5 rfl) ?_
  refine zdet_I ⟨rfl, rfl⟩ Z hD hS (zrunS (rest := []) Z hP hD hS hl.1 (m_X5_isMinuteOrNone l G (wC G q σ κ) (td : Int) (by omega)) zY_X5_isMinuteOrNone km_X5_98 rfl rfl ⟨⟨Nat.le_of_ble_eq_true rfl, Nat.le_of_ble_eq_true rfl⟩, Nat.le_of_ble_eq_true rfl, Nat.le_of_ble_eq_true rfl⟩ (Nat.le_of_ble_eq_true rfl) dX5_fetch_38) (fun H locs hP hD hS => ?_)
  refine zb_eq (tgt := 51) hx hb dX5_fetch_41 (by decide) (fun c41 => by exfalso; have := of_decide_eq_false c41; omega) (fun c41 => ?_)
  refine lv_lload hx hb dX5_fetch_44 (lv_at hl 4 rfl) ?_
  refine lv_lconst (v := 0) hx hb dX5_fetch_46 (by decide) ?_
  refine zl_ne (tgt := 61) hx hb dX5_fetch_47 dX5_fetch_48 (by decide) (fun c47 => ?_) (fun c47 => absurd c47 h5)
  refine lv_aload_n hx hb dX5_fetch_61 rfl (lv_at hl 0 rfl) ?_
  refine lv_iload_n hx hb dX5_fetch_62 rfl (lv_at hl 1 rfl) ?_
  refine lv_iload_n hx hb dX5_fetch_63 rfl (lv_at hl 2 rfl) ?_
  refine lv_iload_n hx hb dX5_fetch_64 rfl (lv_at hl 3 rfl) ?_
  refine lv_lload hx hb dX5_fetch_65 (lv_at hl 4 rfl) ?_
  refine zdet_I ⟨rfl, rfl⟩ Z hD hS (zrunV (rest := []) Z hP hD hS hl.1 (m_X5_findFetched l G q σ κ (sr) rfl (idn : Int) (lk : Int) (t) hI (by omega) (by omega) (by omega)) zY_X5_findFetched km_X5_103 (q0 := 0) rfl rfl rfl rfl ⟨⟨Nat.le_of_ble_eq_true rfl, Nat.le_of_ble_eq_true rfl⟩, Nat.le_of_ble_eq_true rfl, Nat.le_of_ble_eq_true rfl⟩ (Nat.le_of_ble_eq_true rfl) dX5_fetch_67) (fun H locs hP hD hS => ?_)
  have ho7 := fnd_in hI sr idn lk t
  refine lv_istore (lv' := [(7, .int (zI (fnd σ ((sr : Nat) : Int) (idn : Int) (lk : Int) (t) : Int))), (0, .ref (q 0)), (1, .int (zI ((sr : Nat) : Int))), (2, .int (zI (idn : Int))), (3, .int (zI (lk : Int))), (4, .long (t)), (6, .int (zI (td : Int)))]) hx hb dX5_fetch_70 hl (by decide) rfl (fun ls hl => ?_)
  refine lv_iload hx hb dX5_fetch_72 (lv_at hl 0 rfl) ?_
  refine zr_iconst hx hb dX5_fetch_74 ?_
  refine zc_ne (tgt := 115) hx hb (fnd σ ((sr : Nat) : Int) (idn : Int) (lk : Int) (t) : Int) (-1 : Int) (zI_toInt (by omega)) (zI_toInt (by decide)) dX5_fetch_75 (by decide) (fun c75 => ?_) (fun c75 => ?_)
  · skip
    refine lv_aload_n hx hb dX5_fetch_115 rfl (lv_at hl 1 rfl) ?_
    refine gC_0_4 Z hP kf_X5_25 dX5_fetch_116 ?_
    refine lv_iload hx hb dX5_fetch_119 (lv_at hl 0 rfl) ?_
    refine lv_lload hx hb dX5_fetch_121 (lv_at hl 5 rfl) ?_
    refine lv_aload_n hx hb dX5_fetch_123 rfl (lv_at hl 1 rfl) ?_
    refine gC_0_1 Z hP kf_X5_13 dX5_fetch_124 ?_
    refine zdet_V ⟨rfl, rfl⟩ Z hD hS (zrunV (rest := []) Z hP hD hS hl.1 (m_X1_renew l G q σ κ ((fnd σ ((sr : Nat) : Int) idn lk t).toNat) (by omega) (t) (σ.1 1) rfl hI (by omega) (by omega)) zY_X1_renew km_X5_117 (q0 := 1) rfl rfl rfl rfl ⟨⟨Nat.le_of_ble_eq_true rfl, Nat.le_of_ble_eq_true rfl⟩, Nat.le_of_ble_eq_true rfl, Nat.le_of_ble_eq_true rfl⟩ (Nat.le_of_ble_eq_true rfl) dX5_fetch_127) (fun H locs hP hD hS => ?_)
    refine lv_aload_n hx hb dX5_fetch_130 rfl (lv_at hl 1 rfl) ?_
    refine gC_0_4 Z hP kf_X5_25 dX5_fetch_131 ?_
    refine lv_iload hx hb dX5_fetch_134 (lv_at hl 0 rfl) ?_
    refine lv_iload_n hx hb dX5_fetch_136 rfl (lv_at hl 2 rfl) ?_
    refine zdet_V ⟨rfl, rfl⟩ Z hD hS (zrunV (rest := []) Z hP hD hS hl.1 (m_X1_addTeller l G q (rnw σ ((fnd σ ((sr : Nat) : Int) idn lk t).toNat) ((t)) (σ.1 1)) κ ((fnd σ ((sr : Nat) : Int) idn lk t).toNat) (by omega) (sr) rfl (by omega) (by omega)) zY_X1_addTeller km_X5_121 (q0 := 1) rfl rfl rfl rfl ⟨⟨Nat.le_of_ble_eq_true rfl, Nat.le_of_ble_eq_true rfl⟩, Nat.le_of_ble_eq_true rfl, Nat.le_of_ble_eq_true rfl⟩ (Nat.le_of_ble_eq_true rfl) dX5_fetch_137) (fun H locs hP hD hS => ?_)
    refine lv_aload_n hx hb dX5_fetch_140 rfl (lv_at hl 1 rfl) ?_
    refine gC_0_4 Z hP kf_X5_25 dX5_fetch_141 ?_
    refine lv_iload hx hb dX5_fetch_144 (lv_at hl 0 rfl) ?_
    refine lv_iload_n hx hb dX5_fetch_146 rfl (lv_at hl 2 rfl) ?_
    refine lv_iload_n hx hb dX5_fetch_147 rfl (lv_at hl 3 rfl) ?_
    refine zdet_V ⟨rfl, rfl⟩ Z hD hS (zrunV (rest := []) Z hP hD hS hl.1 (m_X1_claimPair l G q (sI (rnw σ ((fnd σ ((sr : Nat) : Int) idn lk t).toNat) ((t)) (σ.1 1)) 0 (va_up (((rnw σ ((fnd σ ((sr : Nat) : Int) idn lk t).toNat) ((t)) (σ.1 1))).2.2.1 0) ((fnd σ ((sr : Nat) : Int) idn lk t).toNat) ((((rnw σ ((fnd σ ((sr : Nat) : Int) idn lk t).toNat) ((t)) (σ.1 1))).2.2.1 0) ((fnd σ ((sr : Nat) : Int) idn lk t).toNat) ||| (zI 1 <<< (zI ((sr : Nat) : Int) &&& 31))))) κ ((fnd σ ((sr : Nat) : Int) idn lk t).toNat) (by omega) (sr) rfl (idn : Int) (by omega) (by omega) (by omega) (by omega) (fun y9 => by show (rnw σ (fnd σ ((sr : Nat) : Int) idn lk t).toNat t (σ.1 1)).2.1 11 y9 < 1000000; rw [rnw_A _ _ _ _ _ (by decide) (by decide)]; have := hpo y9; omega) (by omega)) zY_X1_claimPair km_X5_125 (q0 := 1) rfl rfl rfl rfl ⟨⟨Nat.le_of_ble_eq_true rfl, Nat.le_of_ble_eq_true rfl⟩, Nat.le_of_ble_eq_true rfl, Nat.le_of_ble_eq_true rfl⟩ (Nat.le_of_ble_eq_true rfl) dX5_fetch_148) (fun H locs hP hD hS => ?_)
    refine lv_aload_n hx hb dX5_fetch_151 rfl (lv_at hl 1 rfl) ?_
    refine gC_0_4 Z hP kf_X5_25 dX5_fetch_152 ?_
    refine lv_iload hx hb dX5_fetch_155 (lv_at hl 0 rfl) ?_
    refine lv_iload_n hx hb dX5_fetch_157 rfl (lv_at hl 4 rfl) ?_
    refine zdet_V ⟨rfl, rfl⟩ Z hD hS (zrunV (rest := []) Z hP hD hS hl.1 (m_X1_claimLink l G q (clP (sI (rnw σ ((fnd σ ((sr : Nat) : Int) idn lk t).toNat) ((t)) (σ.1 1)) 0 (va_up (((rnw σ ((fnd σ ((sr : Nat) : Int) idn lk t).toNat) ((t)) (σ.1 1))).2.2.1 0) ((fnd σ ((sr : Nat) : Int) idn lk t).toNat) ((((rnw σ ((fnd σ ((sr : Nat) : Int) idn lk t).toNat) ((t)) (σ.1 1))).2.2.1 0) ((fnd σ ((sr : Nat) : Int) idn lk t).toNat) ||| (zI 1 <<< (zI ((sr : Nat) : Int) &&& 31))))) ((fnd σ ((sr : Nat) : Int) idn lk t).toNat) ((sr : Nat) : Int) (idn : Int)) κ ((fnd σ ((sr : Nat) : Int) idn lk t).toNat) (by omega) (lk : Int) (by omega) (by omega) (by omega) (fun y9 => by rw [clP_A _ _ _ _ _ (by decide)]; show (rnw σ (fnd σ ((sr : Nat) : Int) idn lk t).toNat t (σ.1 1)).2.1 12 y9 < 1000000; rw [rnw_A _ _ _ _ _ (by decide) (by decide)]; have := hlo y9; omega) (by omega)) zY_X1_claimLink km_X5_129 (q0 := 1) rfl rfl rfl rfl ⟨⟨Nat.le_of_ble_eq_true rfl, Nat.le_of_ble_eq_true rfl⟩, Nat.le_of_ble_eq_true rfl, Nat.le_of_ble_eq_true rfl⟩ (Nat.le_of_ble_eq_true rfl) dX5_fetch_158) (fun H locs hP hD hS => ?_)
    refine lv_iload hx hb dX5_fetch_161 (lv_at hl 0 rfl) ?_
    exact zret_I () Z hr hP hD hS (congrArg zI (by unfold fit; rw [if_neg c75]; omega)) (by unfold fet fit fst1; rw [if_neg c75, if_neg c75]; rfl) ⟨Nat.le_refl _, Nat.le_refl _⟩ hQ dX5_fetch_163
  · skip
    refine lv_aload_n hx hb dX5_fetch_78 rfl (lv_at hl 1 rfl) ?_
    refine gC_0_4 Z hP kf_X5_25 dX5_fetch_79 ?_
    refine lv_lload hx hb dX5_fetch_82 (lv_at hl 5 rfl) ?_
    refine lv_aload_n hx hb dX5_fetch_84 rfl (lv_at hl 1 rfl) ?_
    refine gC_0_0 Z hP kf_X5_9 dX5_fetch_85 ?_
    refine lv_aload_n hx hb dX5_fetch_88 rfl (lv_at hl 1 rfl) ?_
    refine lv_iload hx hb dX5_fetch_89 (lv_at hl 6 rfl) ?_
    refine zdet_I ⟨rfl, rfl⟩ Z hD hS (zrunV (rest := [.int (zI ((σ.1 0 : Nat) : Int)), .long (t), .ref (q 1)]) Z hP hD hS hl.1 (m_X5_timeFrom l G q σ κ (td : Int) hI (by omega) (by omega)) zY_X5_timeFrom km_X5_107 (q0 := 0) rfl rfl rfl rfl ⟨⟨Nat.le_of_ble_eq_true rfl, Nat.le_of_ble_eq_true rfl⟩, Nat.le_of_ble_eq_true rfl, Nat.le_of_ble_eq_true rfl⟩ (Nat.le_of_ble_eq_true rfl) dX5_fetch_91) (fun H locs hP hD hS => ?_)
    refine zdet_I ⟨rfl, rfl⟩ Z hD hS (zrunV (rest := []) Z hP hD hS hl.1 (m_X1_append l G q σ κ (t) (σ.1 0) rfl (tmF σ (td : Int)) rfl (h6 c75) htm (fun y9 hy => by have := hord y9 hy; omega) (by omega) (by unfold tmF; split <;> omega)) zY_X1_append km_X5_111 (q0 := 1) rfl rfl rfl rfl ⟨⟨Nat.le_of_ble_eq_true rfl, Nat.le_of_ble_eq_true rfl⟩, Nat.le_of_ble_eq_true rfl, Nat.le_of_ble_eq_true rfl⟩ (Nat.le_of_ble_eq_true rfl) dX5_fetch_94) (fun H locs hP hD hS => ?_)
    refine lv_istore (lv' := [(7, .int (zI ((σ.1 4 : Nat) : Int))), (0, .ref (q 0)), (1, .int (zI ((sr : Nat) : Int))), (2, .int (zI (idn : Int))), (3, .int (zI (lk : Int))), (4, .long (t)), (6, .int (zI (td : Int)))]) hx hb dX5_fetch_97 hl (by decide) rfl (fun ls hl => ?_)
    refine lv_iload hx hb dX5_fetch_99 (lv_at hl 0 rfl) ?_
    refine zr_iconst hx hb dX5_fetch_101 ?_
    refine zc_ne (tgt := 130) hx hb ((σ.1 4 : Nat) : Int) (-1 : Int) (zI_toInt (by omega)) (zI_toInt (by decide)) dX5_fetch_102 (by decide) (fun c102 => ?_) (fun c102 => by exfalso; omega)
    refine lv_aload_n hx hb dX5_fetch_130 rfl (lv_at hl 1 rfl) ?_
    refine gC_0_4 Z hP kf_X5_25 dX5_fetch_131 ?_
    refine lv_iload hx hb dX5_fetch_134 (lv_at hl 0 rfl) ?_
    refine lv_iload_n hx hb dX5_fetch_136 rfl (lv_at hl 2 rfl) ?_
    refine zdet_V ⟨rfl, rfl⟩ Z hD hS (zrunV (rest := []) Z hP hD hS hl.1 (m_X1_addTeller l G q (app σ ((t)) (σ.1 0) (tmF σ (td : Int))) κ (σ.1 4) rfl (sr) rfl (by omega) (by omega)) zY_X1_addTeller km_X5_121 (q0 := 1) rfl rfl rfl rfl ⟨⟨Nat.le_of_ble_eq_true rfl, Nat.le_of_ble_eq_true rfl⟩, Nat.le_of_ble_eq_true rfl, Nat.le_of_ble_eq_true rfl⟩ (Nat.le_of_ble_eq_true rfl) dX5_fetch_137) (fun H locs hP hD hS => ?_)
    refine lv_aload_n hx hb dX5_fetch_140 rfl (lv_at hl 1 rfl) ?_
    refine gC_0_4 Z hP kf_X5_25 dX5_fetch_141 ?_
    refine lv_iload hx hb dX5_fetch_144 (lv_at hl 0 rfl) ?_
    refine lv_iload_n hx hb dX5_fetch_146 rfl (lv_at hl 2 rfl) ?_
    refine lv_iload_n hx hb dX5_fetch_147 rfl (lv_at hl 3 rfl) ?_
    refine zdet_V ⟨rfl, rfl⟩ Z hD hS (zrunV (rest := []) Z hP hD hS hl.1 (m_X1_claimPair l G q (sI (app σ ((t)) (σ.1 0) (tmF σ (td : Int))) 0 (va_up (((app σ ((t)) (σ.1 0) (tmF σ (td : Int)))).2.2.1 0) (σ.1 4) ((((app σ ((t)) (σ.1 0) (tmF σ (td : Int)))).2.2.1 0) (σ.1 4) ||| (zI 1 <<< (zI ((sr : Nat) : Int) &&& 31))))) κ (σ.1 4) rfl (sr) rfl (idn : Int) (by omega) (by omega) (by omega) (by omega) (fun y9 => by show σ.2.1 11 y9 < 1000000; have := hpo y9; omega) (by omega)) zY_X1_claimPair km_X5_125 (q0 := 1) rfl rfl rfl rfl ⟨⟨Nat.le_of_ble_eq_true rfl, Nat.le_of_ble_eq_true rfl⟩, Nat.le_of_ble_eq_true rfl, Nat.le_of_ble_eq_true rfl⟩ (Nat.le_of_ble_eq_true rfl) dX5_fetch_148) (fun H locs hP hD hS => ?_)
    refine lv_aload_n hx hb dX5_fetch_151 rfl (lv_at hl 1 rfl) ?_
    refine gC_0_4 Z hP kf_X5_25 dX5_fetch_152 ?_
    refine lv_iload hx hb dX5_fetch_155 (lv_at hl 0 rfl) ?_
    refine lv_iload_n hx hb dX5_fetch_157 rfl (lv_at hl 4 rfl) ?_
    refine zdet_V ⟨rfl, rfl⟩ Z hD hS (zrunV (rest := []) Z hP hD hS hl.1 (m_X1_claimLink l G q (clP (sI (app σ ((t)) (σ.1 0) (tmF σ (td : Int))) 0 (va_up (((app σ ((t)) (σ.1 0) (tmF σ (td : Int)))).2.2.1 0) (σ.1 4) ((((app σ ((t)) (σ.1 0) (tmF σ (td : Int)))).2.2.1 0) (σ.1 4) ||| (zI 1 <<< (zI ((sr : Nat) : Int) &&& 31))))) (σ.1 4) ((sr : Nat) : Int) (idn : Int)) κ (σ.1 4) rfl (lk : Int) (by omega) (by omega) (by omega) (fun y9 => by rw [clP_A _ _ _ _ _ (by decide)]; show σ.2.1 12 y9 < 1000000; have := hlo y9; omega) (by omega)) zY_X1_claimLink km_X5_129 (q0 := 1) rfl rfl rfl rfl ⟨⟨Nat.le_of_ble_eq_true rfl, Nat.le_of_ble_eq_true rfl⟩, Nat.le_of_ble_eq_true rfl, Nat.le_of_ble_eq_true rfl⟩ (Nat.le_of_ble_eq_true rfl) dX5_fetch_158) (fun H locs hP hD hS => ?_)
    refine lv_iload hx hb dX5_fetch_161 (lv_at hl 0 rfl) ?_
    exact zret_I () Z hr hP hD hS (by unfold fit; rw [if_pos c75]) (by unfold fet fit fst1; rw [if_pos c75, if_pos c75]; rfl) ⟨Nat.le_refl _, Nat.le_refl _⟩ hQ dX5_fetch_163
abbrev r_X5_fetch_x1 : Room := { frames := 6, cells := 1, slots := 6, locals := 140 }
set_option maxHeartbeats 4000000 in
set_option maxRecDepth 100000 in
theorem m_X5_fetch_x1 (l : Launch) (G : ZG) (hst : l.stackTraces = false) (q : Nat → Nat) (σ : St) (κ : KC) (sr : Int) (idn : Int) (lk : Int) (t : Int64) (td : Int) (hI : okC σ) (h1 : zR sr) (h2 : sr < 0 ∨ ((σ.1 3 : Nat) : Int) ≤ sr) :
    MX l G yX5_fetch (wY yX5_fetch cX5_fetch 8 (some .int)) r_X5_fetch_x1 (wC G q σ κ) [.ref (q 0), .int (zI (sr : Int)), .int (zI (idn : Int)), .int (zI (lk : Int)), .long (t), .int (zI (td : Int))] (S := Unit) "java/lang/IndexOutOfBoundsException" (fun _ => wC G q σ κ) := by
  refine MX.mk (by decide +kernel) (Nat.le_of_ble_eq_true rfl) ?_
  intro p e s m av below meth c A H locs ls Q Z ht hQ hP hD hS hl
  have hx := Z.1
  have hb := Z.2.1
  have hown := Z.2.2.2.1
  have hW := Z.2.2.2.2.1
  have hl : lv_has ls 8 [(0, .ref (q 0)), (1, .int (zI (sr : Int))), (2, .int (zI (idn : Int))), (3, .int (zI (lk : Int))), (4, .long (t)), (6, .int (zI (td : Int)))] := hl
  obtain ⟨hn, hru, hrv, hdv, hsr, hmn, ht1, ht2, hwn, hv1, hv2, hmj, htm, hse, htg, hrt, hac, hk1, hk2, hkd, hmm, hmv, hord, hpo, hlo⟩ := id hI
  refine lv_iload_n hx hb dX5_fetch_0 rfl (lv_at hl 1 rfl) ?_
  refine zc0_lt (tgt := 12) hx hb (sr : Int) (zI_toInt (by omega)) dX5_fetch_1 (by decide) (fun c1 => ?_) (fun c1 => ?_)
  · skip
    exact th_IOB (()) "there is no such source" hst Z ht hP hD hS hl.1 rfl (by decide +kernel) ⟨Nat.le_of_ble_eq_true rfl, Nat.le_of_ble_eq_true rfl, Nat.le_of_ble_eq_true rfl, Nat.le_of_ble_eq_true rfl⟩ hQ dX5_fetch_12 dX5_fetch_15 dX5_fetch_16 dX5_fetch_18 dX5_fetch_21
  · skip
    refine lv_iload_n hx hb dX5_fetch_4 rfl (lv_at hl 1 rfl) ?_
    refine lv_aload_n hx hb dX5_fetch_5 rfl (lv_at hl 0 rfl) ?_
    refine gC_0_3 Z hP kf_X5_19 dX5_fetch_6 ?_
    refine zc_lt (tgt := 22) hx hb (sr : Int) ((σ.1 3 : Nat) : Int) (zI_toInt (by omega)) (zI_toInt (by omega)) dX5_fetch_9 (by decide) (fun c9 => by exfalso; omega) (fun c9 => ?_)
    exact th_IOB (()) "there is no such source" hst Z ht hP hD hS hl.1 rfl (by decide +kernel) ⟨Nat.le_of_ble_eq_true rfl, Nat.le_of_ble_eq_true rfl, Nat.le_of_ble_eq_true rfl, Nat.le_of_ble_eq_true rfl⟩ hQ dX5_fetch_12 dX5_fetch_15 dX5_fetch_16 dX5_fetch_18 dX5_fetch_21
abbrev r_X5_fetch_x2 : Room := { frames := 6, cells := 1, slots := 6, locals := 140 }
set_option maxHeartbeats 4000000 in
set_option maxRecDepth 100000 in
theorem m_X5_fetch_x2 (l : Launch) (G : ZG) (hst : l.stackTraces = false) (q : Nat → Nat) (σ : St) (κ : KC) {e_sr : Int} (sr : Nat) (he_sr : e_sr = (sr : Int)) (idn : Int) (lk : Int) (t : Int64) (td : Int) (hI : okC σ) (h1 : sr < σ.1 3) (h7 : zR idn ∧ zR lk ∧ zR td) (h2 : ¬ ((-1 ≤ idn ∧ idn ≤ 999) ∧ (-1 ≤ lk ∧ lk ≤ 999) ∧ (-1 ≤ td ∧ td ≤ 99999) ∧ ¬ t = 0)) :
    MX l G yX5_fetch (wY yX5_fetch cX5_fetch 8 (some .int)) r_X5_fetch_x2 (wC G q σ κ) [.ref (q 0), .int (zI e_sr), .int (zI (idn : Int)), .int (zI (lk : Int)), .long (t), .int (zI (td : Int))] (S := Unit) "java/lang/IllegalArgumentException" (fun _ => wC G q σ κ) := by
  subst he_sr
  refine MX.mk (by decide +kernel) (Nat.le_of_ble_eq_true rfl) ?_
  intro p e s m av below meth c A H locs ls Q Z ht hQ hP hD hS hl
  have hx := Z.1
  have hb := Z.2.1
  have hown := Z.2.2.2.1
  have hW := Z.2.2.2.2.1
  have hl : lv_has ls 8 [(0, .ref (q 0)), (1, .int (zI ((sr : Nat) : Int))), (2, .int (zI (idn : Int))), (3, .int (zI (lk : Int))), (4, .long (t)), (6, .int (zI (td : Int)))] := hl
  obtain ⟨hn, hru, hrv, hdv, hsr, hmn, ht1, ht2, hwn, hv1, hv2, hmj, htm, hse, htg, hrt, hac, hk1, hk2, hkd, hmm, hmv, hord, hpo, hlo⟩ := id hI
  refine lv_iload_n hx hb dX5_fetch_0 rfl (lv_at hl 1 rfl) ?_
  refine zc0_lt (tgt := 12) hx hb ((sr : Nat) : Int) (zI_toInt (by omega)) dX5_fetch_1 (by decide) (fun c1 => by exfalso; omega) (fun c1 => ?_)
  refine lv_iload_n hx hb dX5_fetch_4 rfl (lv_at hl 1 rfl) ?_
  refine lv_aload_n hx hb dX5_fetch_5 rfl (lv_at hl 0 rfl) ?_
  refine gC_0_3 Z hP kf_X5_19 dX5_fetch_6 ?_
  refine zc_lt (tgt := 22) hx hb ((sr : Nat) : Int) ((σ.1 3 : Nat) : Int) (zI_toInt (by omega)) (zI_toInt (by omega)) dX5_fetch_9 (by decide) (fun c9 => ?_) (fun c9 => by exfalso; omega)
  refine lv_iload_n hx hb dX5_fetch_22 rfl (lv_at hl 2 rfl) ?_
  refine zdet_I ⟨rfl, rfl⟩ Z hD hS (zrunS (rest := []) Z hP hD hS hl.1 (m_X5_isKeyOrNone l G (wC G q σ κ) (idn : Int) h7.1) zY_X5_isKeyOrNone km_X5_94 rfl rfl ⟨⟨Nat.le_of_ble_eq_true rfl, Nat.le_of_ble_eq_true rfl⟩, Nat.le_of_ble_eq_true rfl, Nat.le_of_ble_eq_true rfl⟩ (Nat.le_of_ble_eq_true rfl) dX5_fetch_23) (fun H locs hP hD hS => ?_)
  refine zb_eq (tgt := 51) hx hb dX5_fetch_26 (by decide) (fun c26 => ?_) (fun c26 => ?_)
  · skip
    exact th_IAE (()) "the identifier, the link, the minute or the title is wrong" hst Z ht hP hD hS hl.1 rfl (by decide +kernel) ⟨Nat.le_of_ble_eq_true rfl, Nat.le_of_ble_eq_true rfl, Nat.le_of_ble_eq_true rfl, Nat.le_of_ble_eq_true rfl⟩ hQ dX5_fetch_51 dX5_fetch_54 dX5_fetch_55 dX5_fetch_57 dX5_fetch_60
  · skip
    refine lv_iload_n hx hb dX5_fetch_29 rfl (lv_at hl 3 rfl) ?_
    refine zdet_I ⟨rfl, rfl⟩ Z hD hS (zrunS (rest := []) Z hP hD hS hl.1 (m_X5_isKeyOrNone l G (wC G q σ κ) (lk : Int) h7.2.1) zY_X5_isKeyOrNone km_X5_94 rfl rfl ⟨⟨Nat.le_of_ble_eq_true rfl, Nat.le_of_ble_eq_true rfl⟩, Nat.le_of_ble_eq_true rfl, Nat.le_of_ble_eq_true rfl⟩ (Nat.le_of_ble_eq_true rfl) dX5_fetch_30) (fun H locs hP hD hS => ?_)
    refine zb_eq (tgt := 51) hx hb dX5_fetch_33 (by decide) (fun c33 => ?_) (fun c33 => ?_)
    · skip
      exact th_IAE (()) "the identifier, the link, the minute or the title is wrong" hst Z ht hP hD hS hl.1 rfl (by decide +kernel) ⟨Nat.le_of_ble_eq_true rfl, Nat.le_of_ble_eq_true rfl, Nat.le_of_ble_eq_true rfl, Nat.le_of_ble_eq_true rfl⟩ hQ dX5_fetch_51 dX5_fetch_54 dX5_fetch_55 dX5_fetch_57 dX5_fetch_60
    · skip
      refine lv_iload hx hb dX5_fetch_36 (lv_at hl 5 rfl) ?_
      refine zdet_I ⟨rfl, rfl⟩ Z hD hS (zrunS (rest := []) Z hP hD hS hl.1 (m_X5_isMinuteOrNone l G (wC G q σ κ) (td : Int) h7.2.2) zY_X5_isMinuteOrNone km_X5_98 rfl rfl ⟨⟨Nat.le_of_ble_eq_true rfl, Nat.le_of_ble_eq_true rfl⟩, Nat.le_of_ble_eq_true rfl, Nat.le_of_ble_eq_true rfl⟩ (Nat.le_of_ble_eq_true rfl) dX5_fetch_38) (fun H locs hP hD hS => ?_)
      refine zb_eq (tgt := 51) hx hb dX5_fetch_41 (by decide) (fun c41 => ?_) (fun c41 => ?_)
      · skip
        exact th_IAE (()) "the identifier, the link, the minute or the title is wrong" hst Z ht hP hD hS hl.1 rfl (by decide +kernel) ⟨Nat.le_of_ble_eq_true rfl, Nat.le_of_ble_eq_true rfl, Nat.le_of_ble_eq_true rfl, Nat.le_of_ble_eq_true rfl⟩ hQ dX5_fetch_51 dX5_fetch_54 dX5_fetch_55 dX5_fetch_57 dX5_fetch_60
      · skip
        refine lv_lload hx hb dX5_fetch_44 (lv_at hl 4 rfl) ?_
        refine lv_lconst (v := 0) hx hb dX5_fetch_46 (by decide) ?_
        refine zl_ne (tgt := 61) hx hb dX5_fetch_47 dX5_fetch_48 (by decide) (fun c47 => by exfalso; exact h2 ⟨of_decide_eq_true c26, of_decide_eq_true c33, of_decide_eq_true c41, c47⟩) (fun c47 => ?_)
        exact th_IAE (()) "the identifier, the link, the minute or the title is wrong" hst Z ht hP hD hS hl.1 rfl (by decide +kernel) ⟨Nat.le_of_ble_eq_true rfl, Nat.le_of_ble_eq_true rfl, Nat.le_of_ble_eq_true rfl, Nat.le_of_ble_eq_true rfl⟩ hQ dX5_fetch_51 dX5_fetch_54 dX5_fetch_55 dX5_fetch_57 dX5_fetch_60
abbrev r_X5_fetch_x3 : Room := { frames := 6, cells := 1, slots := 6, locals := 140 }
set_option maxHeartbeats 4000000 in
set_option maxRecDepth 100000 in
theorem m_X5_fetch_x3 (l : Launch) (G : ZG) (hst : l.stackTraces = false) (q : Nat → Nat) (σ : St) (κ : KC) {e_sr : Int} (sr : Nat) (he_sr : e_sr = (sr : Int)) (idn : Int) (lk : Int) (t : Int64) (td : Int) (hI : okC σ) (h1 : sr < σ.1 3) (h2 : -1 ≤ idn ∧ idn ≤ 999) (h3 : -1 ≤ lk ∧ lk ≤ 999) (h4 : -1 ≤ td ∧ td ≤ 99999) (h5 : ¬ t = 0) (h6 : fnd σ ((sr : Nat) : Int) idn lk t = -1) (h7 : σ.1 4 = 30) :
    MX l G yX5_fetch (wY yX5_fetch cX5_fetch 8 (some .int)) r_X5_fetch_x3 (wC G q σ κ) [.ref (q 0), .int (zI e_sr), .int (zI (idn : Int)), .int (zI (lk : Int)), .long (t), .int (zI (td : Int))] (S := Unit) "java/lang/IllegalStateException" (fun _ => wC G q σ κ) := by
  subst he_sr
  refine MX.mk (by decide +kernel) (Nat.le_of_ble_eq_true rfl) ?_
  intro p e s m av below meth c A H locs ls Q Z ht hQ hP hD hS hl
  have hx := Z.1
  have hb := Z.2.1
  have hown := Z.2.2.2.1
  have hW := Z.2.2.2.2.1
  have hl : lv_has ls 8 [(0, .ref (q 0)), (1, .int (zI ((sr : Nat) : Int))), (2, .int (zI (idn : Int))), (3, .int (zI (lk : Int))), (4, .long (t)), (6, .int (zI (td : Int)))] := hl
  obtain ⟨hn, hru, hrv, hdv, hsr, hmn, ht1, ht2, hwn, hv1, hv2, hmj, htm, hse, htg, hrt, hac, hk1, hk2, hkd, hmm, hmv, hord, hpo, hlo⟩ := id hI
  refine lv_iload_n hx hb dX5_fetch_0 rfl (lv_at hl 1 rfl) ?_
  refine zc0_lt (tgt := 12) hx hb ((sr : Nat) : Int) (zI_toInt (by omega)) dX5_fetch_1 (by decide) (fun c1 => by exfalso; omega) (fun c1 => ?_)
  refine lv_iload_n hx hb dX5_fetch_4 rfl (lv_at hl 1 rfl) ?_
  refine lv_aload_n hx hb dX5_fetch_5 rfl (lv_at hl 0 rfl) ?_
  refine gC_0_3 Z hP kf_X5_19 dX5_fetch_6 ?_
  refine zc_lt (tgt := 22) hx hb ((sr : Nat) : Int) ((σ.1 3 : Nat) : Int) (zI_toInt (by omega)) (zI_toInt (by omega)) dX5_fetch_9 (by decide) (fun c9 => ?_) (fun c9 => by exfalso; omega)
  refine lv_iload_n hx hb dX5_fetch_22 rfl (lv_at hl 2 rfl) ?_
  refine zdet_I ⟨rfl, rfl⟩ Z hD hS (zrunS (rest := []) Z hP hD hS hl.1 (m_X5_isKeyOrNone l G (wC G q σ κ) (idn : Int) (by omega)) zY_X5_isKeyOrNone km_X5_94 rfl rfl ⟨⟨Nat.le_of_ble_eq_true rfl, Nat.le_of_ble_eq_true rfl⟩, Nat.le_of_ble_eq_true rfl, Nat.le_of_ble_eq_true rfl⟩ (Nat.le_of_ble_eq_true rfl) dX5_fetch_23) (fun H locs hP hD hS => ?_)
  refine zb_eq (tgt := 51) hx hb dX5_fetch_26 (by decide) (fun c26 => by exfalso; have := of_decide_eq_false c26; omega) (fun c26 => ?_)
  refine lv_iload_n hx hb dX5_fetch_29 rfl (lv_at hl 3 rfl) ?_
  refine zdet_I ⟨rfl, rfl⟩ Z hD hS (zrunS (rest := []) Z hP hD hS hl.1 (m_X5_isKeyOrNone l G (wC G q σ κ) (lk : Int) (by omega)) zY_X5_isKeyOrNone km_X5_94 rfl rfl ⟨⟨Nat.le_of_ble_eq_true rfl, Nat.le_of_ble_eq_true rfl⟩, Nat.le_of_ble_eq_true rfl, Nat.le_of_ble_eq_true rfl⟩ (Nat.le_of_ble_eq_true rfl) dX5_fetch_30) (fun H locs hP hD hS => ?_)
  refine zb_eq (tgt := 51) hx hb dX5_fetch_33 (by decide) (fun c33 => by exfalso; have := of_decide_eq_false c33; omega) (fun c33 => ?_)
  refine lv_iload hx hb dX5_fetch_36 (lv_at hl 5 rfl) ?_
  refine zdet_I ⟨rfl, rfl⟩ Z hD hS (zrunS (rest := []) Z hP hD hS hl.1 (m_X5_isMinuteOrNone l G (wC G q σ κ) (td : Int) (by omega)) zY_X5_isMinuteOrNone km_X5_98 rfl rfl ⟨⟨Nat.le_of_ble_eq_true rfl, Nat.le_of_ble_eq_true rfl⟩, Nat.le_of_ble_eq_true rfl, Nat.le_of_ble_eq_true rfl⟩ (Nat.le_of_ble_eq_true rfl) dX5_fetch_38) (fun H locs hP hD hS => ?_)
  refine zb_eq (tgt := 51) hx hb dX5_fetch_41 (by decide) (fun c41 => by exfalso; have := of_decide_eq_false c41; omega) (fun c41 => ?_)
  refine lv_lload hx hb dX5_fetch_44 (lv_at hl 4 rfl) ?_
  refine lv_lconst (v := 0) hx hb dX5_fetch_46 (by decide) ?_
  refine zl_ne (tgt := 61) hx hb dX5_fetch_47 dX5_fetch_48 (by decide) (fun c47 => ?_) (fun c47 => absurd c47 h5)
  refine lv_aload_n hx hb dX5_fetch_61 rfl (lv_at hl 0 rfl) ?_
  refine lv_iload_n hx hb dX5_fetch_62 rfl (lv_at hl 1 rfl) ?_
  refine lv_iload_n hx hb dX5_fetch_63 rfl (lv_at hl 2 rfl) ?_
  refine lv_iload_n hx hb dX5_fetch_64 rfl (lv_at hl 3 rfl) ?_
  refine lv_lload hx hb dX5_fetch_65 (lv_at hl 4 rfl) ?_
  refine zdet_I ⟨rfl, rfl⟩ Z hD hS (zrunV (rest := []) Z hP hD hS hl.1 (m_X5_findFetched l G q σ κ (sr) rfl (idn : Int) (lk : Int) (t) hI (by omega) (by omega) (by omega)) zY_X5_findFetched km_X5_103 (q0 := 0) rfl rfl rfl rfl ⟨⟨Nat.le_of_ble_eq_true rfl, Nat.le_of_ble_eq_true rfl⟩, Nat.le_of_ble_eq_true rfl, Nat.le_of_ble_eq_true rfl⟩ (Nat.le_of_ble_eq_true rfl) dX5_fetch_67) (fun H locs hP hD hS => ?_)
  have ho7 := fnd_in hI sr idn lk t
  refine lv_istore (lv' := [(7, .int (zI (fnd σ ((sr : Nat) : Int) (idn : Int) (lk : Int) (t) : Int))), (0, .ref (q 0)), (1, .int (zI ((sr : Nat) : Int))), (2, .int (zI (idn : Int))), (3, .int (zI (lk : Int))), (4, .long (t)), (6, .int (zI (td : Int)))]) hx hb dX5_fetch_70 hl (by decide) rfl (fun ls hl => ?_)
  refine lv_iload hx hb dX5_fetch_72 (lv_at hl 0 rfl) ?_
  refine zr_iconst hx hb dX5_fetch_74 ?_
  refine zc_ne (tgt := 115) hx hb (fnd σ ((sr : Nat) : Int) (idn : Int) (lk : Int) (t) : Int) (-1 : Int) (zI_toInt (by omega)) (zI_toInt (by decide)) dX5_fetch_75 (by decide) (fun c75 => absurd h6 c75) (fun c75 => ?_)
  refine lv_aload_n hx hb dX5_fetch_78 rfl (lv_at hl 1 rfl) ?_
  refine gC_0_4 Z hP kf_X5_25 dX5_fetch_79 ?_
  refine lv_lload hx hb dX5_fetch_82 (lv_at hl 5 rfl) ?_
  refine lv_aload_n hx hb dX5_fetch_84 rfl (lv_at hl 1 rfl) ?_
  refine gC_0_0 Z hP kf_X5_9 dX5_fetch_85 ?_
  refine lv_aload_n hx hb dX5_fetch_88 rfl (lv_at hl 1 rfl) ?_
  refine lv_iload hx hb dX5_fetch_89 (lv_at hl 6 rfl) ?_
  refine zdet_I ⟨rfl, rfl⟩ Z hD hS (zrunV (rest := [.int (zI ((σ.1 0 : Nat) : Int)), .long (t), .ref (q 1)]) Z hP hD hS hl.1 (m_X5_timeFrom l G q σ κ (td : Int) hI (by omega) (by omega)) zY_X5_timeFrom km_X5_107 (q0 := 0) rfl rfl rfl rfl ⟨⟨Nat.le_of_ble_eq_true rfl, Nat.le_of_ble_eq_true rfl⟩, Nat.le_of_ble_eq_true rfl, Nat.le_of_ble_eq_true rfl⟩ (Nat.le_of_ble_eq_true rfl) dX5_fetch_91) (fun H locs hP hD hS => ?_)
  refine zdet_I ⟨rfl, rfl⟩ Z hD hS (zrunV (rest := []) Z hP hD hS hl.1 (m_X1_append_full l G q σ κ (t) ((σ.1 0 : Nat) : Int) ((tmF σ (td : Int) : Nat) : Int) h7) zY_X1_append km_X5_111 (q0 := 1) rfl rfl rfl rfl ⟨⟨Nat.le_of_ble_eq_true rfl, Nat.le_of_ble_eq_true rfl⟩, Nat.le_of_ble_eq_true rfl, Nat.le_of_ble_eq_true rfl⟩ (Nat.le_of_ble_eq_true rfl) dX5_fetch_94) (fun H locs hP hD hS => ?_)
  refine lv_istore (lv' := [(7, .int (zI (-1 : Int))), (0, .ref (q 0)), (1, .int (zI ((sr : Nat) : Int))), (2, .int (zI (idn : Int))), (3, .int (zI (lk : Int))), (4, .long (t)), (6, .int (zI (td : Int)))]) hx hb dX5_fetch_97 hl (by decide) rfl (fun ls hl => ?_)
  refine lv_iload hx hb dX5_fetch_99 (lv_at hl 0 rfl) ?_
  refine zr_iconst hx hb dX5_fetch_101 ?_
  refine zc_ne (tgt := 130) hx hb (-1 : Int) (-1 : Int) (zI_toInt (by decide)) (zI_toInt (by decide)) dX5_fetch_102 (by decide) (fun c102 => by exfalso; omega) (fun c102 => ?_)
  exact th_ISE (()) "there are 30 items" hst Z ht hP hD hS hl.1 rfl (by decide +kernel) ⟨Nat.le_of_ble_eq_true rfl, Nat.le_of_ble_eq_true rfl, Nat.le_of_ble_eq_true rfl, Nat.le_of_ble_eq_true rfl⟩ hQ dX5_fetch_105 dX5_fetch_108 dX5_fetch_109 dX5_fetch_111 dX5_fetch_114
abbrev r_X5_items : Room := { frames := 1, cells := 0, slots := 0, locals := 20 }
set_option maxHeartbeats 4000000 in
set_option maxRecDepth 100000 in
theorem m_X5_items (l : Launch) (G : ZG) (q : Nat → Nat) (σ : St) (κ : KC)  :
    MC l G yX5_items (wY yX5_items cX5_items 1 (some .int)) r_X5_items (wC G q σ κ) [.ref (q 0)] (QI G (fun r9 (_ : Unit) => r9 = (zI ((σ.1 4 : Nat) : Int))) (fun _ => wC G q σ κ)) := by
  refine MC.mk (by decide +kernel) (Nat.le_of_ble_eq_true rfl) ?_
  intro p e s m av below meth c A H locs ls Q Z hr hnm hQ hP hD hS hl
  have hx := Z.1
  have hb := Z.2.1
  have hown := Z.2.2.2.1
  have hW := Z.2.2.2.2.1
  have hl : lv_has ls 1 [(0, .ref (q 0))] := hl
  refine lv_aload_n hx hb dX5_items_0 rfl (lv_at hl 0 rfl) ?_
  refine gC_0_4 Z hP kf_X5_25 dX5_items_1 ?_
  refine zdet_I ⟨rfl, rfl⟩ Z hD hS (zrunV (rest := []) Z hP hD hS hl.1 (m_X1_size l G q σ κ) zY_X1_size km_X5_132 (q0 := 1) rfl rfl rfl rfl ⟨⟨Nat.le_of_ble_eq_true rfl, Nat.le_of_ble_eq_true rfl⟩, Nat.le_of_ble_eq_true rfl, Nat.le_of_ble_eq_true rfl⟩ (Nat.le_of_ble_eq_true rfl) dX5_items_4) (fun H locs hP hD hS => ?_)
  exact zret_I () Z hr hP hD hS rfl rfl ⟨Nat.le_refl _, Nat.le_refl _⟩ hQ dX5_items_7
abbrev r_X5_withIdentifier : Room := { frames := 1, cells := 0, slots := 0, locals := 22 }
set_option maxHeartbeats 4000000 in
set_option maxRecDepth 100000 in
theorem m_X5_withIdentifier (l : Launch) (G : ZG) (q : Nat → Nat) (σ : St) (κ : KC) (a : Int) (b : Int) (hI : okC σ) (h1 : zR a) (h2 : zR b) (h3 : own σ a b ≠ -1) :
    MC l G yX5_withIdentifier (wY yX5_withIdentifier cX5_withIdentifier 4 (some .int)) r_X5_withIdentifier (wC G q σ κ) [.ref (q 0), .int (zI (a : Int)), .int (zI (b : Int))] (QI G (fun r9 (_ : Unit) => r9 = (zI (own σ a b : Int))) (fun _ => wC G q σ κ)) := by
  refine MC.mk (by decide +kernel) (Nat.le_of_ble_eq_true rfl) ?_
  intro p e s m av below meth c A H locs ls Q Z hr hnm hQ hP hD hS hl
  have hx := Z.1
  have hb := Z.2.1
  have hown := Z.2.2.2.1
  have hW := Z.2.2.2.2.1
  have hl : lv_has ls 4 [(0, .ref (q 0)), (1, .int (zI (a : Int))), (2, .int (zI (b : Int)))] := hl
  obtain ⟨hn, hru, hrv, hdv, hsr, hmn, ht1, ht2, hwn, hv1, hv2, hmj, htm, hse, htg, hrt, hac, hk1, hk2, hkd, hmm, hmv, hord, hpo, hlo⟩ := id hI
  refine lv_aload_n hx hb dX5_withIdentifier_0 rfl (lv_at hl 0 rfl) ?_
  refine gC_0_4 Z hP kf_X5_25 dX5_withIdentifier_1 ?_
  refine lv_iload_n hx hb dX5_withIdentifier_4 rfl (lv_at hl 1 rfl) ?_
  refine lv_iload_n hx hb dX5_withIdentifier_5 rfl (lv_at hl 2 rfl) ?_
  refine zdet_I ⟨rfl, rfl⟩ Z hD hS (zrunV (rest := []) Z hP hD hS hl.1 (m_X1_ownerOfPair l G q σ κ (a : Int) (b : Int) (by omega) (by omega)) zY_X1_ownerOfPair km_X5_136 (q0 := 1) rfl rfl rfl rfl ⟨⟨Nat.le_of_ble_eq_true rfl, Nat.le_of_ble_eq_true rfl⟩, Nat.le_of_ble_eq_true rfl, Nat.le_of_ble_eq_true rfl⟩ (Nat.le_of_ble_eq_true rfl) dX5_withIdentifier_6) (fun H locs hP hD hS => ?_)
  have ho9 := own_in hI a b
  refine lv_istore_n (lv' := [(3, .int (zI (own σ (a : Int) (b : Int) : Int))), (0, .ref (q 0)), (1, .int (zI (a : Int))), (2, .int (zI (b : Int)))]) hx hb dX5_withIdentifier_9 rfl hl (by decide) rfl (fun ls hl => ?_)
  refine lv_iload_n hx hb dX5_withIdentifier_10 rfl (lv_at hl 0 rfl) ?_
  refine zr_iconst hx hb dX5_withIdentifier_11 ?_
  refine zc_ne (tgt := 25) hx hb (own σ (a : Int) (b : Int) : Int) (-1 : Int) (zI_toInt (by omega)) (zI_toInt (by decide)) dX5_withIdentifier_12 (by decide) (fun c12 => ?_) (fun c12 => absurd c12 h3)
  refine lv_iload_n hx hb dX5_withIdentifier_25 rfl (lv_at hl 0 rfl) ?_
  exact zret_I () Z hr hP hD hS rfl rfl ⟨Nat.le_refl _, Nat.le_refl _⟩ hQ dX5_withIdentifier_26
abbrev r_X5_withIdentifier_x : Room := { frames := 6, cells := 1, slots := 6, locals := 100 }
set_option maxHeartbeats 4000000 in
set_option maxRecDepth 100000 in
theorem m_X5_withIdentifier_x (l : Launch) (G : ZG) (hst : l.stackTraces = false) (q : Nat → Nat) (σ : St) (κ : KC) (a : Int) (b : Int) (hI : okC σ) (h1 : zR a) (h2 : zR b) (h3 : own σ a b = -1) :
    MX l G yX5_withIdentifier (wY yX5_withIdentifier cX5_withIdentifier 4 (some .int)) r_X5_withIdentifier_x (wC G q σ κ) [.ref (q 0), .int (zI (a : Int)), .int (zI (b : Int))] (S := Unit) "java/util/NoSuchElementException" (fun _ => wC G q σ κ) := by
  refine MX.mk (by decide +kernel) (Nat.le_of_ble_eq_true rfl) ?_
  intro p e s m av below meth c A H locs ls Q Z ht hQ hP hD hS hl
  have hx := Z.1
  have hb := Z.2.1
  have hown := Z.2.2.2.1
  have hW := Z.2.2.2.2.1
  have hl : lv_has ls 4 [(0, .ref (q 0)), (1, .int (zI (a : Int))), (2, .int (zI (b : Int)))] := hl
  obtain ⟨hn, hru, hrv, hdv, hsr, hmn, ht1, ht2, hwn, hv1, hv2, hmj, htm, hse, htg, hrt, hac, hk1, hk2, hkd, hmm, hmv, hord, hpo, hlo⟩ := id hI
  refine lv_aload_n hx hb dX5_withIdentifier_0 rfl (lv_at hl 0 rfl) ?_
  refine gC_0_4 Z hP kf_X5_25 dX5_withIdentifier_1 ?_
  refine lv_iload_n hx hb dX5_withIdentifier_4 rfl (lv_at hl 1 rfl) ?_
  refine lv_iload_n hx hb dX5_withIdentifier_5 rfl (lv_at hl 2 rfl) ?_
  refine zdet_I ⟨rfl, rfl⟩ Z hD hS (zrunV (rest := []) Z hP hD hS hl.1 (m_X1_ownerOfPair l G q σ κ (a : Int) (b : Int) (by omega) (by omega)) zY_X1_ownerOfPair km_X5_136 (q0 := 1) rfl rfl rfl rfl ⟨⟨Nat.le_of_ble_eq_true rfl, Nat.le_of_ble_eq_true rfl⟩, Nat.le_of_ble_eq_true rfl, Nat.le_of_ble_eq_true rfl⟩ (Nat.le_of_ble_eq_true rfl) dX5_withIdentifier_6) (fun H locs hP hD hS => ?_)
  have ho9 := own_in hI a b
  refine lv_istore_n (lv' := [(3, .int (zI (own σ (a : Int) (b : Int) : Int))), (0, .ref (q 0)), (1, .int (zI (a : Int))), (2, .int (zI (b : Int)))]) hx hb dX5_withIdentifier_9 rfl hl (by decide) rfl (fun ls hl => ?_)
  refine lv_iload_n hx hb dX5_withIdentifier_10 rfl (lv_at hl 0 rfl) ?_
  refine zr_iconst hx hb dX5_withIdentifier_11 ?_
  refine zc_ne (tgt := 25) hx hb (own σ (a : Int) (b : Int) : Int) (-1 : Int) (zI_toInt (by omega)) (zI_toInt (by decide)) dX5_withIdentifier_12 (by decide) (fun c12 => absurd h3 c12) (fun c12 => ?_)
  exact th_NSE (()) "no item has this pair" hst Z ht hP hD hS hl.1 rfl (by decide +kernel) ⟨Nat.le_of_ble_eq_true rfl, Nat.le_of_ble_eq_true rfl, Nat.le_of_ble_eq_true rfl, Nat.le_of_ble_eq_true rfl⟩ hQ dX5_withIdentifier_15 dX5_withIdentifier_18 dX5_withIdentifier_19 dX5_withIdentifier_21 dX5_withIdentifier_24
abbrev r_X5_withLink : Room := { frames := 1, cells := 0, slots := 0, locals := 21 }
set_option maxHeartbeats 4000000 in
set_option maxRecDepth 100000 in
theorem m_X5_withLink (l : Launch) (G : ZG) (q : Nat → Nat) (σ : St) (κ : KC) (a : Int) (hI : okC σ) (h1 : zR a) (h3 : ownL σ a ≠ -1) :
    MC l G yX5_withLink (wY yX5_withLink cX5_withLink 3 (some .int)) r_X5_withLink (wC G q σ κ) [.ref (q 0), .int (zI (a : Int))] (QI G (fun r9 (_ : Unit) => r9 = (zI (ownL σ a : Int))) (fun _ => wC G q σ κ)) := by
  refine MC.mk (by decide +kernel) (Nat.le_of_ble_eq_true rfl) ?_
  intro p e s m av below meth c A H locs ls Q Z hr hnm hQ hP hD hS hl
  have hx := Z.1
  have hb := Z.2.1
  have hown := Z.2.2.2.1
  have hW := Z.2.2.2.2.1
  have hl : lv_has ls 3 [(0, .ref (q 0)), (1, .int (zI (a : Int)))] := hl
  obtain ⟨hn, hru, hrv, hdv, hsr, hmn, ht1, ht2, hwn, hv1, hv2, hmj, htm, hse, htg, hrt, hac, hk1, hk2, hkd, hmm, hmv, hord, hpo, hlo⟩ := id hI
  refine lv_aload_n hx hb dX5_withLink_0 rfl (lv_at hl 0 rfl) ?_
  refine gC_0_4 Z hP kf_X5_25 dX5_withLink_1 ?_
  refine lv_iload_n hx hb dX5_withLink_4 rfl (lv_at hl 1 rfl) ?_
  refine zdet_I ⟨rfl, rfl⟩ Z hD hS (zrunV (rest := []) Z hP hD hS hl.1 (m_X1_ownerOfLink l G q σ κ (a : Int) (by omega)) zY_X1_ownerOfLink km_X5_145 (q0 := 1) rfl rfl rfl rfl ⟨⟨Nat.le_of_ble_eq_true rfl, Nat.le_of_ble_eq_true rfl⟩, Nat.le_of_ble_eq_true rfl, Nat.le_of_ble_eq_true rfl⟩ (Nat.le_of_ble_eq_true rfl) dX5_withLink_5) (fun H locs hP hD hS => ?_)
  have ho9 := ownL_in hI a
  refine lv_istore_n (lv' := [(2, .int (zI (ownL σ (a : Int) : Int))), (0, .ref (q 0)), (1, .int (zI (a : Int)))]) hx hb dX5_withLink_8 rfl hl (by decide) rfl (fun ls hl => ?_)
  refine lv_iload_n hx hb dX5_withLink_9 rfl (lv_at hl 0 rfl) ?_
  refine zr_iconst hx hb dX5_withLink_10 ?_
  refine zc_ne (tgt := 24) hx hb (ownL σ (a : Int) : Int) (-1 : Int) (zI_toInt (by omega)) (zI_toInt (by decide)) dX5_withLink_11 (by decide) (fun c11 => ?_) (fun c11 => absurd c11 h3)
  refine lv_iload_n hx hb dX5_withLink_24 rfl (lv_at hl 0 rfl) ?_
  exact zret_I () Z hr hP hD hS rfl rfl ⟨Nat.le_refl _, Nat.le_refl _⟩ hQ dX5_withLink_25
abbrev r_X5_withLink_x : Room := { frames := 6, cells := 1, slots := 6, locals := 100 }
set_option maxHeartbeats 4000000 in
set_option maxRecDepth 100000 in
theorem m_X5_withLink_x (l : Launch) (G : ZG) (hst : l.stackTraces = false) (q : Nat → Nat) (σ : St) (κ : KC) (a : Int) (hI : okC σ) (h1 : zR a) (h3 : ownL σ a = -1) :
    MX l G yX5_withLink (wY yX5_withLink cX5_withLink 3 (some .int)) r_X5_withLink_x (wC G q σ κ) [.ref (q 0), .int (zI (a : Int))] (S := Unit) "java/util/NoSuchElementException" (fun _ => wC G q σ κ) := by
  refine MX.mk (by decide +kernel) (Nat.le_of_ble_eq_true rfl) ?_
  intro p e s m av below meth c A H locs ls Q Z ht hQ hP hD hS hl
  have hx := Z.1
  have hb := Z.2.1
  have hown := Z.2.2.2.1
  have hW := Z.2.2.2.2.1
  have hl : lv_has ls 3 [(0, .ref (q 0)), (1, .int (zI (a : Int)))] := hl
  obtain ⟨hn, hru, hrv, hdv, hsr, hmn, ht1, ht2, hwn, hv1, hv2, hmj, htm, hse, htg, hrt, hac, hk1, hk2, hkd, hmm, hmv, hord, hpo, hlo⟩ := id hI
  refine lv_aload_n hx hb dX5_withLink_0 rfl (lv_at hl 0 rfl) ?_
  refine gC_0_4 Z hP kf_X5_25 dX5_withLink_1 ?_
  refine lv_iload_n hx hb dX5_withLink_4 rfl (lv_at hl 1 rfl) ?_
  refine zdet_I ⟨rfl, rfl⟩ Z hD hS (zrunV (rest := []) Z hP hD hS hl.1 (m_X1_ownerOfLink l G q σ κ (a : Int) (by omega)) zY_X1_ownerOfLink km_X5_145 (q0 := 1) rfl rfl rfl rfl ⟨⟨Nat.le_of_ble_eq_true rfl, Nat.le_of_ble_eq_true rfl⟩, Nat.le_of_ble_eq_true rfl, Nat.le_of_ble_eq_true rfl⟩ (Nat.le_of_ble_eq_true rfl) dX5_withLink_5) (fun H locs hP hD hS => ?_)
  have ho9 := ownL_in hI a
  refine lv_istore_n (lv' := [(2, .int (zI (ownL σ (a : Int) : Int))), (0, .ref (q 0)), (1, .int (zI (a : Int)))]) hx hb dX5_withLink_8 rfl hl (by decide) rfl (fun ls hl => ?_)
  refine lv_iload_n hx hb dX5_withLink_9 rfl (lv_at hl 0 rfl) ?_
  refine zr_iconst hx hb dX5_withLink_10 ?_
  refine zc_ne (tgt := 24) hx hb (ownL σ (a : Int) : Int) (-1 : Int) (zI_toInt (by omega)) (zI_toInt (by decide)) dX5_withLink_11 (by decide) (fun c11 => absurd h3 c11) (fun c11 => ?_)
  exact th_NSE (()) "no item has this link" hst Z ht hP hD hS hl.1 rfl (by decide +kernel) ⟨Nat.le_of_ble_eq_true rfl, Nat.le_of_ble_eq_true rfl, Nat.le_of_ble_eq_true rfl, Nat.le_of_ble_eq_true rfl⟩ hQ dX5_withLink_14 dX5_withLink_17 dX5_withLink_18 dX5_withLink_20 dX5_withLink_23
abbrev r_X5_title : Room := { frames := 3, cells := 0, slots := 0, locals := 65 }
set_option maxHeartbeats 4000000 in
set_option maxRecDepth 100000 in
theorem m_X5_title (l : Launch) (G : ZG) (q : Nat → Nat) (σ : St) (κ : KC) {e_i : Int} (i : Nat) (he_i : e_i = (i : Int)) {e_b : Int} (b : Nat) (he_b : e_b = (b : Int)) (hI : okC σ) (h1 : i < σ.1 4) (h2 : b < σ.2.1 2 i) (h3 : σ.2.1 2 i ≤ b + 4) :
    MC l G yX5_title (wY yX5_title cX5_title 3 (some .long)) r_X5_title (wC G q σ κ) [.ref (q 0), .int (zI e_i), .int (zI e_b)] (QL G (fun r9 (_ : Unit) => r9 = ((σ.2.2.2 0) (4 * i + b % 4))) (fun _ => wC G q σ κ)) := by
  subst he_i
  subst he_b
  refine MC.mk (by decide +kernel) (Nat.le_of_ble_eq_true rfl) ?_
  intro p e s m av below meth c A H locs ls Q Z hr hnm hQ hP hD hS hl
  have hx := Z.1
  have hb := Z.2.1
  have hown := Z.2.2.2.1
  have hW := Z.2.2.2.2.1
  have hl : lv_has ls 3 [(0, .ref (q 0)), (1, .int (zI ((i : Nat) : Int))), (2, .int (zI ((b : Nat) : Int)))] := hl
  obtain ⟨hn, hru, hrv, hdv, hsr, hmn, ht1, ht2, hwn, hv1, hv2, hmj, htm, hse, htg, hrt, hac, hk1, hk2, hkd, hmm, hmv, hord, hpo, hlo⟩ := id hI
  have hv9 := hv2 i
  refine lv_aload_n hx hb dX5_title_0 rfl (lv_at hl 0 rfl) ?_
  refine lv_iload_n hx hb dX5_title_1 rfl (lv_at hl 1 rfl) ?_
  refine zdet_V ⟨rfl, rfl⟩ Z hD hS (zrunV (rest := []) Z hP hD hS hl.1 (m_X5_requireItem l G q σ κ (i) rfl (by omega) (by omega)) zY_X5_requireItem km_X5_150 (q0 := 0) rfl rfl rfl rfl ⟨⟨Nat.le_of_ble_eq_true rfl, Nat.le_of_ble_eq_true rfl⟩, Nat.le_of_ble_eq_true rfl, Nat.le_of_ble_eq_true rfl⟩ (Nat.le_of_ble_eq_true rfl) dX5_title_2) (fun H locs hP hD hS => ?_)
  refine lv_aload_n hx hb dX5_title_5 rfl (lv_at hl 0 rfl) ?_
  refine gC_0_4 Z hP kf_X5_25 dX5_title_6 ?_
  refine lv_iload_n hx hb dX5_title_9 rfl (lv_at hl 1 rfl) ?_
  refine lv_iload_n hx hb dX5_title_10 rfl (lv_at hl 2 rfl) ?_
  refine zdet_I ⟨rfl, rfl⟩ Z hD hS (zrunV (rest := []) Z hP hD hS hl.1 (m_X1_keepsTitle l G q σ κ (i) rfl ((b : Nat) : Int) (by omega) (hv2 _) (by omega)) zY_X1_keepsTitle km_X5_154 (q0 := 1) rfl rfl rfl rfl ⟨⟨Nat.le_of_ble_eq_true rfl, Nat.le_of_ble_eq_true rfl⟩, Nat.le_of_ble_eq_true rfl, Nat.le_of_ble_eq_true rfl⟩ (Nat.le_of_ble_eq_true rfl) dX5_title_11) (fun H locs hP hD hS => ?_)
  refine zb_ne (tgt := 27) hx hb dX5_title_14 (by decide) (fun c14 => ?_) (fun c14 => by exfalso; have := of_decide_eq_false c14; omega)
  refine lv_aload_n hx hb dX5_title_27 rfl (lv_at hl 0 rfl) ?_
  refine gC_0_4 Z hP kf_X5_25 dX5_title_28 ?_
  refine lv_iload_n hx hb dX5_title_31 rfl (lv_at hl 1 rfl) ?_
  refine lv_iload_n hx hb dX5_title_32 rfl (lv_at hl 2 rfl) ?_
  refine zdet_L ⟨rfl, rfl⟩ Z hD hS (zrunV (rest := []) Z hP hD hS hl.1 (m_X1_titleAt l G q σ κ (i) rfl (b) rfl (by omega) (by omega)) zY_X1_titleAt km_X5_160 (q0 := 1) rfl rfl rfl rfl ⟨⟨Nat.le_of_ble_eq_true rfl, Nat.le_of_ble_eq_true rfl⟩, Nat.le_of_ble_eq_true rfl, Nat.le_of_ble_eq_true rfl⟩ (Nat.le_of_ble_eq_true rfl) dX5_title_33) (fun H locs hP hD hS => ?_)
  exact zret_L () Z hr hP hD hS rfl rfl ⟨Nat.le_refl _, Nat.le_refl _⟩ hQ dX5_title_36
abbrev r_X5_title_x1 : Room := { frames := 7, cells := 1, slots := 6, locals := 121 }
set_option maxHeartbeats 4000000 in
set_option maxRecDepth 100000 in
theorem m_X5_title_x1 (l : Launch) (G : ZG) (hst : l.stackTraces = false) (q : Nat → Nat) (σ : St) (κ : KC) (i : Int) (b : Int) (hI : okC σ) (h1 : zR i) (h2 : i < 0 ∨ ((σ.1 4 : Nat) : Int) ≤ i) :
    MX l G yX5_title (wY yX5_title cX5_title 3 (some .long)) r_X5_title_x1 (wC G q σ κ) [.ref (q 0), .int (zI (i : Int)), .int (zI (b : Int))] (S := Unit) "java/lang/IndexOutOfBoundsException" (fun _ => wC G q σ κ) := by
  refine MX.mk (by decide +kernel) (Nat.le_of_ble_eq_true rfl) ?_
  intro p e s m av below meth c A H locs ls Q Z ht hQ hP hD hS hl
  have hx := Z.1
  have hb := Z.2.1
  have hown := Z.2.2.2.1
  have hW := Z.2.2.2.2.1
  have hl : lv_has ls 3 [(0, .ref (q 0)), (1, .int (zI (i : Int))), (2, .int (zI (b : Int)))] := hl
  obtain ⟨hn, hru, hrv, hdv, hsr, hmn, ht1, ht2, hwn, hv1, hv2, hmj, htm, hse, htg, hrt, hac, hk1, hk2, hkd, hmm, hmv, hord, hpo, hlo⟩ := id hI
  refine lv_aload_n hx hb dX5_title_0 rfl (lv_at hl 0 rfl) ?_
  refine lv_iload_n hx hb dX5_title_1 rfl (lv_at hl 1 rfl) ?_
  exact zxout (fun u => ()) (fun _ => rfl) Z ht hD hS (zrunXV (rest := []) Z hP hD hS hl.1 (m_X5_requireItem_x l G hst q σ κ (i : Int) (by omega) (by omega) (by omega)) zY_X5_requireItem km_X5_150 (q0 := 0) rfl rfl rfl rfl ⟨⟨Nat.le_of_ble_eq_true rfl, Nat.le_of_ble_eq_true rfl⟩, Nat.le_of_ble_eq_true rfl, Nat.le_of_ble_eq_true rfl⟩ (Nat.le_of_ble_eq_true rfl) dX5_title_2) ⟨Nat.le_refl _, Nat.le_refl _⟩ hQ
abbrev r_X5_title_x2 : Room := { frames := 6, cells := 1, slots := 6, locals := 100 }
set_option maxHeartbeats 4000000 in
set_option maxRecDepth 100000 in
theorem m_X5_title_x2 (l : Launch) (G : ZG) (hst : l.stackTraces = false) (q : Nat → Nat) (σ : St) (κ : KC) {e_i : Int} (i : Nat) (he_i : e_i = (i : Int)) (b : Int) (hI : okC σ) (h1 : i < σ.1 4) (h4 : zR b) (h2 : ¬ (0 ≤ b ∧ b < ((σ.2.1 2 i : Nat) : Int) ∧ ((σ.2.1 2 i : Nat) : Int) - 4 ≤ b)) :
    MX l G yX5_title (wY yX5_title cX5_title 3 (some .long)) r_X5_title_x2 (wC G q σ κ) [.ref (q 0), .int (zI e_i), .int (zI (b : Int))] (S := Unit) "java/util/NoSuchElementException" (fun _ => wC G q σ κ) := by
  subst he_i
  refine MX.mk (by decide +kernel) (Nat.le_of_ble_eq_true rfl) ?_
  intro p e s m av below meth c A H locs ls Q Z ht hQ hP hD hS hl
  have hx := Z.1
  have hb := Z.2.1
  have hown := Z.2.2.2.1
  have hW := Z.2.2.2.2.1
  have hl : lv_has ls 3 [(0, .ref (q 0)), (1, .int (zI ((i : Nat) : Int))), (2, .int (zI (b : Int)))] := hl
  obtain ⟨hn, hru, hrv, hdv, hsr, hmn, ht1, ht2, hwn, hv1, hv2, hmj, htm, hse, htg, hrt, hac, hk1, hk2, hkd, hmm, hmv, hord, hpo, hlo⟩ := id hI
  refine lv_aload_n hx hb dX5_title_0 rfl (lv_at hl 0 rfl) ?_
  refine lv_iload_n hx hb dX5_title_1 rfl (lv_at hl 1 rfl) ?_
  refine zdet_V ⟨rfl, rfl⟩ Z hD hS (zrunV (rest := []) Z hP hD hS hl.1 (m_X5_requireItem l G q σ κ (i) rfl (by omega) (by omega)) zY_X5_requireItem km_X5_150 (q0 := 0) rfl rfl rfl rfl ⟨⟨Nat.le_of_ble_eq_true rfl, Nat.le_of_ble_eq_true rfl⟩, Nat.le_of_ble_eq_true rfl, Nat.le_of_ble_eq_true rfl⟩ (Nat.le_of_ble_eq_true rfl) dX5_title_2) (fun H locs hP hD hS => ?_)
  refine lv_aload_n hx hb dX5_title_5 rfl (lv_at hl 0 rfl) ?_
  refine gC_0_4 Z hP kf_X5_25 dX5_title_6 ?_
  refine lv_iload_n hx hb dX5_title_9 rfl (lv_at hl 1 rfl) ?_
  refine lv_iload_n hx hb dX5_title_10 rfl (lv_at hl 2 rfl) ?_
  refine zdet_I ⟨rfl, rfl⟩ Z hD hS (zrunV (rest := []) Z hP hD hS hl.1 (m_X1_keepsTitle l G q σ κ (i) rfl (b : Int) (by omega) (hv2 _) (by omega)) zY_X1_keepsTitle km_X5_154 (q0 := 1) rfl rfl rfl rfl ⟨⟨Nat.le_of_ble_eq_true rfl, Nat.le_of_ble_eq_true rfl⟩, Nat.le_of_ble_eq_true rfl, Nat.le_of_ble_eq_true rfl⟩ (Nat.le_of_ble_eq_true rfl) dX5_title_11) (fun H locs hP hD hS => ?_)
  refine zb_ne (tgt := 27) hx hb dX5_title_14 (by decide) (fun c14 => by exfalso; have := of_decide_eq_true c14; omega) (fun c14 => ?_)
  exact th_NSE (()) "there is no such version, or its title is not kept" hst Z ht hP hD hS hl.1 rfl (by decide +kernel) ⟨Nat.le_of_ble_eq_true rfl, Nat.le_of_ble_eq_true rfl, Nat.le_of_ble_eq_true rfl, Nat.le_of_ble_eq_true rfl⟩ hQ dX5_title_17 dX5_title_20 dX5_title_21 dX5_title_23 dX5_title_26
abbrev r_X5_versions : Room := { frames := 2, cells := 0, slots := 0, locals := 41 }
set_option maxHeartbeats 4000000 in
set_option maxRecDepth 100000 in
theorem m_X5_versions (l : Launch) (G : ZG) (q : Nat → Nat) (σ : St) (κ : KC) {e_i : Int} (i : Nat) (he_i : e_i = (i : Int)) (hI : okC σ) (h1 : i < σ.1 4) :
    MC l G yX5_versions (wY yX5_versions cX5_versions 2 (some .int)) r_X5_versions (wC G q σ κ) [.ref (q 0), .int (zI e_i)] (QI G (fun r9 (_ : Unit) => r9 = (zI (((σ.2.1 2) i : Nat) : Int))) (fun _ => wC G q σ κ)) := by
  subst he_i
  refine MC.mk (by decide +kernel) (Nat.le_of_ble_eq_true rfl) ?_
  intro p e s m av below meth c A H locs ls Q Z hr hnm hQ hP hD hS hl
  have hx := Z.1
  have hb := Z.2.1
  have hown := Z.2.2.2.1
  have hW := Z.2.2.2.2.1
  have hl : lv_has ls 2 [(0, .ref (q 0)), (1, .int (zI ((i : Nat) : Int)))] := hl
  obtain ⟨hn, hru, hrv, hdv, hsr, hmn, ht1, ht2, hwn, hv1, hv2, hmj, htm, hse, htg, hrt, hac, hk1, hk2, hkd, hmm, hmv, hord, hpo, hlo⟩ := id hI
  refine lv_aload_n hx hb dX5_versions_0 rfl (lv_at hl 0 rfl) ?_
  refine lv_iload_n hx hb dX5_versions_1 rfl (lv_at hl 1 rfl) ?_
  refine zdet_V ⟨rfl, rfl⟩ Z hD hS (zrunV (rest := []) Z hP hD hS hl.1 (m_X5_requireItem l G q σ κ (i) rfl (by omega) (by omega)) zY_X5_requireItem km_X5_150 (q0 := 0) rfl rfl rfl rfl ⟨⟨Nat.le_of_ble_eq_true rfl, Nat.le_of_ble_eq_true rfl⟩, Nat.le_of_ble_eq_true rfl, Nat.le_of_ble_eq_true rfl⟩ (Nat.le_of_ble_eq_true rfl) dX5_versions_2) (fun H locs hP hD hS => ?_)
  refine lv_aload_n hx hb dX5_versions_5 rfl (lv_at hl 0 rfl) ?_
  refine gC_0_4 Z hP kf_X5_25 dX5_versions_6 ?_
  refine lv_iload_n hx hb dX5_versions_9 rfl (lv_at hl 1 rfl) ?_
  refine zdet_I ⟨rfl, rfl⟩ Z hD hS (zrunV (rest := []) Z hP hD hS hl.1 (m_X1_versionCount l G q σ κ (i) rfl (by omega)) zY_X1_versionCount km_X5_164 (q0 := 1) rfl rfl rfl rfl ⟨⟨Nat.le_of_ble_eq_true rfl, Nat.le_of_ble_eq_true rfl⟩, Nat.le_of_ble_eq_true rfl, Nat.le_of_ble_eq_true rfl⟩ (Nat.le_of_ble_eq_true rfl) dX5_versions_10) (fun H locs hP hD hS => ?_)
  exact zret_I () Z hr hP hD hS rfl rfl ⟨Nat.le_refl _, Nat.le_refl _⟩ hQ dX5_versions_13
abbrev r_X5_versions_x : Room := { frames := 7, cells := 1, slots := 6, locals := 121 }
set_option maxHeartbeats 4000000 in
set_option maxRecDepth 100000 in
theorem m_X5_versions_x (l : Launch) (G : ZG) (hst : l.stackTraces = false) (q : Nat → Nat) (σ : St) (κ : KC) (i : Int) (hI : okC σ) (h1 : zR i) (h2 : i < 0 ∨ ((σ.1 4 : Nat) : Int) ≤ i) :
    MX l G yX5_versions (wY yX5_versions cX5_versions 2 (some .int)) r_X5_versions_x (wC G q σ κ) [.ref (q 0), .int (zI (i : Int))] (S := Unit) "java/lang/IndexOutOfBoundsException" (fun _ => wC G q σ κ) := by
  refine MX.mk (by decide +kernel) (Nat.le_of_ble_eq_true rfl) ?_
  intro p e s m av below meth c A H locs ls Q Z ht hQ hP hD hS hl
  have hx := Z.1
  have hb := Z.2.1
  have hown := Z.2.2.2.1
  have hW := Z.2.2.2.2.1
  have hl : lv_has ls 2 [(0, .ref (q 0)), (1, .int (zI (i : Int)))] := hl
  obtain ⟨hn, hru, hrv, hdv, hsr, hmn, ht1, ht2, hwn, hv1, hv2, hmj, htm, hse, htg, hrt, hac, hk1, hk2, hkd, hmm, hmv, hord, hpo, hlo⟩ := id hI
  refine lv_aload_n hx hb dX5_versions_0 rfl (lv_at hl 0 rfl) ?_
  refine lv_iload_n hx hb dX5_versions_1 rfl (lv_at hl 1 rfl) ?_
  exact zxout (fun u => ()) (fun _ => rfl) Z ht hD hS (zrunXV (rest := []) Z hP hD hS hl.1 (m_X5_requireItem_x l G hst q σ κ (i : Int) (by omega) (by omega) (by omega)) zY_X5_requireItem km_X5_150 (q0 := 0) rfl rfl rfl rfl ⟨⟨Nat.le_of_ble_eq_true rfl, Nat.le_of_ble_eq_true rfl⟩, Nat.le_of_ble_eq_true rfl, Nat.le_of_ble_eq_true rfl⟩ (Nat.le_of_ble_eq_true rfl) dX5_versions_2) ⟨Nat.le_refl _, Nat.le_refl _⟩ hQ
abbrev r_X5_latestMajor : Room := { frames := 2, cells := 0, slots := 0, locals := 41 }
set_option maxHeartbeats 4000000 in
set_option maxRecDepth 100000 in
theorem m_X5_latestMajor (l : Launch) (G : ZG) (q : Nat → Nat) (σ : St) (κ : KC) {e_i : Int} (i : Nat) (he_i : e_i = (i : Int)) (hI : okC σ) (h1 : i < σ.1 4) :
    MC l G yX5_latestMajor (wY yX5_latestMajor cX5_latestMajor 2 (some .int)) r_X5_latestMajor (wC G q σ κ) [.ref (q 0), .int (zI e_i)] (QI G (fun r9 (_ : Unit) => r9 = (zI (((σ.2.1 3) i : Nat) : Int))) (fun _ => wC G q σ κ)) := by
  subst he_i
  refine MC.mk (by decide +kernel) (Nat.le_of_ble_eq_true rfl) ?_
  intro p e s m av below meth c A H locs ls Q Z hr hnm hQ hP hD hS hl
  have hx := Z.1
  have hb := Z.2.1
  have hown := Z.2.2.2.1
  have hW := Z.2.2.2.2.1
  have hl : lv_has ls 2 [(0, .ref (q 0)), (1, .int (zI ((i : Nat) : Int)))] := hl
  obtain ⟨hn, hru, hrv, hdv, hsr, hmn, ht1, ht2, hwn, hv1, hv2, hmj, htm, hse, htg, hrt, hac, hk1, hk2, hkd, hmm, hmv, hord, hpo, hlo⟩ := id hI
  refine lv_aload_n hx hb dX5_latestMajor_0 rfl (lv_at hl 0 rfl) ?_
  refine lv_iload_n hx hb dX5_latestMajor_1 rfl (lv_at hl 1 rfl) ?_
  refine zdet_V ⟨rfl, rfl⟩ Z hD hS (zrunV (rest := []) Z hP hD hS hl.1 (m_X5_requireItem l G q σ κ (i) rfl (by omega) (by omega)) zY_X5_requireItem km_X5_150 (q0 := 0) rfl rfl rfl rfl ⟨⟨Nat.le_of_ble_eq_true rfl, Nat.le_of_ble_eq_true rfl⟩, Nat.le_of_ble_eq_true rfl, Nat.le_of_ble_eq_true rfl⟩ (Nat.le_of_ble_eq_true rfl) dX5_latestMajor_2) (fun H locs hP hD hS => ?_)
  refine lv_aload_n hx hb dX5_latestMajor_5 rfl (lv_at hl 0 rfl) ?_
  refine gC_0_4 Z hP kf_X5_25 dX5_latestMajor_6 ?_
  refine lv_iload_n hx hb dX5_latestMajor_9 rfl (lv_at hl 1 rfl) ?_
  refine zdet_I ⟨rfl, rfl⟩ Z hD hS (zrunV (rest := []) Z hP hD hS hl.1 (m_X1_major l G q σ κ (i) rfl (by omega)) zY_X1_major km_X5_167 (q0 := 1) rfl rfl rfl rfl ⟨⟨Nat.le_of_ble_eq_true rfl, Nat.le_of_ble_eq_true rfl⟩, Nat.le_of_ble_eq_true rfl, Nat.le_of_ble_eq_true rfl⟩ (Nat.le_of_ble_eq_true rfl) dX5_latestMajor_10) (fun H locs hP hD hS => ?_)
  exact zret_I () Z hr hP hD hS rfl rfl ⟨Nat.le_refl _, Nat.le_refl _⟩ hQ dX5_latestMajor_13
abbrev r_X5_latestMajor_x : Room := { frames := 7, cells := 1, slots := 6, locals := 121 }
set_option maxHeartbeats 4000000 in
set_option maxRecDepth 100000 in
theorem m_X5_latestMajor_x (l : Launch) (G : ZG) (hst : l.stackTraces = false) (q : Nat → Nat) (σ : St) (κ : KC) (i : Int) (hI : okC σ) (h1 : zR i) (h2 : i < 0 ∨ ((σ.1 4 : Nat) : Int) ≤ i) :
    MX l G yX5_latestMajor (wY yX5_latestMajor cX5_latestMajor 2 (some .int)) r_X5_latestMajor_x (wC G q σ κ) [.ref (q 0), .int (zI (i : Int))] (S := Unit) "java/lang/IndexOutOfBoundsException" (fun _ => wC G q σ κ) := by
  refine MX.mk (by decide +kernel) (Nat.le_of_ble_eq_true rfl) ?_
  intro p e s m av below meth c A H locs ls Q Z ht hQ hP hD hS hl
  have hx := Z.1
  have hb := Z.2.1
  have hown := Z.2.2.2.1
  have hW := Z.2.2.2.2.1
  have hl : lv_has ls 2 [(0, .ref (q 0)), (1, .int (zI (i : Int)))] := hl
  obtain ⟨hn, hru, hrv, hdv, hsr, hmn, ht1, ht2, hwn, hv1, hv2, hmj, htm, hse, htg, hrt, hac, hk1, hk2, hkd, hmm, hmv, hord, hpo, hlo⟩ := id hI
  refine lv_aload_n hx hb dX5_latestMajor_0 rfl (lv_at hl 0 rfl) ?_
  refine lv_iload_n hx hb dX5_latestMajor_1 rfl (lv_at hl 1 rfl) ?_
  exact zxout (fun u => ()) (fun _ => rfl) Z ht hD hS (zrunXV (rest := []) Z hP hD hS hl.1 (m_X5_requireItem_x l G hst q σ κ (i : Int) (by omega) (by omega) (by omega)) zY_X5_requireItem km_X5_150 (q0 := 0) rfl rfl rfl rfl ⟨⟨Nat.le_of_ble_eq_true rfl, Nat.le_of_ble_eq_true rfl⟩, Nat.le_of_ble_eq_true rfl, Nat.le_of_ble_eq_true rfl⟩ (Nat.le_of_ble_eq_true rfl) dX5_latestMajor_2) ⟨Nat.le_refl _, Nat.le_refl _⟩ hQ
abbrev r_X5_timeOf : Room := { frames := 2, cells := 0, slots := 0, locals := 41 }
set_option maxHeartbeats 4000000 in
set_option maxRecDepth 100000 in
theorem m_X5_timeOf (l : Launch) (G : ZG) (q : Nat → Nat) (σ : St) (κ : KC) {e_i : Int} (i : Nat) (he_i : e_i = (i : Int)) (hI : okC σ) (h1 : i < σ.1 4) :
    MC l G yX5_timeOf (wY yX5_timeOf cX5_timeOf 2 (some .int)) r_X5_timeOf (wC G q σ κ) [.ref (q 0), .int (zI e_i)] (QI G (fun r9 (_ : Unit) => r9 = (zI (((σ.2.1 1) i : Nat) : Int))) (fun _ => wC G q σ κ)) := by
  subst he_i
  refine MC.mk (by decide +kernel) (Nat.le_of_ble_eq_true rfl) ?_
  intro p e s m av below meth c A H locs ls Q Z hr hnm hQ hP hD hS hl
  have hx := Z.1
  have hb := Z.2.1
  have hown := Z.2.2.2.1
  have hW := Z.2.2.2.2.1
  have hl : lv_has ls 2 [(0, .ref (q 0)), (1, .int (zI ((i : Nat) : Int)))] := hl
  obtain ⟨hn, hru, hrv, hdv, hsr, hmn, ht1, ht2, hwn, hv1, hv2, hmj, htm, hse, htg, hrt, hac, hk1, hk2, hkd, hmm, hmv, hord, hpo, hlo⟩ := id hI
  refine lv_aload_n hx hb dX5_timeOf_0 rfl (lv_at hl 0 rfl) ?_
  refine lv_iload_n hx hb dX5_timeOf_1 rfl (lv_at hl 1 rfl) ?_
  refine zdet_V ⟨rfl, rfl⟩ Z hD hS (zrunV (rest := []) Z hP hD hS hl.1 (m_X5_requireItem l G q σ κ (i) rfl (by omega) (by omega)) zY_X5_requireItem km_X5_150 (q0 := 0) rfl rfl rfl rfl ⟨⟨Nat.le_of_ble_eq_true rfl, Nat.le_of_ble_eq_true rfl⟩, Nat.le_of_ble_eq_true rfl, Nat.le_of_ble_eq_true rfl⟩ (Nat.le_of_ble_eq_true rfl) dX5_timeOf_2) (fun H locs hP hD hS => ?_)
  refine lv_aload_n hx hb dX5_timeOf_5 rfl (lv_at hl 0 rfl) ?_
  refine gC_0_4 Z hP kf_X5_25 dX5_timeOf_6 ?_
  refine lv_iload_n hx hb dX5_timeOf_9 rfl (lv_at hl 1 rfl) ?_
  refine zdet_I ⟨rfl, rfl⟩ Z hD hS (zrunV (rest := []) Z hP hD hS hl.1 (m_X1_time l G q σ κ (i) rfl (by omega)) zY_X1_time km_X5_173 (q0 := 1) rfl rfl rfl rfl ⟨⟨Nat.le_of_ble_eq_true rfl, Nat.le_of_ble_eq_true rfl⟩, Nat.le_of_ble_eq_true rfl, Nat.le_of_ble_eq_true rfl⟩ (Nat.le_of_ble_eq_true rfl) dX5_timeOf_10) (fun H locs hP hD hS => ?_)
  exact zret_I () Z hr hP hD hS rfl rfl ⟨Nat.le_refl _, Nat.le_refl _⟩ hQ dX5_timeOf_13
abbrev r_X5_timeOf_x : Room := { frames := 7, cells := 1, slots := 6, locals := 121 }
set_option maxHeartbeats 4000000 in
set_option maxRecDepth 100000 in
theorem m_X5_timeOf_x (l : Launch) (G : ZG) (hst : l.stackTraces = false) (q : Nat → Nat) (σ : St) (κ : KC) (i : Int) (hI : okC σ) (h1 : zR i) (h2 : i < 0 ∨ ((σ.1 4 : Nat) : Int) ≤ i) :
    MX l G yX5_timeOf (wY yX5_timeOf cX5_timeOf 2 (some .int)) r_X5_timeOf_x (wC G q σ κ) [.ref (q 0), .int (zI (i : Int))] (S := Unit) "java/lang/IndexOutOfBoundsException" (fun _ => wC G q σ κ) := by
  refine MX.mk (by decide +kernel) (Nat.le_of_ble_eq_true rfl) ?_
  intro p e s m av below meth c A H locs ls Q Z ht hQ hP hD hS hl
  have hx := Z.1
  have hb := Z.2.1
  have hown := Z.2.2.2.1
  have hW := Z.2.2.2.2.1
  have hl : lv_has ls 2 [(0, .ref (q 0)), (1, .int (zI (i : Int)))] := hl
  obtain ⟨hn, hru, hrv, hdv, hsr, hmn, ht1, ht2, hwn, hv1, hv2, hmj, htm, hse, htg, hrt, hac, hk1, hk2, hkd, hmm, hmv, hord, hpo, hlo⟩ := id hI
  refine lv_aload_n hx hb dX5_timeOf_0 rfl (lv_at hl 0 rfl) ?_
  refine lv_iload_n hx hb dX5_timeOf_1 rfl (lv_at hl 1 rfl) ?_
  exact zxout (fun u => ()) (fun _ => rfl) Z ht hD hS (zrunXV (rest := []) Z hP hD hS hl.1 (m_X5_requireItem_x l G hst q σ κ (i : Int) (by omega) (by omega) (by omega)) zY_X5_requireItem km_X5_150 (q0 := 0) rfl rfl rfl rfl ⟨⟨Nat.le_of_ble_eq_true rfl, Nat.le_of_ble_eq_true rfl⟩, Nat.le_of_ble_eq_true rfl, Nat.le_of_ble_eq_true rfl⟩ (Nat.le_of_ble_eq_true rfl) dX5_timeOf_2) ⟨Nat.le_refl _, Nat.le_refl _⟩ hQ
