abbrev r_X5_sourcesOf : Room := { frames := 2, cells := 0, slots := 0, locals := 41 }
set_option maxHeartbeats 4000000 in
set_option maxRecDepth 100000 in
theorem m_X5_sourcesOf (l : Launch) (G : ZG) (q : Nat → Nat) (σ : St) (κ : KC) {e_i : Int} (i : Nat) (he_i : e_i = (i : Int)) (hI : okC σ) (h1 : i < σ.1 4) :
    MC l G yX5_sourcesOf (wY yX5_sourcesOf cX5_sourcesOf 2 (some .int)) r_X5_sourcesOf (wC G q σ κ) [.ref (q 0), .int (zI e_i)] (QI G (fun r9 (_ : Unit) => r9 = ((σ.2.2.1 0) i)) (fun _ => wC G q σ κ)) := by
  subst he_i
  refine MC.mk (by decide +kernel) (Nat.le_of_ble_eq_true rfl) ?_
  intro p e s m av below meth c A H locs ls Q Z hr hnm hQ hP hD hS hl
  have hx := Z.1
  have hb := Z.2.1
  have hown := Z.2.2.2.1
  have hW := Z.2.2.2.2.1
  have hl : lv_has ls 2 [(0, .ref (q 0)), (1, .int (zI ((i : Nat) : Int)))] := hl
  obtain ⟨hn, hru, hrv, hdv, hsr, hmn, ht1, ht2, hwn, hv1, hv2, hmj, htm, hse, htg, hrt, hac, hk1, hk2, hkd, hmm, hmv, hord, hpo, hlo⟩ := id hI
  refine lv_aload_n hx hb dX5_sourcesOf_0 rfl (lv_at hl 0 rfl) ?_
  refine lv_iload_n hx hb dX5_sourcesOf_1 rfl (lv_at hl 1 rfl) ?_
  refine zdet_V ⟨rfl, rfl⟩ Z hD hS (zrunV (rest := []) Z hP hD hS hl.1 (m_X5_requireItem l G q σ κ (i) rfl (by omega) (by omega)) zY_X5_requireItem km_X5_150 (q0 := 0) rfl rfl rfl rfl ⟨⟨Nat.le_of_ble_eq_true rfl, Nat.le_of_ble_eq_true rfl⟩, Nat.le_of_ble_eq_true rfl, Nat.le_of_ble_eq_true rfl⟩ (Nat.le_of_ble_eq_true rfl) dX5_sourcesOf_2) (fun H locs hP hD hS => ?_)
  refine lv_aload_n hx hb dX5_sourcesOf_5 rfl (lv_at hl 0 rfl) ?_
  refine gC_0_4 Z hP kf_X5_25 dX5_sourcesOf_6 ?_
  refine lv_iload_n hx hb dX5_sourcesOf_9 rfl (lv_at hl 1 rfl) ?_
  refine zdet_I ⟨rfl, rfl⟩ Z hD hS (zrunV (rest := []) Z hP hD hS hl.1 (m_X1_tellers l G q σ κ (i) rfl (by omega)) zY_X1_tellers km_X5_170 (q0 := 1) rfl rfl rfl rfl ⟨⟨Nat.le_of_ble_eq_true rfl, Nat.le_of_ble_eq_true rfl⟩, Nat.le_of_ble_eq_true rfl, Nat.le_of_ble_eq_true rfl⟩ (Nat.le_of_ble_eq_true rfl) dX5_sourcesOf_10) (fun H locs hP hD hS => ?_)
  exact zret_I () Z hr hP hD hS rfl rfl ⟨Nat.le_refl _, Nat.le_refl _⟩ hQ dX5_sourcesOf_13
abbrev r_X5_sourcesOf_x : Room := { frames := 7, cells := 1, slots := 6, locals := 121 }
set_option maxHeartbeats 4000000 in
set_option maxRecDepth 100000 in
theorem m_X5_sourcesOf_x (l : Launch) (G : ZG) (hst : l.stackTraces = false) (q : Nat → Nat) (σ : St) (κ : KC) (i : Int) (hI : okC σ) (h1 : zR i) (h2 : i < 0 ∨ ((σ.1 4 : Nat) : Int) ≤ i) :
    MX l G yX5_sourcesOf (wY yX5_sourcesOf cX5_sourcesOf 2 (some .int)) r_X5_sourcesOf_x (wC G q σ κ) [.ref (q 0), .int (zI (i : Int))] (S := Unit) "java/lang/IndexOutOfBoundsException" (fun _ => wC G q σ κ) := by
  refine MX.mk (by decide +kernel) (Nat.le_of_ble_eq_true rfl) ?_
  intro p e s m av below meth c A H locs ls Q Z ht hQ hP hD hS hl
  have hx := Z.1
  have hb := Z.2.1
  have hown := Z.2.2.2.1
  have hW := Z.2.2.2.2.1
  have hl : lv_has ls 2 [(0, .ref (q 0)), (1, .int (zI (i : Int)))] := hl
  obtain ⟨hn, hru, hrv, hdv, hsr, hmn, ht1, ht2, hwn, hv1, hv2, hmj, htm, hse, htg, hrt, hac, hk1, hk2, hkd, hmm, hmv, hord, hpo, hlo⟩ := id hI
  refine lv_aload_n hx hb dX5_sourcesOf_0 rfl (lv_at hl 0 rfl) ?_
  refine lv_iload_n hx hb dX5_sourcesOf_1 rfl (lv_at hl 1 rfl) ?_
  exact zxout (fun u => ()) (fun _ => rfl) Z ht hD hS (zrunXV (rest := []) Z hP hD hS hl.1 (m_X5_requireItem_x l G hst q σ κ (i : Int) (by omega) (by omega) (by omega)) zY_X5_requireItem km_X5_150 (q0 := 0) rfl rfl rfl rfl ⟨⟨Nat.le_of_ble_eq_true rfl, Nat.le_of_ble_eq_true rfl⟩, Nat.le_of_ble_eq_true rfl, Nat.le_of_ble_eq_true rfl⟩ (Nat.le_of_ble_eq_true rfl) dX5_sourcesOf_2) ⟨Nat.le_refl _, Nat.le_refl _⟩ hQ
abbrev r_X5_addRule : Room := { frames := 1, cells := 0, slots := 0, locals := 27 }
set_option maxHeartbeats 4000000 in
set_option maxRecDepth 100000 in
theorem m_X5_addRule (l : Launch) (G : ZG) (q : Nat → Nat) (σ : St) (κ : KC) (al : Int64) (an : Int64) {e_sr : Int} (sr : Nat) (he_sr : e_sr = (sr : Int)) {e_tg : Int} (tg : Nat) (he_tg : e_tg = (tg : Int) - 1) {e_ac : Int} (ac : Nat) (he_ac : e_ac = (ac : Int)) (hI : okC σ) (h1 : sr ≤ 63) (h2 : tg ≤ 8) (h3 : ac ≤ 9) (h4 : σ.1 5 < 6) :
    MC l G yX5_addRule (wY yX5_addRule cX5_addRule 9 (some .int)) r_X5_addRule (wC G q σ κ) [.ref (q 0), .long (al), .long (an), .int (zI e_sr), .int (zI e_tg), .int (zI e_ac)] (QI G (fun r9 (_ : Unit) => r9 = (zI ((σ.1 5 : Nat) : Int))) (fun _ => wC G q (addR σ al an (zI ((sr : Nat) : Int)) tg ac) κ)) := by
  subst he_sr
  subst he_tg
  subst he_ac
  refine MC.mk (by decide +kernel) (Nat.le_of_ble_eq_true rfl) ?_
  intro p e s m av below meth c A H locs ls Q Z hr hnm hQ hP hD hS hl
  have hx := Z.1
  have hb := Z.2.1
  have hown := Z.2.2.2.1
  have hW := Z.2.2.2.2.1
  have hl : lv_has ls 9 [(0, .ref (q 0)), (1, .long (al)), (3, .long (an)), (5, .int (zI ((sr : Nat) : Int))), (6, .int (zI (((tg : Nat) : Int) - (1 : Int)))), (7, .int (zI ((ac : Nat) : Int)))] := hl
  obtain ⟨hn, hru, hrv, hdv, hsr, hmn, ht1, ht2, hwn, hv1, hv2, hmj, htm, hse, htg, hrt, hac, hk1, hk2, hkd, hmm, hmv, hord, hpo, hlo⟩ := id hI
  refine lv_iload hx hb dX5_addRule_0 (lv_at hl 3 rfl) ?_
  refine zc0_lt (tgt := 32) hx hb ((sr : Nat) : Int) (zI_toInt (by omega)) dX5_addRule_2 (by decide) (fun c2 => by exfalso; omega) (fun c2 => ?_)
  refine lv_iload hx hb dX5_addRule_5 (lv_at hl 3 rfl) ?_
  refine zr_bipush hx hb dX5_addRule_7 (by decide) ?_
  refine zc_gt (tgt := 32) hx hb ((sr : Nat) : Int) (63 : Int) (zI_toInt (by omega)) (zI_toInt (by decide)) dX5_addRule_9 (by decide) (fun c9 => by exfalso; omega) (fun c9 => ?_)
  refine lv_iload hx hb dX5_addRule_12 (lv_at hl 4 rfl) ?_
  refine zdet_I ⟨rfl, rfl⟩ Z hD hS (zrunS (rest := []) Z hP hD hS hl.1 (m_X5_isTagOrNone l G (wC G q σ κ) (((tg : Nat) : Int) - (1 : Int)) (by omega)) zY_X5_isTagOrNone km_X5_176 rfl rfl ⟨⟨Nat.le_of_ble_eq_true rfl, Nat.le_of_ble_eq_true rfl⟩, Nat.le_of_ble_eq_true rfl, Nat.le_of_ble_eq_true rfl⟩ (Nat.le_of_ble_eq_true rfl) dX5_addRule_14) (fun H locs hP hD hS => ?_)
  refine zb_eq (tgt := 32) hx hb dX5_addRule_17 (by decide) (fun c17 => by exfalso; have := of_decide_eq_false c17; omega) (fun c17 => ?_)
  refine lv_iload hx hb dX5_addRule_20 (lv_at hl 5 rfl) ?_
  refine zc0_lt (tgt := 32) hx hb ((ac : Nat) : Int) (zI_toInt (by omega)) dX5_addRule_22 (by decide) (fun c22 => by exfalso; omega) (fun c22 => ?_)
  refine lv_iload hx hb dX5_addRule_25 (lv_at hl 5 rfl) ?_
  refine zr_bipush hx hb dX5_addRule_27 (by decide) ?_
  refine zc_le (tgt := 42) hx hb ((ac : Nat) : Int) (9 : Int) (zI_toInt (by omega)) (zI_toInt (by decide)) dX5_addRule_29 (by decide) (fun c29 => ?_) (fun c29 => by exfalso; omega)
  refine lv_aload_n hx hb dX5_addRule_42 rfl (lv_at hl 0 rfl) ?_
  refine gC_0_5 Z hP kf_X5_32 dX5_addRule_43 ?_
  refine lv_lload_n hx hb dX5_addRule_46 rfl (lv_at hl 1 rfl) ?_
  refine lv_lload_n hx hb dX5_addRule_47 rfl (lv_at hl 2 rfl) ?_
  refine lv_iload hx hb dX5_addRule_48 (lv_at hl 3 rfl) ?_
  refine lv_iload hx hb dX5_addRule_50 (lv_at hl 4 rfl) ?_
  refine lv_iload hx hb dX5_addRule_52 (lv_at hl 5 rfl) ?_
  refine zdet_I ⟨rfl, rfl⟩ Z hD hS (zrunV (rest := []) Z hP hD hS hl.1 (m_X4_append l G q σ κ (al) (an) (zI ((sr : Nat) : Int)) (tg) rfl (ac) rfl h4 (by omega)) zY_X4_append km_X5_181 (q0 := 2) rfl rfl rfl rfl ⟨⟨Nat.le_of_ble_eq_true rfl, Nat.le_of_ble_eq_true rfl⟩, Nat.le_of_ble_eq_true rfl, Nat.le_of_ble_eq_true rfl⟩ (Nat.le_of_ble_eq_true rfl) dX5_addRule_54) (fun H locs hP hD hS => ?_)
  refine lv_istore (lv' := [(8, .int (zI ((σ.1 5 : Nat) : Int))), (0, .ref (q 0)), (1, .long (al)), (3, .long (an)), (5, .int (zI ((sr : Nat) : Int))), (6, .int (zI (((tg : Nat) : Int) - (1 : Int)))), (7, .int (zI ((ac : Nat) : Int)))]) hx hb dX5_addRule_57 hl (by decide) rfl (fun ls hl => ?_)
  refine lv_iload hx hb dX5_addRule_59 (lv_at hl 0 rfl) ?_
  refine zr_iconst hx hb dX5_addRule_61 ?_
  refine zc_ne (tgt := 75) hx hb ((σ.1 5 : Nat) : Int) (-1 : Int) (zI_toInt (by omega)) (zI_toInt (by decide)) dX5_addRule_62 (by decide) (fun c62 => ?_) (fun c62 => by exfalso; omega)
  refine lv_iload hx hb dX5_addRule_75 (lv_at hl 0 rfl) ?_
  exact zret_I () Z hr hP hD hS rfl rfl ⟨Nat.le_refl _, Nat.le_refl _⟩ hQ dX5_addRule_77
abbrev r_X5_addRule_x1 : Room := { frames := 6, cells := 1, slots := 6, locals := 100 }
set_option maxHeartbeats 4000000 in
set_option maxRecDepth 100000 in
theorem m_X5_addRule_x1 (l : Launch) (G : ZG) (hst : l.stackTraces = false) (q : Nat → Nat) (σ : St) (κ : KC) (al : Int64) (an : Int64) (sr : Int) (tg : Int) (ac : Int) (hI : okC σ) (h7 : zR sr ∧ zR tg ∧ zR ac) (h1 : ¬ (0 ≤ sr ∧ sr ≤ 63 ∧ (-1 ≤ tg ∧ tg ≤ 7) ∧ 0 ≤ ac ∧ ac ≤ 9)) :
    MX l G yX5_addRule (wY yX5_addRule cX5_addRule 9 (some .int)) r_X5_addRule_x1 (wC G q σ κ) [.ref (q 0), .long (al), .long (an), .int (zI (sr : Int)), .int (zI (tg : Int)), .int (zI (ac : Int))] (S := Unit) "java/lang/IllegalArgumentException" (fun _ => wC G q σ κ) := by
  refine MX.mk (by decide +kernel) (Nat.le_of_ble_eq_true rfl) ?_
  intro p e s m av below meth c A H locs ls Q Z ht hQ hP hD hS hl
  have hx := Z.1
  have hb := Z.2.1
  have hown := Z.2.2.2.1
  have hW := Z.2.2.2.2.1
  have hl : lv_has ls 9 [(0, .ref (q 0)), (1, .long (al)), (3, .long (an)), (5, .int (zI (sr : Int))), (6, .int (zI (tg : Int))), (7, .int (zI (ac : Int)))] := hl
  obtain ⟨hn, hru, hrv, hdv, hsr, hmn, ht1, ht2, hwn, hv1, hv2, hmj, htm, hse, htg, hrt, hac, hk1, hk2, hkd, hmm, hmv, hord, hpo, hlo⟩ := id hI
  refine lv_iload hx hb dX5_addRule_0 (lv_at hl 3 rfl) ?_
  refine zc0_lt (tgt := 32) hx hb (sr : Int) (zI_toInt (by omega)) dX5_addRule_2 (by decide) (fun c2 => ?_) (fun c2 => ?_)
  · skip
    exact th_IAE (()) "the set of sources, the tag or the action is out of range" hst Z ht hP hD hS hl.1 rfl (by decide +kernel) ⟨Nat.le_of_ble_eq_true rfl, Nat.le_of_ble_eq_true rfl, Nat.le_of_ble_eq_true rfl, Nat.le_of_ble_eq_true rfl⟩ hQ dX5_addRule_32 dX5_addRule_35 dX5_addRule_36 dX5_addRule_38 dX5_addRule_41
  · skip
    refine lv_iload hx hb dX5_addRule_5 (lv_at hl 3 rfl) ?_
    refine zr_bipush hx hb dX5_addRule_7 (by decide) ?_
    refine zc_gt (tgt := 32) hx hb (sr : Int) (63 : Int) (zI_toInt (by omega)) (zI_toInt (by decide)) dX5_addRule_9 (by decide) (fun c9 => ?_) (fun c9 => ?_)
    · skip
      exact th_IAE (()) "the set of sources, the tag or the action is out of range" hst Z ht hP hD hS hl.1 rfl (by decide +kernel) ⟨Nat.le_of_ble_eq_true rfl, Nat.le_of_ble_eq_true rfl, Nat.le_of_ble_eq_true rfl, Nat.le_of_ble_eq_true rfl⟩ hQ dX5_addRule_32 dX5_addRule_35 dX5_addRule_36 dX5_addRule_38 dX5_addRule_41
    · skip
      refine lv_iload hx hb dX5_addRule_12 (lv_at hl 4 rfl) ?_
      refine zdet_I ⟨rfl, rfl⟩ Z hD hS (zrunS (rest := []) Z hP hD hS hl.1 (m_X5_isTagOrNone l G (wC G q σ κ) (tg : Int) h7.2.1) zY_X5_isTagOrNone km_X5_176 rfl rfl ⟨⟨Nat.le_of_ble_eq_true rfl, Nat.le_of_ble_eq_true rfl⟩, Nat.le_of_ble_eq_true rfl, Nat.le_of_ble_eq_true rfl⟩ (Nat.le_of_ble_eq_true rfl) dX5_addRule_14) (fun H locs hP hD hS => ?_)
      refine zb_eq (tgt := 32) hx hb dX5_addRule_17 (by decide) (fun c17 => ?_) (fun c17 => ?_)
      · skip
        exact th_IAE (()) "the set of sources, the tag or the action is out of range" hst Z ht hP hD hS hl.1 rfl (by decide +kernel) ⟨Nat.le_of_ble_eq_true rfl, Nat.le_of_ble_eq_true rfl, Nat.le_of_ble_eq_true rfl, Nat.le_of_ble_eq_true rfl⟩ hQ dX5_addRule_32 dX5_addRule_35 dX5_addRule_36 dX5_addRule_38 dX5_addRule_41
      · skip
        refine lv_iload hx hb dX5_addRule_20 (lv_at hl 5 rfl) ?_
        refine zc0_lt (tgt := 32) hx hb (ac : Int) (zI_toInt (by omega)) dX5_addRule_22 (by decide) (fun c22 => ?_) (fun c22 => ?_)
        · skip
          exact th_IAE (()) "the set of sources, the tag or the action is out of range" hst Z ht hP hD hS hl.1 rfl (by decide +kernel) ⟨Nat.le_of_ble_eq_true rfl, Nat.le_of_ble_eq_true rfl, Nat.le_of_ble_eq_true rfl, Nat.le_of_ble_eq_true rfl⟩ hQ dX5_addRule_32 dX5_addRule_35 dX5_addRule_36 dX5_addRule_38 dX5_addRule_41
        · skip
          refine lv_iload hx hb dX5_addRule_25 (lv_at hl 5 rfl) ?_
          refine zr_bipush hx hb dX5_addRule_27 (by decide) ?_
          refine zc_le (tgt := 42) hx hb (ac : Int) (9 : Int) (zI_toInt (by omega)) (zI_toInt (by decide)) dX5_addRule_29 (by decide) (fun c29 => by exfalso; have := of_decide_eq_true c17; omega) (fun c29 => ?_)
          exact th_IAE (()) "the set of sources, the tag or the action is out of range" hst Z ht hP hD hS hl.1 rfl (by decide +kernel) ⟨Nat.le_of_ble_eq_true rfl, Nat.le_of_ble_eq_true rfl, Nat.le_of_ble_eq_true rfl, Nat.le_of_ble_eq_true rfl⟩ hQ dX5_addRule_32 dX5_addRule_35 dX5_addRule_36 dX5_addRule_38 dX5_addRule_41
abbrev r_X5_addRule_x2 : Room := { frames := 6, cells := 1, slots := 6, locals := 100 }
set_option maxHeartbeats 4000000 in
set_option maxRecDepth 100000 in
theorem m_X5_addRule_x2 (l : Launch) (G : ZG) (hst : l.stackTraces = false) (q : Nat → Nat) (σ : St) (κ : KC) (al : Int64) (an : Int64) {e_sr : Int} (sr : Nat) (he_sr : e_sr = (sr : Int)) {e_tg : Int} (tg : Nat) (he_tg : e_tg = (tg : Int) - 1) {e_ac : Int} (ac : Nat) (he_ac : e_ac = (ac : Int)) (hI : okC σ) (h1 : sr ≤ 63) (h2 : tg ≤ 8) (h3 : ac ≤ 9) (h4 : σ.1 5 = 6) :
    MX l G yX5_addRule (wY yX5_addRule cX5_addRule 9 (some .int)) r_X5_addRule_x2 (wC G q σ κ) [.ref (q 0), .long (al), .long (an), .int (zI e_sr), .int (zI e_tg), .int (zI e_ac)] (S := Unit) "java/lang/IllegalStateException" (fun _ => wC G q σ κ) := by
  subst he_sr
  subst he_tg
  subst he_ac
  refine MX.mk (by decide +kernel) (Nat.le_of_ble_eq_true rfl) ?_
  intro p e s m av below meth c A H locs ls Q Z ht hQ hP hD hS hl
  have hx := Z.1
  have hb := Z.2.1
  have hown := Z.2.2.2.1
  have hW := Z.2.2.2.2.1
  have hl : lv_has ls 9 [(0, .ref (q 0)), (1, .long (al)), (3, .long (an)), (5, .int (zI ((sr : Nat) : Int))), (6, .int (zI (((tg : Nat) : Int) - (1 : Int)))), (7, .int (zI ((ac : Nat) : Int)))] := hl
  obtain ⟨hn, hru, hrv, hdv, hsr, hmn, ht1, ht2, hwn, hv1, hv2, hmj, htm, hse, htg, hrt, hac, hk1, hk2, hkd, hmm, hmv, hord, hpo, hlo⟩ := id hI
  refine lv_iload hx hb dX5_addRule_0 (lv_at hl 3 rfl) ?_
  refine zc0_lt (tgt := 32) hx hb ((sr : Nat) : Int) (zI_toInt (by omega)) dX5_addRule_2 (by decide) (fun c2 => by exfalso; omega) (fun c2 => ?_)
  refine lv_iload hx hb dX5_addRule_5 (lv_at hl 3 rfl) ?_
  refine zr_bipush hx hb dX5_addRule_7 (by decide) ?_
  refine zc_gt (tgt := 32) hx hb ((sr : Nat) : Int) (63 : Int) (zI_toInt (by omega)) (zI_toInt (by decide)) dX5_addRule_9 (by decide) (fun c9 => by exfalso; omega) (fun c9 => ?_)
  refine lv_iload hx hb dX5_addRule_12 (lv_at hl 4 rfl) ?_
  refine zdet_I ⟨rfl, rfl⟩ Z hD hS (zrunS (rest := []) Z hP hD hS hl.1 (m_X5_isTagOrNone l G (wC G q σ κ) (((tg : Nat) : Int) - (1 : Int)) (by omega)) zY_X5_isTagOrNone km_X5_176 rfl rfl ⟨⟨Nat.le_of_ble_eq_true rfl, Nat.le_of_ble_eq_true rfl⟩, Nat.le_of_ble_eq_true rfl, Nat.le_of_ble_eq_true rfl⟩ (Nat.le_of_ble_eq_true rfl) dX5_addRule_14) (fun H locs hP hD hS => ?_)
  refine zb_eq (tgt := 32) hx hb dX5_addRule_17 (by decide) (fun c17 => by exfalso; have := of_decide_eq_false c17; omega) (fun c17 => ?_)
  refine lv_iload hx hb dX5_addRule_20 (lv_at hl 5 rfl) ?_
  refine zc0_lt (tgt := 32) hx hb ((ac : Nat) : Int) (zI_toInt (by omega)) dX5_addRule_22 (by decide) (fun c22 => by exfalso; omega) (fun c22 => ?_)
  refine lv_iload hx hb dX5_addRule_25 (lv_at hl 5 rfl) ?_
  refine zr_bipush hx hb dX5_addRule_27 (by decide) ?_
  refine zc_le (tgt := 42) hx hb ((ac : Nat) : Int) (9 : Int) (zI_toInt (by omega)) (zI_toInt (by decide)) dX5_addRule_29 (by decide) (fun c29 => ?_) (fun c29 => by exfalso; omega)
  refine lv_aload_n hx hb dX5_addRule_42 rfl (lv_at hl 0 rfl) ?_
  refine gC_0_5 Z hP kf_X5_32 dX5_addRule_43 ?_
  refine lv_lload_n hx hb dX5_addRule_46 rfl (lv_at hl 1 rfl) ?_
  refine lv_lload_n hx hb dX5_addRule_47 rfl (lv_at hl 2 rfl) ?_
  refine lv_iload hx hb dX5_addRule_48 (lv_at hl 3 rfl) ?_
  refine lv_iload hx hb dX5_addRule_50 (lv_at hl 4 rfl) ?_
  refine lv_iload hx hb dX5_addRule_52 (lv_at hl 5 rfl) ?_
  refine zdet_I ⟨rfl, rfl⟩ Z hD hS (zrunV (rest := []) Z hP hD hS hl.1 (m_X4_append_full l G q σ κ (al) (an) (zI ((sr : Nat) : Int)) (((tg : Nat) : Int) - (1 : Int)) ((ac : Nat) : Int) h4) zY_X4_append km_X5_181 (q0 := 2) rfl rfl rfl rfl ⟨⟨Nat.le_of_ble_eq_true rfl, Nat.le_of_ble_eq_true rfl⟩, Nat.le_of_ble_eq_true rfl, Nat.le_of_ble_eq_true rfl⟩ (Nat.le_of_ble_eq_true rfl) dX5_addRule_54) (fun H locs hP hD hS => ?_)
  refine lv_istore (lv' := [(8, .int (zI (-1 : Int))), (0, .ref (q 0)), (1, .long (al)), (3, .long (an)), (5, .int (zI ((sr : Nat) : Int))), (6, .int (zI (((tg : Nat) : Int) - (1 : Int)))), (7, .int (zI ((ac : Nat) : Int)))]) hx hb dX5_addRule_57 hl (by decide) rfl (fun ls hl => ?_)
  refine lv_iload hx hb dX5_addRule_59 (lv_at hl 0 rfl) ?_
  refine zr_iconst hx hb dX5_addRule_61 ?_
  refine zc_ne (tgt := 75) hx hb (-1 : Int) (-1 : Int) (zI_toInt (by decide)) (zI_toInt (by decide)) dX5_addRule_62 (by decide) (fun c62 => by exfalso; omega) (fun c62 => ?_)
  exact th_ISE (()) "there are 6 rules" hst Z ht hP hD hS hl.1 rfl (by decide +kernel) ⟨Nat.le_of_ble_eq_true rfl, Nat.le_of_ble_eq_true rfl, Nat.le_of_ble_eq_true rfl, Nat.le_of_ble_eq_true rfl⟩ hQ dX5_addRule_65 dX5_addRule_68 dX5_addRule_69 dX5_addRule_71 dX5_addRule_74
abbrev r_X5_dropRule : Room := { frames := 2, cells := 0, slots := 0, locals := 41 }
set_option maxHeartbeats 4000000 in
set_option maxRecDepth 100000 in
theorem m_X5_dropRule (l : Launch) (G : ZG) (q : Nat → Nat) (σ : St) (κ : KC) {e_i : Int} (i : Nat) (he_i : e_i = (i : Int)) (hI : okC σ) (h1 : i < σ.1 5) :
    MC l G yX5_dropRule (wY yX5_dropRule cX5_dropRule 2 (some .int)) r_X5_dropRule (wC G q σ κ) [.ref (q 0), .int (zI e_i)] (QI G (fun r9 (_ : Unit) => r9 = (zI ((σ.1 5 - 1 : Nat) : Int))) (fun _ => wC G q (drp σ i (σ.1 5 - 1 - i)) κ)) := by
  subst he_i
  refine MC.mk (by decide +kernel) (Nat.le_of_ble_eq_true rfl) ?_
  intro p e s m av below meth c A H locs ls Q Z hr hnm hQ hP hD hS hl
  have hx := Z.1
  have hb := Z.2.1
  have hown := Z.2.2.2.1
  have hW := Z.2.2.2.2.1
  have hl : lv_has ls 2 [(0, .ref (q 0)), (1, .int (zI ((i : Nat) : Int)))] := hl
  obtain ⟨hn, hru, hrv, hdv, hsr, hmn, ht1, ht2, hwn, hv1, hv2, hmj, htm, hse, htg, hrt, hac, hk1, hk2, hkd, hmm, hmv, hord, hpo, hlo⟩ := id hI
  refine lv_aload_n hx hb dX5_dropRule_0 rfl (lv_at hl 0 rfl) ?_
  refine lv_iload_n hx hb dX5_dropRule_1 rfl (lv_at hl 1 rfl) ?_
  refine zdet_V ⟨rfl, rfl⟩ Z hD hS (zrunV (rest := []) Z hP hD hS hl.1 (m_X5_requireRule l G q σ κ (i) rfl (by omega) (by omega)) zY_X5_requireRule km_X5_186 (q0 := 0) rfl rfl rfl rfl ⟨⟨Nat.le_of_ble_eq_true rfl, Nat.le_of_ble_eq_true rfl⟩, Nat.le_of_ble_eq_true rfl, Nat.le_of_ble_eq_true rfl⟩ (Nat.le_of_ble_eq_true rfl) dX5_dropRule_2) (fun H locs hP hD hS => ?_)
  refine lv_aload_n hx hb dX5_dropRule_5 rfl (lv_at hl 0 rfl) ?_
  refine gC_0_5 Z hP kf_X5_32 dX5_dropRule_6 ?_
  refine lv_iload_n hx hb dX5_dropRule_9 rfl (lv_at hl 1 rfl) ?_
  refine zdet_V ⟨rfl, rfl⟩ Z hD hS (zrunV (rest := []) Z hP hD hS hl.1 (m_X4_remove l G q σ κ (i) rfl (by omega) (by omega)) zY_X4_remove km_X5_189 (q0 := 2) rfl rfl rfl rfl ⟨⟨Nat.le_of_ble_eq_true rfl, Nat.le_of_ble_eq_true rfl⟩, Nat.le_of_ble_eq_true rfl, Nat.le_of_ble_eq_true rfl⟩ (Nat.le_of_ble_eq_true rfl) dX5_dropRule_10) (fun H locs hP hD hS => ?_)
  refine lv_aload_n hx hb dX5_dropRule_13 rfl (lv_at hl 0 rfl) ?_
  refine gC_0_5 Z hP kf_X5_32 dX5_dropRule_14 ?_
  refine zdet_I ⟨rfl, rfl⟩ Z hD hS (zrunV (rest := []) Z hP hD hS hl.1 (m_X4_size l G q (drp σ i (σ.1 5 - 1 - i)) κ) zY_X4_size km_X5_192 (q0 := 2) rfl rfl rfl rfl ⟨⟨Nat.le_of_ble_eq_true rfl, Nat.le_of_ble_eq_true rfl⟩, Nat.le_of_ble_eq_true rfl, Nat.le_of_ble_eq_true rfl⟩ (Nat.le_of_ble_eq_true rfl) dX5_dropRule_17) (fun H locs hP hD hS => ?_)
  exact zret_I () Z hr hP hD hS rfl rfl ⟨Nat.le_refl _, Nat.le_refl _⟩ hQ dX5_dropRule_20
abbrev r_X5_dropRule_x : Room := { frames := 7, cells := 1, slots := 6, locals := 121 }
set_option maxHeartbeats 4000000 in
set_option maxRecDepth 100000 in
theorem m_X5_dropRule_x (l : Launch) (G : ZG) (hst : l.stackTraces = false) (q : Nat → Nat) (σ : St) (κ : KC) (i : Int) (hI : okC σ) (h1 : zR i) (h2 : i < 0 ∨ ((σ.1 5 : Nat) : Int) ≤ i) :
    MX l G yX5_dropRule (wY yX5_dropRule cX5_dropRule 2 (some .int)) r_X5_dropRule_x (wC G q σ κ) [.ref (q 0), .int (zI (i : Int))] (S := Unit) "java/lang/IndexOutOfBoundsException" (fun _ => wC G q σ κ) := by
  refine MX.mk (by decide +kernel) (Nat.le_of_ble_eq_true rfl) ?_
  intro p e s m av below meth c A H locs ls Q Z ht hQ hP hD hS hl
  have hx := Z.1
  have hb := Z.2.1
  have hown := Z.2.2.2.1
  have hW := Z.2.2.2.2.1
  have hl : lv_has ls 2 [(0, .ref (q 0)), (1, .int (zI (i : Int)))] := hl
  obtain ⟨hn, hru, hrv, hdv, hsr, hmn, ht1, ht2, hwn, hv1, hv2, hmj, htm, hse, htg, hrt, hac, hk1, hk2, hkd, hmm, hmv, hord, hpo, hlo⟩ := id hI
  refine lv_aload_n hx hb dX5_dropRule_0 rfl (lv_at hl 0 rfl) ?_
  refine lv_iload_n hx hb dX5_dropRule_1 rfl (lv_at hl 1 rfl) ?_
  exact zxout (fun u => ()) (fun _ => rfl) Z ht hD hS (zrunXV (rest := []) Z hP hD hS hl.1 (m_X5_requireRule_x l G hst q σ κ (i : Int) (by omega) (by omega) (by omega)) zY_X5_requireRule km_X5_186 (q0 := 0) rfl rfl rfl rfl ⟨⟨Nat.le_of_ble_eq_true rfl, Nat.le_of_ble_eq_true rfl⟩, Nat.le_of_ble_eq_true rfl, Nat.le_of_ble_eq_true rfl⟩ (Nat.le_of_ble_eq_true rfl) dX5_dropRule_2) ⟨Nat.le_refl _, Nat.le_refl _⟩ hQ
abbrev r_X5_tagsOf : Room := { frames := 5, cells := 0, slots := 0, locals := 107 }
set_option maxHeartbeats 4000000 in
set_option maxRecDepth 100000 in
theorem m_X5_tagsOf (l : Launch) (G : ZG) (q : Nat → Nat) (σ : St) (κ : KC) {e_i : Int} (i : Nat) (he_i : e_i = (i : Int)) (hI : okC σ) (h1 : i < σ.1 4) :
    MC l G yX5_tagsOf (wY yX5_tagsOf cX5_tagsOf 2 (some .int)) r_X5_tagsOf (wC G q σ κ) [.ref (q 0), .int (zI e_i)] (QI G (fun r9 (_ : Unit) => r9 = (out σ i &&& zI 255)) (fun _ => wC G q σ κ)) := by
  subst he_i
  refine MC.mk (by decide +kernel) (Nat.le_of_ble_eq_true rfl) ?_
  intro p e s m av below meth c A H locs ls Q Z hr hnm hQ hP hD hS hl
  have hx := Z.1
  have hb := Z.2.1
  have hown := Z.2.2.2.1
  have hW := Z.2.2.2.2.1
  have hl : lv_has ls 2 [(0, .ref (q 0)), (1, .int (zI ((i : Nat) : Int)))] := hl
  obtain ⟨hn, hru, hrv, hdv, hsr, hmn, ht1, ht2, hwn, hv1, hv2, hmj, htm, hse, htg, hrt, hac, hk1, hk2, hkd, hmm, hmv, hord, hpo, hlo⟩ := id hI
  refine lv_aload_n hx hb dX5_tagsOf_0 rfl (lv_at hl 0 rfl) ?_
  refine lv_iload_n hx hb dX5_tagsOf_1 rfl (lv_at hl 1 rfl) ?_
  refine zdet_V ⟨rfl, rfl⟩ Z hD hS (zrunV (rest := []) Z hP hD hS hl.1 (m_X5_requireItem l G q σ κ (i) rfl (by omega) (by omega)) zY_X5_requireItem km_X5_150 (q0 := 0) rfl rfl rfl rfl ⟨⟨Nat.le_of_ble_eq_true rfl, Nat.le_of_ble_eq_true rfl⟩, Nat.le_of_ble_eq_true rfl, Nat.le_of_ble_eq_true rfl⟩ (Nat.le_of_ble_eq_true rfl) dX5_tagsOf_2) (fun H locs hP hD hS => ?_)
  refine lv_aload_n hx hb dX5_tagsOf_5 rfl (lv_at hl 0 rfl) ?_
  refine lv_iload_n hx hb dX5_tagsOf_6 rfl (lv_at hl 1 rfl) ?_
  refine zdet_I ⟨rfl, rfl⟩ Z hD hS (zrunV (rest := []) Z hP hD hS hl.1 (m_X5_outcomeOf l G q σ κ (i) rfl hI (by omega)) zY_X5_outcomeOf km_X5_193 (q0 := 0) rfl rfl rfl rfl ⟨⟨Nat.le_of_ble_eq_true rfl, Nat.le_of_ble_eq_true rfl⟩, Nat.le_of_ble_eq_true rfl, Nat.le_of_ble_eq_true rfl⟩ (Nat.le_of_ble_eq_true rfl) dX5_tagsOf_7) (fun H locs hP hD hS => ?_)
  refine zr_sipush hx hb dX5_tagsOf_10 (by decide) ?_
  refine lv_iand hx hb dX5_tagsOf_13 ?_
  exact zret_I () Z hr hP hD hS rfl rfl ⟨Nat.le_refl _, Nat.le_refl _⟩ hQ dX5_tagsOf_14
abbrev r_X5_tagsOf_x : Room := { frames := 7, cells := 1, slots := 6, locals := 121 }
set_option maxHeartbeats 4000000 in
set_option maxRecDepth 100000 in
theorem m_X5_tagsOf_x (l : Launch) (G : ZG) (hst : l.stackTraces = false) (q : Nat → Nat) (σ : St) (κ : KC) (i : Int) (hI : okC σ) (h1 : zR i) (h2 : i < 0 ∨ ((σ.1 4 : Nat) : Int) ≤ i) :
    MX l G yX5_tagsOf (wY yX5_tagsOf cX5_tagsOf 2 (some .int)) r_X5_tagsOf_x (wC G q σ κ) [.ref (q 0), .int (zI (i : Int))] (S := Unit) "java/lang/IndexOutOfBoundsException" (fun _ => wC G q σ κ) := by
  refine MX.mk (by decide +kernel) (Nat.le_of_ble_eq_true rfl) ?_
  intro p e s m av below meth c A H locs ls Q Z ht hQ hP hD hS hl
  have hx := Z.1
  have hb := Z.2.1
  have hown := Z.2.2.2.1
  have hW := Z.2.2.2.2.1
  have hl : lv_has ls 2 [(0, .ref (q 0)), (1, .int (zI (i : Int)))] := hl
  obtain ⟨hn, hru, hrv, hdv, hsr, hmn, ht1, ht2, hwn, hv1, hv2, hmj, htm, hse, htg, hrt, hac, hk1, hk2, hkd, hmm, hmv, hord, hpo, hlo⟩ := id hI
  refine lv_aload_n hx hb dX5_tagsOf_0 rfl (lv_at hl 0 rfl) ?_
  refine lv_iload_n hx hb dX5_tagsOf_1 rfl (lv_at hl 1 rfl) ?_
  exact zxout (fun u => ()) (fun _ => rfl) Z ht hD hS (zrunXV (rest := []) Z hP hD hS hl.1 (m_X5_requireItem_x l G hst q σ κ (i : Int) (by omega) (by omega) (by omega)) zY_X5_requireItem km_X5_150 (q0 := 0) rfl rfl rfl rfl ⟨⟨Nat.le_of_ble_eq_true rfl, Nat.le_of_ble_eq_true rfl⟩, Nat.le_of_ble_eq_true rfl, Nat.le_of_ble_eq_true rfl⟩ (Nat.le_of_ble_eq_true rfl) dX5_tagsOf_2) ⟨Nat.le_refl _, Nat.le_refl _⟩ hQ
abbrev r_X5_isHidden : Room := { frames := 5, cells := 0, slots := 0, locals := 107 }
set_option maxHeartbeats 4000000 in
set_option maxRecDepth 100000 in
theorem m_X5_isHidden (l : Launch) (G : ZG) (q : Nat → Nat) (σ : St) (κ : KC) {e_i : Int} (i : Nat) (he_i : e_i = (i : Int)) (hI : okC σ) (h1 : i < σ.1 4) :
    MC l G yX5_isHidden (wY yX5_isHidden cX5_isHidden 2 (some .boolean)) r_X5_isHidden (wC G q σ κ) [.ref (q 0), .int (zI e_i)] (QI G (fun r9 (_ : Unit) => r9 = (tB (tb (out σ i) 8))) (fun _ => wC G q σ κ)) := by
  subst he_i
  refine MC.mk (by decide +kernel) (Nat.le_of_ble_eq_true rfl) ?_
  intro p e s m av below meth c A H locs ls Q Z hr hnm hQ hP hD hS hl
  have hx := Z.1
  have hb := Z.2.1
  have hown := Z.2.2.2.1
  have hW := Z.2.2.2.2.1
  have hl : lv_has ls 2 [(0, .ref (q 0)), (1, .int (zI ((i : Nat) : Int)))] := hl
  obtain ⟨hn, hru, hrv, hdv, hsr, hmn, ht1, ht2, hwn, hv1, hv2, hmj, htm, hse, htg, hrt, hac, hk1, hk2, hkd, hmm, hmv, hord, hpo, hlo⟩ := id hI
  refine lv_aload_n hx hb dX5_isHidden_0 rfl (lv_at hl 0 rfl) ?_
  refine lv_iload_n hx hb dX5_isHidden_1 rfl (lv_at hl 1 rfl) ?_
  refine zdet_V ⟨rfl, rfl⟩ Z hD hS (zrunV (rest := []) Z hP hD hS hl.1 (m_X5_requireItem l G q σ κ (i) rfl (by omega) (by omega)) zY_X5_requireItem km_X5_150 (q0 := 0) rfl rfl rfl rfl ⟨⟨Nat.le_of_ble_eq_true rfl, Nat.le_of_ble_eq_true rfl⟩, Nat.le_of_ble_eq_true rfl, Nat.le_of_ble_eq_true rfl⟩ (Nat.le_of_ble_eq_true rfl) dX5_isHidden_2) (fun H locs hP hD hS => ?_)
  refine lv_aload_n hx hb dX5_isHidden_5 rfl (lv_at hl 0 rfl) ?_
  refine lv_iload_n hx hb dX5_isHidden_6 rfl (lv_at hl 1 rfl) ?_
  refine zdet_I ⟨rfl, rfl⟩ Z hD hS (zrunV (rest := []) Z hP hD hS hl.1 (m_X5_outcomeOf l G q σ κ (i) rfl hI (by omega)) zY_X5_outcomeOf km_X5_193 (q0 := 0) rfl rfl rfl rfl ⟨⟨Nat.le_of_ble_eq_true rfl, Nat.le_of_ble_eq_true rfl⟩, Nat.le_of_ble_eq_true rfl, Nat.le_of_ble_eq_true rfl⟩ (Nat.le_of_ble_eq_true rfl) dX5_isHidden_7) (fun H locs hP hD hS => ?_)
  refine zr_sipush hx hb dX5_isHidden_10 (by decide) ?_
  refine lv_iand hx hb dX5_isHidden_13 ?_
  refine lv_if_eq (tgt := 21) hx hb dX5_isHidden_14 (by decide) (fun c14 => ?_) (fun c14 => ?_)
  · skip
    refine zr_iconst hx hb dX5_isHidden_21 ?_
    exact zret_B () Z hr (by decide +kernel) hP hD hS (tB_0 ((tb_256 _).mp c14)) rfl ⟨Nat.le_refl _, Nat.le_refl _⟩ hQ dX5_isHidden_22
  · skip
    refine zr_iconst hx hb dX5_isHidden_17 ?_
    refine lv_goto (tgt := 22) hx hb dX5_isHidden_18 (by decide) ?_
    exact zret_B () Z hr (by decide +kernel) hP hD hS (tB_1 (by
        cases h8 : tb (out σ i) 8 with
        | true => rfl
        | false => exact absurd ((tb_256 _).mpr h8) c14)) rfl ⟨Nat.le_refl _, Nat.le_refl _⟩ hQ dX5_isHidden_22
abbrev r_X5_isHidden_x : Room := { frames := 7, cells := 1, slots := 6, locals := 121 }
set_option maxHeartbeats 4000000 in
set_option maxRecDepth 100000 in
theorem m_X5_isHidden_x (l : Launch) (G : ZG) (hst : l.stackTraces = false) (q : Nat → Nat) (σ : St) (κ : KC) (i : Int) (hI : okC σ) (h1 : zR i) (h2 : i < 0 ∨ ((σ.1 4 : Nat) : Int) ≤ i) :
    MX l G yX5_isHidden (wY yX5_isHidden cX5_isHidden 2 (some .boolean)) r_X5_isHidden_x (wC G q σ κ) [.ref (q 0), .int (zI (i : Int))] (S := Unit) "java/lang/IndexOutOfBoundsException" (fun _ => wC G q σ κ) := by
  refine MX.mk (by decide +kernel) (Nat.le_of_ble_eq_true rfl) ?_
  intro p e s m av below meth c A H locs ls Q Z ht hQ hP hD hS hl
  have hx := Z.1
  have hb := Z.2.1
  have hown := Z.2.2.2.1
  have hW := Z.2.2.2.2.1
  have hl : lv_has ls 2 [(0, .ref (q 0)), (1, .int (zI (i : Int)))] := hl
  obtain ⟨hn, hru, hrv, hdv, hsr, hmn, ht1, ht2, hwn, hv1, hv2, hmj, htm, hse, htg, hrt, hac, hk1, hk2, hkd, hmm, hmv, hord, hpo, hlo⟩ := id hI
  refine lv_aload_n hx hb dX5_isHidden_0 rfl (lv_at hl 0 rfl) ?_
  refine lv_iload_n hx hb dX5_isHidden_1 rfl (lv_at hl 1 rfl) ?_
  exact zxout (fun u => ()) (fun _ => rfl) Z ht hD hS (zrunXV (rest := []) Z hP hD hS hl.1 (m_X5_requireItem_x l G hst q σ κ (i : Int) (by omega) (by omega) (by omega)) zY_X5_requireItem km_X5_150 (q0 := 0) rfl rfl rfl rfl ⟨⟨Nat.le_of_ble_eq_true rfl, Nat.le_of_ble_eq_true rfl⟩, Nat.le_of_ble_eq_true rfl, Nat.le_of_ble_eq_true rfl⟩ (Nat.le_of_ble_eq_true rfl) dX5_isHidden_2) ⟨Nat.le_refl _, Nat.le_refl _⟩ hQ
abbrev r_X5_matches : Room := { frames := 4, cells := 0, slots := 0, locals := 86 }
set_option maxHeartbeats 4000000 in
set_option maxRecDepth 100000 in
theorem m_X5_matches (l : Launch) (G : ZG) (q : Nat → Nat) (σ : St) (κ : KC) {e_i : Int} (i : Nat) (he_i : e_i = (i : Int)) (hI : okC σ) (h1 : i < σ.1 5) :
    MC l G yX5_matches (wY yX5_matches cX5_matches 7 (some .int)) r_X5_matches (wC G q σ κ) [.ref (q 0), .int (zI e_i)] (QI G (fun r9 (_ : Unit) => r9 = (zI ((cnt (mtc σ i) (σ.1 4) : Nat) : Int))) (fun _ => wC G q σ κ)) := by
  subst he_i
  refine MC.mk (by decide +kernel) (Nat.le_of_ble_eq_true rfl) ?_
  intro p e s m av below meth c A H locs ls Q Z hr hnm hQ hP hD hS hl
  have hx := Z.1
  have hb := Z.2.1
  have hown := Z.2.2.2.1
  have hW := Z.2.2.2.2.1
  have hl : lv_has ls 7 [(0, .ref (q 0)), (1, .int (zI ((i : Nat) : Int)))] := hl
  obtain ⟨hn, hru, hrv, hdv, hsr, hmn, ht1, ht2, hwn, hv1, hv2, hmj, htm, hse, htg, hrt, hac, hk1, hk2, hkd, hmm, hmv, hord, hpo, hlo⟩ := id hI
  refine lv_aload_n hx hb dX5_matches_0 rfl (lv_at hl 0 rfl) ?_
  refine lv_iload_n hx hb dX5_matches_1 rfl (lv_at hl 1 rfl) ?_
  refine zdet_V ⟨rfl, rfl⟩ Z hD hS (zrunV (rest := []) Z hP hD hS hl.1 (m_X5_requireRule l G q σ κ (i) rfl (by omega) (by omega)) zY_X5_requireRule km_X5_186 (q0 := 0) rfl rfl rfl rfl ⟨⟨Nat.le_of_ble_eq_true rfl, Nat.le_of_ble_eq_true rfl⟩, Nat.le_of_ble_eq_true rfl, Nat.le_of_ble_eq_true rfl⟩ (Nat.le_of_ble_eq_true rfl) dX5_matches_2) (fun H locs hP hD hS => ?_)
  refine zr_iconst hx hb dX5_matches_5 ?_
  refine lv_istore_n (lv' := [(2, .int (zI (0 : Int))), (0, .ref (q 0)), (1, .int (zI ((i : Nat) : Int)))]) hx hb dX5_matches_6 rfl hl (by decide) rfl (fun ls hl => ?_)
  refine zr_iconst hx hb dX5_matches_7 ?_
  refine lv_istore_n (lv' := [(3, .int (zI (0 : Int))), (2, .int (zI (0 : Int))), (0, .ref (q 0)), (1, .int (zI ((i : Nat) : Int)))]) hx hb dX5_matches_8 rfl hl (by decide) rfl (fun ls hl => ?_)
  suffices LP9 : ∀ (f9 : Nat) (k : Nat), σ.1 4 < k + f9 → (k ≤ σ.1 4) → ∀ (H : Heap) (locs : List Loc) (ls : Array Slot), va_P G.1 vwCl (wC G q σ κ) H → va_D A (wC G q σ κ) → va_S A s.heap H locs → lv_has ls 7 [(2, .int (zI ((cnt (mtc σ i) k : Nat) : Int))), (3, .int (zI ((k : Nat) : Int))), (0, .ref (q 0)), (1, .int (zI ((i : Nat) : Int)))] → W p l e r_X5_matches s m av below meth c H locs 0 0 Q (F0 m 9 ls []) from LP9 (σ.1 4 + 1) (0) (by omega) (by omega) _ _ _ hP hD hS (lv_sub hl [1, 0, 2, 3] rfl)
  intro f9
  induction f9 with
  | zero => intro k hf9 hk; exfalso; omega
  | succ f9 ih9 =>
    intro k hf9 hk H locs ls hP hD hS hl
    have hc9 := cnt_le (mtc σ i) k
    refine lv_iload_n hx hb dX5_matches_9 rfl (lv_at hl 1 rfl) ?_
    refine lv_aload_n hx hb dX5_matches_10 rfl (lv_at hl 2 rfl) ?_
    refine gC_0_4 Z hP kf_X5_25 dX5_matches_11 ?_
    refine zdet_I ⟨rfl, rfl⟩ Z hD hS (zrunV (rest := [.int (zI ((k : Nat) : Int))]) Z hP hD hS hl.1 (m_X1_size l G q σ κ) zY_X1_size km_X5_132 (q0 := 1) rfl rfl rfl rfl ⟨⟨Nat.le_of_ble_eq_true rfl, Nat.le_of_ble_eq_true rfl⟩, Nat.le_of_ble_eq_true rfl, Nat.le_of_ble_eq_true rfl⟩ (Nat.le_of_ble_eq_true rfl) dX5_matches_14) (fun H locs hP hD hS => ?_)
    refine zc_ge (tgt := 76) hx hb ((k : Nat) : Int) ((σ.1 4 : Nat) : Int) (zI_toInt (by omega)) (zI_toInt (by omega)) dX5_matches_17 (by decide) (fun c17 => ?_) (fun c17 => ?_)
    · skip
      refine lv_iload_n hx hb dX5_matches_76 rfl (lv_at hl 0 rfl) ?_
      exact zret_I () Z hr hP hD hS (by
          have h9 : k = σ.1 4 := by omega
          rw [h9]) rfl ⟨Nat.le_refl _, Nat.le_refl _⟩ hQ dX5_matches_77
    · skip
      refine lv_aload_n hx hb dX5_matches_20 rfl (lv_at hl 2 rfl) ?_
      refine gC_0_4 Z hP kf_X5_25 dX5_matches_21 ?_
      refine lv_iload_n hx hb dX5_matches_24 rfl (lv_at hl 1 rfl) ?_
      refine zdet_L ⟨rfl, rfl⟩ Z hD hS (zrunV (rest := []) Z hP hD hS hl.1 (m_X1_latestTitle l G q σ κ (k) rfl (by omega) (hv1 _ (by omega)) (hv2 _)) zY_X1_latestTitle km_X5_196 (q0 := 1) rfl rfl rfl rfl ⟨⟨Nat.le_of_ble_eq_true rfl, Nat.le_of_ble_eq_true rfl⟩, Nat.le_of_ble_eq_true rfl, Nat.le_of_ble_eq_true rfl⟩ (Nat.le_of_ble_eq_true rfl) dX5_matches_25) (fun H locs hP hD hS => ?_)
      refine lv_lstore (lv' := [(4, .long (lat σ k)), (2, .int (zI ((cnt (mtc σ i) k : Nat) : Int))), (3, .int (zI ((k : Nat) : Int))), (0, .ref (q 0)), (1, .int (zI ((i : Nat) : Int)))]) hx hb dX5_matches_28 hl (by decide) rfl (fun ls hl => ?_)
      refine lv_aload_n hx hb dX5_matches_30 rfl (lv_at hl 3 rfl) ?_
      refine gC_0_4 Z hP kf_X5_25 dX5_matches_31 ?_
      refine lv_iload_n hx hb dX5_matches_34 rfl (lv_at hl 2 rfl) ?_
      refine zdet_I ⟨rfl, rfl⟩ Z hD hS (zrunV (rest := []) Z hP hD hS hl.1 (m_X1_tellers l G q σ κ (k) rfl (by omega)) zY_X1_tellers km_X5_170 (q0 := 1) rfl rfl rfl rfl ⟨⟨Nat.le_of_ble_eq_true rfl, Nat.le_of_ble_eq_true rfl⟩, Nat.le_of_ble_eq_true rfl, Nat.le_of_ble_eq_true rfl⟩ (Nat.le_of_ble_eq_true rfl) dX5_matches_35) (fun H locs hP hD hS => ?_)
      refine lv_istore (lv' := [(6, .int ((σ.2.2.1 0) k)), (4, .long (lat σ k)), (2, .int (zI ((cnt (mtc σ i) k : Nat) : Int))), (3, .int (zI ((k : Nat) : Int))), (0, .ref (q 0)), (1, .int (zI ((i : Nat) : Int)))]) hx hb dX5_matches_38 hl (by decide) rfl (fun ls hl => ?_)
      refine lv_aload_n hx hb dX5_matches_40 rfl (lv_at hl 4 rfl) ?_
      refine gC_0_5 Z hP kf_X5_32 dX5_matches_41 ?_
      refine lv_iload_n hx hb dX5_matches_44 rfl (lv_at hl 5 rfl) ?_
      refine lv_lload hx hb dX5_matches_45 (lv_at hl 1 rfl) ?_
      refine lv_iload hx hb dX5_matches_47 (lv_at hl 0 rfl) ?_
      refine lv_aload_n hx hb dX5_matches_49 rfl (lv_at hl 4 rfl) ?_
      refine gC_0_5 Z hP kf_X5_32 dX5_matches_50 ?_
      refine lv_lload hx hb dX5_matches_53 (lv_at hl 1 rfl) ?_
      refine lv_iload hx hb dX5_matches_55 (lv_at hl 0 rfl) ?_
      refine lv_iload_n hx hb dX5_matches_57 rfl (lv_at hl 5 rfl) ?_
      refine zdet_I ⟨rfl, rfl⟩ Z hD hS (zrunV (rest := [.int ((σ.2.2.1 0) k), .long (lat σ k), .int (zI ((i : Nat) : Int)), .ref (q 2)]) Z hP hD hS hl.1 (m_X4_outcome l G q σ κ (lat σ k) ((σ.2.2.1 0) k) (i) rfl (by omega) htg hac) zY_X4_outcome km_X5_200 (q0 := 2) rfl rfl rfl rfl ⟨⟨Nat.le_of_ble_eq_true rfl, Nat.le_of_ble_eq_true rfl⟩, Nat.le_of_ble_eq_true rfl, Nat.le_of_ble_eq_true rfl⟩ (Nat.le_of_ble_eq_true rfl) dX5_matches_58) (fun H locs hP hD hS => ?_)
      refine zdet_I ⟨rfl, rfl⟩ Z hD hS (zrunV (rest := []) Z hP hD hS hl.1 (m_X4_holds l G q σ κ (i) rfl (lat σ k) ((σ.2.2.1 0) k) (outc σ ((lat σ k)) (((σ.2.2.1 0) k)) i) (by omega) (htg _)) zY_X4_holds km_X5_203 (q0 := 2) rfl rfl rfl rfl ⟨⟨Nat.le_of_ble_eq_true rfl, Nat.le_of_ble_eq_true rfl⟩, Nat.le_of_ble_eq_true rfl, Nat.le_of_ble_eq_true rfl⟩ (Nat.le_of_ble_eq_true rfl) dX5_matches_61) (fun H locs hP hD hS => ?_)
      refine zb_eq (tgt := 70) hx hb dX5_matches_64 (by decide) (fun c64 => ?_) (fun c64 => ?_)
      · skip
        refine zr_iinc (lv' := [(3, .int (zI (((k : Nat) : Int) + (1 : Int)))), (6, .int ((σ.2.2.1 0) k)), (4, .long (lat σ k)), (2, .int (zI ((cnt (mtc σ i) k : Nat) : Int))), (0, .ref (q 0)), (1, .int (zI ((i : Nat) : Int)))]) hx hb 3 dX5_matches_70 hl rfl (by decide) rfl (fun ls hl => ?_)
        refine lv_goto (tgt := 9) hx hb dX5_matches_73 (by decide) ?_
        have h9 : cnt (mtc σ i) (k + 1) = cnt (mtc σ i) k := cnt_no (p := mtc σ i) c64
        exact ih9 (k + 1) (by omega) (by omega) _ _ _ hP hD hS (lv_sub hl [3, 0, 4, 5] (by rw [h9]; rfl))
      · skip
        refine zr_iinc (lv' := [(2, .int (zI (((cnt (mtc σ i) k : Nat) : Int) + (1 : Int)))), (6, .int ((σ.2.2.1 0) k)), (4, .long (lat σ k)), (3, .int (zI ((k : Nat) : Int))), (0, .ref (q 0)), (1, .int (zI ((i : Nat) : Int)))]) hx hb 2 dX5_matches_67 hl rfl (by decide) rfl (fun ls hl => ?_)
        refine zr_iinc (lv' := [(3, .int (zI (((k : Nat) : Int) + (1 : Int)))), (2, .int (zI (((cnt (mtc σ i) k : Nat) : Int) + (1 : Int)))), (6, .int ((σ.2.2.1 0) k)), (4, .long (lat σ k)), (0, .ref (q 0)), (1, .int (zI ((i : Nat) : Int)))]) hx hb 3 dX5_matches_70 hl rfl (by decide) rfl (fun ls hl => ?_)
        refine lv_goto (tgt := 9) hx hb dX5_matches_73 (by decide) ?_
        have h9 : cnt (mtc σ i) (k + 1) = cnt (mtc σ i) k + 1 := cnt_yes (p := mtc σ i) c64
        exact ih9 (k + 1) (by omega) (by omega) _ _ _ hP hD hS (lv_sub hl [1, 0, 4, 5] (by rw [h9]; rfl))
abbrev r_X5_matches_x : Room := { frames := 7, cells := 1, slots := 6, locals := 121 }
set_option maxHeartbeats 4000000 in
set_option maxRecDepth 100000 in
theorem m_X5_matches_x (l : Launch) (G : ZG) (hst : l.stackTraces = false) (q : Nat → Nat) (σ : St) (κ : KC) (i : Int) (hI : okC σ) (h1 : zR i) (h2 : i < 0 ∨ ((σ.1 5 : Nat) : Int) ≤ i) :
    MX l G yX5_matches (wY yX5_matches cX5_matches 7 (some .int)) r_X5_matches_x (wC G q σ κ) [.ref (q 0), .int (zI (i : Int))] (S := Unit) "java/lang/IndexOutOfBoundsException" (fun _ => wC G q σ κ) := by
  refine MX.mk (by decide +kernel) (Nat.le_of_ble_eq_true rfl) ?_
  intro p e s m av below meth c A H locs ls Q Z ht hQ hP hD hS hl
  have hx := Z.1
  have hb := Z.2.1
  have hown := Z.2.2.2.1
  have hW := Z.2.2.2.2.1
  have hl : lv_has ls 7 [(0, .ref (q 0)), (1, .int (zI (i : Int)))] := hl
  obtain ⟨hn, hru, hrv, hdv, hsr, hmn, ht1, ht2, hwn, hv1, hv2, hmj, htm, hse, htg, hrt, hac, hk1, hk2, hkd, hmm, hmv, hord, hpo, hlo⟩ := id hI
  refine lv_aload_n hx hb dX5_matches_0 rfl (lv_at hl 0 rfl) ?_
  refine lv_iload_n hx hb dX5_matches_1 rfl (lv_at hl 1 rfl) ?_
  exact zxout (fun u => ()) (fun _ => rfl) Z ht hD hS (zrunXV (rest := []) Z hP hD hS hl.1 (m_X5_requireRule_x l G hst q σ κ (i : Int) (by omega) (by omega) (by omega)) zY_X5_requireRule km_X5_186 (q0 := 0) rfl rfl rfl rfl ⟨⟨Nat.le_of_ble_eq_true rfl, Nat.le_of_ble_eq_true rfl⟩, Nat.le_of_ble_eq_true rfl, Nat.le_of_ble_eq_true rfl⟩ (Nat.le_of_ble_eq_true rfl) dX5_matches_2) ⟨Nat.le_refl _, Nat.le_refl _⟩ hQ
abbrev r_X5_addRiver : Room := { frames := 1, cells := 0, slots := 0, locals := 22 }
set_option maxHeartbeats 4000000 in
set_option maxRecDepth 100000 in
theorem m_X5_addRiver (l : Launch) (G : ZG) (q : Nat → Nat) (σ : St) (κ : KC) {e_sr : Int} (sr : Nat) (he_sr : e_sr = (sr : Int)) {e_tg : Int} (tg : Nat) (he_tg : e_tg = (tg : Int) - 1) (hI : okC σ) (h0 : 1 ≤ sr) (h1 : sr ≤ 63) (h2 : tg ≤ 8) (h4 : σ.1 6 < 4) :
    MC l G yX5_addRiver (wY yX5_addRiver cX5_addRiver 4 (some .int)) r_X5_addRiver (wC G q σ κ) [.ref (q 0), .int (zI e_sr), .int (zI e_tg)] (QI G (fun r9 (_ : Unit) => r9 = (zI ((σ.1 6 : Nat) : Int))) (fun _ => wC G q (addV σ (zI ((sr : Nat) : Int)) tg) κ)) := by
  subst he_sr
  subst he_tg
  refine MC.mk (by decide +kernel) (Nat.le_of_ble_eq_true rfl) ?_
  intro p e s m av below meth c A H locs ls Q Z hr hnm hQ hP hD hS hl
  have hx := Z.1
  have hb := Z.2.1
  have hown := Z.2.2.2.1
  have hW := Z.2.2.2.2.1
  have hl : lv_has ls 4 [(0, .ref (q 0)), (1, .int (zI ((sr : Nat) : Int))), (2, .int (zI (((tg : Nat) : Int) - (1 : Int))))] := hl
  obtain ⟨hn, hru, hrv, hdv, hsr, hmn, ht1, ht2, hwn, hv1, hv2, hmj, htm, hse, htg, hrt, hac, hk1, hk2, hkd, hmm, hmv, hord, hpo, hlo⟩ := id hI
  refine lv_iload_n hx hb dX5_addRiver_0 rfl (lv_at hl 1 rfl) ?_
  refine zr_iconst hx hb dX5_addRiver_1 ?_
  refine zc_lt (tgt := 18) hx hb ((sr : Nat) : Int) (1 : Int) (zI_toInt (by omega)) (zI_toInt (by decide)) dX5_addRiver_2 (by decide) (fun c2 => by exfalso; omega) (fun c2 => ?_)
  refine lv_iload_n hx hb dX5_addRiver_5 rfl (lv_at hl 1 rfl) ?_
  refine zr_bipush hx hb dX5_addRiver_6 (by decide) ?_
  refine zc_gt (tgt := 18) hx hb ((sr : Nat) : Int) (63 : Int) (zI_toInt (by omega)) (zI_toInt (by decide)) dX5_addRiver_8 (by decide) (fun c8 => by exfalso; omega) (fun c8 => ?_)
  refine lv_iload_n hx hb dX5_addRiver_11 rfl (lv_at hl 2 rfl) ?_
  refine zdet_I ⟨rfl, rfl⟩ Z hD hS (zrunS (rest := []) Z hP hD hS hl.1 (m_X5_isTagOrNone l G (wC G q σ κ) (((tg : Nat) : Int) - (1 : Int)) (by omega)) zY_X5_isTagOrNone km_X5_176 rfl rfl ⟨⟨Nat.le_of_ble_eq_true rfl, Nat.le_of_ble_eq_true rfl⟩, Nat.le_of_ble_eq_true rfl, Nat.le_of_ble_eq_true rfl⟩ (Nat.le_of_ble_eq_true rfl) dX5_addRiver_12) (fun H locs hP hD hS => ?_)
  refine zb_ne (tgt := 28) hx hb dX5_addRiver_15 (by decide) (fun c15 => ?_) (fun c15 => by exfalso; have := of_decide_eq_false c15; omega)
  refine lv_aload_n hx hb dX5_addRiver_28 rfl (lv_at hl 0 rfl) ?_
  refine gC_0_6 Z hP kf_X5_39 dX5_addRiver_29 ?_
  refine lv_iload_n hx hb dX5_addRiver_32 rfl (lv_at hl 1 rfl) ?_
  refine lv_iload_n hx hb dX5_addRiver_33 rfl (lv_at hl 2 rfl) ?_
  refine zdet_I ⟨rfl, rfl⟩ Z hD hS (zrunV (rest := []) Z hP hD hS hl.1 (m_X3_append l G q σ κ (zI ((sr : Nat) : Int)) (tg) rfl h4) zY_X3_append km_X5_209 (q0 := 3) rfl rfl rfl rfl ⟨⟨Nat.le_of_ble_eq_true rfl, Nat.le_of_ble_eq_true rfl⟩, Nat.le_of_ble_eq_true rfl, Nat.le_of_ble_eq_true rfl⟩ (Nat.le_of_ble_eq_true rfl) dX5_addRiver_34) (fun H locs hP hD hS => ?_)
  refine lv_istore_n (lv' := [(3, .int (zI ((σ.1 6 : Nat) : Int))), (0, .ref (q 0)), (1, .int (zI ((sr : Nat) : Int))), (2, .int (zI (((tg : Nat) : Int) - (1 : Int))))]) hx hb dX5_addRiver_37 rfl hl (by decide) rfl (fun ls hl => ?_)
  refine lv_iload_n hx hb dX5_addRiver_38 rfl (lv_at hl 0 rfl) ?_
  refine zr_iconst hx hb dX5_addRiver_39 ?_
  refine zc_ne (tgt := 53) hx hb ((σ.1 6 : Nat) : Int) (-1 : Int) (zI_toInt (by omega)) (zI_toInt (by decide)) dX5_addRiver_40 (by decide) (fun c40 => ?_) (fun c40 => by exfalso; omega)
  refine lv_iload_n hx hb dX5_addRiver_53 rfl (lv_at hl 0 rfl) ?_
  exact zret_I () Z hr hP hD hS rfl rfl ⟨Nat.le_refl _, Nat.le_refl _⟩ hQ dX5_addRiver_54
abbrev r_X5_addRiver_x1 : Room := { frames := 6, cells := 1, slots := 6, locals := 100 }
set_option maxHeartbeats 4000000 in
set_option maxRecDepth 100000 in
theorem m_X5_addRiver_x1 (l : Launch) (G : ZG) (hst : l.stackTraces = false) (q : Nat → Nat) (σ : St) (κ : KC) (sr : Int) (tg : Int) (hI : okC σ) (h7 : zR sr ∧ zR tg) (h1 : ¬ (1 ≤ sr ∧ sr ≤ 63 ∧ (-1 ≤ tg ∧ tg ≤ 7))) :
    MX l G yX5_addRiver (wY yX5_addRiver cX5_addRiver 4 (some .int)) r_X5_addRiver_x1 (wC G q σ κ) [.ref (q 0), .int (zI (sr : Int)), .int (zI (tg : Int))] (S := Unit) "java/lang/IllegalArgumentException" (fun _ => wC G q σ κ) := by
  refine MX.mk (by decide +kernel) (Nat.le_of_ble_eq_true rfl) ?_
  intro p e s m av below meth c A H locs ls Q Z ht hQ hP hD hS hl
  have hx := Z.1
  have hb := Z.2.1
  have hown := Z.2.2.2.1
  have hW := Z.2.2.2.2.1
  have hl : lv_has ls 4 [(0, .ref (q 0)), (1, .int (zI (sr : Int))), (2, .int (zI (tg : Int)))] := hl
  obtain ⟨hn, hru, hrv, hdv, hsr, hmn, ht1, ht2, hwn, hv1, hv2, hmj, htm, hse, htg, hrt, hac, hk1, hk2, hkd, hmm, hmv, hord, hpo, hlo⟩ := id hI
  refine lv_iload_n hx hb dX5_addRiver_0 rfl (lv_at hl 1 rfl) ?_
  refine zr_iconst hx hb dX5_addRiver_1 ?_
  refine zc_lt (tgt := 18) hx hb (sr : Int) (1 : Int) (zI_toInt (by omega)) (zI_toInt (by decide)) dX5_addRiver_2 (by decide) (fun c2 => ?_) (fun c2 => ?_)
  · skip
    exact th_IAE (()) "the set of sources or the tag is out of range" hst Z ht hP hD hS hl.1 rfl (by decide +kernel) ⟨Nat.le_of_ble_eq_true rfl, Nat.le_of_ble_eq_true rfl, Nat.le_of_ble_eq_true rfl, Nat.le_of_ble_eq_true rfl⟩ hQ dX5_addRiver_18 dX5_addRiver_21 dX5_addRiver_22 dX5_addRiver_24 dX5_addRiver_27
  · skip
    refine lv_iload_n hx hb dX5_addRiver_5 rfl (lv_at hl 1 rfl) ?_
    refine zr_bipush hx hb dX5_addRiver_6 (by decide) ?_
    refine zc_gt (tgt := 18) hx hb (sr : Int) (63 : Int) (zI_toInt (by omega)) (zI_toInt (by decide)) dX5_addRiver_8 (by decide) (fun c8 => ?_) (fun c8 => ?_)
    · skip
      exact th_IAE (()) "the set of sources or the tag is out of range" hst Z ht hP hD hS hl.1 rfl (by decide +kernel) ⟨Nat.le_of_ble_eq_true rfl, Nat.le_of_ble_eq_true rfl, Nat.le_of_ble_eq_true rfl, Nat.le_of_ble_eq_true rfl⟩ hQ dX5_addRiver_18 dX5_addRiver_21 dX5_addRiver_22 dX5_addRiver_24 dX5_addRiver_27
    · skip
      refine lv_iload_n hx hb dX5_addRiver_11 rfl (lv_at hl 2 rfl) ?_
      refine zdet_I ⟨rfl, rfl⟩ Z hD hS (zrunS (rest := []) Z hP hD hS hl.1 (m_X5_isTagOrNone l G (wC G q σ κ) (tg : Int) h7.2) zY_X5_isTagOrNone km_X5_176 rfl rfl ⟨⟨Nat.le_of_ble_eq_true rfl, Nat.le_of_ble_eq_true rfl⟩, Nat.le_of_ble_eq_true rfl, Nat.le_of_ble_eq_true rfl⟩ (Nat.le_of_ble_eq_true rfl) dX5_addRiver_12) (fun H locs hP hD hS => ?_)
      refine zb_ne (tgt := 28) hx hb dX5_addRiver_15 (by decide) (fun c15 => by exfalso; have := of_decide_eq_true c15; omega) (fun c15 => ?_)
      exact th_IAE (()) "the set of sources or the tag is out of range" hst Z ht hP hD hS hl.1 rfl (by decide +kernel) ⟨Nat.le_of_ble_eq_true rfl, Nat.le_of_ble_eq_true rfl, Nat.le_of_ble_eq_true rfl, Nat.le_of_ble_eq_true rfl⟩ hQ dX5_addRiver_18 dX5_addRiver_21 dX5_addRiver_22 dX5_addRiver_24 dX5_addRiver_27
abbrev r_X5_addRiver_x2 : Room := { frames := 6, cells := 1, slots := 6, locals := 100 }
set_option maxHeartbeats 4000000 in
set_option maxRecDepth 100000 in
theorem m_X5_addRiver_x2 (l : Launch) (G : ZG) (hst : l.stackTraces = false) (q : Nat → Nat) (σ : St) (κ : KC) {e_sr : Int} (sr : Nat) (he_sr : e_sr = (sr : Int)) {e_tg : Int} (tg : Nat) (he_tg : e_tg = (tg : Int) - 1) (hI : okC σ) (h0 : 1 ≤ sr) (h1 : sr ≤ 63) (h2 : tg ≤ 8) (h4 : σ.1 6 = 4) :
    MX l G yX5_addRiver (wY yX5_addRiver cX5_addRiver 4 (some .int)) r_X5_addRiver_x2 (wC G q σ κ) [.ref (q 0), .int (zI e_sr), .int (zI e_tg)] (S := Unit) "java/lang/IllegalStateException" (fun _ => wC G q σ κ) := by
  subst he_sr
  subst he_tg
  refine MX.mk (by decide +kernel) (Nat.le_of_ble_eq_true rfl) ?_
  intro p e s m av below meth c A H locs ls Q Z ht hQ hP hD hS hl
  have hx := Z.1
  have hb := Z.2.1
  have hown := Z.2.2.2.1
  have hW := Z.2.2.2.2.1
  have hl : lv_has ls 4 [(0, .ref (q 0)), (1, .int (zI ((sr : Nat) : Int))), (2, .int (zI (((tg : Nat) : Int) - (1 : Int))))] := hl
  obtain ⟨hn, hru, hrv, hdv, hsr, hmn, ht1, ht2, hwn, hv1, hv2, hmj, htm, hse, htg, hrt, hac, hk1, hk2, hkd, hmm, hmv, hord, hpo, hlo⟩ := id hI
  refine lv_iload_n hx hb dX5_addRiver_0 rfl (lv_at hl 1 rfl) ?_
  refine zr_iconst hx hb dX5_addRiver_1 ?_
  refine zc_lt (tgt := 18) hx hb ((sr : Nat) : Int) (1 : Int) (zI_toInt (by omega)) (zI_toInt (by decide)) dX5_addRiver_2 (by decide) (fun c2 => by exfalso; omega) (fun c2 => ?_)
  refine lv_iload_n hx hb dX5_addRiver_5 rfl (lv_at hl 1 rfl) ?_
  refine zr_bipush hx hb dX5_addRiver_6 (by decide) ?_
  refine zc_gt (tgt := 18) hx hb ((sr : Nat) : Int) (63 : Int) (zI_toInt (by omega)) (zI_toInt (by decide)) dX5_addRiver_8 (by decide) (fun c8 => by exfalso; omega) (fun c8 => ?_)
  refine lv_iload_n hx hb dX5_addRiver_11 rfl (lv_at hl 2 rfl) ?_
  refine zdet_I ⟨rfl, rfl⟩ Z hD hS (zrunS (rest := []) Z hP hD hS hl.1 (m_X5_isTagOrNone l G (wC G q σ κ) (((tg : Nat) : Int) - (1 : Int)) (by omega)) zY_X5_isTagOrNone km_X5_176 rfl rfl ⟨⟨Nat.le_of_ble_eq_true rfl, Nat.le_of_ble_eq_true rfl⟩, Nat.le_of_ble_eq_true rfl, Nat.le_of_ble_eq_true rfl⟩ (Nat.le_of_ble_eq_true rfl) dX5_addRiver_12) (fun H locs hP hD hS => ?_)
  refine zb_ne (tgt := 28) hx hb dX5_addRiver_15 (by decide) (fun c15 => ?_) (fun c15 => by exfalso; have := of_decide_eq_false c15; omega)
  refine lv_aload_n hx hb dX5_addRiver_28 rfl (lv_at hl 0 rfl) ?_
  refine gC_0_6 Z hP kf_X5_39 dX5_addRiver_29 ?_
  refine lv_iload_n hx hb dX5_addRiver_32 rfl (lv_at hl 1 rfl) ?_
  refine lv_iload_n hx hb dX5_addRiver_33 rfl (lv_at hl 2 rfl) ?_
  refine zdet_I ⟨rfl, rfl⟩ Z hD hS (zrunV (rest := []) Z hP hD hS hl.1 (m_X3_append_full l G q σ κ (zI ((sr : Nat) : Int)) (((tg : Nat) : Int) - (1 : Int)) h4) zY_X3_append km_X5_209 (q0 := 3) rfl rfl rfl rfl ⟨⟨Nat.le_of_ble_eq_true rfl, Nat.le_of_ble_eq_true rfl⟩, Nat.le_of_ble_eq_true rfl, Nat.le_of_ble_eq_true rfl⟩ (Nat.le_of_ble_eq_true rfl) dX5_addRiver_34) (fun H locs hP hD hS => ?_)
  refine lv_istore_n (lv' := [(3, .int (zI (-1 : Int))), (0, .ref (q 0)), (1, .int (zI ((sr : Nat) : Int))), (2, .int (zI (((tg : Nat) : Int) - (1 : Int))))]) hx hb dX5_addRiver_37 rfl hl (by decide) rfl (fun ls hl => ?_)
  refine lv_iload_n hx hb dX5_addRiver_38 rfl (lv_at hl 0 rfl) ?_
  refine zr_iconst hx hb dX5_addRiver_39 ?_
  refine zc_ne (tgt := 53) hx hb (-1 : Int) (-1 : Int) (zI_toInt (by decide)) (zI_toInt (by decide)) dX5_addRiver_40 (by decide) (fun c40 => by exfalso; omega) (fun c40 => ?_)
  exact th_ISE (()) "there are 4 rivers" hst Z ht hP hD hS hl.1 rfl (by decide +kernel) ⟨Nat.le_of_ble_eq_true rfl, Nat.le_of_ble_eq_true rfl, Nat.le_of_ble_eq_true rfl, Nat.le_of_ble_eq_true rfl⟩ hQ dX5_addRiver_43 dX5_addRiver_46 dX5_addRiver_47 dX5_addRiver_49 dX5_addRiver_52
abbrev r_X5_riverSize : Room := { frames := 6, cells := 0, slots := 0, locals := 133 }
set_option maxHeartbeats 4000000 in
set_option maxRecDepth 100000 in
theorem m_X5_riverSize (l : Launch) (G : ZG) (q : Nat → Nat) (σ : St) (κ : KC) {e_i : Int} (i : Nat) (he_i : e_i = (i : Int)) (hI : okC σ) (h1 : i < σ.1 6) :
    MC l G yX5_riverSize (wY yX5_riverSize cX5_riverSize 2 (some .int)) r_X5_riverSize (wC G q σ κ) [.ref (q 0), .int (zI e_i)] (QI G (fun r9 (_ : Unit) => r9 = (zI (((gth (shw σ i) (σ.2.1 10) (κ.1) (σ.1 4)).1 : Nat) : Int))) (fun _ => wC G q σ ((gth (shw σ i) (σ.2.1 10) (κ.1) (σ.1 4)).2, κ.2.1, κ.2.2))) := by
  subst he_i
  refine MC.mk (by decide +kernel) (Nat.le_of_ble_eq_true rfl) ?_
  intro p e s m av below meth c A H locs ls Q Z hr hnm hQ hP hD hS hl
  have hx := Z.1
  have hb := Z.2.1
  have hown := Z.2.2.2.1
  have hW := Z.2.2.2.2.1
  have hl : lv_has ls 2 [(0, .ref (q 0)), (1, .int (zI ((i : Nat) : Int)))] := hl
  obtain ⟨hn, hru, hrv, hdv, hsr, hmn, ht1, ht2, hwn, hv1, hv2, hmj, htm, hse, htg, hrt, hac, hk1, hk2, hkd, hmm, hmv, hord, hpo, hlo⟩ := id hI
  refine lv_aload_n hx hb dX5_riverSize_0 rfl (lv_at hl 0 rfl) ?_
  refine lv_iload_n hx hb dX5_riverSize_1 rfl (lv_at hl 1 rfl) ?_
  refine zdet_V ⟨rfl, rfl⟩ Z hD hS (zrunV (rest := []) Z hP hD hS hl.1 (m_X5_requireRiver l G q σ κ (i) rfl (by omega) (by omega)) zY_X5_requireRiver km_X5_213 (q0 := 0) rfl rfl rfl rfl ⟨⟨Nat.le_of_ble_eq_true rfl, Nat.le_of_ble_eq_true rfl⟩, Nat.le_of_ble_eq_true rfl, Nat.le_of_ble_eq_true rfl⟩ (Nat.le_of_ble_eq_true rfl) dX5_riverSize_2) (fun H locs hP hD hS => ?_)
  refine lv_aload_n hx hb dX5_riverSize_5 rfl (lv_at hl 0 rfl) ?_
  refine lv_iload_n hx hb dX5_riverSize_6 rfl (lv_at hl 1 rfl) ?_
  refine lv_aload_n hx hb dX5_riverSize_7 rfl (lv_at hl 0 rfl) ?_
  refine gC_0_4 Z hP kf_X5_25 dX5_riverSize_8 ?_
  refine zfin_R ⟨rfl, rfl⟩ Z hD hS (zrunV (rest := [.int (zI ((i : Nat) : Int)), .ref (q 0)]) Z hP hD hS hl.1 (m_X1_keptOrder l G q σ κ) zY_X1_keptOrder km_X5_216 (q0 := 1) rfl rfl rfl rfl ⟨⟨Nat.le_of_ble_eq_true rfl, Nat.le_of_ble_eq_true rfl⟩, Nat.le_of_ble_eq_true rfl, Nat.le_of_ble_eq_true rfl⟩ (Nat.le_of_ble_eq_true rfl) dX5_riverSize_11) (fun u H locs hp hP hD hS => ?_)
  refine lv_aload_n hx hb dX5_riverSize_14 rfl (lv_at hl 0 rfl) ?_
  refine gC_0_9 Z hP kf_X5_57 dX5_riverSize_15 ?_
  refine zdet_I ⟨rfl, rfl⟩ Z hD hS (zrunV (rest := []) Z hP hD hS hl.1 (m_X5_gather_kk l G q σ κ (i) rfl hI (by omega)) zY_X5_gather km_X5_220 (q0 := 0) rfl rfl rfl rfl ⟨⟨Nat.le_of_ble_eq_true rfl, Nat.le_of_ble_eq_true rfl⟩, Nat.le_of_ble_eq_true rfl, Nat.le_of_ble_eq_true rfl⟩ (Nat.le_of_ble_eq_true rfl) dX5_riverSize_18) (fun H locs hP hD hS => ?_)
  exact zret_I () Z hr hP hD hS rfl rfl ⟨Nat.le_refl _, Nat.le_refl _⟩ hQ dX5_riverSize_21
abbrev r_X5_riverSize_x : Room := { frames := 7, cells := 1, slots := 6, locals := 121 }
set_option maxHeartbeats 4000000 in
set_option maxRecDepth 100000 in
theorem m_X5_riverSize_x (l : Launch) (G : ZG) (hst : l.stackTraces = false) (q : Nat → Nat) (σ : St) (κ : KC) (i : Int) (hI : okC σ) (h1 : zR i) (h2 : i < 0 ∨ ((σ.1 6 : Nat) : Int) ≤ i) :
    MX l G yX5_riverSize (wY yX5_riverSize cX5_riverSize 2 (some .int)) r_X5_riverSize_x (wC G q σ κ) [.ref (q 0), .int (zI (i : Int))] (S := Unit) "java/lang/IndexOutOfBoundsException" (fun _ => wC G q σ κ) := by
  refine MX.mk (by decide +kernel) (Nat.le_of_ble_eq_true rfl) ?_
  intro p e s m av below meth c A H locs ls Q Z ht hQ hP hD hS hl
  have hx := Z.1
  have hb := Z.2.1
  have hown := Z.2.2.2.1
  have hW := Z.2.2.2.2.1
  have hl : lv_has ls 2 [(0, .ref (q 0)), (1, .int (zI (i : Int)))] := hl
  obtain ⟨hn, hru, hrv, hdv, hsr, hmn, ht1, ht2, hwn, hv1, hv2, hmj, htm, hse, htg, hrt, hac, hk1, hk2, hkd, hmm, hmv, hord, hpo, hlo⟩ := id hI
  refine lv_aload_n hx hb dX5_riverSize_0 rfl (lv_at hl 0 rfl) ?_
  refine lv_iload_n hx hb dX5_riverSize_1 rfl (lv_at hl 1 rfl) ?_
  exact zxout (fun u => ()) (fun _ => rfl) Z ht hD hS (zrunXV (rest := []) Z hP hD hS hl.1 (m_X5_requireRiver_x l G hst q σ κ (i : Int) (by omega) (by omega) (by omega)) zY_X5_requireRiver km_X5_213 (q0 := 0) rfl rfl rfl rfl ⟨⟨Nat.le_of_ble_eq_true rfl, Nat.le_of_ble_eq_true rfl⟩, Nat.le_of_ble_eq_true rfl, Nat.le_of_ble_eq_true rfl⟩ (Nat.le_of_ble_eq_true rfl) dX5_riverSize_2) ⟨Nat.le_refl _, Nat.le_refl _⟩ hQ
abbrev r_X5_riverAt : Room := { frames := 7, cells := 0, slots := 0, locals := 157 }
set_option maxHeartbeats 4000000 in
set_option maxRecDepth 100000 in
theorem m_X5_riverAt (l : Launch) (G : ZG) (q : Nat → Nat) (σ : St) (κ : KC) {e_i : Int} (i : Nat) (he_i : e_i = (i : Int)) {e_rk : Int} (rk : Nat) (he_rk : e_rk = (rk : Int)) (hI : okC σ) (h1 : i < σ.1 6) (h2 : rk < (gth (shw σ i) (σ.2.1 10) (κ.1) (σ.1 4)).1) :
    MC l G yX5_riverAt (wY yX5_riverAt cX5_riverAt 3 (some .int)) r_X5_riverAt (wC G q σ κ) [.ref (q 0), .int (zI e_i), .int (zI e_rk)] (QI G (fun r9 (_ : Unit) => r9 = (zI (((gth (shw σ i) (σ.2.1 10) (κ.1) (σ.1 4)).2 rk : Nat) : Int))) (fun _ => wC G q σ ((gth (shw σ i) (σ.2.1 10) (κ.1) (σ.1 4)).2, κ.2.1, κ.2.2))) := by
  subst he_i
  subst he_rk
  refine MC.mk (by decide +kernel) (Nat.le_of_ble_eq_true rfl) ?_
  intro p e s m av below meth c A H locs ls Q Z hr hnm hQ hP hD hS hl
  have hx := Z.1
  have hb := Z.2.1
  have hown := Z.2.2.2.1
  have hW := Z.2.2.2.2.1
  have hl : lv_has ls 3 [(0, .ref (q 0)), (1, .int (zI ((i : Nat) : Int))), (2, .int (zI ((rk : Nat) : Int)))] := hl
  obtain ⟨hn, hru, hrv, hdv, hsr, hmn, ht1, ht2, hwn, hv1, hv2, hmj, htm, hse, htg, hrt, hac, hk1, hk2, hkd, hmm, hmv, hord, hpo, hlo⟩ := id hI
  refine lv_aload_n hx hb dX5_riverAt_0 rfl (lv_at hl 0 rfl) ?_
  refine lv_iload_n hx hb dX5_riverAt_1 rfl (lv_at hl 1 rfl) ?_
  refine zdet_V ⟨rfl, rfl⟩ Z hD hS (zrunV (rest := []) Z hP hD hS hl.1 (m_X5_requireRiver l G q σ κ (i) rfl (by omega) (by omega)) zY_X5_requireRiver km_X5_213 (q0 := 0) rfl rfl rfl rfl ⟨⟨Nat.le_of_ble_eq_true rfl, Nat.le_of_ble_eq_true rfl⟩, Nat.le_of_ble_eq_true rfl, Nat.le_of_ble_eq_true rfl⟩ (Nat.le_of_ble_eq_true rfl) dX5_riverAt_2) (fun H locs hP hD hS => ?_)
  refine lv_aload_n hx hb dX5_riverAt_5 rfl (lv_at hl 0 rfl) ?_
  refine lv_iload_n hx hb dX5_riverAt_6 rfl (lv_at hl 1 rfl) ?_
  refine lv_iload_n hx hb dX5_riverAt_7 rfl (lv_at hl 2 rfl) ?_
  refine lv_aload_n hx hb dX5_riverAt_8 rfl (lv_at hl 0 rfl) ?_
  refine gC_0_4 Z hP kf_X5_25 dX5_riverAt_9 ?_
  refine zfin_R ⟨rfl, rfl⟩ Z hD hS (zrunV (rest := [.int (zI ((rk : Nat) : Int)), .int (zI ((i : Nat) : Int)), .ref (q 0)]) Z hP hD hS hl.1 (m_X1_keptOrder l G q σ κ) zY_X1_keptOrder km_X5_216 (q0 := 1) rfl rfl rfl rfl ⟨⟨Nat.le_of_ble_eq_true rfl, Nat.le_of_ble_eq_true rfl⟩, Nat.le_of_ble_eq_true rfl, Nat.le_of_ble_eq_true rfl⟩ (Nat.le_of_ble_eq_true rfl) dX5_riverAt_12) (fun u H locs hp hP hD hS => ?_)
  refine zdet_I ⟨rfl, rfl⟩ Z hD hS (zrunV (rest := []) Z hP hD hS hl.1 (m_X5_shownAt_k l G q σ κ (i) rfl (rk) rfl hI (by omega) h2) zY_X5_shownAt km_X5_224 (q0 := 0) rfl rfl rfl rfl ⟨⟨Nat.le_of_ble_eq_true rfl, Nat.le_of_ble_eq_true rfl⟩, Nat.le_of_ble_eq_true rfl, Nat.le_of_ble_eq_true rfl⟩ (Nat.le_of_ble_eq_true rfl) dX5_riverAt_15) (fun H locs hP hD hS => ?_)
  exact zret_I () Z hr hP hD hS rfl rfl ⟨Nat.le_refl _, Nat.le_refl _⟩ hQ dX5_riverAt_18
abbrev r_X5_riverAt_x1 : Room := { frames := 7, cells := 1, slots := 6, locals := 121 }
set_option maxHeartbeats 4000000 in
set_option maxRecDepth 100000 in
theorem m_X5_riverAt_x1 (l : Launch) (G : ZG) (hst : l.stackTraces = false) (q : Nat → Nat) (σ : St) (κ : KC) (i : Int) (rk : Int) (hI : okC σ) (h1 : zR i) (h2 : i < 0 ∨ ((σ.1 6 : Nat) : Int) ≤ i) :
    MX l G yX5_riverAt (wY yX5_riverAt cX5_riverAt 3 (some .int)) r_X5_riverAt_x1 (wC G q σ κ) [.ref (q 0), .int (zI (i : Int)), .int (zI (rk : Int))] (S := KC) "java/lang/IndexOutOfBoundsException" (fun u => wC G q σ u) := by
  refine MX.mk (by decide +kernel) (Nat.le_of_ble_eq_true rfl) ?_
  intro p e s m av below meth c A H locs ls Q Z ht hQ hP hD hS hl
  have hx := Z.1
  have hb := Z.2.1
  have hown := Z.2.2.2.1
  have hW := Z.2.2.2.2.1
  have hl : lv_has ls 3 [(0, .ref (q 0)), (1, .int (zI (i : Int))), (2, .int (zI (rk : Int)))] := hl
  obtain ⟨hn, hru, hrv, hdv, hsr, hmn, ht1, ht2, hwn, hv1, hv2, hmj, htm, hse, htg, hrt, hac, hk1, hk2, hkd, hmm, hmv, hord, hpo, hlo⟩ := id hI
  refine lv_aload_n hx hb dX5_riverAt_0 rfl (lv_at hl 0 rfl) ?_
  refine lv_iload_n hx hb dX5_riverAt_1 rfl (lv_at hl 1 rfl) ?_
  exact zxout (fun _ => κ) (fun _ => rfl) Z ht hD hS (zrunXV (rest := []) Z hP hD hS hl.1 (m_X5_requireRiver_x l G hst q σ κ (i : Int) (by omega) (by omega) (by omega)) zY_X5_requireRiver km_X5_213 (q0 := 0) rfl rfl rfl rfl ⟨⟨Nat.le_of_ble_eq_true rfl, Nat.le_of_ble_eq_true rfl⟩, Nat.le_of_ble_eq_true rfl, Nat.le_of_ble_eq_true rfl⟩ (Nat.le_of_ble_eq_true rfl) dX5_riverAt_2) ⟨Nat.le_refl _, Nat.le_refl _⟩ hQ
abbrev r_X5_riverAt_x2 : Room := { frames := 7, cells := 1, slots := 6, locals := 157 }
set_option maxHeartbeats 4000000 in
set_option maxRecDepth 100000 in
theorem m_X5_riverAt_x2 (l : Launch) (G : ZG) (hst : l.stackTraces = false) (q : Nat → Nat) (σ : St) (κ : KC) {e_i : Int} (i : Nat) (he_i : e_i = (i : Int)) (rk : Int) (hI : okC σ) (h1 : i < σ.1 6) (h3 : zR rk) (h4 : rk < 0 ∨ (((gth (shw σ i) (σ.2.1 10) (κ.1) (σ.1 4)).1 : Nat) : Int) ≤ rk) :
    MX l G yX5_riverAt (wY yX5_riverAt cX5_riverAt 3 (some .int)) r_X5_riverAt_x2 (wC G q σ κ) [.ref (q 0), .int (zI e_i), .int (zI (rk : Int))] (S := KC) "java/util/NoSuchElementException" (fun u => wC G q σ u) := by
  subst he_i
  refine MX.mk (by decide +kernel) (Nat.le_of_ble_eq_true rfl) ?_
  intro p e s m av below meth c A H locs ls Q Z ht hQ hP hD hS hl
  have hx := Z.1
  have hb := Z.2.1
  have hown := Z.2.2.2.1
  have hW := Z.2.2.2.2.1
  have hl : lv_has ls 3 [(0, .ref (q 0)), (1, .int (zI ((i : Nat) : Int))), (2, .int (zI (rk : Int)))] := hl
  obtain ⟨hn, hru, hrv, hdv, hsr, hmn, ht1, ht2, hwn, hv1, hv2, hmj, htm, hse, htg, hrt, hac, hk1, hk2, hkd, hmm, hmv, hord, hpo, hlo⟩ := id hI
  refine lv_aload_n hx hb dX5_riverAt_0 rfl (lv_at hl 0 rfl) ?_
  refine lv_iload_n hx hb dX5_riverAt_1 rfl (lv_at hl 1 rfl) ?_
  refine zdet_V ⟨rfl, rfl⟩ Z hD hS (zrunV (rest := []) Z hP hD hS hl.1 (m_X5_requireRiver l G q σ κ (i) rfl (by omega) (by omega)) zY_X5_requireRiver km_X5_213 (q0 := 0) rfl rfl rfl rfl ⟨⟨Nat.le_of_ble_eq_true rfl, Nat.le_of_ble_eq_true rfl⟩, Nat.le_of_ble_eq_true rfl, Nat.le_of_ble_eq_true rfl⟩ (Nat.le_of_ble_eq_true rfl) dX5_riverAt_2) (fun H locs hP hD hS => ?_)
  refine lv_aload_n hx hb dX5_riverAt_5 rfl (lv_at hl 0 rfl) ?_
  refine lv_iload_n hx hb dX5_riverAt_6 rfl (lv_at hl 1 rfl) ?_
  refine lv_iload_n hx hb dX5_riverAt_7 rfl (lv_at hl 2 rfl) ?_
  refine lv_aload_n hx hb dX5_riverAt_8 rfl (lv_at hl 0 rfl) ?_
  refine gC_0_4 Z hP kf_X5_25 dX5_riverAt_9 ?_
  refine zfin_R ⟨rfl, rfl⟩ Z hD hS (zrunV (rest := [.int (zI (rk : Int)), .int (zI ((i : Nat) : Int)), .ref (q 0)]) Z hP hD hS hl.1 (m_X1_keptOrder l G q σ κ) zY_X1_keptOrder km_X5_216 (q0 := 1) rfl rfl rfl rfl ⟨⟨Nat.le_of_ble_eq_true rfl, Nat.le_of_ble_eq_true rfl⟩, Nat.le_of_ble_eq_true rfl, Nat.le_of_ble_eq_true rfl⟩ (Nat.le_of_ble_eq_true rfl) dX5_riverAt_12) (fun u H locs hp hP hD hS => ?_)
  exact zxout (fun u => u) (fun _ => rfl) Z ht hD hS (zrunXV (rest := []) Z hP hD hS hl.1 (m_X5_shownAt_k_x l G hst q σ κ (i) rfl (rk : Int) hI (by omega) h3 h4) zY_X5_shownAt km_X5_224 (q0 := 0) rfl rfl rfl rfl ⟨⟨Nat.le_of_ble_eq_true rfl, Nat.le_of_ble_eq_true rfl⟩, Nat.le_of_ble_eq_true rfl, Nat.le_of_ble_eq_true rfl⟩ (Nat.le_of_ble_eq_true rfl) dX5_riverAt_15) ⟨Nat.le_refl _, Nat.le_refl _⟩ hQ
abbrev r_X5_riverAtAnew : Room := { frames := 7, cells := 0, slots := 0, locals := 157 }
set_option maxHeartbeats 4000000 in
set_option maxRecDepth 100000 in
theorem m_X5_riverAtAnew (l : Launch) (G : ZG) (q : Nat → Nat) (σ : St) (κ : KC) {e_i : Int} (i : Nat) (he_i : e_i = (i : Int)) {e_rk : Int} (rk : Nat) (he_rk : e_rk = (rk : Int)) (hI : okC σ) (h1 : i < σ.1 6) (h2 : rk < (gth (shw σ i) (anw1 (isAh σ) (σ.1 4) (κ.2.2) (σ.1 4)) (κ.1) (σ.1 4)).1) :
    MC l G yX5_riverAtAnew (wY yX5_riverAtAnew cX5_riverAtAnew 3 (some .int)) r_X5_riverAtAnew (wC G q σ κ) [.ref (q 0), .int (zI e_i), .int (zI e_rk)] (QI G (fun r9 (_ : Unit) => r9 = (zI (((gth (shw σ i) (anw1 (isAh σ) (σ.1 4) (κ.2.2) (σ.1 4)) (κ.1) (σ.1 4)).2 rk : Nat) : Int))) (fun _ => wC G q σ ((gth (shw σ i) (anw1 (isAh σ) (σ.1 4) (κ.2.2) (σ.1 4)) (κ.1) (σ.1 4)).2, κ.2.1, anw1 (isAh σ) (σ.1 4) (κ.2.2) (σ.1 4)))) := by
  subst he_i
  subst he_rk
  refine MC.mk (by decide +kernel) (Nat.le_of_ble_eq_true rfl) ?_
  intro p e s m av below meth c A H locs ls Q Z hr hnm hQ hP hD hS hl
  have hx := Z.1
  have hb := Z.2.1
  have hown := Z.2.2.2.1
  have hW := Z.2.2.2.2.1
  have hl : lv_has ls 3 [(0, .ref (q 0)), (1, .int (zI ((i : Nat) : Int))), (2, .int (zI ((rk : Nat) : Int)))] := hl
  obtain ⟨hn, hru, hrv, hdv, hsr, hmn, ht1, ht2, hwn, hv1, hv2, hmj, htm, hse, htg, hrt, hac, hk1, hk2, hkd, hmm, hmv, hord, hpo, hlo⟩ := id hI
  have hw9 := anw1_lt (isAh σ) (σ.1 4) κ.2.2 (σ.1 4) (Nat.le_refl _)
  refine lv_aload_n hx hb dX5_riverAtAnew_0 rfl (lv_at hl 0 rfl) ?_
  refine lv_iload_n hx hb dX5_riverAtAnew_1 rfl (lv_at hl 1 rfl) ?_
  refine zdet_V ⟨rfl, rfl⟩ Z hD hS (zrunV (rest := []) Z hP hD hS hl.1 (m_X5_requireRiver l G q σ κ (i) rfl (by omega) (by omega)) zY_X5_requireRiver km_X5_213 (q0 := 0) rfl rfl rfl rfl ⟨⟨Nat.le_of_ble_eq_true rfl, Nat.le_of_ble_eq_true rfl⟩, Nat.le_of_ble_eq_true rfl, Nat.le_of_ble_eq_true rfl⟩ (Nat.le_of_ble_eq_true rfl) dX5_riverAtAnew_2) (fun H locs hP hD hS => ?_)
  refine lv_aload_n hx hb dX5_riverAtAnew_5 rfl (lv_at hl 0 rfl) ?_
  refine lv_iload_n hx hb dX5_riverAtAnew_6 rfl (lv_at hl 1 rfl) ?_
  refine lv_iload_n hx hb dX5_riverAtAnew_7 rfl (lv_at hl 2 rfl) ?_
  refine lv_aload_n hx hb dX5_riverAtAnew_8 rfl (lv_at hl 0 rfl) ?_
  refine gC_0_4 Z hP kf_X5_25 dX5_riverAtAnew_9 ?_
  refine zfin_R ⟨rfl, rfl⟩ Z hD hS (zrunV (rest := [.int (zI ((rk : Nat) : Int)), .int (zI ((i : Nat) : Int)), .ref (q 0)]) Z hP hD hS hl.1 (m_X1_orderAnew l G q σ κ hI) zY_X1_orderAnew km_X5_228 (q0 := 1) rfl rfl rfl rfl ⟨⟨Nat.le_of_ble_eq_true rfl, Nat.le_of_ble_eq_true rfl⟩, Nat.le_of_ble_eq_true rfl, Nat.le_of_ble_eq_true rfl⟩ (Nat.le_of_ble_eq_true rfl) dX5_riverAtAnew_12) (fun u H locs hp hP hD hS => ?_)
  refine zdet_I ⟨rfl, rfl⟩ Z hD hS (zrunV (rest := []) Z hP hD hS hl.1 (m_X5_shownAt_a l G q σ (κ.1, κ.2.1, anw1 (isAh σ) (σ.1 4) (κ.2.2) (σ.1 4)) (i) rfl (rk) rfl hI (by omega) hw9 h2) zY_X5_shownAt km_X5_224 (q0 := 0) rfl rfl rfl rfl ⟨⟨Nat.le_of_ble_eq_true rfl, Nat.le_of_ble_eq_true rfl⟩, Nat.le_of_ble_eq_true rfl, Nat.le_of_ble_eq_true rfl⟩ (Nat.le_of_ble_eq_true rfl) dX5_riverAtAnew_15) (fun H locs hP hD hS => ?_)
  refine zr_top (w := .int (zI (((gth (shw σ i) (anw1 (isAh σ) (σ.1 4) (κ.2.2) (σ.1 4)) (κ.1) (σ.1 4)).2 rk : Nat) : Int))) rfl ?_
  exact zret_I () Z hr hP hD hS rfl rfl ⟨Nat.le_refl _, Nat.le_refl _⟩ hQ dX5_riverAtAnew_18
abbrev r_X5_riverAtAnew_x1 : Room := { frames := 7, cells := 1, slots := 6, locals := 121 }
set_option maxHeartbeats 4000000 in
set_option maxRecDepth 100000 in
theorem m_X5_riverAtAnew_x1 (l : Launch) (G : ZG) (hst : l.stackTraces = false) (q : Nat → Nat) (σ : St) (κ : KC) (i : Int) (rk : Int) (hI : okC σ) (h1 : zR i) (h2 : i < 0 ∨ ((σ.1 6 : Nat) : Int) ≤ i) :
    MX l G yX5_riverAtAnew (wY yX5_riverAtAnew cX5_riverAtAnew 3 (some .int)) r_X5_riverAtAnew_x1 (wC G q σ κ) [.ref (q 0), .int (zI (i : Int)), .int (zI (rk : Int))] (S := KC) "java/lang/IndexOutOfBoundsException" (fun u => wC G q σ u) := by
  refine MX.mk (by decide +kernel) (Nat.le_of_ble_eq_true rfl) ?_
  intro p e s m av below meth c A H locs ls Q Z ht hQ hP hD hS hl
  have hx := Z.1
  have hb := Z.2.1
  have hown := Z.2.2.2.1
  have hW := Z.2.2.2.2.1
  have hl : lv_has ls 3 [(0, .ref (q 0)), (1, .int (zI (i : Int))), (2, .int (zI (rk : Int)))] := hl
  obtain ⟨hn, hru, hrv, hdv, hsr, hmn, ht1, ht2, hwn, hv1, hv2, hmj, htm, hse, htg, hrt, hac, hk1, hk2, hkd, hmm, hmv, hord, hpo, hlo⟩ := id hI
  refine lv_aload_n hx hb dX5_riverAtAnew_0 rfl (lv_at hl 0 rfl) ?_
  refine lv_iload_n hx hb dX5_riverAtAnew_1 rfl (lv_at hl 1 rfl) ?_
  exact zxout (fun _ => κ) (fun _ => rfl) Z ht hD hS (zrunXV (rest := []) Z hP hD hS hl.1 (m_X5_requireRiver_x l G hst q σ κ (i : Int) (by omega) (by omega) (by omega)) zY_X5_requireRiver km_X5_213 (q0 := 0) rfl rfl rfl rfl ⟨⟨Nat.le_of_ble_eq_true rfl, Nat.le_of_ble_eq_true rfl⟩, Nat.le_of_ble_eq_true rfl, Nat.le_of_ble_eq_true rfl⟩ (Nat.le_of_ble_eq_true rfl) dX5_riverAtAnew_2) ⟨Nat.le_refl _, Nat.le_refl _⟩ hQ
abbrev r_X5_riverAtAnew_x2 : Room := { frames := 7, cells := 1, slots := 6, locals := 157 }
set_option maxHeartbeats 4000000 in
set_option maxRecDepth 100000 in
theorem m_X5_riverAtAnew_x2 (l : Launch) (G : ZG) (hst : l.stackTraces = false) (q : Nat → Nat) (σ : St) (κ : KC) {e_i : Int} (i : Nat) (he_i : e_i = (i : Int)) (rk : Int) (hI : okC σ) (h1 : i < σ.1 6) (h3 : zR rk) (h4 : rk < 0 ∨ (((gth (shw σ i) (anw1 (isAh σ) (σ.1 4) (κ.2.2) (σ.1 4)) (κ.1) (σ.1 4)).1 : Nat) : Int) ≤ rk) :
    MX l G yX5_riverAtAnew (wY yX5_riverAtAnew cX5_riverAtAnew 3 (some .int)) r_X5_riverAtAnew_x2 (wC G q σ κ) [.ref (q 0), .int (zI e_i), .int (zI (rk : Int))] (S := KC) "java/util/NoSuchElementException" (fun u => wC G q σ u) := by
  subst he_i
  refine MX.mk (by decide +kernel) (Nat.le_of_ble_eq_true rfl) ?_
  intro p e s m av below meth c A H locs ls Q Z ht hQ hP hD hS hl
  have hx := Z.1
  have hb := Z.2.1
  have hown := Z.2.2.2.1
  have hW := Z.2.2.2.2.1
  have hl : lv_has ls 3 [(0, .ref (q 0)), (1, .int (zI ((i : Nat) : Int))), (2, .int (zI (rk : Int)))] := hl
  obtain ⟨hn, hru, hrv, hdv, hsr, hmn, ht1, ht2, hwn, hv1, hv2, hmj, htm, hse, htg, hrt, hac, hk1, hk2, hkd, hmm, hmv, hord, hpo, hlo⟩ := id hI
  have hw9 := anw1_lt (isAh σ) (σ.1 4) κ.2.2 (σ.1 4) (Nat.le_refl _)
  refine lv_aload_n hx hb dX5_riverAtAnew_0 rfl (lv_at hl 0 rfl) ?_
  refine lv_iload_n hx hb dX5_riverAtAnew_1 rfl (lv_at hl 1 rfl) ?_
  refine zdet_V ⟨rfl, rfl⟩ Z hD hS (zrunV (rest := []) Z hP hD hS hl.1 (m_X5_requireRiver l G q σ κ (i) rfl (by omega) (by omega)) zY_X5_requireRiver km_X5_213 (q0 := 0) rfl rfl rfl rfl ⟨⟨Nat.le_of_ble_eq_true rfl, Nat.le_of_ble_eq_true rfl⟩, Nat.le_of_ble_eq_true rfl, Nat.le_of_ble_eq_true rfl⟩ (Nat.le_of_ble_eq_true rfl) dX5_riverAtAnew_2) (fun H locs hP hD hS => ?_)
  refine lv_aload_n hx hb dX5_riverAtAnew_5 rfl (lv_at hl 0 rfl) ?_
  refine lv_iload_n hx hb dX5_riverAtAnew_6 rfl (lv_at hl 1 rfl) ?_
  refine lv_iload_n hx hb dX5_riverAtAnew_7 rfl (lv_at hl 2 rfl) ?_
  refine lv_aload_n hx hb dX5_riverAtAnew_8 rfl (lv_at hl 0 rfl) ?_
  refine gC_0_4 Z hP kf_X5_25 dX5_riverAtAnew_9 ?_
  refine zfin_R ⟨rfl, rfl⟩ Z hD hS (zrunV (rest := [.int (zI (rk : Int)), .int (zI ((i : Nat) : Int)), .ref (q 0)]) Z hP hD hS hl.1 (m_X1_orderAnew l G q σ κ hI) zY_X1_orderAnew km_X5_228 (q0 := 1) rfl rfl rfl rfl ⟨⟨Nat.le_of_ble_eq_true rfl, Nat.le_of_ble_eq_true rfl⟩, Nat.le_of_ble_eq_true rfl, Nat.le_of_ble_eq_true rfl⟩ (Nat.le_of_ble_eq_true rfl) dX5_riverAtAnew_12) (fun u H locs hp hP hD hS => ?_)
  exact zxout (fun u => u) (fun _ => rfl) Z ht hD hS (zrunXV (rest := []) Z hP hD hS hl.1 (m_X5_shownAt_a_x l G hst q σ (κ.1, κ.2.1, anw1 (isAh σ) (σ.1 4) (κ.2.2) (σ.1 4)) (i) rfl (rk : Int) hI (by omega) hw9 h3 h4) zY_X5_shownAt km_X5_224 (q0 := 0) rfl rfl rfl rfl ⟨⟨Nat.le_of_ble_eq_true rfl, Nat.le_of_ble_eq_true rfl⟩, Nat.le_of_ble_eq_true rfl, Nat.le_of_ble_eq_true rfl⟩ (Nat.le_of_ble_eq_true rfl) dX5_riverAtAnew_15) ⟨Nat.le_refl _, Nat.le_refl _⟩ hQ
abbrev r_X5_rankOf : Room := { frames := 6, cells := 0, slots := 0, locals := 133 }
set_option maxHeartbeats 4000000 in
set_option maxRecDepth 100000 in
theorem m_X5_rankOf (l : Launch) (G : ZG) (q : Nat → Nat) (σ : St) (κ : KC) {e_i : Int} (i : Nat) (he_i : e_i = (i : Int)) {e_b : Int} (b : Nat) (he_b : e_b = (b : Int)) (hI : okC σ) (h1 : i < σ.1 6) (h2 : b < σ.1 4) (h3 : ∃ y9, y9 < (gth (shw σ i) (σ.2.1 10) (κ.1) (σ.1 4)).1 ∧ (gth (shw σ i) (σ.2.1 10) (κ.1) (σ.1 4)).2 y9 = b) :
    MC l G yX5_rankOf (wY yX5_rankOf cX5_rankOf 5 (some .int)) r_X5_rankOf (wC G q σ κ) [.ref (q 0), .int (zI e_i), .int (zI e_b)] (QI G (fun r9 (_ : Unit) => r9 = (zI (fI (fun y9 => (gth (shw σ i) (σ.2.1 10) (κ.1) (σ.1 4)).2 y9 == b) (gth (shw σ i) (σ.2.1 10) (κ.1) (σ.1 4)).1 : Int))) (fun _ => wC G q σ ((gth (shw σ i) (σ.2.1 10) (κ.1) (σ.1 4)).2, κ.2.1, κ.2.2))) := by
  subst he_i
  subst he_b
  refine MC.mk (by decide +kernel) (Nat.le_of_ble_eq_true rfl) ?_
  intro p e s m av below meth c A H locs ls Q Z hr hnm hQ hP hD hS hl
  have hx := Z.1
  have hb := Z.2.1
  have hown := Z.2.2.2.1
  have hW := Z.2.2.2.2.1
  have hl : lv_has ls 5 [(0, .ref (q 0)), (1, .int (zI ((i : Nat) : Int))), (2, .int (zI ((b : Nat) : Int)))] := hl
  obtain ⟨hn, hru, hrv, hdv, hsr, hmn, ht1, ht2, hwn, hv1, hv2, hmj, htm, hse, htg, hrt, hac, hk1, hk2, hkd, hmm, hmv, hord, hpo, hlo⟩ := id hI
  have hg9 := gth_le (shw σ i) (σ.2.1 10) κ.1 (σ.1 4)
  have hg8 := gth_el (p := shw σ i) (o := σ.2.1 10) (r0 := κ.1) (B := σ.1 4) (σ.1 4) hord
  refine lv_aload_n hx hb dX5_rankOf_0 rfl (lv_at hl 0 rfl) ?_
  refine lv_iload_n hx hb dX5_rankOf_1 rfl (lv_at hl 1 rfl) ?_
  refine zdet_V ⟨rfl, rfl⟩ Z hD hS (zrunV (rest := []) Z hP hD hS hl.1 (m_X5_requireRiver l G q σ κ (i) rfl (by omega) (by omega)) zY_X5_requireRiver km_X5_213 (q0 := 0) rfl rfl rfl rfl ⟨⟨Nat.le_of_ble_eq_true rfl, Nat.le_of_ble_eq_true rfl⟩, Nat.le_of_ble_eq_true rfl, Nat.le_of_ble_eq_true rfl⟩ (Nat.le_of_ble_eq_true rfl) dX5_rankOf_2) (fun H locs hP hD hS => ?_)
  refine lv_aload_n hx hb dX5_rankOf_5 rfl (lv_at hl 0 rfl) ?_
  refine lv_iload_n hx hb dX5_rankOf_6 rfl (lv_at hl 2 rfl) ?_
  refine zdet_V ⟨rfl, rfl⟩ Z hD hS (zrunV (rest := []) Z hP hD hS hl.1 (m_X5_requireItem l G q σ κ (b) rfl (by omega) (by omega)) zY_X5_requireItem km_X5_150 (q0 := 0) rfl rfl rfl rfl ⟨⟨Nat.le_of_ble_eq_true rfl, Nat.le_of_ble_eq_true rfl⟩, Nat.le_of_ble_eq_true rfl, Nat.le_of_ble_eq_true rfl⟩ (Nat.le_of_ble_eq_true rfl) dX5_rankOf_7) (fun H locs hP hD hS => ?_)
  refine lv_aload_n hx hb dX5_rankOf_10 rfl (lv_at hl 0 rfl) ?_
  refine lv_iload_n hx hb dX5_rankOf_11 rfl (lv_at hl 1 rfl) ?_
  refine lv_aload_n hx hb dX5_rankOf_12 rfl (lv_at hl 0 rfl) ?_
  refine gC_0_4 Z hP kf_X5_25 dX5_rankOf_13 ?_
  refine zfin_R ⟨rfl, rfl⟩ Z hD hS (zrunV (rest := [.int (zI ((i : Nat) : Int)), .ref (q 0)]) Z hP hD hS hl.1 (m_X1_keptOrder l G q σ κ) zY_X1_keptOrder km_X5_216 (q0 := 1) rfl rfl rfl rfl ⟨⟨Nat.le_of_ble_eq_true rfl, Nat.le_of_ble_eq_true rfl⟩, Nat.le_of_ble_eq_true rfl, Nat.le_of_ble_eq_true rfl⟩ (Nat.le_of_ble_eq_true rfl) dX5_rankOf_16) (fun u H locs hp hP hD hS => ?_)
  refine lv_aload_n hx hb dX5_rankOf_19 rfl (lv_at hl 0 rfl) ?_
  refine gC_0_9 Z hP kf_X5_57 dX5_rankOf_20 ?_
  refine zdet_I ⟨rfl, rfl⟩ Z hD hS (zrunV (rest := []) Z hP hD hS hl.1 (m_X5_gather_kk l G q σ κ (i) rfl hI (by omega)) zY_X5_gather km_X5_220 (q0 := 0) rfl rfl rfl rfl ⟨⟨Nat.le_of_ble_eq_true rfl, Nat.le_of_ble_eq_true rfl⟩, Nat.le_of_ble_eq_true rfl, Nat.le_of_ble_eq_true rfl⟩ (Nat.le_of_ble_eq_true rfl) dX5_rankOf_23) (fun H locs hP hD hS => ?_)
  refine lv_istore_n (lv' := [(3, .int (zI (((gth (shw σ i) (σ.2.1 10) (κ.1) (σ.1 4)).1 : Nat) : Int))), (0, .ref (q 0)), (1, .int (zI ((i : Nat) : Int))), (2, .int (zI ((b : Nat) : Int)))]) hx hb dX5_rankOf_26 rfl hl (by decide) rfl (fun ls hl => ?_)
  refine zr_iconst hx hb dX5_rankOf_27 ?_
  refine lv_istore (lv' := [(4, .int (zI (0 : Int))), (3, .int (zI (((gth (shw σ i) (σ.2.1 10) (κ.1) (σ.1 4)).1 : Nat) : Int))), (0, .ref (q 0)), (1, .int (zI ((i : Nat) : Int))), (2, .int (zI ((b : Nat) : Int)))]) hx hb dX5_rankOf_28 hl (by decide) rfl (fun ls hl => ?_)
  suffices LP30 : ∀ (f9 : Nat) (j : Nat), (gth (shw σ i) (σ.2.1 10) (κ.1) (σ.1 4)).1 < j + f9 → (j ≤ (gth (shw σ i) (σ.2.1 10) (κ.1) (σ.1 4)).1) → (∀ y9, y9 < j → (gth (shw σ i) (σ.2.1 10) (κ.1) (σ.1 4)).2 y9 ≠ b) → ∀ (H : Heap) (locs : List Loc) (ls : Array Slot), va_P G.1 vwCl (wC G q σ ((gth (shw σ i) (σ.2.1 10) (κ.1) (σ.1 4)).2, κ.2.1, κ.2.2)) H → va_D A (wC G q σ ((gth (shw σ i) (σ.2.1 10) (κ.1) (σ.1 4)).2, κ.2.1, κ.2.2)) → va_S A s.heap H locs → lv_has ls 5 [(4, .int (zI ((j : Nat) : Int))), (0, .ref (q 0)), (1, .int (zI ((i : Nat) : Int))), (2, .int (zI ((b : Nat) : Int))), (3, .int (zI (((gth (shw σ i) (σ.2.1 10) (κ.1) (σ.1 4)).1 : Nat) : Int)))] → W p l e r_X5_rankOf s m av below meth c H locs 0 0 Q (F0 m 30 ls []) from LP30 ((gth (shw σ i) (σ.2.1 10) (κ.1) (σ.1 4)).1 + 1) (0) (by omega) (Nat.zero_le _) (fun y9 hy => by omega) _ _ _ hP hD hS (lv_sub hl [0, 2, 3, 4, 1] rfl)
  intro f9
  induction f9 with
  | zero => intro j hf9 hj hno; exfalso; omega
  | succ f9 ih30 =>
    intro j hf9 hj hno H locs ls hP hD hS hl
    refine lv_iload hx hb dX5_rankOf_30 (lv_at hl 0 rfl) ?_
    refine lv_iload_n hx hb dX5_rankOf_32 rfl (lv_at hl 4 rfl) ?_
    refine zc_ge (tgt := 56) hx hb ((j : Nat) : Int) (((gth (shw σ i) (σ.2.1 10) (κ.1) (σ.1 4)).1 : Nat) : Int) (zI_toInt (by omega)) (zI_toInt (by omega)) dX5_rankOf_33 (by decide) (fun c33 => by exfalso; obtain ⟨y9, hy1, hy2⟩ := h3; exact hno y9 (by omega) hy2) (fun c33 => ?_)
    have hg7 := hg8 j
    refine lv_aload_n hx hb dX5_rankOf_36 rfl (lv_at hl 1 rfl) ?_
    refine gC_0_9 Z hP kf_X5_57 dX5_rankOf_37 ?_
    refine lv_iload hx hb dX5_rankOf_40 (lv_at hl 0 rfl) ?_
    refine ldN Z hP 6 ((gth (shw σ i) (σ.2.1 10) (κ.1) (σ.1 4)).2) rfl (j) rfl (by omega) (by decide) dX5_rankOf_42 ?_
    refine lv_iload_n hx hb dX5_rankOf_43 rfl (lv_at hl 3 rfl) ?_
    refine zc_ne (tgt := 50) hx hb ((((gth (shw σ i) (σ.2.1 10) (κ.1) (σ.1 4)).2) (j) : Nat) : Int) ((b : Nat) : Int) (zI_toInt (by omega)) (zI_toInt (by omega)) dX5_rankOf_44 (by decide) (fun c44 => ?_) (fun c44 => ?_)
    · skip
      refine zr_iinc (lv' := [(4, .int (zI (((j : Nat) : Int) + (1 : Int)))), (0, .ref (q 0)), (1, .int (zI ((i : Nat) : Int))), (2, .int (zI ((b : Nat) : Int))), (3, .int (zI (((gth (shw σ i) (σ.2.1 10) (κ.1) (σ.1 4)).1 : Nat) : Int)))]) hx hb 0 dX5_rankOf_50 hl rfl (by decide) rfl (fun ls hl => ?_)
      refine lv_goto (tgt := 30) hx hb dX5_rankOf_53 (by decide) ?_
      exact ih30 (j + 1) (by omega) (by omega) (fun y9 hy => by
          by_cases e9 : y9 = j
          · subst e9; omega
          · exact hno y9 (by omega)) _ _ _ hP hD hS (lv_sub hl [0, 1, 2, 3, 4] rfl)
    · skip
      refine lv_iload hx hb dX5_rankOf_47 (lv_at hl 0 rfl) ?_
      exact zret_I () Z hr hP hD hS (congrArg zI (fI_yes (p := fun y9 => (gth (shw σ i) (σ.2.1 10) (κ.1) (σ.1 4)).2 y9 == b) (by omega) (by simp; omega) (fun y9 hy => by simp; exact hno y9 hy)).symm) rfl ⟨Nat.le_refl _, Nat.le_refl _⟩ hQ dX5_rankOf_49
abbrev r_X5_rankOf_x1 : Room := { frames := 7, cells := 1, slots := 6, locals := 121 }
set_option maxHeartbeats 4000000 in
set_option maxRecDepth 100000 in
theorem m_X5_rankOf_x1 (l : Launch) (G : ZG) (hst : l.stackTraces = false) (q : Nat → Nat) (σ : St) (κ : KC) (i : Int) (b : Int) (hI : okC σ) (h1 : zR i) (h2 : i < 0 ∨ ((σ.1 6 : Nat) : Int) ≤ i) :
    MX l G yX5_rankOf (wY yX5_rankOf cX5_rankOf 5 (some .int)) r_X5_rankOf_x1 (wC G q σ κ) [.ref (q 0), .int (zI (i : Int)), .int (zI (b : Int))] (S := KC) "java/lang/IndexOutOfBoundsException" (fun u => wC G q σ u) := by
  refine MX.mk (by decide +kernel) (Nat.le_of_ble_eq_true rfl) ?_
  intro p e s m av below meth c A H locs ls Q Z ht hQ hP hD hS hl
  have hx := Z.1
  have hb := Z.2.1
  have hown := Z.2.2.2.1
  have hW := Z.2.2.2.2.1
  have hl : lv_has ls 5 [(0, .ref (q 0)), (1, .int (zI (i : Int))), (2, .int (zI (b : Int)))] := hl
  obtain ⟨hn, hru, hrv, hdv, hsr, hmn, ht1, ht2, hwn, hv1, hv2, hmj, htm, hse, htg, hrt, hac, hk1, hk2, hkd, hmm, hmv, hord, hpo, hlo⟩ := id hI
  refine lv_aload_n hx hb dX5_rankOf_0 rfl (lv_at hl 0 rfl) ?_
  refine lv_iload_n hx hb dX5_rankOf_1 rfl (lv_at hl 1 rfl) ?_
  exact zxout (fun _ => κ) (fun _ => rfl) Z ht hD hS (zrunXV (rest := []) Z hP hD hS hl.1 (m_X5_requireRiver_x l G hst q σ κ (i : Int) (by omega) (by omega) (by omega)) zY_X5_requireRiver km_X5_213 (q0 := 0) rfl rfl rfl rfl ⟨⟨Nat.le_of_ble_eq_true rfl, Nat.le_of_ble_eq_true rfl⟩, Nat.le_of_ble_eq_true rfl, Nat.le_of_ble_eq_true rfl⟩ (Nat.le_of_ble_eq_true rfl) dX5_rankOf_2) ⟨Nat.le_refl _, Nat.le_refl _⟩ hQ
abbrev r_X5_rankOf_x2 : Room := { frames := 7, cells := 1, slots := 6, locals := 121 }
set_option maxHeartbeats 4000000 in
set_option maxRecDepth 100000 in
theorem m_X5_rankOf_x2 (l : Launch) (G : ZG) (hst : l.stackTraces = false) (q : Nat → Nat) (σ : St) (κ : KC) {e_i : Int} (i : Nat) (he_i : e_i = (i : Int)) (b : Int) (hI : okC σ) (h1 : i < σ.1 6) (h2 : zR b) (h3 : b < 0 ∨ ((σ.1 4 : Nat) : Int) ≤ b) :
    MX l G yX5_rankOf (wY yX5_rankOf cX5_rankOf 5 (some .int)) r_X5_rankOf_x2 (wC G q σ κ) [.ref (q 0), .int (zI e_i), .int (zI (b : Int))] (S := KC) "java/lang/IndexOutOfBoundsException" (fun u => wC G q σ u) := by
  subst he_i
  refine MX.mk (by decide +kernel) (Nat.le_of_ble_eq_true rfl) ?_
  intro p e s m av below meth c A H locs ls Q Z ht hQ hP hD hS hl
  have hx := Z.1
  have hb := Z.2.1
  have hown := Z.2.2.2.1
  have hW := Z.2.2.2.2.1
  have hl : lv_has ls 5 [(0, .ref (q 0)), (1, .int (zI ((i : Nat) : Int))), (2, .int (zI (b : Int)))] := hl
  obtain ⟨hn, hru, hrv, hdv, hsr, hmn, ht1, ht2, hwn, hv1, hv2, hmj, htm, hse, htg, hrt, hac, hk1, hk2, hkd, hmm, hmv, hord, hpo, hlo⟩ := id hI
  refine lv_aload_n hx hb dX5_rankOf_0 rfl (lv_at hl 0 rfl) ?_
  refine lv_iload_n hx hb dX5_rankOf_1 rfl (lv_at hl 1 rfl) ?_
  refine zdet_V ⟨rfl, rfl⟩ Z hD hS (zrunV (rest := []) Z hP hD hS hl.1 (m_X5_requireRiver l G q σ κ (i) rfl (by omega) (by omega)) zY_X5_requireRiver km_X5_213 (q0 := 0) rfl rfl rfl rfl ⟨⟨Nat.le_of_ble_eq_true rfl, Nat.le_of_ble_eq_true rfl⟩, Nat.le_of_ble_eq_true rfl, Nat.le_of_ble_eq_true rfl⟩ (Nat.le_of_ble_eq_true rfl) dX5_rankOf_2) (fun H locs hP hD hS => ?_)
  refine lv_aload_n hx hb dX5_rankOf_5 rfl (lv_at hl 0 rfl) ?_
  refine lv_iload_n hx hb dX5_rankOf_6 rfl (lv_at hl 2 rfl) ?_
  exact zxout (fun _ => κ) (fun _ => rfl) Z ht hD hS (zrunXV (rest := []) Z hP hD hS hl.1 (m_X5_requireItem_x l G hst q σ κ (b : Int) h2 h3 (by omega)) zY_X5_requireItem km_X5_150 (q0 := 0) rfl rfl rfl rfl ⟨⟨Nat.le_of_ble_eq_true rfl, Nat.le_of_ble_eq_true rfl⟩, Nat.le_of_ble_eq_true rfl, Nat.le_of_ble_eq_true rfl⟩ (Nat.le_of_ble_eq_true rfl) dX5_rankOf_7) ⟨Nat.le_refl _, Nat.le_refl _⟩ hQ
abbrev r_X5_rankOf_x3 : Room := { frames := 6, cells := 1, slots := 6, locals := 133 }
set_option maxHeartbeats 4000000 in
set_option maxRecDepth 100000 in
theorem m_X5_rankOf_x3 (l : Launch) (G : ZG) (hst : l.stackTraces = false) (q : Nat → Nat) (σ : St) (κ : KC) {e_i : Int} (i : Nat) (he_i : e_i = (i : Int)) {e_b : Int} (b : Nat) (he_b : e_b = (b : Int)) (hI : okC σ) (h1 : i < σ.1 6) (h2 : b < σ.1 4) (h3 : ∀ y9, y9 < (gth (shw σ i) (σ.2.1 10) (κ.1) (σ.1 4)).1 → (gth (shw σ i) (σ.2.1 10) (κ.1) (σ.1 4)).2 y9 ≠ b) :
    MX l G yX5_rankOf (wY yX5_rankOf cX5_rankOf 5 (some .int)) r_X5_rankOf_x3 (wC G q σ κ) [.ref (q 0), .int (zI e_i), .int (zI e_b)] (S := KC) "java/util/NoSuchElementException" (fun u => wC G q σ u) := by
  subst he_i
  subst he_b
  refine MX.mk (by decide +kernel) (Nat.le_of_ble_eq_true rfl) ?_
  intro p e s m av below meth c A H locs ls Q Z ht hQ hP hD hS hl
  have hx := Z.1
  have hb := Z.2.1
  have hown := Z.2.2.2.1
  have hW := Z.2.2.2.2.1
  have hl : lv_has ls 5 [(0, .ref (q 0)), (1, .int (zI ((i : Nat) : Int))), (2, .int (zI ((b : Nat) : Int)))] := hl
  obtain ⟨hn, hru, hrv, hdv, hsr, hmn, ht1, ht2, hwn, hv1, hv2, hmj, htm, hse, htg, hrt, hac, hk1, hk2, hkd, hmm, hmv, hord, hpo, hlo⟩ := id hI
  have hg9 := gth_le (shw σ i) (σ.2.1 10) κ.1 (σ.1 4)
  have hg8 := gth_el (p := shw σ i) (o := σ.2.1 10) (r0 := κ.1) (B := σ.1 4) (σ.1 4) hord
  refine lv_aload_n hx hb dX5_rankOf_0 rfl (lv_at hl 0 rfl) ?_
  refine lv_iload_n hx hb dX5_rankOf_1 rfl (lv_at hl 1 rfl) ?_
  refine zdet_V ⟨rfl, rfl⟩ Z hD hS (zrunV (rest := []) Z hP hD hS hl.1 (m_X5_requireRiver l G q σ κ (i) rfl (by omega) (by omega)) zY_X5_requireRiver km_X5_213 (q0 := 0) rfl rfl rfl rfl ⟨⟨Nat.le_of_ble_eq_true rfl, Nat.le_of_ble_eq_true rfl⟩, Nat.le_of_ble_eq_true rfl, Nat.le_of_ble_eq_true rfl⟩ (Nat.le_of_ble_eq_true rfl) dX5_rankOf_2) (fun H locs hP hD hS => ?_)
  refine lv_aload_n hx hb dX5_rankOf_5 rfl (lv_at hl 0 rfl) ?_
  refine lv_iload_n hx hb dX5_rankOf_6 rfl (lv_at hl 2 rfl) ?_
  refine zdet_V ⟨rfl, rfl⟩ Z hD hS (zrunV (rest := []) Z hP hD hS hl.1 (m_X5_requireItem l G q σ κ (b) rfl (by omega) (by omega)) zY_X5_requireItem km_X5_150 (q0 := 0) rfl rfl rfl rfl ⟨⟨Nat.le_of_ble_eq_true rfl, Nat.le_of_ble_eq_true rfl⟩, Nat.le_of_ble_eq_true rfl, Nat.le_of_ble_eq_true rfl⟩ (Nat.le_of_ble_eq_true rfl) dX5_rankOf_7) (fun H locs hP hD hS => ?_)
  refine lv_aload_n hx hb dX5_rankOf_10 rfl (lv_at hl 0 rfl) ?_
  refine lv_iload_n hx hb dX5_rankOf_11 rfl (lv_at hl 1 rfl) ?_
  refine lv_aload_n hx hb dX5_rankOf_12 rfl (lv_at hl 0 rfl) ?_
  refine gC_0_4 Z hP kf_X5_25 dX5_rankOf_13 ?_
  refine zfin_R ⟨rfl, rfl⟩ Z hD hS (zrunV (rest := [.int (zI ((i : Nat) : Int)), .ref (q 0)]) Z hP hD hS hl.1 (m_X1_keptOrder l G q σ κ) zY_X1_keptOrder km_X5_216 (q0 := 1) rfl rfl rfl rfl ⟨⟨Nat.le_of_ble_eq_true rfl, Nat.le_of_ble_eq_true rfl⟩, Nat.le_of_ble_eq_true rfl, Nat.le_of_ble_eq_true rfl⟩ (Nat.le_of_ble_eq_true rfl) dX5_rankOf_16) (fun u H locs hp hP hD hS => ?_)
  refine lv_aload_n hx hb dX5_rankOf_19 rfl (lv_at hl 0 rfl) ?_
  refine gC_0_9 Z hP kf_X5_57 dX5_rankOf_20 ?_
  refine zdet_I ⟨rfl, rfl⟩ Z hD hS (zrunV (rest := []) Z hP hD hS hl.1 (m_X5_gather_kk l G q σ κ (i) rfl hI (by omega)) zY_X5_gather km_X5_220 (q0 := 0) rfl rfl rfl rfl ⟨⟨Nat.le_of_ble_eq_true rfl, Nat.le_of_ble_eq_true rfl⟩, Nat.le_of_ble_eq_true rfl, Nat.le_of_ble_eq_true rfl⟩ (Nat.le_of_ble_eq_true rfl) dX5_rankOf_23) (fun H locs hP hD hS => ?_)
  refine lv_istore_n (lv' := [(3, .int (zI (((gth (shw σ i) (σ.2.1 10) (κ.1) (σ.1 4)).1 : Nat) : Int))), (0, .ref (q 0)), (1, .int (zI ((i : Nat) : Int))), (2, .int (zI ((b : Nat) : Int)))]) hx hb dX5_rankOf_26 rfl hl (by decide) rfl (fun ls hl => ?_)
  refine zr_iconst hx hb dX5_rankOf_27 ?_
  refine lv_istore (lv' := [(4, .int (zI (0 : Int))), (3, .int (zI (((gth (shw σ i) (σ.2.1 10) (κ.1) (σ.1 4)).1 : Nat) : Int))), (0, .ref (q 0)), (1, .int (zI ((i : Nat) : Int))), (2, .int (zI ((b : Nat) : Int)))]) hx hb dX5_rankOf_28 hl (by decide) rfl (fun ls hl => ?_)
  suffices LP30 : ∀ (f9 : Nat) (j : Nat), (gth (shw σ i) (σ.2.1 10) (κ.1) (σ.1 4)).1 < j + f9 → (j ≤ (gth (shw σ i) (σ.2.1 10) (κ.1) (σ.1 4)).1) → (∀ y9, y9 < j → (gth (shw σ i) (σ.2.1 10) (κ.1) (σ.1 4)).2 y9 ≠ b) → ∀ (H : Heap) (locs : List Loc) (ls : Array Slot), va_P G.1 vwCl (wC G q σ ((gth (shw σ i) (σ.2.1 10) (κ.1) (σ.1 4)).2, κ.2.1, κ.2.2)) H → va_D A (wC G q σ ((gth (shw σ i) (σ.2.1 10) (κ.1) (σ.1 4)).2, κ.2.1, κ.2.2)) → va_S A s.heap H locs → lv_has ls 5 [(4, .int (zI ((j : Nat) : Int))), (0, .ref (q 0)), (1, .int (zI ((i : Nat) : Int))), (2, .int (zI ((b : Nat) : Int))), (3, .int (zI (((gth (shw σ i) (σ.2.1 10) (κ.1) (σ.1 4)).1 : Nat) : Int)))] → W p l e r_X5_rankOf_x3 s m av below meth c H locs 0 0 Q (F0 m 30 ls []) from LP30 ((gth (shw σ i) (σ.2.1 10) (κ.1) (σ.1 4)).1 + 1) (0) (by omega) (Nat.zero_le _) (fun y9 hy => by omega) _ _ _ hP hD hS (lv_sub hl [0, 2, 3, 4, 1] rfl)
  intro f9
  induction f9 with
  | zero => intro j hf9 hj hno; exfalso; omega
  | succ f9 ih30 =>
    intro j hf9 hj hno H locs ls hP hD hS hl
    refine lv_iload hx hb dX5_rankOf_30 (lv_at hl 0 rfl) ?_
    refine lv_iload_n hx hb dX5_rankOf_32 rfl (lv_at hl 4 rfl) ?_
    refine zc_ge (tgt := 56) hx hb ((j : Nat) : Int) (((gth (shw σ i) (σ.2.1 10) (κ.1) (σ.1 4)).1 : Nat) : Int) (zI_toInt (by omega)) (zI_toInt (by omega)) dX5_rankOf_33 (by decide) (fun c33 => ?_) (fun c33 => ?_)
    · skip
      exact th_NSE (((gth (shw σ i) (σ.2.1 10) (κ.1) (σ.1 4)).2, κ.2.1, κ.2.2)) "the river does not show the item" hst Z ht hP hD hS hl.1 rfl (by decide +kernel) ⟨Nat.le_of_ble_eq_true rfl, Nat.le_of_ble_eq_true rfl, Nat.le_of_ble_eq_true rfl, Nat.le_of_ble_eq_true rfl⟩ hQ dX5_rankOf_56 dX5_rankOf_59 dX5_rankOf_60 dX5_rankOf_62 dX5_rankOf_65
    · skip
      have hg7 := hg8 j
      refine lv_aload_n hx hb dX5_rankOf_36 rfl (lv_at hl 1 rfl) ?_
      refine gC_0_9 Z hP kf_X5_57 dX5_rankOf_37 ?_
      refine lv_iload hx hb dX5_rankOf_40 (lv_at hl 0 rfl) ?_
      refine ldN Z hP 6 ((gth (shw σ i) (σ.2.1 10) (κ.1) (σ.1 4)).2) rfl (j) rfl (by omega) (by decide) dX5_rankOf_42 ?_
      refine lv_iload_n hx hb dX5_rankOf_43 rfl (lv_at hl 3 rfl) ?_
      refine zc_ne (tgt := 50) hx hb ((((gth (shw σ i) (σ.2.1 10) (κ.1) (σ.1 4)).2) (j) : Nat) : Int) ((b : Nat) : Int) (zI_toInt (by omega)) (zI_toInt (by omega)) dX5_rankOf_44 (by decide) (fun c44 => ?_) (fun c44 => by exfalso; exact h3 j (by omega) (by omega))
      refine zr_iinc (lv' := [(4, .int (zI (((j : Nat) : Int) + (1 : Int)))), (0, .ref (q 0)), (1, .int (zI ((i : Nat) : Int))), (2, .int (zI ((b : Nat) : Int))), (3, .int (zI (((gth (shw σ i) (σ.2.1 10) (κ.1) (σ.1 4)).1 : Nat) : Int)))]) hx hb 0 dX5_rankOf_50 hl rfl (by decide) rfl (fun ls hl => ?_)
      refine lv_goto (tgt := 30) hx hb dX5_rankOf_53 (by decide) ?_
      exact ih30 (j + 1) (by omega) (by omega) (fun y9 hy => by
          by_cases e9 : y9 = j
          · subst e9; omega
          · exact hno y9 (by omega)) _ _ _ hP hD hS (lv_sub hl [0, 1, 2, 3, 4] rfl)
abbrev r_X5_unread : Room := { frames := 6, cells := 0, slots := 0, locals := 133 }
set_option maxHeartbeats 4000000 in
set_option maxRecDepth 100000 in
theorem m_X5_unread (l : Launch) (G : ZG) (q : Nat → Nat) (σ : St) (κ : KC) {e_i : Int} (i : Nat) (he_i : e_i = (i : Int)) (hI : okC σ) (h1 : i < σ.1 6) :
    MC l G yX5_unread (wY yX5_unread cX5_unread 2 (some .int)) r_X5_unread (wC G q σ κ) [.ref (q 0), .int (zI e_i)] (QI G (fun r9 (_ : Unit) => r9 = (zI ((cnt (fun y9 => !rdR σ ((gth (shw σ i) (σ.2.1 10) (κ.1) (σ.1 4)).2 y9)) (gth (shw σ i) (σ.2.1 10) (κ.1) (σ.1 4)).1 : Nat) : Int))) (fun _ => wC G q σ ((gth (shw σ i) (σ.2.1 10) (κ.1) (σ.1 4)).2, κ.2.1, κ.2.2))) := by
  subst he_i
  refine MC.mk (by decide +kernel) (Nat.le_of_ble_eq_true rfl) ?_
  intro p e s m av below meth c A H locs ls Q Z hr hnm hQ hP hD hS hl
  have hx := Z.1
  have hb := Z.2.1
  have hown := Z.2.2.2.1
  have hW := Z.2.2.2.2.1
  have hl : lv_has ls 2 [(0, .ref (q 0)), (1, .int (zI ((i : Nat) : Int)))] := hl
  obtain ⟨hn, hru, hrv, hdv, hsr, hmn, ht1, ht2, hwn, hv1, hv2, hmj, htm, hse, htg, hrt, hac, hk1, hk2, hkd, hmm, hmv, hord, hpo, hlo⟩ := id hI
  have hg9 := gth_le (shw σ i) (σ.2.1 10) κ.1 (σ.1 4)
  have hg8 := gth_el (p := shw σ i) (o := σ.2.1 10) (r0 := κ.1) (B := σ.1 4) (σ.1 4) hord
  refine lv_aload_n hx hb dX5_unread_0 rfl (lv_at hl 0 rfl) ?_
  refine lv_iload_n hx hb dX5_unread_1 rfl (lv_at hl 1 rfl) ?_
  refine zdet_V ⟨rfl, rfl⟩ Z hD hS (zrunV (rest := []) Z hP hD hS hl.1 (m_X5_requireRiver l G q σ κ (i) rfl (by omega) (by omega)) zY_X5_requireRiver km_X5_213 (q0 := 0) rfl rfl rfl rfl ⟨⟨Nat.le_of_ble_eq_true rfl, Nat.le_of_ble_eq_true rfl⟩, Nat.le_of_ble_eq_true rfl, Nat.le_of_ble_eq_true rfl⟩ (Nat.le_of_ble_eq_true rfl) dX5_unread_2) (fun H locs hP hD hS => ?_)
  refine lv_aload_n hx hb dX5_unread_5 rfl (lv_at hl 0 rfl) ?_
  refine lv_aload_n hx hb dX5_unread_6 rfl (lv_at hl 0 rfl) ?_
  refine lv_iload_n hx hb dX5_unread_7 rfl (lv_at hl 1 rfl) ?_
  refine lv_aload_n hx hb dX5_unread_8 rfl (lv_at hl 0 rfl) ?_
  refine gC_0_4 Z hP kf_X5_25 dX5_unread_9 ?_
  refine zfin_R ⟨rfl, rfl⟩ Z hD hS (zrunV (rest := [.int (zI ((i : Nat) : Int)), .ref (q 0), .ref (q 0)]) Z hP hD hS hl.1 (m_X1_keptOrder l G q σ κ) zY_X1_keptOrder km_X5_216 (q0 := 1) rfl rfl rfl rfl ⟨⟨Nat.le_of_ble_eq_true rfl, Nat.le_of_ble_eq_true rfl⟩, Nat.le_of_ble_eq_true rfl, Nat.le_of_ble_eq_true rfl⟩ (Nat.le_of_ble_eq_true rfl) dX5_unread_12) (fun u H locs hp hP hD hS => ?_)
  refine lv_aload_n hx hb dX5_unread_15 rfl (lv_at hl 0 rfl) ?_
  refine gC_0_9 Z hP kf_X5_57 dX5_unread_16 ?_
  refine zdet_I ⟨rfl, rfl⟩ Z hD hS (zrunV (rest := [.ref (q 0)]) Z hP hD hS hl.1 (m_X5_gather_kk l G q σ κ (i) rfl hI (by omega)) zY_X5_gather km_X5_220 (q0 := 0) rfl rfl rfl rfl ⟨⟨Nat.le_of_ble_eq_true rfl, Nat.le_of_ble_eq_true rfl⟩, Nat.le_of_ble_eq_true rfl, Nat.le_of_ble_eq_true rfl⟩ (Nat.le_of_ble_eq_true rfl) dX5_unread_19) (fun H locs hP hD hS => ?_)
  refine zdet_I ⟨rfl, rfl⟩ Z hD hS (zrunV (rest := []) Z hP hD hS hl.1 (m_X5_countUnread l G q σ ((gth (shw σ i) (σ.2.1 10) (κ.1) (σ.1 4)).2, κ.2.1, κ.2.2) ((gth (shw σ i) (σ.2.1 10) (κ.1) (σ.1 4)).1) rfl hI (by omega) hg8) zY_X5_countUnread km_X5_233 (q0 := 0) rfl rfl rfl rfl ⟨⟨Nat.le_of_ble_eq_true rfl, Nat.le_of_ble_eq_true rfl⟩, Nat.le_of_ble_eq_true rfl, Nat.le_of_ble_eq_true rfl⟩ (Nat.le_of_ble_eq_true rfl) dX5_unread_22) (fun H locs hP hD hS => ?_)
  refine zr_top (w := .int (zI ((cnt (fun y9 => !rdR σ (((gth (shw σ i) (σ.2.1 10) (κ.1) (σ.1 4)).2) y9)) ((gth (shw σ i) (σ.2.1 10) (κ.1) (σ.1 4)).1) : Nat) : Int))) rfl ?_
  exact zret_I () Z hr hP hD hS rfl rfl ⟨Nat.le_refl _, Nat.le_refl _⟩ hQ dX5_unread_25
abbrev r_X5_unread_x : Room := { frames := 7, cells := 1, slots := 6, locals := 121 }
set_option maxHeartbeats 4000000 in
set_option maxRecDepth 100000 in
theorem m_X5_unread_x (l : Launch) (G : ZG) (hst : l.stackTraces = false) (q : Nat → Nat) (σ : St) (κ : KC) (i : Int) (hI : okC σ) (h1 : zR i) (h2 : i < 0 ∨ ((σ.1 6 : Nat) : Int) ≤ i) :
    MX l G yX5_unread (wY yX5_unread cX5_unread 2 (some .int)) r_X5_unread_x (wC G q σ κ) [.ref (q 0), .int (zI (i : Int))] (S := Unit) "java/lang/IndexOutOfBoundsException" (fun _ => wC G q σ κ) := by
  refine MX.mk (by decide +kernel) (Nat.le_of_ble_eq_true rfl) ?_
  intro p e s m av below meth c A H locs ls Q Z ht hQ hP hD hS hl
  have hx := Z.1
  have hb := Z.2.1
  have hown := Z.2.2.2.1
  have hW := Z.2.2.2.2.1
  have hl : lv_has ls 2 [(0, .ref (q 0)), (1, .int (zI (i : Int)))] := hl
  obtain ⟨hn, hru, hrv, hdv, hsr, hmn, ht1, ht2, hwn, hv1, hv2, hmj, htm, hse, htg, hrt, hac, hk1, hk2, hkd, hmm, hmv, hord, hpo, hlo⟩ := id hI
  refine lv_aload_n hx hb dX5_unread_0 rfl (lv_at hl 0 rfl) ?_
  refine lv_iload_n hx hb dX5_unread_1 rfl (lv_at hl 1 rfl) ?_
  exact zxout (fun u => ()) (fun _ => rfl) Z ht hD hS (zrunXV (rest := []) Z hP hD hS hl.1 (m_X5_requireRiver_x l G hst q σ κ (i : Int) (by omega) (by omega) (by omega)) zY_X5_requireRiver km_X5_213 (q0 := 0) rfl rfl rfl rfl ⟨⟨Nat.le_of_ble_eq_true rfl, Nat.le_of_ble_eq_true rfl⟩, Nat.le_of_ble_eq_true rfl, Nat.le_of_ble_eq_true rfl⟩ (Nat.le_of_ble_eq_true rfl) dX5_unread_2) ⟨Nat.le_refl _, Nat.le_refl _⟩ hQ
abbrev r_X5_nextUnread : Room := { frames := 6, cells := 0, slots := 0, locals := 133 }
set_option maxHeartbeats 4000000 in
set_option maxRecDepth 100000 in
theorem m_X5_nextUnread (l : Launch) (G : ZG) (q : Nat → Nat) (σ : St) (κ : KC) {e_i : Int} (i : Nat) (he_i : e_i = (i : Int)) (hI : okC σ) (h1 : i < σ.1 6) (h2 : ∃ y9, y9 < (gth (shw σ i) (σ.2.1 10) (κ.1) (σ.1 4)).1 ∧ rdR σ ((gth (shw σ i) (σ.2.1 10) (κ.1) (σ.1 4)).2 y9) = false) :
    MC l G yX5_nextUnread (wY yX5_nextUnread cX5_nextUnread 4 (some .int)) r_X5_nextUnread (wC G q σ κ) [.ref (q 0), .int (zI e_i)] (QI G (fun r9 (_ : Unit) => r9 = (zI (((gth (shw σ i) (σ.2.1 10) (κ.1) (σ.1 4)).2 (fI (fun y9 => !rdR σ ((gth (shw σ i) (σ.2.1 10) (κ.1) (σ.1 4)).2 y9)) (gth (shw σ i) (σ.2.1 10) (κ.1) (σ.1 4)).1).toNat : Nat) : Int))) (fun _ => wC G q σ ((gth (shw σ i) (σ.2.1 10) (κ.1) (σ.1 4)).2, κ.2.1, κ.2.2))) := by
  subst he_i
  refine MC.mk (by decide +kernel) (Nat.le_of_ble_eq_true rfl) ?_
  intro p e s m av below meth c A H locs ls Q Z hr hnm hQ hP hD hS hl
  have hx := Z.1
  have hb := Z.2.1
  have hown := Z.2.2.2.1
  have hW := Z.2.2.2.2.1
  have hl : lv_has ls 4 [(0, .ref (q 0)), (1, .int (zI ((i : Nat) : Int)))] := hl
  obtain ⟨hn, hru, hrv, hdv, hsr, hmn, ht1, ht2, hwn, hv1, hv2, hmj, htm, hse, htg, hrt, hac, hk1, hk2, hkd, hmm, hmv, hord, hpo, hlo⟩ := id hI
  have hg9 := gth_le (shw σ i) (σ.2.1 10) κ.1 (σ.1 4)
  have hg8 := gth_el (p := shw σ i) (o := σ.2.1 10) (r0 := κ.1) (B := σ.1 4) (σ.1 4) hord
  refine lv_aload_n hx hb dX5_nextUnread_0 rfl (lv_at hl 0 rfl) ?_
  refine lv_iload_n hx hb dX5_nextUnread_1 rfl (lv_at hl 1 rfl) ?_
  refine zdet_V ⟨rfl, rfl⟩ Z hD hS (zrunV (rest := []) Z hP hD hS hl.1 (m_X5_requireRiver l G q σ κ (i) rfl (by omega) (by omega)) zY_X5_requireRiver km_X5_213 (q0 := 0) rfl rfl rfl rfl ⟨⟨Nat.le_of_ble_eq_true rfl, Nat.le_of_ble_eq_true rfl⟩, Nat.le_of_ble_eq_true rfl, Nat.le_of_ble_eq_true rfl⟩ (Nat.le_of_ble_eq_true rfl) dX5_nextUnread_2) (fun H locs hP hD hS => ?_)
  refine lv_aload_n hx hb dX5_nextUnread_5 rfl (lv_at hl 0 rfl) ?_
  refine lv_iload_n hx hb dX5_nextUnread_6 rfl (lv_at hl 1 rfl) ?_
  refine lv_aload_n hx hb dX5_nextUnread_7 rfl (lv_at hl 0 rfl) ?_
  refine gC_0_4 Z hP kf_X5_25 dX5_nextUnread_8 ?_
  refine zfin_R ⟨rfl, rfl⟩ Z hD hS (zrunV (rest := [.int (zI ((i : Nat) : Int)), .ref (q 0)]) Z hP hD hS hl.1 (m_X1_keptOrder l G q σ κ) zY_X1_keptOrder km_X5_216 (q0 := 1) rfl rfl rfl rfl ⟨⟨Nat.le_of_ble_eq_true rfl, Nat.le_of_ble_eq_true rfl⟩, Nat.le_of_ble_eq_true rfl, Nat.le_of_ble_eq_true rfl⟩ (Nat.le_of_ble_eq_true rfl) dX5_nextUnread_11) (fun u H locs hp hP hD hS => ?_)
  refine lv_aload_n hx hb dX5_nextUnread_14 rfl (lv_at hl 0 rfl) ?_
  refine gC_0_9 Z hP kf_X5_57 dX5_nextUnread_15 ?_
  refine zdet_I ⟨rfl, rfl⟩ Z hD hS (zrunV (rest := []) Z hP hD hS hl.1 (m_X5_gather_kk l G q σ κ (i) rfl hI (by omega)) zY_X5_gather km_X5_220 (q0 := 0) rfl rfl rfl rfl ⟨⟨Nat.le_of_ble_eq_true rfl, Nat.le_of_ble_eq_true rfl⟩, Nat.le_of_ble_eq_true rfl, Nat.le_of_ble_eq_true rfl⟩ (Nat.le_of_ble_eq_true rfl) dX5_nextUnread_18) (fun H locs hP hD hS => ?_)
  refine lv_istore_n (lv' := [(2, .int (zI (((gth (shw σ i) (σ.2.1 10) (κ.1) (σ.1 4)).1 : Nat) : Int))), (0, .ref (q 0)), (1, .int (zI ((i : Nat) : Int)))]) hx hb dX5_nextUnread_21 rfl hl (by decide) rfl (fun ls hl => ?_)
  refine zr_iconst hx hb dX5_nextUnread_22 ?_
  refine lv_istore_n (lv' := [(3, .int (zI (0 : Int))), (2, .int (zI (((gth (shw σ i) (σ.2.1 10) (κ.1) (σ.1 4)).1 : Nat) : Int))), (0, .ref (q 0)), (1, .int (zI ((i : Nat) : Int)))]) hx hb dX5_nextUnread_23 rfl hl (by decide) rfl (fun ls hl => ?_)
  suffices LP24 : ∀ (f9 : Nat) (j : Nat), (gth (shw σ i) (σ.2.1 10) (κ.1) (σ.1 4)).1 < j + f9 → (j ≤ (gth (shw σ i) (σ.2.1 10) (κ.1) (σ.1 4)).1) → (∀ y9, y9 < j → rdR σ ((gth (shw σ i) (σ.2.1 10) (κ.1) (σ.1 4)).2 y9) = true) → ∀ (H : Heap) (locs : List Loc) (ls : Array Slot), va_P G.1 vwCl (wC G q σ ((gth (shw σ i) (σ.2.1 10) (κ.1) (σ.1 4)).2, κ.2.1, κ.2.2)) H → va_D A (wC G q σ ((gth (shw σ i) (σ.2.1 10) (κ.1) (σ.1 4)).2, κ.2.1, κ.2.2)) → va_S A s.heap H locs → lv_has ls 4 [(3, .int (zI ((j : Nat) : Int))), (0, .ref (q 0)), (1, .int (zI ((i : Nat) : Int))), (2, .int (zI (((gth (shw σ i) (σ.2.1 10) (κ.1) (σ.1 4)).1 : Nat) : Int)))] → W p l e r_X5_nextUnread s m av below meth c H locs 0 0 Q (F0 m 24 ls []) from LP24 ((gth (shw σ i) (σ.2.1 10) (κ.1) (σ.1 4)).1 + 1) (0) (by omega) (Nat.zero_le _) (fun y9 hy => by omega) _ _ _ hP hD hS (lv_sub hl [0, 2, 3, 1] rfl)
  intro f9
  induction f9 with
  | zero => intro j hf9 hj hno; exfalso; omega
  | succ f9 ih24 =>
    intro j hf9 hj hno H locs ls hP hD hS hl
    refine lv_iload_n hx hb dX5_nextUnread_24 rfl (lv_at hl 0 rfl) ?_
    refine lv_iload_n hx hb dX5_nextUnread_25 rfl (lv_at hl 3 rfl) ?_
    refine zc_ge (tgt := 55) hx hb ((j : Nat) : Int) (((gth (shw σ i) (σ.2.1 10) (κ.1) (σ.1 4)).1 : Nat) : Int) (zI_toInt (by omega)) (zI_toInt (by omega)) dX5_nextUnread_26 (by decide) (fun c26 => by exfalso; obtain ⟨y9, hy1, hy2⟩ := h2; rw [hno y9 (by omega)] at hy2; cases hy2) (fun c26 => ?_)
    refine lv_aload_n hx hb dX5_nextUnread_29 rfl (lv_at hl 1 rfl) ?_
    refine lv_aload_n hx hb dX5_nextUnread_30 rfl (lv_at hl 1 rfl) ?_
    refine gC_0_9 Z hP kf_X5_57 dX5_nextUnread_31 ?_
    refine lv_iload_n hx hb dX5_nextUnread_34 rfl (lv_at hl 0 rfl) ?_
    refine ldN Z hP 6 ((gth (shw σ i) (σ.2.1 10) (κ.1) (σ.1 4)).2) rfl (j) rfl (by omega) (by decide) dX5_nextUnread_35 ?_
    refine zdet_I ⟨rfl, rfl⟩ Z hD hS (zrunV (rest := []) Z hP hD hS hl.1 (m_X5_isReadByReader l G q σ ((gth (shw σ i) (σ.2.1 10) (κ.1) (σ.1 4)).2, κ.2.1, κ.2.2) (((gth (shw σ i) (σ.2.1 10) (κ.1) (σ.1 4)).2) (j)) rfl hI (hg8 _ (by omega))) zY_X5_isReadByReader km_X5_236 (q0 := 0) rfl rfl rfl rfl ⟨⟨Nat.le_of_ble_eq_true rfl, Nat.le_of_ble_eq_true rfl⟩, Nat.le_of_ble_eq_true rfl, Nat.le_of_ble_eq_true rfl⟩ (Nat.le_of_ble_eq_true rfl) dX5_nextUnread_36) (fun H locs hP hD hS => ?_)
    refine zr_top (w := .int (tB (rdR σ (((gth (shw σ i) (σ.2.1 10) (κ.1) (σ.1 4)).2) (j))))) rfl ?_
    refine zb_ne (tgt := 49) hx hb dX5_nextUnread_39 (by decide) (fun c39 => ?_) (fun c39 => ?_)
    · skip
      refine zr_iinc (lv' := [(3, .int (zI (((j : Nat) : Int) + (1 : Int)))), (0, .ref (q 0)), (1, .int (zI ((i : Nat) : Int))), (2, .int (zI (((gth (shw σ i) (σ.2.1 10) (κ.1) (σ.1 4)).1 : Nat) : Int)))]) hx hb 0 dX5_nextUnread_49 hl rfl (by decide) rfl (fun ls hl => ?_)
      refine lv_goto (tgt := 24) hx hb dX5_nextUnread_52 (by decide) ?_
      exact ih24 (j + 1) (by omega) (by omega) (fun y9 hy => by
          by_cases e9 : y9 = j
          · subst e9; exact c39
          · exact hno y9 (by omega)) _ _ _ hP hD hS (lv_sub hl [0, 1, 2, 3] rfl)
    · skip
      refine lv_aload_n hx hb dX5_nextUnread_42 rfl (lv_at hl 1 rfl) ?_
      refine gC_0_9 Z hP kf_X5_57 dX5_nextUnread_43 ?_
      refine lv_iload_n hx hb dX5_nextUnread_46 rfl (lv_at hl 0 rfl) ?_
      refine ldN Z hP 6 ((gth (shw σ i) (σ.2.1 10) (κ.1) (σ.1 4)).2) rfl (j) rfl (by omega) (by decide) dX5_nextUnread_47 ?_
      exact zret_I () Z hr hP hD hS (by rw [fI_yes (p := fun y9 => !rdR σ ((gth (shw σ i) (σ.2.1 10) (κ.1) (σ.1 4)).2 y9)) (k := j) (by omega) (by show (!rdR σ _) = true; rw [c39]; rfl) (fun y9 hy => by show (!rdR σ _) = false; rw [hno y9 hy]; rfl)]; rfl) rfl ⟨Nat.le_refl _, Nat.le_refl _⟩ hQ dX5_nextUnread_48
abbrev r_X5_nextUnread_x1 : Room := { frames := 7, cells := 1, slots := 6, locals := 121 }
set_option maxHeartbeats 4000000 in
set_option maxRecDepth 100000 in
theorem m_X5_nextUnread_x1 (l : Launch) (G : ZG) (hst : l.stackTraces = false) (q : Nat → Nat) (σ : St) (κ : KC) (i : Int) (hI : okC σ) (h1 : zR i) (h2 : i < 0 ∨ ((σ.1 6 : Nat) : Int) ≤ i) :
    MX l G yX5_nextUnread (wY yX5_nextUnread cX5_nextUnread 4 (some .int)) r_X5_nextUnread_x1 (wC G q σ κ) [.ref (q 0), .int (zI (i : Int))] (S := KC) "java/lang/IndexOutOfBoundsException" (fun u => wC G q σ u) := by
  refine MX.mk (by decide +kernel) (Nat.le_of_ble_eq_true rfl) ?_
  intro p e s m av below meth c A H locs ls Q Z ht hQ hP hD hS hl
  have hx := Z.1
  have hb := Z.2.1
  have hown := Z.2.2.2.1
  have hW := Z.2.2.2.2.1
  have hl : lv_has ls 4 [(0, .ref (q 0)), (1, .int (zI (i : Int)))] := hl
  obtain ⟨hn, hru, hrv, hdv, hsr, hmn, ht1, ht2, hwn, hv1, hv2, hmj, htm, hse, htg, hrt, hac, hk1, hk2, hkd, hmm, hmv, hord, hpo, hlo⟩ := id hI
  refine lv_aload_n hx hb dX5_nextUnread_0 rfl (lv_at hl 0 rfl) ?_
  refine lv_iload_n hx hb dX5_nextUnread_1 rfl (lv_at hl 1 rfl) ?_
  exact zxout (fun _ => κ) (fun _ => rfl) Z ht hD hS (zrunXV (rest := []) Z hP hD hS hl.1 (m_X5_requireRiver_x l G hst q σ κ (i : Int) (by omega) (by omega) (by omega)) zY_X5_requireRiver km_X5_213 (q0 := 0) rfl rfl rfl rfl ⟨⟨Nat.le_of_ble_eq_true rfl, Nat.le_of_ble_eq_true rfl⟩, Nat.le_of_ble_eq_true rfl, Nat.le_of_ble_eq_true rfl⟩ (Nat.le_of_ble_eq_true rfl) dX5_nextUnread_2) ⟨Nat.le_refl _, Nat.le_refl _⟩ hQ
abbrev r_X5_nextUnread_x2 : Room := { frames := 6, cells := 1, slots := 6, locals := 133 }
set_option maxHeartbeats 4000000 in
set_option maxRecDepth 100000 in
theorem m_X5_nextUnread_x2 (l : Launch) (G : ZG) (hst : l.stackTraces = false) (q : Nat → Nat) (σ : St) (κ : KC) {e_i : Int} (i : Nat) (he_i : e_i = (i : Int)) (hI : okC σ) (h1 : i < σ.1 6) (h2 : ∀ y9, y9 < (gth (shw σ i) (σ.2.1 10) (κ.1) (σ.1 4)).1 → rdR σ ((gth (shw σ i) (σ.2.1 10) (κ.1) (σ.1 4)).2 y9) = true) :
    MX l G yX5_nextUnread (wY yX5_nextUnread cX5_nextUnread 4 (some .int)) r_X5_nextUnread_x2 (wC G q σ κ) [.ref (q 0), .int (zI e_i)] (S := KC) "java/util/NoSuchElementException" (fun u => wC G q σ u) := by
  subst he_i
  refine MX.mk (by decide +kernel) (Nat.le_of_ble_eq_true rfl) ?_
  intro p e s m av below meth c A H locs ls Q Z ht hQ hP hD hS hl
  have hx := Z.1
  have hb := Z.2.1
  have hown := Z.2.2.2.1
  have hW := Z.2.2.2.2.1
  have hl : lv_has ls 4 [(0, .ref (q 0)), (1, .int (zI ((i : Nat) : Int)))] := hl
  obtain ⟨hn, hru, hrv, hdv, hsr, hmn, ht1, ht2, hwn, hv1, hv2, hmj, htm, hse, htg, hrt, hac, hk1, hk2, hkd, hmm, hmv, hord, hpo, hlo⟩ := id hI
  have hg9 := gth_le (shw σ i) (σ.2.1 10) κ.1 (σ.1 4)
  have hg8 := gth_el (p := shw σ i) (o := σ.2.1 10) (r0 := κ.1) (B := σ.1 4) (σ.1 4) hord
  refine lv_aload_n hx hb dX5_nextUnread_0 rfl (lv_at hl 0 rfl) ?_
  refine lv_iload_n hx hb dX5_nextUnread_1 rfl (lv_at hl 1 rfl) ?_
  refine zdet_V ⟨rfl, rfl⟩ Z hD hS (zrunV (rest := []) Z hP hD hS hl.1 (m_X5_requireRiver l G q σ κ (i) rfl (by omega) (by omega)) zY_X5_requireRiver km_X5_213 (q0 := 0) rfl rfl rfl rfl ⟨⟨Nat.le_of_ble_eq_true rfl, Nat.le_of_ble_eq_true rfl⟩, Nat.le_of_ble_eq_true rfl, Nat.le_of_ble_eq_true rfl⟩ (Nat.le_of_ble_eq_true rfl) dX5_nextUnread_2) (fun H locs hP hD hS => ?_)
  refine lv_aload_n hx hb dX5_nextUnread_5 rfl (lv_at hl 0 rfl) ?_
  refine lv_iload_n hx hb dX5_nextUnread_6 rfl (lv_at hl 1 rfl) ?_
  refine lv_aload_n hx hb dX5_nextUnread_7 rfl (lv_at hl 0 rfl) ?_
  refine gC_0_4 Z hP kf_X5_25 dX5_nextUnread_8 ?_
  refine zfin_R ⟨rfl, rfl⟩ Z hD hS (zrunV (rest := [.int (zI ((i : Nat) : Int)), .ref (q 0)]) Z hP hD hS hl.1 (m_X1_keptOrder l G q σ κ) zY_X1_keptOrder km_X5_216 (q0 := 1) rfl rfl rfl rfl ⟨⟨Nat.le_of_ble_eq_true rfl, Nat.le_of_ble_eq_true rfl⟩, Nat.le_of_ble_eq_true rfl, Nat.le_of_ble_eq_true rfl⟩ (Nat.le_of_ble_eq_true rfl) dX5_nextUnread_11) (fun u H locs hp hP hD hS => ?_)
  refine lv_aload_n hx hb dX5_nextUnread_14 rfl (lv_at hl 0 rfl) ?_
  refine gC_0_9 Z hP kf_X5_57 dX5_nextUnread_15 ?_
  refine zdet_I ⟨rfl, rfl⟩ Z hD hS (zrunV (rest := []) Z hP hD hS hl.1 (m_X5_gather_kk l G q σ κ (i) rfl hI (by omega)) zY_X5_gather km_X5_220 (q0 := 0) rfl rfl rfl rfl ⟨⟨Nat.le_of_ble_eq_true rfl, Nat.le_of_ble_eq_true rfl⟩, Nat.le_of_ble_eq_true rfl, Nat.le_of_ble_eq_true rfl⟩ (Nat.le_of_ble_eq_true rfl) dX5_nextUnread_18) (fun H locs hP hD hS => ?_)
  refine lv_istore_n (lv' := [(2, .int (zI (((gth (shw σ i) (σ.2.1 10) (κ.1) (σ.1 4)).1 : Nat) : Int))), (0, .ref (q 0)), (1, .int (zI ((i : Nat) : Int)))]) hx hb dX5_nextUnread_21 rfl hl (by decide) rfl (fun ls hl => ?_)
  refine zr_iconst hx hb dX5_nextUnread_22 ?_
  refine lv_istore_n (lv' := [(3, .int (zI (0 : Int))), (2, .int (zI (((gth (shw σ i) (σ.2.1 10) (κ.1) (σ.1 4)).1 : Nat) : Int))), (0, .ref (q 0)), (1, .int (zI ((i : Nat) : Int)))]) hx hb dX5_nextUnread_23 rfl hl (by decide) rfl (fun ls hl => ?_)
  suffices LP24 : ∀ (f9 : Nat) (j : Nat), (gth (shw σ i) (σ.2.1 10) (κ.1) (σ.1 4)).1 < j + f9 → (j ≤ (gth (shw σ i) (σ.2.1 10) (κ.1) (σ.1 4)).1) → (∀ y9, y9 < j → rdR σ ((gth (shw σ i) (σ.2.1 10) (κ.1) (σ.1 4)).2 y9) = true) → ∀ (H : Heap) (locs : List Loc) (ls : Array Slot), va_P G.1 vwCl (wC G q σ ((gth (shw σ i) (σ.2.1 10) (κ.1) (σ.1 4)).2, κ.2.1, κ.2.2)) H → va_D A (wC G q σ ((gth (shw σ i) (σ.2.1 10) (κ.1) (σ.1 4)).2, κ.2.1, κ.2.2)) → va_S A s.heap H locs → lv_has ls 4 [(3, .int (zI ((j : Nat) : Int))), (0, .ref (q 0)), (1, .int (zI ((i : Nat) : Int))), (2, .int (zI (((gth (shw σ i) (σ.2.1 10) (κ.1) (σ.1 4)).1 : Nat) : Int)))] → W p l e r_X5_nextUnread_x2 s m av below meth c H locs 0 0 Q (F0 m 24 ls []) from LP24 ((gth (shw σ i) (σ.2.1 10) (κ.1) (σ.1 4)).1 + 1) (0) (by omega) (Nat.zero_le _) (fun y9 hy => by omega) _ _ _ hP hD hS (lv_sub hl [0, 2, 3, 1] rfl)
  intro f9
  induction f9 with
  | zero => intro j hf9 hj hno; exfalso; omega
  | succ f9 ih24 =>
    intro j hf9 hj hno H locs ls hP hD hS hl
    refine lv_iload_n hx hb dX5_nextUnread_24 rfl (lv_at hl 0 rfl) ?_
    refine lv_iload_n hx hb dX5_nextUnread_25 rfl (lv_at hl 3 rfl) ?_
    refine zc_ge (tgt := 55) hx hb ((j : Nat) : Int) (((gth (shw σ i) (σ.2.1 10) (κ.1) (σ.1 4)).1 : Nat) : Int) (zI_toInt (by omega)) (zI_toInt (by omega)) dX5_nextUnread_26 (by decide) (fun c26 => ?_) (fun c26 => ?_)
    · skip
      exact th_NSE (((gth (shw σ i) (σ.2.1 10) (κ.1) (σ.1 4)).2, κ.2.1, κ.2.2)) "all items of the river are read" hst Z ht hP hD hS hl.1 rfl (by decide +kernel) ⟨Nat.le_of_ble_eq_true rfl, Nat.le_of_ble_eq_true rfl, Nat.le_of_ble_eq_true rfl, Nat.le_of_ble_eq_true rfl⟩ hQ dX5_nextUnread_55 dX5_nextUnread_58 dX5_nextUnread_59 dX5_nextUnread_61 dX5_nextUnread_64
    · skip
      refine lv_aload_n hx hb dX5_nextUnread_29 rfl (lv_at hl 1 rfl) ?_
      refine lv_aload_n hx hb dX5_nextUnread_30 rfl (lv_at hl 1 rfl) ?_
      refine gC_0_9 Z hP kf_X5_57 dX5_nextUnread_31 ?_
      refine lv_iload_n hx hb dX5_nextUnread_34 rfl (lv_at hl 0 rfl) ?_
      refine ldN Z hP 6 ((gth (shw σ i) (σ.2.1 10) (κ.1) (σ.1 4)).2) rfl (j) rfl (by omega) (by decide) dX5_nextUnread_35 ?_
      refine zdet_I ⟨rfl, rfl⟩ Z hD hS (zrunV (rest := []) Z hP hD hS hl.1 (m_X5_isReadByReader l G q σ ((gth (shw σ i) (σ.2.1 10) (κ.1) (σ.1 4)).2, κ.2.1, κ.2.2) (((gth (shw σ i) (σ.2.1 10) (κ.1) (σ.1 4)).2) (j)) rfl hI (hg8 _ (by omega))) zY_X5_isReadByReader km_X5_236 (q0 := 0) rfl rfl rfl rfl ⟨⟨Nat.le_of_ble_eq_true rfl, Nat.le_of_ble_eq_true rfl⟩, Nat.le_of_ble_eq_true rfl, Nat.le_of_ble_eq_true rfl⟩ (Nat.le_of_ble_eq_true rfl) dX5_nextUnread_36) (fun H locs hP hD hS => ?_)
      refine zr_top (w := .int (tB (rdR σ (((gth (shw σ i) (σ.2.1 10) (κ.1) (σ.1 4)).2) (j))))) rfl ?_
      refine zb_ne (tgt := 49) hx hb dX5_nextUnread_39 (by decide) (fun c39 => ?_) (fun c39 => by exfalso; rw [h2 j (by omega)] at c39; cases c39)
      refine zr_iinc (lv' := [(3, .int (zI (((j : Nat) : Int) + (1 : Int)))), (0, .ref (q 0)), (1, .int (zI ((i : Nat) : Int))), (2, .int (zI (((gth (shw σ i) (σ.2.1 10) (κ.1) (σ.1 4)).1 : Nat) : Int)))]) hx hb 0 dX5_nextUnread_49 hl rfl (by decide) rfl (fun ls hl => ?_)
      refine lv_goto (tgt := 24) hx hb dX5_nextUnread_52 (by decide) ?_
      exact ih24 (j + 1) (by omega) (by omega) (fun y9 hy => by
          by_cases e9 : y9 = j
          · subst e9; exact c39
          · exact hno y9 (by omega)) _ _ _ hP hD hS (lv_sub hl [0, 1, 2, 3] rfl)
abbrev r_X5_readShare : Room := { frames := 6, cells := 0, slots := 0, locals := 133 }
set_option maxHeartbeats 4000000 in
set_option maxRecDepth 100000 in
theorem m_X5_readShare (l : Launch) (G : ZG) (q : Nat → Nat) (σ : St) (κ : KC) {e_i : Int} (i : Nat) (he_i : e_i = (i : Int)) (hI : okC σ) (h1 : i < σ.1 6) (h2 : 0 < (gth (shw σ i) (σ.2.1 10) (κ.1) (σ.1 4)).1) :
    MC l G yX5_readShare (wY yX5_readShare cX5_readShare 3 (some .float)) r_X5_readShare (wC G q σ κ) [.ref (q 0), .int (zI e_i)] (QF G (fun r9 (_ : Unit) => r9 = (FP.fdiv (FP.i2f (zI ((((gth (shw σ i) (σ.2.1 10) (κ.1) (σ.1 4)).1 - cnt (fun y9 => !rdR σ ((gth (shw σ i) (σ.2.1 10) (κ.1) (σ.1 4)).2 y9)) (gth (shw σ i) (σ.2.1 10) (κ.1) (σ.1 4)).1 : Nat)) : Int))) (FP.i2f (zI (((gth (shw σ i) (σ.2.1 10) (κ.1) (σ.1 4)).1 : Nat) : Int))))) (fun _ => wC G q σ ((gth (shw σ i) (σ.2.1 10) (κ.1) (σ.1 4)).2, κ.2.1, κ.2.2))) := by
  subst he_i
  refine MC.mk (by decide +kernel) (Nat.le_of_ble_eq_true rfl) ?_
  intro p e s m av below meth c A H locs ls Q Z hr hnm hQ hP hD hS hl
  have hx := Z.1
  have hb := Z.2.1
  have hown := Z.2.2.2.1
  have hW := Z.2.2.2.2.1
  have hl : lv_has ls 3 [(0, .ref (q 0)), (1, .int (zI ((i : Nat) : Int)))] := hl
  obtain ⟨hn, hru, hrv, hdv, hsr, hmn, ht1, ht2, hwn, hv1, hv2, hmj, htm, hse, htg, hrt, hac, hk1, hk2, hkd, hmm, hmv, hord, hpo, hlo⟩ := id hI
  have hg9 := gth_le (shw σ i) (σ.2.1 10) κ.1 (σ.1 4)
  have hg8 := gth_el (p := shw σ i) (o := σ.2.1 10) (r0 := κ.1) (B := σ.1 4) (σ.1 4) hord
  have hc9 := cnt_le (fun y9 => !rdR σ ((gth (shw σ i) (σ.2.1 10) (κ.1) (σ.1 4)).2 y9)) (gth (shw σ i) (σ.2.1 10) (κ.1) (σ.1 4)).1
  refine lv_aload_n hx hb dX5_readShare_0 rfl (lv_at hl 0 rfl) ?_
  refine lv_iload_n hx hb dX5_readShare_1 rfl (lv_at hl 1 rfl) ?_
  refine zdet_V ⟨rfl, rfl⟩ Z hD hS (zrunV (rest := []) Z hP hD hS hl.1 (m_X5_requireRiver l G q σ κ (i) rfl (by omega) (by omega)) zY_X5_requireRiver km_X5_213 (q0 := 0) rfl rfl rfl rfl ⟨⟨Nat.le_of_ble_eq_true rfl, Nat.le_of_ble_eq_true rfl⟩, Nat.le_of_ble_eq_true rfl, Nat.le_of_ble_eq_true rfl⟩ (Nat.le_of_ble_eq_true rfl) dX5_readShare_2) (fun H locs hP hD hS => ?_)
  refine lv_aload_n hx hb dX5_readShare_5 rfl (lv_at hl 0 rfl) ?_
  refine lv_iload_n hx hb dX5_readShare_6 rfl (lv_at hl 1 rfl) ?_
  refine lv_aload_n hx hb dX5_readShare_7 rfl (lv_at hl 0 rfl) ?_
  refine gC_0_4 Z hP kf_X5_25 dX5_readShare_8 ?_
  refine zfin_R ⟨rfl, rfl⟩ Z hD hS (zrunV (rest := [.int (zI ((i : Nat) : Int)), .ref (q 0)]) Z hP hD hS hl.1 (m_X1_keptOrder l G q σ κ) zY_X1_keptOrder km_X5_216 (q0 := 1) rfl rfl rfl rfl ⟨⟨Nat.le_of_ble_eq_true rfl, Nat.le_of_ble_eq_true rfl⟩, Nat.le_of_ble_eq_true rfl, Nat.le_of_ble_eq_true rfl⟩ (Nat.le_of_ble_eq_true rfl) dX5_readShare_11) (fun u H locs hp hP hD hS => ?_)
  refine lv_aload_n hx hb dX5_readShare_14 rfl (lv_at hl 0 rfl) ?_
  refine gC_0_9 Z hP kf_X5_57 dX5_readShare_15 ?_
  refine zdet_I ⟨rfl, rfl⟩ Z hD hS (zrunV (rest := []) Z hP hD hS hl.1 (m_X5_gather_kk l G q σ κ (i) rfl hI (by omega)) zY_X5_gather km_X5_220 (q0 := 0) rfl rfl rfl rfl ⟨⟨Nat.le_of_ble_eq_true rfl, Nat.le_of_ble_eq_true rfl⟩, Nat.le_of_ble_eq_true rfl, Nat.le_of_ble_eq_true rfl⟩ (Nat.le_of_ble_eq_true rfl) dX5_readShare_18) (fun H locs hP hD hS => ?_)
  refine lv_istore_n (lv' := [(2, .int (zI (((gth (shw σ i) (σ.2.1 10) (κ.1) (σ.1 4)).1 : Nat) : Int))), (0, .ref (q 0)), (1, .int (zI ((i : Nat) : Int)))]) hx hb dX5_readShare_21 rfl hl (by decide) rfl (fun ls hl => ?_)
  refine lv_iload_n hx hb dX5_readShare_22 rfl (lv_at hl 0 rfl) ?_
  refine zc0_ne (tgt := 36) hx hb (((gth (shw σ i) (σ.2.1 10) (κ.1) (σ.1 4)).1 : Nat) : Int) (zI_toInt (by omega)) dX5_readShare_23 (by decide) (fun c23 => ?_) (fun c23 => by exfalso; omega)
  refine lv_iload_n hx hb dX5_readShare_36 rfl (lv_at hl 0 rfl) ?_
  refine lv_aload_n hx hb dX5_readShare_37 rfl (lv_at hl 1 rfl) ?_
  refine lv_iload_n hx hb dX5_readShare_38 rfl (lv_at hl 0 rfl) ?_
  refine zdet_I ⟨rfl, rfl⟩ Z hD hS (zrunV (rest := [.int (zI (((gth (shw σ i) (σ.2.1 10) (κ.1) (σ.1 4)).1 : Nat) : Int))]) Z hP hD hS hl.1 (m_X5_countUnread l G q σ ((gth (shw σ i) (σ.2.1 10) (κ.1) (σ.1 4)).2, κ.2.1, κ.2.2) ((gth (shw σ i) (σ.2.1 10) (κ.1) (σ.1 4)).1) rfl hI (by omega) hg8) zY_X5_countUnread km_X5_233 (q0 := 0) rfl rfl rfl rfl ⟨⟨Nat.le_of_ble_eq_true rfl, Nat.le_of_ble_eq_true rfl⟩, Nat.le_of_ble_eq_true rfl, Nat.le_of_ble_eq_true rfl⟩ (Nat.le_of_ble_eq_true rfl) dX5_readShare_39) (fun H locs hP hD hS => ?_)
  refine zr_top (w := .int (zI ((cnt (fun y9 => !rdR σ (((gth (shw σ i) (σ.2.1 10) (κ.1) (σ.1 4)).2) y9)) ((gth (shw σ i) (σ.2.1 10) (κ.1) (σ.1 4)).1) : Nat) : Int))) rfl ?_
  refine zr_isub hx hb dX5_readShare_42 ?_
  refine zr_top (w := .int (zI (((gth (shw σ i) (σ.2.1 10) (κ.1) (σ.1 4)).1 - cnt (fun y9 => !rdR σ ((gth (shw σ i) (σ.2.1 10) (κ.1) (σ.1 4)).2 y9)) (gth (shw σ i) (σ.2.1 10) (κ.1) (σ.1 4)).1 : Nat) : Int))) (congrArg (fun z => Value.int (zI z)) (by omega)) ?_
  refine lv_i2f hx hb dX5_readShare_43 ?_
  refine lv_iload_n hx hb dX5_readShare_44 rfl (lv_at hl 0 rfl) ?_
  refine lv_i2f hx hb dX5_readShare_45 ?_
  refine lv_fdiv hx hb dX5_readShare_46 (fdiv_ok (by omega) (by omega) (by omega)) ?_
  exact zret_F () Z hr hP hD hS rfl rfl ⟨Nat.le_refl _, Nat.le_refl _⟩ hQ dX5_readShare_47
abbrev r_X5_readShare_x1 : Room := { frames := 7, cells := 1, slots := 6, locals := 121 }
set_option maxHeartbeats 4000000 in
set_option maxRecDepth 100000 in
theorem m_X5_readShare_x1 (l : Launch) (G : ZG) (hst : l.stackTraces = false) (q : Nat → Nat) (σ : St) (κ : KC) (i : Int) (hI : okC σ) (h1 : zR i) (h2 : i < 0 ∨ ((σ.1 6 : Nat) : Int) ≤ i) :
    MX l G yX5_readShare (wY yX5_readShare cX5_readShare 3 (some .float)) r_X5_readShare_x1 (wC G q σ κ) [.ref (q 0), .int (zI (i : Int))] (S := KC) "java/lang/IndexOutOfBoundsException" (fun u => wC G q σ u) := by
  refine MX.mk (by decide +kernel) (Nat.le_of_ble_eq_true rfl) ?_
  intro p e s m av below meth c A H locs ls Q Z ht hQ hP hD hS hl
  have hx := Z.1
  have hb := Z.2.1
  have hown := Z.2.2.2.1
  have hW := Z.2.2.2.2.1
  have hl : lv_has ls 3 [(0, .ref (q 0)), (1, .int (zI (i : Int)))] := hl
  obtain ⟨hn, hru, hrv, hdv, hsr, hmn, ht1, ht2, hwn, hv1, hv2, hmj, htm, hse, htg, hrt, hac, hk1, hk2, hkd, hmm, hmv, hord, hpo, hlo⟩ := id hI
  refine lv_aload_n hx hb dX5_readShare_0 rfl (lv_at hl 0 rfl) ?_
  refine lv_iload_n hx hb dX5_readShare_1 rfl (lv_at hl 1 rfl) ?_
  exact zxout (fun _ => κ) (fun _ => rfl) Z ht hD hS (zrunXV (rest := []) Z hP hD hS hl.1 (m_X5_requireRiver_x l G hst q σ κ (i : Int) (by omega) (by omega) (by omega)) zY_X5_requireRiver km_X5_213 (q0 := 0) rfl rfl rfl rfl ⟨⟨Nat.le_of_ble_eq_true rfl, Nat.le_of_ble_eq_true rfl⟩, Nat.le_of_ble_eq_true rfl, Nat.le_of_ble_eq_true rfl⟩ (Nat.le_of_ble_eq_true rfl) dX5_readShare_2) ⟨Nat.le_refl _, Nat.le_refl _⟩ hQ
abbrev r_X5_readShare_x2 : Room := { frames := 6, cells := 1, slots := 6, locals := 133 }
set_option maxHeartbeats 4000000 in
set_option maxRecDepth 100000 in
theorem m_X5_readShare_x2 (l : Launch) (G : ZG) (hst : l.stackTraces = false) (q : Nat → Nat) (σ : St) (κ : KC) {e_i : Int} (i : Nat) (he_i : e_i = (i : Int)) (hI : okC σ) (h1 : i < σ.1 6) (h2 : (gth (shw σ i) (σ.2.1 10) (κ.1) (σ.1 4)).1 = 0) :
    MX l G yX5_readShare (wY yX5_readShare cX5_readShare 3 (some .float)) r_X5_readShare_x2 (wC G q σ κ) [.ref (q 0), .int (zI e_i)] (S := KC) "java/lang/ArithmeticException" (fun u => wC G q σ u) := by
  subst he_i
  refine MX.mk (by decide +kernel) (Nat.le_of_ble_eq_true rfl) ?_
  intro p e s m av below meth c A H locs ls Q Z ht hQ hP hD hS hl
  have hx := Z.1
  have hb := Z.2.1
  have hown := Z.2.2.2.1
  have hW := Z.2.2.2.2.1
  have hl : lv_has ls 3 [(0, .ref (q 0)), (1, .int (zI ((i : Nat) : Int)))] := hl
  obtain ⟨hn, hru, hrv, hdv, hsr, hmn, ht1, ht2, hwn, hv1, hv2, hmj, htm, hse, htg, hrt, hac, hk1, hk2, hkd, hmm, hmv, hord, hpo, hlo⟩ := id hI
  have hg9 := gth_le (shw σ i) (σ.2.1 10) κ.1 (σ.1 4)
  have hg8 := gth_el (p := shw σ i) (o := σ.2.1 10) (r0 := κ.1) (B := σ.1 4) (σ.1 4) hord
  refine lv_aload_n hx hb dX5_readShare_0 rfl (lv_at hl 0 rfl) ?_
  refine lv_iload_n hx hb dX5_readShare_1 rfl (lv_at hl 1 rfl) ?_
  refine zdet_V ⟨rfl, rfl⟩ Z hD hS (zrunV (rest := []) Z hP hD hS hl.1 (m_X5_requireRiver l G q σ κ (i) rfl (by omega) (by omega)) zY_X5_requireRiver km_X5_213 (q0 := 0) rfl rfl rfl rfl ⟨⟨Nat.le_of_ble_eq_true rfl, Nat.le_of_ble_eq_true rfl⟩, Nat.le_of_ble_eq_true rfl, Nat.le_of_ble_eq_true rfl⟩ (Nat.le_of_ble_eq_true rfl) dX5_readShare_2) (fun H locs hP hD hS => ?_)
  refine lv_aload_n hx hb dX5_readShare_5 rfl (lv_at hl 0 rfl) ?_
  refine lv_iload_n hx hb dX5_readShare_6 rfl (lv_at hl 1 rfl) ?_
  refine lv_aload_n hx hb dX5_readShare_7 rfl (lv_at hl 0 rfl) ?_
  refine gC_0_4 Z hP kf_X5_25 dX5_readShare_8 ?_
  refine zfin_R ⟨rfl, rfl⟩ Z hD hS (zrunV (rest := [.int (zI ((i : Nat) : Int)), .ref (q 0)]) Z hP hD hS hl.1 (m_X1_keptOrder l G q σ κ) zY_X1_keptOrder km_X5_216 (q0 := 1) rfl rfl rfl rfl ⟨⟨Nat.le_of_ble_eq_true rfl, Nat.le_of_ble_eq_true rfl⟩, Nat.le_of_ble_eq_true rfl, Nat.le_of_ble_eq_true rfl⟩ (Nat.le_of_ble_eq_true rfl) dX5_readShare_11) (fun u H locs hp hP hD hS => ?_)
  refine lv_aload_n hx hb dX5_readShare_14 rfl (lv_at hl 0 rfl) ?_
  refine gC_0_9 Z hP kf_X5_57 dX5_readShare_15 ?_
  refine zdet_I ⟨rfl, rfl⟩ Z hD hS (zrunV (rest := []) Z hP hD hS hl.1 (m_X5_gather_kk l G q σ κ (i) rfl hI (by omega)) zY_X5_gather km_X5_220 (q0 := 0) rfl rfl rfl rfl ⟨⟨Nat.le_of_ble_eq_true rfl, Nat.le_of_ble_eq_true rfl⟩, Nat.le_of_ble_eq_true rfl, Nat.le_of_ble_eq_true rfl⟩ (Nat.le_of_ble_eq_true rfl) dX5_readShare_18) (fun H locs hP hD hS => ?_)
  refine lv_istore_n (lv' := [(2, .int (zI (((gth (shw σ i) (σ.2.1 10) (κ.1) (σ.1 4)).1 : Nat) : Int))), (0, .ref (q 0)), (1, .int (zI ((i : Nat) : Int)))]) hx hb dX5_readShare_21 rfl hl (by decide) rfl (fun ls hl => ?_)
  refine lv_iload_n hx hb dX5_readShare_22 rfl (lv_at hl 0 rfl) ?_
  refine zc0_ne (tgt := 36) hx hb (((gth (shw σ i) (σ.2.1 10) (κ.1) (σ.1 4)).1 : Nat) : Int) (zI_toInt (by omega)) dX5_readShare_23 (by decide) (fun c23 => by exfalso; omega) (fun c23 => ?_)
  exact th_ARE (((gth (shw σ i) (σ.2.1 10) (κ.1) (σ.1 4)).2, κ.2.1, κ.2.2)) "the river shows no items" hst Z ht hP hD hS hl.1 rfl (by decide +kernel) ⟨Nat.le_of_ble_eq_true rfl, Nat.le_of_ble_eq_true rfl, Nat.le_of_ble_eq_true rfl, Nat.le_of_ble_eq_true rfl⟩ hQ dX5_readShare_26 dX5_readShare_29 dX5_readShare_30 dX5_readShare_32 dX5_readShare_35
