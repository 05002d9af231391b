abbrev r_J9_floorMod_7cf53 : Room := { frames := 0, cells := 0, slots := 0, locals := 0 }
set_option maxHeartbeats 4000000 in
set_option maxRecDepth 100000 in
theorem m_J9_floorMod_7cf53 (l : Launch) (G : ZG) (ws : va_W) {e_a : Int} (a : Nat) (he_a : e_a = (a : Int)) {e_b : Int} (b : Nat) (he_b : e_b = (b : Int)) (h1 : a < 1000000) (h2 : b = 4) :
    MC l G yJ9_floorMod_7cf53 (wY yJ9_floorMod_7cf53 cJ9_floorMod_7cf53 3 (some .int)) r_J9_floorMod_7cf53 (ws) [.int (zI e_a), .int (zI e_b)] (QI G (fun r9 (_ : Unit) => r9 = (zI ((a % 4 : Nat) : Int))) (fun _ => ws)) := by
  subst he_a
  subst he_b
  refine MC.mkF (by decide +kernel) (Nat.le_of_ble_eq_true rfl) ?_
  intro p e s m av below meth c A H locs ls Q Z hr hnm hQ hP hD hS hl
  have hx := Z.1
  have hb := Z.2.1
  have hown := Z.2.2.2.1
  have hW := Z.2.2.2.2.1
  have hl : lv_has ls 3 [(0, .int (zI ((a : Nat) : Int))), (1, .int (zI ((b : Nat) : Int)))] := hl
  refine lv_iload_n hx hb dJ9_floorMod_7cf53_0 rfl (lv_at hl 0 rfl) ?_
  refine lv_iload_n hx hb dJ9_floorMod_7cf53_1 rfl (lv_at hl 1 rfl) ?_
  refine zr_irem hx hb (by omega) dJ9_floorMod_7cf53_2 ?_
  refine lv_istore_n (lv' := [(2, .int (zI (((a : Nat) : Int) % ((b : Nat) : Int)))), (0, .int (zI ((a : Nat) : Int))), (1, .int (zI ((b : Nat) : Int)))]) hx hb dJ9_floorMod_7cf53_3 rfl hl (by decide) rfl (fun ls hl => ?_)
  refine lv_iload_n hx hb dJ9_floorMod_7cf53_4 rfl (lv_at hl 1 rfl) ?_
  refine lv_iload_n hx hb dJ9_floorMod_7cf53_5 rfl (lv_at hl 2 rfl) ?_
  refine lv_ixor hx hb dJ9_floorMod_7cf53_6 ?_
  refine zc0_ge (tgt := 18) hx hb (zI ((a : Nat) : Int) ^^^ zI ((b : Nat) : Int)).toInt rfl dJ9_floorMod_7cf53_7 (by decide) (fun c7 => ?_) (fun c7 => absurd (xor_nn (x := zI (a : Int)) (y := zI (b : Int)) (by rw [zI_toInt (by omega)]; omega) (by rw [zI_toInt (by omega)]; omega)) (by omega))
  refine lv_iload_n hx hb dJ9_floorMod_7cf53_18 rfl (lv_at hl 0 rfl) ?_
  exact zret_I () Z hr hP hD hS (by rw [h2]; rfl) rfl ⟨Nat.le_refl _, Nat.le_refl _⟩ hQ dJ9_floorMod_7cf53_19
abbrev r_X1_placeOfTitle : Room := { frames := 1, cells := 0, slots := 0, locals := 22 }
set_option maxHeartbeats 4000000 in
set_option maxRecDepth 100000 in
theorem m_X1_placeOfTitle (l : Launch) (G : ZG) (ws : va_W) {e_i : Int} (i : Nat) (he_i : e_i = (i : Int)) {e_b : Int} (b : Nat) (he_b : e_b = (b : Int)) (h1 : i < 30) (h2 : b < 1000000) :
    MC l G yX1_placeOfTitle (wY yX1_placeOfTitle cX1_placeOfTitle 2 (some .int)) r_X1_placeOfTitle (ws) [.int (zI e_i), .int (zI e_b)] (QI G (fun r9 (_ : Unit) => r9 = (zI ((4 * i + b % 4 : Nat) : Int))) (fun _ => ws)) := by
  subst he_i
  subst he_b
  refine MC.mk (by decide +kernel) (Nat.le_of_ble_eq_true rfl) ?_
  intro p e s m av below meth c A H locs ls Q Z hr hnm hQ hP hD hS hl
  have hx := Z.1
  have hb := Z.2.1
  have hown := Z.2.2.2.1
  have hW := Z.2.2.2.2.1
  have hl : lv_has ls 2 [(0, .int (zI ((i : Nat) : Int))), (1, .int (zI ((b : Nat) : Int)))] := hl
  refine lv_iload_n hx hb dX1_placeOfTitle_0 rfl (lv_at hl 0 rfl) ?_
  refine zr_iconst hx hb dX1_placeOfTitle_1 ?_
  refine zr_imul hx hb dX1_placeOfTitle_2 ?_
  refine lv_iload_n hx hb dX1_placeOfTitle_3 rfl (lv_at hl 1 rfl) ?_
  refine zr_iconst hx hb dX1_placeOfTitle_4 ?_
  refine zdet_I ⟨rfl, rfl⟩ Z hD hS (zrunS (rest := [.int (zI (((i : Nat) : Int) * (4 : Int)))]) Z hP hD hS hl.1 (m_J9_floorMod_7cf53 l G (ws) (b) rfl (4) (by omega) (by omega) (by omega)) zY_J9_floorMod_7cf53 km_X1_55 rfl rfl ⟨⟨Nat.le_of_ble_eq_true rfl, Nat.le_of_ble_eq_true rfl⟩, Nat.le_of_ble_eq_true rfl, Nat.le_of_ble_eq_true rfl⟩ (Nat.le_of_ble_eq_true rfl) dX1_placeOfTitle_5) (fun H locs hP hD hS => ?_)
  refine zr_iadd hx hb dX1_placeOfTitle_8 ?_
  exact zret_I () Z hr hP hD hS (congrArg zI (by omega)) rfl ⟨Nat.le_refl _, Nat.le_refl _⟩ hQ dX1_placeOfTitle_9
abbrev r_X1_size : Room := { frames := 0, cells := 0, slots := 0, locals := 0 }
set_option maxHeartbeats 4000000 in
set_option maxRecDepth 100000 in
theorem m_X1_size (l : Launch) (G : ZG) (q : Nat → Nat) (σ : St) (κ : KC)  :
    MC l G yX1_size (wY yX1_size cX1_size 1 (some .int)) r_X1_size (wC G q σ κ) [.ref (q 1)] (QI G (fun r9 (_ : Unit) => r9 = (zI ((σ.1 4 : Nat) : Int))) (fun _ => wC G q σ κ)) := by
  refine MC.mk (by decide +kernel) (Nat.le_of_ble_eq_true rfl) ?_
  intro p e s m av below meth c A H locs ls Q Z hr hnm hQ hP hD hS hl
  have hx := Z.1
  have hb := Z.2.1
  have hown := Z.2.2.2.1
  have hW := Z.2.2.2.2.1
  have hl : lv_has ls 1 [(0, .ref (q 1))] := hl
  refine lv_aload_n hx hb dX1_size_0 rfl (lv_at hl 0 rfl) ?_
  refine gC_1_0 Z hP kf_X1_9 dX1_size_1 ?_
  exact zret_I () Z hr hP hD hS rfl rfl ⟨Nat.le_refl _, Nat.le_refl _⟩ hQ dX1_size_4
abbrev r_X1_time : Room := { frames := 0, cells := 0, slots := 0, locals := 0 }
set_option maxHeartbeats 4000000 in
set_option maxRecDepth 100000 in
theorem m_X1_time (l : Launch) (G : ZG) (q : Nat → Nat) (σ : St) (κ : KC) {e_i : Int} (i : Nat) (he_i : e_i = (i : Int)) (h1 : i < 30) :
    MC l G yX1_time (wY yX1_time cX1_time 2 (some .int)) r_X1_time (wC G q σ κ) [.ref (q 1), .int (zI e_i)] (QI G (fun r9 (_ : Unit) => r9 = (zI (((σ.2.1 1) i : Nat) : Int))) (fun _ => wC G q σ κ)) := by
  subst he_i
  refine MC.mk (by decide +kernel) (Nat.le_of_ble_eq_true rfl) ?_
  intro p e s m av below meth c A H locs ls Q Z hr hnm hQ hP hD hS hl
  have hx := Z.1
  have hb := Z.2.1
  have hown := Z.2.2.2.1
  have hW := Z.2.2.2.2.1
  have hl : lv_has ls 2 [(0, .ref (q 1)), (1, .int (zI ((i : Nat) : Int)))] := hl
  refine lv_aload_n hx hb dX1_time_0 rfl (lv_at hl 0 rfl) ?_
  refine gC_1_2 Z hP kf_X1_19 dX1_time_1 ?_
  refine lv_iload_n hx hb dX1_time_4 rfl (lv_at hl 1 rfl) ?_
  refine ldN Z hP 9 (σ.2.1 1) rfl (i) rfl (by omega) (by decide) dX1_time_5 ?_
  exact zret_I () Z hr hP hD hS rfl rfl ⟨Nat.le_refl _, Nat.le_refl _⟩ hQ dX1_time_6
abbrev r_X1_versionCount : Room := { frames := 0, cells := 0, slots := 0, locals := 0 }
set_option maxHeartbeats 4000000 in
set_option maxRecDepth 100000 in
theorem m_X1_versionCount (l : Launch) (G : ZG) (q : Nat → Nat) (σ : St) (κ : KC) {e_i : Int} (i : Nat) (he_i : e_i = (i : Int)) (h1 : i < 30) :
    MC l G yX1_versionCount (wY yX1_versionCount cX1_versionCount 2 (some .int)) r_X1_versionCount (wC G q σ κ) [.ref (q 1), .int (zI e_i)] (QI G (fun r9 (_ : Unit) => r9 = (zI (((σ.2.1 2) i : Nat) : Int))) (fun _ => wC G q σ κ)) := by
  subst he_i
  refine MC.mk (by decide +kernel) (Nat.le_of_ble_eq_true rfl) ?_
  intro p e s m av below meth c A H locs ls Q Z hr hnm hQ hP hD hS hl
  have hx := Z.1
  have hb := Z.2.1
  have hown := Z.2.2.2.1
  have hW := Z.2.2.2.2.1
  have hl : lv_has ls 2 [(0, .ref (q 1)), (1, .int (zI ((i : Nat) : Int)))] := hl
  refine lv_aload_n hx hb dX1_versionCount_0 rfl (lv_at hl 0 rfl) ?_
  refine gC_1_4 Z hP kf_X1_25 dX1_versionCount_1 ?_
  refine lv_iload_n hx hb dX1_versionCount_4 rfl (lv_at hl 1 rfl) ?_
  refine ldN Z hP 11 (σ.2.1 2) rfl (i) rfl (by omega) (by decide) dX1_versionCount_5 ?_
  exact zret_I () Z hr hP hD hS rfl rfl ⟨Nat.le_refl _, Nat.le_refl _⟩ hQ dX1_versionCount_6
abbrev r_X1_major : Room := { frames := 0, cells := 0, slots := 0, locals := 0 }
set_option maxHeartbeats 4000000 in
set_option maxRecDepth 100000 in
theorem m_X1_major (l : Launch) (G : ZG) (q : Nat → Nat) (σ : St) (κ : KC) {e_i : Int} (i : Nat) (he_i : e_i = (i : Int)) (h1 : i < 30) :
    MC l G yX1_major (wY yX1_major cX1_major 2 (some .int)) r_X1_major (wC G q σ κ) [.ref (q 1), .int (zI e_i)] (QI G (fun r9 (_ : Unit) => r9 = (zI (((σ.2.1 3) i : Nat) : Int))) (fun _ => wC G q σ κ)) := by
  subst he_i
  refine MC.mk (by decide +kernel) (Nat.le_of_ble_eq_true rfl) ?_
  intro p e s m av below meth c A H locs ls Q Z hr hnm hQ hP hD hS hl
  have hx := Z.1
  have hb := Z.2.1
  have hown := Z.2.2.2.1
  have hW := Z.2.2.2.2.1
  have hl : lv_has ls 2 [(0, .ref (q 1)), (1, .int (zI ((i : Nat) : Int)))] := hl
  refine lv_aload_n hx hb dX1_major_0 rfl (lv_at hl 0 rfl) ?_
  refine gC_1_5 Z hP kf_X1_28 dX1_major_1 ?_
  refine lv_iload_n hx hb dX1_major_4 rfl (lv_at hl 1 rfl) ?_
  refine ldN Z hP 12 (σ.2.1 3) rfl (i) rfl (by omega) (by decide) dX1_major_5 ?_
  exact zret_I () Z hr hP hD hS rfl rfl ⟨Nat.le_refl _, Nat.le_refl _⟩ hQ dX1_major_6
abbrev r_X1_tellers : Room := { frames := 0, cells := 0, slots := 0, locals := 0 }
set_option maxHeartbeats 4000000 in
set_option maxRecDepth 100000 in
theorem m_X1_tellers (l : Launch) (G : ZG) (q : Nat → Nat) (σ : St) (κ : KC) {e_i : Int} (i : Nat) (he_i : e_i = (i : Int)) (h1 : i < 30) :
    MC l G yX1_tellers (wY yX1_tellers cX1_tellers 2 (some .int)) r_X1_tellers (wC G q σ κ) [.ref (q 1), .int (zI e_i)] (QI G (fun r9 (_ : Unit) => r9 = ((σ.2.2.1 0) i)) (fun _ => wC G q σ κ)) := by
  subst he_i
  refine MC.mk (by decide +kernel) (Nat.le_of_ble_eq_true rfl) ?_
  intro p e s m av below meth c A H locs ls Q Z hr hnm hQ hP hD hS hl
  have hx := Z.1
  have hb := Z.2.1
  have hown := Z.2.2.2.1
  have hW := Z.2.2.2.2.1
  have hl : lv_has ls 2 [(0, .ref (q 1)), (1, .int (zI ((i : Nat) : Int)))] := hl
  refine lv_aload_n hx hb dX1_tellers_0 rfl (lv_at hl 0 rfl) ?_
  refine gC_1_3 Z hP kf_X1_22 dX1_tellers_1 ?_
  refine lv_iload_n hx hb dX1_tellers_4 rfl (lv_at hl 1 rfl) ?_
  refine ldI Z hP 10 (σ.2.2.1 0) rfl (i) rfl (by omega) (by decide) dX1_tellers_5 ?_
  exact zret_I () Z hr hP hD hS rfl rfl ⟨Nat.le_refl _, Nat.le_refl _⟩ hQ dX1_tellers_6
abbrev r_X1_keepsTitle : Room := { frames := 0, cells := 0, slots := 0, locals := 0 }
set_option maxHeartbeats 4000000 in
set_option maxRecDepth 100000 in
theorem m_X1_keepsTitle (l : Launch) (G : ZG) (q : Nat → Nat) (σ : St) (κ : KC) {e_i : Int} (i : Nat) (he_i : e_i = (i : Int)) (b : Int) (h1 : i < 30) (h2 : σ.2.1 2 i < 1000000) (h3 : zR b) :
    MC l G yX1_keepsTitle (wY yX1_keepsTitle cX1_keepsTitle 4 (some .boolean)) r_X1_keepsTitle (wC G q σ κ) [.ref (q 1), .int (zI e_i), .int (zI (b : Int))] (QI G (fun r9 (_ : Unit) => r9 = (tB (decide (0 ≤ b ∧ b < (((σ.2.1 2) i : Nat) : Int) ∧ (((σ.2.1 2) i : Nat) : Int) - 4 ≤ b)))) (fun _ => wC G q σ κ)) := by
  subst he_i
  refine MC.mk (by decide +kernel) (Nat.le_of_ble_eq_true rfl) ?_
  intro p e s m av below meth c A H locs ls Q Z hr hnm hQ hP hD hS hl
  have hx := Z.1
  have hb := Z.2.1
  have hown := Z.2.2.2.1
  have hW := Z.2.2.2.2.1
  have hl : lv_has ls 4 [(0, .ref (q 1)), (1, .int (zI ((i : Nat) : Int))), (2, .int (zI (b : Int)))] := hl
  refine lv_aload_n hx hb dX1_keepsTitle_0 rfl (lv_at hl 0 rfl) ?_
  refine gC_1_4 Z hP kf_X1_25 dX1_keepsTitle_1 ?_
  refine lv_iload_n hx hb dX1_keepsTitle_4 rfl (lv_at hl 1 rfl) ?_
  refine ldN Z hP 11 (σ.2.1 2) rfl (i) rfl (by omega) (by decide) dX1_keepsTitle_5 ?_
  refine lv_istore_n (lv' := [(3, .int (zI (((σ.2.1 2) (i) : Nat) : Int))), (0, .ref (q 1)), (1, .int (zI ((i : Nat) : Int))), (2, .int (zI (b : Int)))]) hx hb dX1_keepsTitle_6 rfl hl (by decide) rfl (fun ls hl => ?_)
  refine lv_iload_n hx hb dX1_keepsTitle_7 rfl (lv_at hl 3 rfl) ?_
  refine zc0_lt (tgt := 27) hx hb (b : Int) (zI_toInt (by omega)) dX1_keepsTitle_8 (by decide) (fun c8 => ?_) (fun c8 => ?_)
  · skip
    refine zr_iconst hx hb dX1_keepsTitle_27 ?_
    exact zret_B () Z hr (by decide +kernel) hP hD hS (tB_0 (by simp; omega)) rfl ⟨Nat.le_refl _, Nat.le_refl _⟩ hQ dX1_keepsTitle_28
  · skip
    refine lv_iload_n hx hb dX1_keepsTitle_11 rfl (lv_at hl 3 rfl) ?_
    refine lv_iload_n hx hb dX1_keepsTitle_12 rfl (lv_at hl 0 rfl) ?_
    refine zc_ge (tgt := 27) hx hb (b : Int) (((σ.2.1 2) (i) : Nat) : Int) (zI_toInt (by omega)) (zI_toInt (by omega)) dX1_keepsTitle_13 (by decide) (fun c13 => ?_) (fun c13 => ?_)
    · skip
      refine zr_iconst hx hb dX1_keepsTitle_27 ?_
      exact zret_B () Z hr (by decide +kernel) hP hD hS (tB_0 (by simp; omega)) rfl ⟨Nat.le_refl _, Nat.le_refl _⟩ hQ dX1_keepsTitle_28
    · skip
      refine lv_iload_n hx hb dX1_keepsTitle_16 rfl (lv_at hl 3 rfl) ?_
      refine lv_iload_n hx hb dX1_keepsTitle_17 rfl (lv_at hl 0 rfl) ?_
      refine zr_iconst hx hb dX1_keepsTitle_18 ?_
      refine zr_isub hx hb dX1_keepsTitle_19 ?_
      refine zc_lt (tgt := 27) hx hb (b : Int) ((((σ.2.1 2) (i) : Nat) : Int) - (4 : Int)) (zI_toInt (by omega)) (zI_toInt (by omega)) dX1_keepsTitle_20 (by decide) (fun c20 => ?_) (fun c20 => ?_)
      · skip
        refine zr_iconst hx hb dX1_keepsTitle_27 ?_
        exact zret_B () Z hr (by decide +kernel) hP hD hS (tB_0 (by simp; omega)) rfl ⟨Nat.le_refl _, Nat.le_refl _⟩ hQ dX1_keepsTitle_28
      · skip
        refine zr_iconst hx hb dX1_keepsTitle_23 ?_
        refine lv_goto (tgt := 28) hx hb dX1_keepsTitle_24 (by decide) ?_
        exact zret_B () Z hr (by decide +kernel) hP hD hS (tB_1 (by simp; omega)) rfl ⟨Nat.le_refl _, Nat.le_refl _⟩ hQ dX1_keepsTitle_28
abbrev r_X1_titleAt : Room := { frames := 2, cells := 0, slots := 0, locals := 43 }
set_option maxHeartbeats 4000000 in
set_option maxRecDepth 100000 in
theorem m_X1_titleAt (l : Launch) (G : ZG) (q : Nat → Nat) (σ : St) (κ : KC) {e_i : Int} (i : Nat) (he_i : e_i = (i : Int)) {e_b : Int} (b : Nat) (he_b : e_b = (b : Int)) (h1 : i < 30) (h2 : b < 1000000) :
    MC l G yX1_titleAt (wY yX1_titleAt cX1_titleAt 3 (some .long)) r_X1_titleAt (wC G q σ κ) [.ref (q 1), .int (zI e_i), .int (zI e_b)] (QL G (fun r9 (_ : Unit) => r9 = ((σ.2.2.2 0) (4 * i + b % 4))) (fun _ => wC G q σ κ)) := by
  subst he_i
  subst he_b
  refine MC.mk (by decide +kernel) (Nat.le_of_ble_eq_true rfl) ?_
  intro p e s m av below meth c A H locs ls Q Z hr hnm hQ hP hD hS hl
  have hx := Z.1
  have hb := Z.2.1
  have hown := Z.2.2.2.1
  have hW := Z.2.2.2.2.1
  have hl : lv_has ls 3 [(0, .ref (q 1)), (1, .int (zI ((i : Nat) : Int))), (2, .int (zI ((b : Nat) : Int)))] := hl
  refine lv_aload_n hx hb dX1_titleAt_0 rfl (lv_at hl 0 rfl) ?_
  refine gC_1_6 Z hP kf_X1_31 dX1_titleAt_1 ?_
  refine lv_iload_n hx hb dX1_titleAt_4 rfl (lv_at hl 1 rfl) ?_
  refine lv_iload_n hx hb dX1_titleAt_5 rfl (lv_at hl 2 rfl) ?_
  refine zdet_I ⟨rfl, rfl⟩ Z hD hS (zrunS (rest := [.ref (q 13)]) Z hP hD hS hl.1 (m_X1_placeOfTitle l G (wC G q σ κ) (i) rfl (b) rfl (by omega) (by omega)) zY_X1_placeOfTitle km_X1_47 rfl rfl ⟨⟨Nat.le_of_ble_eq_true rfl, Nat.le_of_ble_eq_true rfl⟩, Nat.le_of_ble_eq_true rfl, Nat.le_of_ble_eq_true rfl⟩ (Nat.le_of_ble_eq_true rfl) dX1_titleAt_6) (fun H locs hP hD hS => ?_)
  refine ldL Z hP 13 (σ.2.2.2 0) rfl (4 * i + b % 4) rfl (by omega) (by decide) dX1_titleAt_9 ?_
  exact zret_L () Z hr hP hD hS rfl rfl ⟨Nat.le_refl _, Nat.le_refl _⟩ hQ dX1_titleAt_10
abbrev r_X1_latestTitle : Room := { frames := 3, cells := 0, slots := 0, locals := 65 }
set_option maxHeartbeats 4000000 in
set_option maxRecDepth 100000 in
theorem m_X1_latestTitle (l : Launch) (G : ZG) (q : Nat → Nat) (σ : St) (κ : KC) {e_i : Int} (i : Nat) (he_i : e_i = (i : Int)) (h1 : i < 30) (h2 : 1 ≤ σ.2.1 2 i) (h3 : σ.2.1 2 i < 1000000) :
    MC l G yX1_latestTitle (wY yX1_latestTitle cX1_latestTitle 2 (some .long)) r_X1_latestTitle (wC G q σ κ) [.ref (q 1), .int (zI e_i)] (QL G (fun r9 (_ : Unit) => r9 = (lat σ i)) (fun _ => wC G q σ κ)) := by
  subst he_i
  refine MC.mk (by decide +kernel) (Nat.le_of_ble_eq_true rfl) ?_
  intro p e s m av below meth c A H locs ls Q Z hr hnm hQ hP hD hS hl
  have hx := Z.1
  have hb := Z.2.1
  have hown := Z.2.2.2.1
  have hW := Z.2.2.2.2.1
  have hl : lv_has ls 2 [(0, .ref (q 1)), (1, .int (zI ((i : Nat) : Int)))] := hl
  refine lv_aload_n hx hb dX1_latestTitle_0 rfl (lv_at hl 0 rfl) ?_
  refine lv_iload_n hx hb dX1_latestTitle_1 rfl (lv_at hl 1 rfl) ?_
  refine lv_aload_n hx hb dX1_latestTitle_2 rfl (lv_at hl 0 rfl) ?_
  refine gC_1_4 Z hP kf_X1_25 dX1_latestTitle_3 ?_
  refine lv_iload_n hx hb dX1_latestTitle_6 rfl (lv_at hl 1 rfl) ?_
  refine ldN Z hP 11 (σ.2.1 2) rfl (i) rfl (by omega) (by decide) dX1_latestTitle_7 ?_
  refine zr_iconst hx hb dX1_latestTitle_8 ?_
  refine zr_isub hx hb dX1_latestTitle_9 ?_
  refine zdet_L ⟨rfl, rfl⟩ Z hD hS (zrunV (rest := []) Z hP hD hS hl.1 (m_X1_titleAt l G q σ κ (i) rfl ((σ.2.1 2 i - 1)) (by omega) (by omega) (by omega)) zY_X1_titleAt km_X1_51 (q0 := 1) rfl rfl rfl rfl ⟨⟨Nat.le_of_ble_eq_true rfl, Nat.le_of_ble_eq_true rfl⟩, Nat.le_of_ble_eq_true rfl, Nat.le_of_ble_eq_true rfl⟩ (Nat.le_of_ble_eq_true rfl) dX1_latestTitle_10) (fun H locs hP hD hS => ?_)
  exact zret_L () Z hr hP hD hS rfl rfl ⟨Nat.le_refl _, Nat.le_refl _⟩ hQ dX1_latestTitle_13
abbrev r_X1_ownerOfPair : Room := { frames := 0, cells := 0, slots := 0, locals := 0 }
set_option maxHeartbeats 4000000 in
set_option maxRecDepth 100000 in
theorem m_X1_ownerOfPair (l : Launch) (G : ZG) (q : Nat → Nat) (σ : St) (κ : KC) (a : Int) (b : Int) (h1 : zR a) (h2 : zR b) :
    MC l G yX1_ownerOfPair (wY yX1_ownerOfPair cX1_ownerOfPair 3 (some .int)) r_X1_ownerOfPair (wC G q σ κ) [.ref (q 1), .int (zI (a : Int)), .int (zI (b : Int))] (QI G (fun r9 (_ : Unit) => r9 = (zI (own σ a b : Int))) (fun _ => wC G q σ κ)) := by
  refine MC.mk (by decide +kernel) (Nat.le_of_ble_eq_true rfl) ?_
  intro p e s m av below meth c A H locs ls Q Z hr hnm hQ hP hD hS hl
  have hx := Z.1
  have hb := Z.2.1
  have hown := Z.2.2.2.1
  have hW := Z.2.2.2.2.1
  have hl : lv_has ls 3 [(0, .ref (q 1)), (1, .int (zI (a : Int))), (2, .int (zI (b : Int)))] := hl
  refine lv_iload_n hx hb dX1_ownerOfPair_0 rfl (lv_at hl 1 rfl) ?_
  refine zc0_lt (tgt := 21) hx hb (a : Int) (zI_toInt (by omega)) dX1_ownerOfPair_1 (by decide) (fun c1 => ?_) (fun c1 => ?_)
  · skip
    refine zr_iconst hx hb dX1_ownerOfPair_21 ?_
    exact zret_I () Z hr hP hD hS (congrArg zI (by unfold own; rw [if_neg (by omega)])) rfl ⟨Nat.le_refl _, Nat.le_refl _⟩ hQ dX1_ownerOfPair_22
  · skip
    refine lv_iload_n hx hb dX1_ownerOfPair_4 rfl (lv_at hl 1 rfl) ?_
    refine zr_bipush hx hb dX1_ownerOfPair_5 (by decide) ?_
    refine zc_ge (tgt := 21) hx hb (a : Int) (6 : Int) (zI_toInt (by omega)) (zI_toInt (by decide)) dX1_ownerOfPair_7 (by decide) (fun c7 => ?_) (fun c7 => ?_)
    · skip
      refine zr_iconst hx hb dX1_ownerOfPair_21 ?_
      exact zret_I () Z hr hP hD hS (congrArg zI (by unfold own; rw [if_neg (by omega)])) rfl ⟨Nat.le_refl _, Nat.le_refl _⟩ hQ dX1_ownerOfPair_22
    · skip
      refine lv_iload_n hx hb dX1_ownerOfPair_10 rfl (lv_at hl 2 rfl) ?_
      refine zc0_lt (tgt := 21) hx hb (b : Int) (zI_toInt (by omega)) dX1_ownerOfPair_11 (by decide) (fun c11 => ?_) (fun c11 => ?_)
      · skip
        refine zr_iconst hx hb dX1_ownerOfPair_21 ?_
        exact zret_I () Z hr hP hD hS (congrArg zI (by unfold own; rw [if_neg (by omega)])) rfl ⟨Nat.le_refl _, Nat.le_refl _⟩ hQ dX1_ownerOfPair_22
      · skip
        refine lv_iload_n hx hb dX1_ownerOfPair_14 rfl (lv_at hl 2 rfl) ?_
        refine zr_sipush hx hb dX1_ownerOfPair_15 (by decide) ?_
        refine zc_lt (tgt := 23) hx hb (b : Int) (1000 : Int) (zI_toInt (by omega)) (zI_toInt (by decide)) dX1_ownerOfPair_18 (by decide) (fun c18 => ?_) (fun c18 => ?_)
        · skip
          refine lv_aload_n hx hb dX1_ownerOfPair_23 rfl (lv_at hl 0 rfl) ?_
          refine gC_1_9 Z hP kf_X1_41 dX1_ownerOfPair_24 ?_
          refine lv_iload_n hx hb dX1_ownerOfPair_27 rfl (lv_at hl 1 rfl) ?_
          refine zr_sipush hx hb dX1_ownerOfPair_28 (by decide) ?_
          refine zr_imul hx hb dX1_ownerOfPair_31 ?_
          refine lv_iload_n hx hb dX1_ownerOfPair_32 rfl (lv_at hl 2 rfl) ?_
          refine zr_iadd hx hb dX1_ownerOfPair_33 ?_
          refine ldN Z hP 16 (σ.2.1 11) rfl (1000 * a.toNat + b.toNat) (by omega) (by omega) (by decide) dX1_ownerOfPair_34 ?_
          refine zr_iconst hx hb dX1_ownerOfPair_35 ?_
          refine zr_isub hx hb dX1_ownerOfPair_36 ?_
          exact zret_I () Z hr hP hD hS (congrArg zI (by unfold own; rw [if_pos (by omega)])) rfl ⟨Nat.le_refl _, Nat.le_refl _⟩ hQ dX1_ownerOfPair_37
        · skip
          refine zr_iconst hx hb dX1_ownerOfPair_21 ?_
          exact zret_I () Z hr hP hD hS (congrArg zI (by unfold own; rw [if_neg (by omega)])) rfl ⟨Nat.le_refl _, Nat.le_refl _⟩ hQ dX1_ownerOfPair_22
abbrev r_X1_ownerOfLink : Room := { frames := 0, cells := 0, slots := 0, locals := 0 }
set_option maxHeartbeats 4000000 in
set_option maxRecDepth 100000 in
theorem m_X1_ownerOfLink (l : Launch) (G : ZG) (q : Nat → Nat) (σ : St) (κ : KC) (a : Int) (h1 : zR a) :
    MC l G yX1_ownerOfLink (wY yX1_ownerOfLink cX1_ownerOfLink 2 (some .int)) r_X1_ownerOfLink (wC G q σ κ) [.ref (q 1), .int (zI (a : Int))] (QI G (fun r9 (_ : Unit) => r9 = (zI (ownL σ a : Int))) (fun _ => wC G q σ κ)) := by
  refine MC.mk (by decide +kernel) (Nat.le_of_ble_eq_true rfl) ?_
  intro p e s m av below meth c A H locs ls Q Z hr hnm hQ hP hD hS hl
  have hx := Z.1
  have hb := Z.2.1
  have hown := Z.2.2.2.1
  have hW := Z.2.2.2.2.1
  have hl : lv_has ls 2 [(0, .ref (q 1)), (1, .int (zI (a : Int)))] := hl
  refine lv_iload_n hx hb dX1_ownerOfLink_0 rfl (lv_at hl 1 rfl) ?_
  refine zc0_lt (tgt := 11) hx hb (a : Int) (zI_toInt (by omega)) dX1_ownerOfLink_1 (by decide) (fun c1 => ?_) (fun c1 => ?_)
  · skip
    refine zr_iconst hx hb dX1_ownerOfLink_11 ?_
    exact zret_I () Z hr hP hD hS (congrArg zI (by unfold ownL; rw [if_neg (by omega)])) rfl ⟨Nat.le_refl _, Nat.le_refl _⟩ hQ dX1_ownerOfLink_12
  · skip
    refine lv_iload_n hx hb dX1_ownerOfLink_4 rfl (lv_at hl 1 rfl) ?_
    refine zr_sipush hx hb dX1_ownerOfLink_5 (by decide) ?_
    refine zc_lt (tgt := 13) hx hb (a : Int) (1000 : Int) (zI_toInt (by omega)) (zI_toInt (by decide)) dX1_ownerOfLink_8 (by decide) (fun c8 => ?_) (fun c8 => ?_)
    · skip
      refine lv_aload_n hx hb dX1_ownerOfLink_13 rfl (lv_at hl 0 rfl) ?_
      refine gC_1_10 Z hP kf_X1_44 dX1_ownerOfLink_14 ?_
      refine lv_iload_n hx hb dX1_ownerOfLink_17 rfl (lv_at hl 1 rfl) ?_
      refine ldN Z hP 17 (σ.2.1 12) rfl (a.toNat) (by omega) (by omega) (by decide) dX1_ownerOfLink_18 ?_
      refine zr_iconst hx hb dX1_ownerOfLink_19 ?_
      refine zr_isub hx hb dX1_ownerOfLink_20 ?_
      exact zret_I () Z hr hP hD hS (congrArg zI (by unfold ownL; rw [if_pos (by omega)])) rfl ⟨Nat.le_refl _, Nat.le_refl _⟩ hQ dX1_ownerOfLink_21
    · skip
      refine zr_iconst hx hb dX1_ownerOfLink_11 ?_
      exact zret_I () Z hr hP hD hS (congrArg zI (by unfold ownL; rw [if_neg (by omega)])) rfl ⟨Nat.le_refl _, Nat.le_refl _⟩ hQ dX1_ownerOfLink_12
abbrev r_X1_isAhead : Room := { frames := 0, cells := 0, slots := 0, locals := 0 }
set_option maxHeartbeats 4000000 in
set_option maxRecDepth 100000 in
theorem m_X1_isAhead (l : Launch) (G : ZG) (q : Nat → Nat) (σ : St) (κ : KC) {e_i : Int} (i : Nat) (he_i : e_i = (i : Int)) {e_j : Int} (j : Nat) (he_j : e_j = (j : Int)) (h1 : i < 30) (h2 : j < 30) (h3 : σ.2.1 1 i < 1000000) (h4 : σ.2.1 1 j < 1000000) :
    MC l G yX1_isAhead (wY yX1_isAhead cX1_isAhead 3 (some .boolean)) r_X1_isAhead (wC G q σ κ) [.ref (q 1), .int (zI e_i), .int (zI e_j)] (QI G (fun r9 (_ : Unit) => r9 = (tB (isAh σ i j))) (fun _ => wC G q σ κ)) := by
  subst he_i
  subst he_j
  refine MC.mk (by decide +kernel) (Nat.le_of_ble_eq_true rfl) ?_
  intro p e s m av below meth c A H locs ls Q Z hr hnm hQ hP hD hS hl
  have hx := Z.1
  have hb := Z.2.1
  have hown := Z.2.2.2.1
  have hW := Z.2.2.2.2.1
  have hl : lv_has ls 3 [(0, .ref (q 1)), (1, .int (zI ((i : Nat) : Int))), (2, .int (zI ((j : Nat) : Int)))] := hl
  refine lv_aload_n hx hb dX1_isAhead_0 rfl (lv_at hl 0 rfl) ?_
  refine gC_1_2 Z hP kf_X1_19 dX1_isAhead_1 ?_
  refine lv_iload_n hx hb dX1_isAhead_4 rfl (lv_at hl 1 rfl) ?_
  refine ldN Z hP 9 (σ.2.1 1) rfl (i) rfl (by omega) (by decide) dX1_isAhead_5 ?_
  refine lv_aload_n hx hb dX1_isAhead_6 rfl (lv_at hl 0 rfl) ?_
  refine gC_1_2 Z hP kf_X1_19 dX1_isAhead_7 ?_
  refine lv_iload_n hx hb dX1_isAhead_10 rfl (lv_at hl 2 rfl) ?_
  refine ldN Z hP 9 (σ.2.1 1) rfl (j) rfl (by omega) (by decide) dX1_isAhead_11 ?_
  refine zc_eq (tgt := 36) hx hb (((σ.2.1 1) (i) : Nat) : Int) (((σ.2.1 1) (j) : Nat) : Int) (zI_toInt (by omega)) (zI_toInt (by omega)) dX1_isAhead_12 (by decide) (fun c12 => ?_) (fun c12 => ?_)
  · skip
    refine lv_iload_n hx hb dX1_isAhead_36 rfl (lv_at hl 1 rfl) ?_
    refine lv_iload_n hx hb dX1_isAhead_37 rfl (lv_at hl 2 rfl) ?_
    refine zc_le (tgt := 45) hx hb ((i : Nat) : Int) ((j : Nat) : Int) (zI_toInt (by omega)) (zI_toInt (by omega)) dX1_isAhead_38 (by decide) (fun c38 => ?_) (fun c38 => ?_)
    · skip
      refine zr_iconst hx hb dX1_isAhead_45 ?_
      exact zret_B () Z hr (by decide +kernel) hP hD hS (tB_0 (by unfold isAh; simp; omega)) rfl ⟨Nat.le_refl _, Nat.le_refl _⟩ hQ dX1_isAhead_46
    · skip
      refine zr_iconst hx hb dX1_isAhead_41 ?_
      refine lv_goto (tgt := 46) hx hb dX1_isAhead_42 (by decide) ?_
      exact zret_B () Z hr (by decide +kernel) hP hD hS (tB_1 (by unfold isAh; simp; omega)) rfl ⟨Nat.le_refl _, Nat.le_refl _⟩ hQ dX1_isAhead_46
  · skip
    refine lv_aload_n hx hb dX1_isAhead_15 rfl (lv_at hl 0 rfl) ?_
    refine gC_1_2 Z hP kf_X1_19 dX1_isAhead_16 ?_
    refine lv_iload_n hx hb dX1_isAhead_19 rfl (lv_at hl 1 rfl) ?_
    refine ldN Z hP 9 (σ.2.1 1) rfl (i) rfl (by omega) (by decide) dX1_isAhead_20 ?_
    refine lv_aload_n hx hb dX1_isAhead_21 rfl (lv_at hl 0 rfl) ?_
    refine gC_1_2 Z hP kf_X1_19 dX1_isAhead_22 ?_
    refine lv_iload_n hx hb dX1_isAhead_25 rfl (lv_at hl 2 rfl) ?_
    refine ldN Z hP 9 (σ.2.1 1) rfl (j) rfl (by omega) (by decide) dX1_isAhead_26 ?_
    refine zc_le (tgt := 34) hx hb (((σ.2.1 1) (i) : Nat) : Int) (((σ.2.1 1) (j) : Nat) : Int) (zI_toInt (by omega)) (zI_toInt (by omega)) dX1_isAhead_27 (by decide) (fun c27 => ?_) (fun c27 => ?_)
    · skip
      refine zr_iconst hx hb dX1_isAhead_34 ?_
      exact zret_B () Z hr (by decide +kernel) hP hD hS (tB_0 (by unfold isAh; simp; omega)) rfl ⟨Nat.le_refl _, Nat.le_refl _⟩ hQ dX1_isAhead_35
    · skip
      refine zr_iconst hx hb dX1_isAhead_30 ?_
      refine lv_goto (tgt := 35) hx hb dX1_isAhead_31 (by decide) ?_
      exact zret_B () Z hr (by decide +kernel) hP hD hS (tB_1 (by unfold isAh; simp; omega)) rfl ⟨Nat.le_refl _, Nat.le_refl _⟩ hQ dX1_isAhead_35
abbrev r_X1_keptOrder : Room := { frames := 0, cells := 0, slots := 0, locals := 0 }
set_option maxHeartbeats 4000000 in
set_option maxRecDepth 100000 in
theorem m_X1_keptOrder (l : Launch) (G : ZG) (q : Nat → Nat) (σ : St) (κ : KC)  :
    MC l G yX1_keptOrder (wY yX1_keptOrder cX1_keptOrder 1 (some (.array .int))) r_X1_keptOrder (wC G q σ κ) [.ref (q 1)] (QR G (fun (_ : Unit) => True) (q 14) (fun _ => wC G q σ κ)) := by
  refine MC.mk (by decide +kernel) (Nat.le_of_ble_eq_true rfl) ?_
  intro p e s m av below meth c A H locs ls Q Z hr hnm hQ hP hD hS hl
  have hx := Z.1
  have hb := Z.2.1
  have hown := Z.2.2.2.1
  have hW := Z.2.2.2.2.1
  have hl : lv_has ls 1 [(0, .ref (q 1))] := hl
  refine lv_aload_n hx hb dX1_keptOrder_0 rfl (lv_at hl 0 rfl) ?_
  refine gC_1_7 Z hP kf_X1_35 dX1_keptOrder_1 ?_
  exact zret_R () Z hr hP hD hS trivial rfl ⟨Nat.le_refl _, Nat.le_refl _⟩ hQ dX1_keptOrder_4
abbrev r_X1_addTeller : Room := { frames := 0, cells := 0, slots := 0, locals := 0 }
set_option maxHeartbeats 4000000 in
set_option maxRecDepth 100000 in
theorem m_X1_addTeller (l : Launch) (G : ZG) (q : Nat → Nat) (σ : St) (κ : KC) {e_i : Int} (i : Nat) (he_i : e_i = (i : Int)) {e_sr : Int} (sr : Nat) (he_sr : e_sr = (sr : Int)) (h1 : i < 30) (h2 : sr < 6) :
    MC l G yX1_addTeller (wY yX1_addTeller cX1_addTeller 3 none) r_X1_addTeller (wC G q σ κ) [.ref (q 1), .int (zI e_i), .int (zI e_sr)] (QV G (fun (_ : Unit) => True) (fun _ => wC G q (sI σ 0 (va_up (σ.2.2.1 0) i ((σ.2.2.1 0) i ||| (zI 1 <<< (zI ((sr : Nat) : Int) &&& 31))))) κ)) := by
  subst he_i
  subst he_sr
  refine MC.mk (by decide +kernel) (Nat.le_of_ble_eq_true rfl) ?_
  intro p e s m av below meth c A H locs ls Q Z hr hnm hQ hP hD hS hl
  have hx := Z.1
  have hb := Z.2.1
  have hown := Z.2.2.2.1
  have hW := Z.2.2.2.2.1
  have hl : lv_has ls 3 [(0, .ref (q 1)), (1, .int (zI ((i : Nat) : Int))), (2, .int (zI ((sr : Nat) : Int)))] := hl
  refine lv_aload_n hx hb dX1_addTeller_0 rfl (lv_at hl 0 rfl) ?_
  refine gC_1_3 Z hP kf_X1_22 dX1_addTeller_1 ?_
  refine lv_iload_n hx hb dX1_addTeller_4 rfl (lv_at hl 1 rfl) ?_
  refine lv_dup2_11 hx hb dX1_addTeller_5 rfl rfl ?_
  refine ldI Z hP 10 (σ.2.2.1 0) rfl (i) rfl (by omega) (by decide) dX1_addTeller_6 ?_
  refine zr_iconst hx hb dX1_addTeller_7 ?_
  refine lv_iload_n hx hb dX1_addTeller_8 rfl (lv_at hl 2 rfl) ?_
  refine lv_ishl hx hb dX1_addTeller_9 ?_
  refine lv_ior hx hb dX1_addTeller_10 ?_
  refine stI (ws1 := wC G q (sI σ 0 (va_up (σ.2.2.1 0) (i) (((σ.2.2.1 0) (i)) ||| (zI (1 : Int) <<< (zI ((sr : Nat) : Int) &&& 31))))) κ) Z hP hD hS 10 (σ.2.2.1 0) rfl (i) rfl (by omega) (by decide) rfl dX1_addTeller_11 (fun H locs hP hD hS => ?_)
  exact zret_V () Z hr hP hD hS trivial rfl ⟨Nat.le_refl _, Nat.le_refl _⟩ hQ dX1_addTeller_12
abbrev r_X4_size : Room := { frames := 0, cells := 0, slots := 0, locals := 0 }
set_option maxHeartbeats 4000000 in
set_option maxRecDepth 100000 in
theorem m_X4_size (l : Launch) (G : ZG) (q : Nat → Nat) (σ : St) (κ : KC)  :
    MC l G yX4_size (wY yX4_size cX4_size 1 (some .int)) r_X4_size (wC G q σ κ) [.ref (q 2)] (QI G (fun r9 (_ : Unit) => r9 = (zI ((σ.1 5 : Nat) : Int))) (fun _ => wC G q σ κ)) := by
  refine MC.mk (by decide +kernel) (Nat.le_of_ble_eq_true rfl) ?_
  intro p e s m av below meth c A H locs ls Q Z hr hnm hQ hP hD hS hl
  have hx := Z.1
  have hb := Z.2.1
  have hown := Z.2.2.2.1
  have hW := Z.2.2.2.2.1
  have hl : lv_has ls 1 [(0, .ref (q 2))] := hl
  refine lv_aload_n hx hb dX4_size_0 rfl (lv_at hl 0 rfl) ?_
  refine gC_2_0 Z hP kf_X4_9 dX4_size_1 ?_
  exact zret_I () Z hr hP hD hS rfl rfl ⟨Nat.le_refl _, Nat.le_refl _⟩ hQ dX4_size_4
abbrev r_X4_act : Room := { frames := 0, cells := 0, slots := 0, locals := 0 }
set_option maxHeartbeats 4000000 in
set_option maxRecDepth 100000 in
theorem m_X4_act (l : Launch) (G : ZG) (ws : va_W) {e_a : Int} (a : Nat) (he_a : e_a = (a : Int)) (st : Int32) (h1 : a < 10) :
    MC l G yX4_act (wY yX4_act cX4_act 2 (some .int)) r_X4_act (ws) [.int (zI e_a), .int (st)] (QI G (fun r9 (_ : Unit) => r9 = (act a st)) (fun _ => ws)) := by
  subst he_a
  refine MC.mk (by decide +kernel) (Nat.le_of_ble_eq_true rfl) ?_
  intro p e s m av below meth c A H locs ls Q Z hr hnm hQ hP hD hS hl
  have hx := Z.1
  have hb := Z.2.1
  have hown := Z.2.2.2.1
  have hW := Z.2.2.2.2.1
  have hl : lv_has ls 2 [(0, .int (zI ((a : Nat) : Int))), (1, .int (st))] := hl
  refine lv_iload_n hx hb dX4_act_0 rfl (lv_at hl 0 rfl) ?_
  refine zr_bipush hx hb dX4_act_1 (by decide) ?_
  refine zc_ne (tgt := 12) hx hb ((a : Nat) : Int) (9 : Int) (zI_toInt (by omega)) (zI_toInt (by decide)) dX4_act_3 (by decide) (fun c3 => ?_) (fun c3 => ?_)
  · skip
    refine lv_iload_n hx hb dX4_act_12 rfl (lv_at hl 1 rfl) ?_
    refine zr_iconst hx hb dX4_act_13 ?_
    refine lv_iload_n hx hb dX4_act_14 rfl (lv_at hl 0 rfl) ?_
    refine lv_ishl hx hb dX4_act_15 ?_
    refine lv_ior hx hb dX4_act_16 ?_
    exact zret_I () Z hr hP hD hS (by unfold act; rw [if_neg (by omega)]) rfl ⟨Nat.le_refl _, Nat.le_refl _⟩ hQ dX4_act_17
  · skip
    refine lv_iload_n hx hb dX4_act_6 rfl (lv_at hl 1 rfl) ?_
    refine zr_sipush hx hb dX4_act_7 (by decide) ?_
    refine lv_iand hx hb dX4_act_10 ?_
    exact zret_I () Z hr hP hD hS (by unfold act; rw [if_pos (by omega)]) rfl ⟨Nat.le_refl _, Nat.le_refl _⟩ hQ dX4_act_11
abbrev r_X3_size : Room := { frames := 0, cells := 0, slots := 0, locals := 0 }
set_option maxHeartbeats 4000000 in
set_option maxRecDepth 100000 in
theorem m_X3_size (l : Launch) (G : ZG) (q : Nat → Nat) (σ : St) (κ : KC)  :
    MC l G yX3_size (wY yX3_size cX3_size 1 (some .int)) r_X3_size (wC G q σ κ) [.ref (q 3)] (QI G (fun r9 (_ : Unit) => r9 = (zI ((σ.1 6 : Nat) : Int))) (fun _ => wC G q σ κ)) := by
  refine MC.mk (by decide +kernel) (Nat.le_of_ble_eq_true rfl) ?_
  intro p e s m av below meth c A H locs ls Q Z hr hnm hQ hP hD hS hl
  have hx := Z.1
  have hb := Z.2.1
  have hown := Z.2.2.2.1
  have hW := Z.2.2.2.2.1
  have hl : lv_has ls 1 [(0, .ref (q 3))] := hl
  refine lv_aload_n hx hb dX3_size_0 rfl (lv_at hl 0 rfl) ?_
  refine gC_3_0 Z hP kf_X3_9 dX3_size_1 ?_
  exact zret_I () Z hr hP hD hS rfl rfl ⟨Nat.le_refl _, Nat.le_refl _⟩ hQ dX3_size_4
abbrev r_X0_size : Room := { frames := 0, cells := 0, slots := 0, locals := 0 }
set_option maxHeartbeats 4000000 in
set_option maxRecDepth 100000 in
theorem m_X0_size (l : Launch) (G : ZG) (q : Nat → Nat) (σ : St) (κ : KC)  :
    MC l G yX0_size (wY yX0_size cX0_size 1 (some .int)) r_X0_size (wC G q σ κ) [.ref (q 4)] (QI G (fun r9 (_ : Unit) => r9 = (zI ((σ.1 7 : Nat) : Int))) (fun _ => wC G q σ κ)) := by
  refine MC.mk (by decide +kernel) (Nat.le_of_ble_eq_true rfl) ?_
  intro p e s m av below meth c A H locs ls Q Z hr hnm hQ hP hD hS hl
  have hx := Z.1
  have hb := Z.2.1
  have hown := Z.2.2.2.1
  have hW := Z.2.2.2.2.1
  have hl : lv_has ls 1 [(0, .ref (q 4))] := hl
  refine lv_aload_n hx hb dX0_size_0 rfl (lv_at hl 0 rfl) ?_
  refine gC_4_0 Z hP kf_X0_9 dX0_size_1 ?_
  exact zret_I () Z hr hP hD hS rfl rfl ⟨Nat.le_refl _, Nat.le_refl _⟩ hQ dX0_size_4
abbrev r_X0_versionCount : Room := { frames := 0, cells := 0, slots := 0, locals := 0 }
set_option maxHeartbeats 4000000 in
set_option maxRecDepth 100000 in
theorem m_X0_versionCount (l : Launch) (G : ZG) (q : Nat → Nat) (σ : St) (κ : KC) {e_d : Int} (d : Nat) (he_d : e_d = (d : Int)) {e_i : Int} (i : Nat) (he_i : e_i = (i : Int)) (h1 : d < 4) (h2 : i < 30) :
    MC l G yX0_versionCount (wY yX0_versionCount cX0_versionCount 3 (some .int)) r_X0_versionCount (wC G q σ κ) [.ref (q 4), .int (zI e_d), .int (zI e_i)] (QI G (fun r9 (_ : Unit) => r9 = (zI (((σ.2.1 4) (30 * d + i) : Nat) : Int))) (fun _ => wC G q σ κ)) := by
  subst he_d
  subst he_i
  refine MC.mk (by decide +kernel) (Nat.le_of_ble_eq_true rfl) ?_
  intro p e s m av below meth c A H locs ls Q Z hr hnm hQ hP hD hS hl
  have hx := Z.1
  have hb := Z.2.1
  have hown := Z.2.2.2.1
  have hW := Z.2.2.2.2.1
  have hl : lv_has ls 3 [(0, .ref (q 4)), (1, .int (zI ((d : Nat) : Int))), (2, .int (zI ((i : Nat) : Int)))] := hl
  refine lv_aload_n hx hb dX0_versionCount_0 rfl (lv_at hl 0 rfl) ?_
  refine gC_4_1 Z hP kf_X0_15 dX0_versionCount_1 ?_
  refine lv_iload_n hx hb dX0_versionCount_4 rfl (lv_at hl 1 rfl) ?_
  refine zr_bipush hx hb dX0_versionCount_5 (by decide) ?_
  refine zr_imul hx hb dX0_versionCount_7 ?_
  refine lv_iload_n hx hb dX0_versionCount_8 rfl (lv_at hl 2 rfl) ?_
  refine zr_iadd hx hb dX0_versionCount_9 ?_
  refine ldN Z hP 25 (σ.2.1 4) rfl (30 * d + i) (by omega) (by omega) (by decide) dX0_versionCount_10 ?_
  exact zret_I () Z hr hP hD hS rfl rfl ⟨Nat.le_refl _, Nat.le_refl _⟩ hQ dX0_versionCount_11
abbrev r_X0_major : Room := { frames := 0, cells := 0, slots := 0, locals := 0 }
set_option maxHeartbeats 4000000 in
set_option maxRecDepth 100000 in
theorem m_X0_major (l : Launch) (G : ZG) (q : Nat → Nat) (σ : St) (κ : KC) {e_d : Int} (d : Nat) (he_d : e_d = (d : Int)) {e_i : Int} (i : Nat) (he_i : e_i = (i : Int)) (h1 : d < 4) (h2 : i < 30) :
    MC l G yX0_major (wY yX0_major cX0_major 3 (some .int)) r_X0_major (wC G q σ κ) [.ref (q 4), .int (zI e_d), .int (zI e_i)] (QI G (fun r9 (_ : Unit) => r9 = (zI (((σ.2.1 5) (30 * d + i) : Nat) : Int))) (fun _ => wC G q σ κ)) := by
  subst he_d
  subst he_i
  refine MC.mk (by decide +kernel) (Nat.le_of_ble_eq_true rfl) ?_
  intro p e s m av below meth c A H locs ls Q Z hr hnm hQ hP hD hS hl
  have hx := Z.1
  have hb := Z.2.1
  have hown := Z.2.2.2.1
  have hW := Z.2.2.2.2.1
  have hl : lv_has ls 3 [(0, .ref (q 4)), (1, .int (zI ((d : Nat) : Int))), (2, .int (zI ((i : Nat) : Int)))] := hl
  refine lv_aload_n hx hb dX0_major_0 rfl (lv_at hl 0 rfl) ?_
  refine gC_4_2 Z hP kf_X0_19 dX0_major_1 ?_
  refine lv_iload_n hx hb dX0_major_4 rfl (lv_at hl 1 rfl) ?_
  refine zr_bipush hx hb dX0_major_5 (by decide) ?_
  refine zr_imul hx hb dX0_major_7 ?_
  refine lv_iload_n hx hb dX0_major_8 rfl (lv_at hl 2 rfl) ?_
  refine zr_iadd hx hb dX0_major_9 ?_
  refine ldN Z hP 26 (σ.2.1 5) rfl (30 * d + i) (by omega) (by omega) (by decide) dX0_major_10 ?_
  exact zret_I () Z hr hP hD hS rfl rfl ⟨Nat.le_refl _, Nat.le_refl _⟩ hQ dX0_major_11
abbrev r_X0_knows : Room := { frames := 1, cells := 0, slots := 0, locals := 22 }
set_option maxHeartbeats 4000000 in
set_option maxRecDepth 100000 in
theorem m_X0_knows (l : Launch) (G : ZG) (q : Nat → Nat) (σ : St) (κ : KC) {e_d : Int} (d : Nat) (he_d : e_d = (d : Int)) {e_i : Int} (i : Nat) (he_i : e_i = (i : Int)) (h1 : d < 4) (h2 : i < 30) (h3 : σ.2.1 4 (30 * d + i) < 1000000) :
    MC l G yX0_knows (wY yX0_knows cX0_knows 3 (some .boolean)) r_X0_knows (wC G q σ κ) [.ref (q 4), .int (zI e_d), .int (zI e_i)] (QI G (fun r9 (_ : Unit) => r9 = (tB (decide (0 < (σ.2.1 4) (30 * d + i))))) (fun _ => wC G q σ κ)) := by
  subst he_d
  subst he_i
  refine MC.mk (by decide +kernel) (Nat.le_of_ble_eq_true rfl) ?_
  intro p e s m av below meth c A H locs ls Q Z hr hnm hQ hP hD hS hl
  have hx := Z.1
  have hb := Z.2.1
  have hown := Z.2.2.2.1
  have hW := Z.2.2.2.2.1
  have hl : lv_has ls 3 [(0, .ref (q 4)), (1, .int (zI ((d : Nat) : Int))), (2, .int (zI ((i : Nat) : Int)))] := hl
  refine lv_aload_n hx hb dX0_knows_0 rfl (lv_at hl 0 rfl) ?_
  refine lv_iload_n hx hb dX0_knows_1 rfl (lv_at hl 1 rfl) ?_
  refine lv_iload_n hx hb dX0_knows_2 rfl (lv_at hl 2 rfl) ?_
  refine zdet_I ⟨rfl, rfl⟩ Z hD hS (zrunV (rest := []) Z hP hD hS hl.1 (m_X0_versionCount l G q σ κ (d) rfl (i) rfl (by omega) (by omega)) zY_X0_versionCount km_X0_22 (q0 := 4) rfl rfl rfl rfl ⟨⟨Nat.le_of_ble_eq_true rfl, Nat.le_of_ble_eq_true rfl⟩, Nat.le_of_ble_eq_true rfl, Nat.le_of_ble_eq_true rfl⟩ (Nat.le_of_ble_eq_true rfl) dX0_knows_3) (fun H locs hP hD hS => ?_)
  refine zc0_le (tgt := 13) hx hb (((σ.2.1 4) (30 * d + i) : Nat) : Int) (zI_toInt (by omega)) dX0_knows_6 (by decide) (fun c6 => ?_) (fun c6 => ?_)
  · skip
    refine zr_iconst hx hb dX0_knows_13 ?_
    exact zret_B () Z hr (by decide +kernel) hP hD hS (tB_0 (by simp; omega)) rfl ⟨Nat.le_refl _, Nat.le_refl _⟩ hQ dX0_knows_14
  · skip
    refine zr_iconst hx hb dX0_knows_9 ?_
    refine lv_goto (tgt := 14) hx hb dX0_knows_10 (by decide) ?_
    exact zret_B () Z hr (by decide +kernel) hP hD hS (tB_1 (by simp; omega)) rfl ⟨Nat.le_refl _, Nat.le_refl _⟩ hQ dX0_knows_14
