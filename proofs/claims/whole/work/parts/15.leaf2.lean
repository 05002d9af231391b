abbrev r_X5_isKeyOrNone : Room := { frames := 0, cells := 0, slots := 0, locals := 0 }
set_option maxHeartbeats 4000000 in
set_option maxRecDepth 100000 in
theorem m_X5_isKeyOrNone (l : Launch) (G : ZG) (ws : va_W) (a : Int) (h1 : zR a) :
    MC l G yX5_isKeyOrNone (wY yX5_isKeyOrNone cX5_isKeyOrNone 1 (some .boolean)) r_X5_isKeyOrNone (ws) [.int (zI (a : Int))] (QI G (fun r9 (_ : Unit) => r9 = (tB (decide (-1 ≤ a ∧ a ≤ 999)))) (fun _ => ws)) := by
  refine MC.mk (by decide +kernel) (Nat.le_of_ble_eq_true rfl) ?_
  intro p e s m av below meth c A H locs ls Q Z hr hnm hQ hP hD hS hl
  have hx := Z.1
  have hb := Z.2.1
  have hown := Z.2.2.2.1
  have hW := Z.2.2.2.2.1
  have hl : lv_has ls 1 [(0, .int (zI (a : Int)))] := hl
  refine lv_iload_n hx hb dX5_isKeyOrNone_0 rfl (lv_at hl 0 rfl) ?_
  refine zr_iconst hx hb dX5_isKeyOrNone_1 ?_
  refine zc_lt (tgt := 16) hx hb (a : Int) (-1 : Int) (zI_toInt (by omega)) (zI_toInt (by decide)) dX5_isKeyOrNone_2 (by decide) (fun c2 => ?_) (fun c2 => ?_)
  · skip
    refine zr_iconst hx hb dX5_isKeyOrNone_16 ?_
    exact zret_B () Z hr (by decide +kernel) hP hD hS (tB_0 (by simp; omega)) rfl ⟨Nat.le_refl _, Nat.le_refl _⟩ hQ dX5_isKeyOrNone_17
  · skip
    refine lv_iload_n hx hb dX5_isKeyOrNone_5 rfl (lv_at hl 0 rfl) ?_
    refine zr_sipush hx hb dX5_isKeyOrNone_6 (by decide) ?_
    refine zc_ge (tgt := 16) hx hb (a : Int) (1000 : Int) (zI_toInt (by omega)) (zI_toInt (by decide)) dX5_isKeyOrNone_9 (by decide) (fun c9 => ?_) (fun c9 => ?_)
    · skip
      refine zr_iconst hx hb dX5_isKeyOrNone_16 ?_
      exact zret_B () Z hr (by decide +kernel) hP hD hS (tB_0 (by simp; omega)) rfl ⟨Nat.le_refl _, Nat.le_refl _⟩ hQ dX5_isKeyOrNone_17
    · skip
      refine zr_iconst hx hb dX5_isKeyOrNone_12 ?_
      refine lv_goto (tgt := 17) hx hb dX5_isKeyOrNone_13 (by decide) ?_
      exact zret_B () Z hr (by decide +kernel) hP hD hS (tB_1 (by simp; omega)) rfl ⟨Nat.le_refl _, Nat.le_refl _⟩ hQ dX5_isKeyOrNone_17
abbrev r_X5_isMinuteOrNone : Room := { frames := 0, cells := 0, slots := 0, locals := 0 }
set_option maxHeartbeats 4000000 in
set_option maxRecDepth 100000 in
theorem m_X5_isMinuteOrNone (l : Launch) (G : ZG) (ws : va_W) (a : Int) (h1 : zR a) :
    MC l G yX5_isMinuteOrNone (wY yX5_isMinuteOrNone cX5_isMinuteOrNone 1 (some .boolean)) r_X5_isMinuteOrNone (ws) [.int (zI (a : Int))] (QI G (fun r9 (_ : Unit) => r9 = (tB (decide (-1 ≤ a ∧ a ≤ 99999)))) (fun _ => ws)) := by
  refine MC.mk (by decide +kernel) (Nat.le_of_ble_eq_true rfl) ?_
  intro p e s m av below meth c A H locs ls Q Z hr hnm hQ hP hD hS hl
  have hx := Z.1
  have hb := Z.2.1
  have hown := Z.2.2.2.1
  have hW := Z.2.2.2.2.1
  have hl : lv_has ls 1 [(0, .int (zI (a : Int)))] := hl
  refine lv_iload_n hx hb dX5_isMinuteOrNone_0 rfl (lv_at hl 0 rfl) ?_
  refine zr_iconst hx hb dX5_isMinuteOrNone_1 ?_
  refine zc_lt (tgt := 15) hx hb (a : Int) (-1 : Int) (zI_toInt (by omega)) (zI_toInt (by decide)) dX5_isMinuteOrNone_2 (by decide) (fun c2 => ?_) (fun c2 => ?_)
  · skip
    refine zr_iconst hx hb dX5_isMinuteOrNone_15 ?_
    exact zret_B () Z hr (by decide +kernel) hP hD hS (tB_0 (by simp; omega)) rfl ⟨Nat.le_refl _, Nat.le_refl _⟩ hQ dX5_isMinuteOrNone_16
  · skip
    refine lv_iload_n hx hb dX5_isMinuteOrNone_5 rfl (lv_at hl 0 rfl) ?_
    refine zr_ldc hx hb 99999 (by decide) hown (hW _ kk_X5_71) dX5_isMinuteOrNone_6 ?_
    refine zc_gt (tgt := 15) hx hb (a : Int) (99999 : Int) (zI_toInt (by omega)) (zI_toInt (by decide)) dX5_isMinuteOrNone_8 (by decide) (fun c8 => ?_) (fun c8 => ?_)
    · skip
      refine zr_iconst hx hb dX5_isMinuteOrNone_15 ?_
      exact zret_B () Z hr (by decide +kernel) hP hD hS (tB_0 (by simp; omega)) rfl ⟨Nat.le_refl _, Nat.le_refl _⟩ hQ dX5_isMinuteOrNone_16
    · skip
      refine zr_iconst hx hb dX5_isMinuteOrNone_11 ?_
      refine lv_goto (tgt := 16) hx hb dX5_isMinuteOrNone_12 (by decide) ?_
      exact zret_B () Z hr (by decide +kernel) hP hD hS (tB_1 (by simp; omega)) rfl ⟨Nat.le_refl _, Nat.le_refl _⟩ hQ dX5_isMinuteOrNone_16
abbrev r_X5_isTagOrNone : Room := { frames := 0, cells := 0, slots := 0, locals := 0 }
set_option maxHeartbeats 4000000 in
set_option maxRecDepth 100000 in
theorem m_X5_isTagOrNone (l : Launch) (G : ZG) (ws : va_W) (a : Int) (h1 : zR a) :
    MC l G yX5_isTagOrNone (wY yX5_isTagOrNone cX5_isTagOrNone 1 (some .boolean)) r_X5_isTagOrNone (ws) [.int (zI (a : Int))] (QI G (fun r9 (_ : Unit) => r9 = (tB (decide (-1 ≤ a ∧ a ≤ 7)))) (fun _ => ws)) := by
  refine MC.mk (by decide +kernel) (Nat.le_of_ble_eq_true rfl) ?_
  intro p e s m av below meth c A H locs ls Q Z hr hnm hQ hP hD hS hl
  have hx := Z.1
  have hb := Z.2.1
  have hown := Z.2.2.2.1
  have hW := Z.2.2.2.2.1
  have hl : lv_has ls 1 [(0, .int (zI (a : Int)))] := hl
  refine lv_iload_n hx hb dX5_isTagOrNone_0 rfl (lv_at hl 0 rfl) ?_
  refine zr_iconst hx hb dX5_isTagOrNone_1 ?_
  refine zc_lt (tgt := 15) hx hb (a : Int) (-1 : Int) (zI_toInt (by omega)) (zI_toInt (by decide)) dX5_isTagOrNone_2 (by decide) (fun c2 => ?_) (fun c2 => ?_)
  · skip
    refine zr_iconst hx hb dX5_isTagOrNone_15 ?_
    exact zret_B () Z hr (by decide +kernel) hP hD hS (tB_0 (by simp; omega)) rfl ⟨Nat.le_refl _, Nat.le_refl _⟩ hQ dX5_isTagOrNone_16
  · skip
    refine lv_iload_n hx hb dX5_isTagOrNone_5 rfl (lv_at hl 0 rfl) ?_
    refine zr_bipush hx hb dX5_isTagOrNone_6 (by decide) ?_
    refine zc_gt (tgt := 15) hx hb (a : Int) (7 : Int) (zI_toInt (by omega)) (zI_toInt (by decide)) dX5_isTagOrNone_8 (by decide) (fun c8 => ?_) (fun c8 => ?_)
    · skip
      refine zr_iconst hx hb dX5_isTagOrNone_15 ?_
      exact zret_B () Z hr (by decide +kernel) hP hD hS (tB_0 (by simp; omega)) rfl ⟨Nat.le_refl _, Nat.le_refl _⟩ hQ dX5_isTagOrNone_16
    · skip
      refine zr_iconst hx hb dX5_isTagOrNone_11 ?_
      refine lv_goto (tgt := 16) hx hb dX5_isTagOrNone_12 (by decide) ?_
      exact zret_B () Z hr (by decide +kernel) hP hD hS (tB_1 (by simp; omega)) rfl ⟨Nat.le_refl _, Nat.le_refl _⟩ hQ dX5_isTagOrNone_16
abbrev r_X5_hasTagOrNeedsNone : Room := { frames := 0, cells := 0, slots := 0, locals := 0 }
set_option maxHeartbeats 4000000 in
set_option maxRecDepth 100000 in
theorem m_X5_hasTagOrNeedsNone (l : Launch) (G : ZG) (ws : va_W) (st : Int32) {e_x : Int} (x : Nat) (he_x : e_x = (x : Int) - 1) (h1 : x ≤ 8) :
    MC l G yX5_hasTagOrNeedsNone (wY yX5_hasTagOrNeedsNone cX5_hasTagOrNeedsNone 2 (some .boolean)) r_X5_hasTagOrNeedsNone (ws) [.int (st), .int (zI e_x)] (QI G (fun r9 (_ : Unit) => r9 = (tB (x == 0 || tb st (x - 1)))) (fun _ => ws)) := by
  subst he_x
  refine MC.mk (by decide +kernel) (Nat.le_of_ble_eq_true rfl) ?_
  intro p e s m av below meth c A H locs ls Q Z hr hnm hQ hP hD hS hl
  have hx := Z.1
  have hb := Z.2.1
  have hown := Z.2.2.2.1
  have hW := Z.2.2.2.2.1
  have hl : lv_has ls 2 [(0, .int (st)), (1, .int (zI (((x : Nat) : Int) - (1 : Int))))] := hl
  have hB : x ≠ 0 → ((st &&& (zI 1 <<< (zI ((x : Int) - 1) &&& 31)) = 0) ↔ tb st (x - 1) = false) := by
    intro hx0
    have : ((x : Nat) : Int) - 1 = ((x - 1 : Nat) : Int) := by omega
    rw [this]; exact tb_and st (x - 1) (by omega)
  refine lv_iload_n hx hb dX5_hasTagOrNeedsNone_0 rfl (lv_at hl 1 rfl) ?_
  refine zr_iconst hx hb dX5_hasTagOrNeedsNone_1 ?_
  refine zc_eq (tgt := 13) hx hb (((x : Nat) : Int) - (1 : Int)) (-1 : Int) (zI_toInt (by omega)) (zI_toInt (by decide)) dX5_hasTagOrNeedsNone_2 (by decide) (fun c2 => ?_) (fun c2 => ?_)
  · skip
    refine zr_iconst hx hb dX5_hasTagOrNeedsNone_13 ?_
    refine lv_goto (tgt := 18) hx hb dX5_hasTagOrNeedsNone_14 (by decide) ?_
    exact zret_B () Z hr (by decide +kernel) hP hD hS (tB_1 (by
        have h9 : x = 0 := by omega
        simp [h9])) rfl ⟨Nat.le_refl _, Nat.le_refl _⟩ hQ dX5_hasTagOrNeedsNone_18
  · skip
    refine lv_iload_n hx hb dX5_hasTagOrNeedsNone_5 rfl (lv_at hl 0 rfl) ?_
    refine zr_iconst hx hb dX5_hasTagOrNeedsNone_6 ?_
    refine lv_iload_n hx hb dX5_hasTagOrNeedsNone_7 rfl (lv_at hl 1 rfl) ?_
    refine lv_ishl hx hb dX5_hasTagOrNeedsNone_8 ?_
    refine lv_iand hx hb dX5_hasTagOrNeedsNone_9 ?_
    refine lv_if_eq (tgt := 17) hx hb dX5_hasTagOrNeedsNone_10 (by decide) (fun c10 => ?_) (fun c10 => ?_)
    · skip
      refine zr_iconst hx hb dX5_hasTagOrNeedsNone_17 ?_
      exact zret_B () Z hr (by decide +kernel) hP hD hS (tB_0 (by
          have h8 : x ≠ 0 := by omega
          have h9 : tb st (x - 1) = false := (hB h8).mp c10
          simp [h9, h8])) rfl ⟨Nat.le_refl _, Nat.le_refl _⟩ hQ dX5_hasTagOrNeedsNone_18
    · skip
      refine zr_iconst hx hb dX5_hasTagOrNeedsNone_13 ?_
      refine lv_goto (tgt := 18) hx hb dX5_hasTagOrNeedsNone_14 (by decide) ?_
      exact zret_B () Z hr (by decide +kernel) hP hD hS (tB_1 (by
          have h9 : tb st (x - 1) = true := by
            cases h8 : tb st (x - 1) with
            | true => rfl
            | false => exact absurd ((hB (by omega)).mpr h8) c10
          simp [h9])) rfl ⟨Nat.le_refl _, Nat.le_refl _⟩ hQ dX5_hasTagOrNeedsNone_18
abbrev r_X4_holds : Room := { frames := 1, cells := 0, slots := 0, locals := 21 }
set_option maxHeartbeats 4000000 in
set_option maxRecDepth 100000 in
theorem m_X4_holds (l : Launch) (G : ZG) (q : Nat → Nat) (σ : St) (κ : KC) {e_r : Int} (r : Nat) (he_r : e_r = (r : Int)) (t : Int64) (te : Int32) (st : Int32) (h1 : r < 6) (h2 : σ.2.1 18 r ≤ 8) :
    MC l G yX4_holds (wY yX4_holds cX4_holds 6 (some .boolean)) r_X4_holds (wC G q σ κ) [.ref (q 2), .int (zI e_r), .long (t), .int (te), .int (st)] (QI G (fun r9 (_ : Unit) => r9 = (tB (hold σ r t te st))) (fun _ => wC G q σ κ)) := by
  subst he_r
  refine MC.mk (by decide +kernel) (Nat.le_of_ble_eq_true rfl) ?_
  intro p e s m av below meth c A H locs ls Q Z hr hnm hQ hP hD hS hl
  have hx := Z.1
  have hb := Z.2.1
  have hown := Z.2.2.2.1
  have hW := Z.2.2.2.2.1
  have hl : lv_has ls 6 [(0, .ref (q 2)), (1, .int (zI ((r : Nat) : Int))), (2, .long (t)), (4, .int (te)), (5, .int (st))] := hl
  refine lv_lload_n hx hb dX4_holds_0 rfl (lv_at hl 2 rfl) ?_
  refine lv_aload_n hx hb dX4_holds_1 rfl (lv_at hl 0 rfl) ?_
  refine gC_2_1 Z hP kf_X4_15 dX4_holds_2 ?_
  refine lv_iload_n hx hb dX4_holds_5 rfl (lv_at hl 1 rfl) ?_
  refine ldL Z hP 18 (σ.2.2.2 1) rfl (r) rfl (by omega) (by decide) dX4_holds_6 ?_
  refine lv_land hx hb dX4_holds_7 ?_
  refine lv_aload_n hx hb dX4_holds_8 rfl (lv_at hl 0 rfl) ?_
  refine gC_2_1 Z hP kf_X4_15 dX4_holds_9 ?_
  refine lv_iload_n hx hb dX4_holds_12 rfl (lv_at hl 1 rfl) ?_
  refine ldL Z hP 18 (σ.2.2.2 1) rfl (r) rfl (by omega) (by decide) dX4_holds_13 ?_
  refine zl_ne (tgt := 81) hx hb dX4_holds_14 dX4_holds_15 (by decide) (fun c14 => ?_) (fun c14 => ?_)
  · skip
    refine zr_iconst hx hb dX4_holds_81 ?_
    exact zret_B () Z hr (by decide +kernel) hP hD hS (tB_0 (by unfold hold; simp [c14])) rfl ⟨Nat.le_refl _, Nat.le_refl _⟩ hQ dX4_holds_82
  · skip
    refine lv_aload_n hx hb dX4_holds_18 rfl (lv_at hl 0 rfl) ?_
    refine gC_2_2 Z hP kf_X4_19 dX4_holds_19 ?_
    refine lv_iload_n hx hb dX4_holds_22 rfl (lv_at hl 1 rfl) ?_
    refine ldL Z hP 19 (σ.2.2.2 2) rfl (r) rfl (by omega) (by decide) dX4_holds_23 ?_
    refine lv_lconst (v := 0) hx hb dX4_holds_24 (by decide) ?_
    refine zl_eq (tgt := 42) hx hb dX4_holds_25 dX4_holds_26 (by decide) (fun c25 => ?_) (fun c25 => ?_)
    · skip
      refine lv_aload_n hx hb dX4_holds_42 rfl (lv_at hl 0 rfl) ?_
      refine gC_2_3 Z hP kf_X4_22 dX4_holds_43 ?_
      refine lv_iload_n hx hb dX4_holds_46 rfl (lv_at hl 1 rfl) ?_
      refine ldI Z hP 20 (σ.2.2.1 1) rfl (r) rfl (by omega) (by decide) dX4_holds_47 ?_
      refine lv_if_eq (tgt := 63) hx hb dX4_holds_48 (by decide) (fun c48 => ?_) (fun c48 => ?_)
      · skip
        refine lv_iload hx hb dX4_holds_63 (lv_at hl 4 rfl) ?_
        refine lv_aload_n hx hb dX4_holds_65 rfl (lv_at hl 0 rfl) ?_
        refine gC_2_4 Z hP kf_X4_26 dX4_holds_66 ?_
        refine lv_iload_n hx hb dX4_holds_69 rfl (lv_at hl 1 rfl) ?_
        refine ldM Z hP 21 (σ.2.1 18) rfl (r) rfl (by omega) (by decide) dX4_holds_70 ?_
        refine zdet_I ⟨rfl, rfl⟩ Z hD hS (zrunSN (rest := []) Z hP hD hS hl.1 (m_X5_hasTagOrNeedsNone l G (wC G q σ κ) (st) ((σ.2.1 18) (r)) rfl (by omega)) zY_X5_hasTagOrNeedsNone (by decide +kernel : (RX4, 40, yX5_hasTagOrNeedsNone, RX5) ∈ xNest) rfl rfl ⟨⟨Nat.le_of_ble_eq_true rfl, Nat.le_of_ble_eq_true rfl⟩, Nat.le_of_ble_eq_true rfl, Nat.le_of_ble_eq_true rfl⟩ (Nat.le_of_ble_eq_true rfl) dX4_holds_71) (fun H locs hP hD hS => ?_)
        refine zb_eq (tgt := 81) hx hb dX4_holds_74 (by decide) (fun c74 => ?_) (fun c74 => ?_)
        · skip
          refine zr_iconst hx hb dX4_holds_81 ?_
          exact zret_B () Z hr (by decide +kernel) hP hD hS (tB_0 (by unfold hold; rw [c74]; simp [c14, c25, c48])) rfl ⟨Nat.le_refl _, Nat.le_refl _⟩ hQ dX4_holds_82
        · skip
          refine zr_iconst hx hb dX4_holds_77 ?_
          refine lv_goto (tgt := 82) hx hb dX4_holds_78 (by decide) ?_
          exact zret_B () Z hr (by decide +kernel) hP hD hS (tB_1 (by unfold hold; rw [c74]; simp [c14, c25, c48])) rfl ⟨Nat.le_refl _, Nat.le_refl _⟩ hQ dX4_holds_82
      · skip
        refine lv_iload hx hb dX4_holds_51 (lv_at hl 3 rfl) ?_
        refine lv_aload_n hx hb dX4_holds_53 rfl (lv_at hl 0 rfl) ?_
        refine gC_2_3 Z hP kf_X4_22 dX4_holds_54 ?_
        refine lv_iload_n hx hb dX4_holds_57 rfl (lv_at hl 1 rfl) ?_
        refine ldI Z hP 20 (σ.2.2.1 1) rfl (r) rfl (by omega) (by decide) dX4_holds_58 ?_
        refine lv_iand hx hb dX4_holds_59 ?_
        refine lv_if_eq (tgt := 81) hx hb dX4_holds_60 (by decide) (fun c60 => ?_) (fun c60 => ?_)
        · skip
          refine zr_iconst hx hb dX4_holds_81 ?_
          exact zret_B () Z hr (by decide +kernel) hP hD hS (tB_0 (by unfold hold; simp [c14, c25, c48, c60])) rfl ⟨Nat.le_refl _, Nat.le_refl _⟩ hQ dX4_holds_82
        · skip
          refine lv_iload hx hb dX4_holds_63 (lv_at hl 4 rfl) ?_
          refine lv_aload_n hx hb dX4_holds_65 rfl (lv_at hl 0 rfl) ?_
          refine gC_2_4 Z hP kf_X4_26 dX4_holds_66 ?_
          refine lv_iload_n hx hb dX4_holds_69 rfl (lv_at hl 1 rfl) ?_
          refine ldM Z hP 21 (σ.2.1 18) rfl (r) rfl (by omega) (by decide) dX4_holds_70 ?_
          refine zdet_I ⟨rfl, rfl⟩ Z hD hS (zrunSN (rest := []) Z hP hD hS hl.1 (m_X5_hasTagOrNeedsNone l G (wC G q σ κ) (st) ((σ.2.1 18) (r)) rfl (by omega)) zY_X5_hasTagOrNeedsNone (by decide +kernel : (RX4, 40, yX5_hasTagOrNeedsNone, RX5) ∈ xNest) rfl rfl ⟨⟨Nat.le_of_ble_eq_true rfl, Nat.le_of_ble_eq_true rfl⟩, Nat.le_of_ble_eq_true rfl, Nat.le_of_ble_eq_true rfl⟩ (Nat.le_of_ble_eq_true rfl) dX4_holds_71) (fun H locs hP hD hS => ?_)
          refine zb_eq (tgt := 81) hx hb dX4_holds_74 (by decide) (fun c74 => ?_) (fun c74 => ?_)
          · skip
            refine zr_iconst hx hb dX4_holds_81 ?_
            exact zret_B () Z hr (by decide +kernel) hP hD hS (tB_0 (by unfold hold; rw [c74]; simp [c14, c25, c48, c60])) rfl ⟨Nat.le_refl _, Nat.le_refl _⟩ hQ dX4_holds_82
          · skip
            refine zr_iconst hx hb dX4_holds_77 ?_
            refine lv_goto (tgt := 82) hx hb dX4_holds_78 (by decide) ?_
            exact zret_B () Z hr (by decide +kernel) hP hD hS (tB_1 (by unfold hold; rw [c74]; simp [c14, c25, c48, c60])) rfl ⟨Nat.le_refl _, Nat.le_refl _⟩ hQ dX4_holds_82
    · skip
      refine lv_lload_n hx hb dX4_holds_29 rfl (lv_at hl 2 rfl) ?_
      refine lv_aload_n hx hb dX4_holds_30 rfl (lv_at hl 0 rfl) ?_
      refine gC_2_2 Z hP kf_X4_19 dX4_holds_31 ?_
      refine lv_iload_n hx hb dX4_holds_34 rfl (lv_at hl 1 rfl) ?_
      refine ldL Z hP 19 (σ.2.2.2 2) rfl (r) rfl (by omega) (by decide) dX4_holds_35 ?_
      refine lv_land hx hb dX4_holds_36 ?_
      refine lv_lconst (v := 0) hx hb dX4_holds_37 (by decide) ?_
      refine zl_eq (tgt := 81) hx hb dX4_holds_38 dX4_holds_39 (by decide) (fun c38 => ?_) (fun c38 => ?_)
      · skip
        refine zr_iconst hx hb dX4_holds_81 ?_
        exact zret_B () Z hr (by decide +kernel) hP hD hS (tB_0 (by unfold hold; simp [c14, c25, c38])) rfl ⟨Nat.le_refl _, Nat.le_refl _⟩ hQ dX4_holds_82
      · skip
        refine lv_aload_n hx hb dX4_holds_42 rfl (lv_at hl 0 rfl) ?_
        refine gC_2_3 Z hP kf_X4_22 dX4_holds_43 ?_
        refine lv_iload_n hx hb dX4_holds_46 rfl (lv_at hl 1 rfl) ?_
        refine ldI Z hP 20 (σ.2.2.1 1) rfl (r) rfl (by omega) (by decide) dX4_holds_47 ?_
        refine lv_if_eq (tgt := 63) hx hb dX4_holds_48 (by decide) (fun c48 => ?_) (fun c48 => ?_)
        · skip
          refine lv_iload hx hb dX4_holds_63 (lv_at hl 4 rfl) ?_
          refine lv_aload_n hx hb dX4_holds_65 rfl (lv_at hl 0 rfl) ?_
          refine gC_2_4 Z hP kf_X4_26 dX4_holds_66 ?_
          refine lv_iload_n hx hb dX4_holds_69 rfl (lv_at hl 1 rfl) ?_
          refine ldM Z hP 21 (σ.2.1 18) rfl (r) rfl (by omega) (by decide) dX4_holds_70 ?_
          refine zdet_I ⟨rfl, rfl⟩ Z hD hS (zrunSN (rest := []) Z hP hD hS hl.1 (m_X5_hasTagOrNeedsNone l G (wC G q σ κ) (st) ((σ.2.1 18) (r)) rfl (by omega)) zY_X5_hasTagOrNeedsNone (by decide +kernel : (RX4, 40, yX5_hasTagOrNeedsNone, RX5) ∈ xNest) rfl rfl ⟨⟨Nat.le_of_ble_eq_true rfl, Nat.le_of_ble_eq_true rfl⟩, Nat.le_of_ble_eq_true rfl, Nat.le_of_ble_eq_true rfl⟩ (Nat.le_of_ble_eq_true rfl) dX4_holds_71) (fun H locs hP hD hS => ?_)
          refine zb_eq (tgt := 81) hx hb dX4_holds_74 (by decide) (fun c74 => ?_) (fun c74 => ?_)
          · skip
            refine zr_iconst hx hb dX4_holds_81 ?_
            exact zret_B () Z hr (by decide +kernel) hP hD hS (tB_0 (by unfold hold; rw [c74]; simp [c14, c25, c38, c48])) rfl ⟨Nat.le_refl _, Nat.le_refl _⟩ hQ dX4_holds_82
          · skip
            refine zr_iconst hx hb dX4_holds_77 ?_
            refine lv_goto (tgt := 82) hx hb dX4_holds_78 (by decide) ?_
            exact zret_B () Z hr (by decide +kernel) hP hD hS (tB_1 (by unfold hold; rw [c74]; simp [c14, c25, c38, c48])) rfl ⟨Nat.le_refl _, Nat.le_refl _⟩ hQ dX4_holds_82
        · skip
          refine lv_iload hx hb dX4_holds_51 (lv_at hl 3 rfl) ?_
          refine lv_aload_n hx hb dX4_holds_53 rfl (lv_at hl 0 rfl) ?_
          refine gC_2_3 Z hP kf_X4_22 dX4_holds_54 ?_
          refine lv_iload_n hx hb dX4_holds_57 rfl (lv_at hl 1 rfl) ?_
          refine ldI Z hP 20 (σ.2.2.1 1) rfl (r) rfl (by omega) (by decide) dX4_holds_58 ?_
          refine lv_iand hx hb dX4_holds_59 ?_
          refine lv_if_eq (tgt := 81) hx hb dX4_holds_60 (by decide) (fun c60 => ?_) (fun c60 => ?_)
          · skip
            refine zr_iconst hx hb dX4_holds_81 ?_
            exact zret_B () Z hr (by decide +kernel) hP hD hS (tB_0 (by unfold hold; simp [c14, c25, c38, c48, c60])) rfl ⟨Nat.le_refl _, Nat.le_refl _⟩ hQ dX4_holds_82
          · skip
            refine lv_iload hx hb dX4_holds_63 (lv_at hl 4 rfl) ?_
            refine lv_aload_n hx hb dX4_holds_65 rfl (lv_at hl 0 rfl) ?_
            refine gC_2_4 Z hP kf_X4_26 dX4_holds_66 ?_
            refine lv_iload_n hx hb dX4_holds_69 rfl (lv_at hl 1 rfl) ?_
            refine ldM Z hP 21 (σ.2.1 18) rfl (r) rfl (by omega) (by decide) dX4_holds_70 ?_
            refine zdet_I ⟨rfl, rfl⟩ Z hD hS (zrunSN (rest := []) Z hP hD hS hl.1 (m_X5_hasTagOrNeedsNone l G (wC G q σ κ) (st) ((σ.2.1 18) (r)) rfl (by omega)) zY_X5_hasTagOrNeedsNone (by decide +kernel : (RX4, 40, yX5_hasTagOrNeedsNone, RX5) ∈ xNest) rfl rfl ⟨⟨Nat.le_of_ble_eq_true rfl, Nat.le_of_ble_eq_true rfl⟩, Nat.le_of_ble_eq_true rfl, Nat.le_of_ble_eq_true rfl⟩ (Nat.le_of_ble_eq_true rfl) dX4_holds_71) (fun H locs hP hD hS => ?_)
            refine zb_eq (tgt := 81) hx hb dX4_holds_74 (by decide) (fun c74 => ?_) (fun c74 => ?_)
            · skip
              refine zr_iconst hx hb dX4_holds_81 ?_
              exact zret_B () Z hr (by decide +kernel) hP hD hS (tB_0 (by unfold hold; rw [c74]; simp [c14, c25, c38, c48, c60])) rfl ⟨Nat.le_refl _, Nat.le_refl _⟩ hQ dX4_holds_82
            · skip
              refine zr_iconst hx hb dX4_holds_77 ?_
              refine lv_goto (tgt := 82) hx hb dX4_holds_78 (by decide) ?_
              exact zret_B () Z hr (by decide +kernel) hP hD hS (tB_1 (by unfold hold; rw [c74]; simp [c14, c25, c38, c48, c60])) rfl ⟨Nat.le_refl _, Nat.le_refl _⟩ hQ dX4_holds_82
abbrev r_X4_outcome : Room := { frames := 2, cells := 0, slots := 0, locals := 46 }
set_option maxHeartbeats 4000000 in
set_option maxRecDepth 100000 in
theorem m_X4_outcome (l : Launch) (G : ZG) (q : Nat → Nat) (σ : St) (κ : KC) (t : Int64) (te : Int32) {e_b : Int} (b : Nat) (he_b : e_b = (b : Int)) (h1 : b ≤ 6) (h2 : ∀ y9, σ.2.1 18 y9 ≤ 8) (h3 : ∀ y9, σ.2.1 9 y9 ≤ 9) :
    MC l G yX4_outcome (wY yX4_outcome cX4_outcome 7 (some .int)) r_X4_outcome (wC G q σ κ) [.ref (q 2), .long (t), .int (te), .int (zI e_b)] (QI G (fun r9 (_ : Unit) => r9 = (outc σ t te b)) (fun _ => wC G q σ κ)) := by
  subst he_b
  refine MC.mk (by decide +kernel) (Nat.le_of_ble_eq_true rfl) ?_
  intro p e s m av below meth c A H locs ls Q Z hr hnm hQ hP hD hS hl
  have hx := Z.1
  have hb := Z.2.1
  have hown := Z.2.2.2.1
  have hW := Z.2.2.2.2.1
  have hl : lv_has ls 7 [(0, .ref (q 2)), (1, .long (t)), (3, .int (te)), (4, .int (zI ((b : Nat) : Int)))] := hl
  refine zr_iconst hx hb dX4_outcome_0 ?_
  refine lv_istore (lv' := [(5, .int (zI (0 : Int))), (0, .ref (q 2)), (1, .long (t)), (3, .int (te)), (4, .int (zI ((b : Nat) : Int)))]) hx hb dX4_outcome_1 hl (by decide) rfl (fun ls hl => ?_)
  refine zr_iconst hx hb dX4_outcome_3 ?_
  refine lv_istore (lv' := [(6, .int (zI (0 : Int))), (5, .int (zI (0 : Int))), (0, .ref (q 2)), (1, .long (t)), (3, .int (te)), (4, .int (zI ((b : Nat) : Int)))]) hx hb dX4_outcome_4 hl (by decide) rfl (fun ls hl => ?_)
  suffices LP6 : ∀ (f9 : Nat) (k : Nat), b < k + f9 → (k ≤ b) → ∀ (H : Heap) (locs : List Loc) (ls : Array Slot), va_P G.1 vwCl (wC G q σ κ) H → va_D A (wC G q σ κ) → va_S A s.heap H locs → lv_has ls 7 [(5, .int (outc σ t te k)), (6, .int (zI ((k : Nat) : Int))), (0, .ref (q 2)), (1, .long (t)), (3, .int (te)), (4, .int (zI ((b : Nat) : Int)))] → W p l e r_X4_outcome s m av below meth c H locs 0 0 Q (F0 m 6 ls []) from LP6 (b + 1) (0) (by omega) (by omega) _ _ _ hP hD hS (lv_sub hl [1, 0, 2, 3, 4, 5] rfl)
  intro f9
  induction f9 with
  | zero => intro k hf9 hk; exfalso; omega
  | succ f9 ih6 =>
    intro k hf9 hk H locs ls hP hD hS hl
    refine lv_iload hx hb dX4_outcome_6 (lv_at hl 1 rfl) ?_
    refine lv_iload hx hb dX4_outcome_8 (lv_at hl 5 rfl) ?_
    refine zc_ge (tgt := 46) hx hb ((k : Nat) : Int) ((b : Nat) : Int) (zI_toInt (by omega)) (zI_toInt (by omega)) dX4_outcome_10 (by decide) (fun c10 => ?_) (fun c10 => ?_)
    · skip
      refine lv_iload hx hb dX4_outcome_46 (lv_at hl 0 rfl) ?_
      exact zret_I () Z hr hP hD hS (by
          have h9 : k = b := by omega
          rw [h9]) rfl ⟨Nat.le_refl _, Nat.le_refl _⟩ hQ dX4_outcome_48
    · skip
      refine lv_aload_n hx hb dX4_outcome_13 rfl (lv_at hl 2 rfl) ?_
      refine lv_iload hx hb dX4_outcome_14 (lv_at hl 1 rfl) ?_
      refine lv_lload_n hx hb dX4_outcome_16 rfl (lv_at hl 3 rfl) ?_
      refine lv_iload_n hx hb dX4_outcome_17 rfl (lv_at hl 4 rfl) ?_
      refine lv_iload hx hb dX4_outcome_18 (lv_at hl 0 rfl) ?_
      refine zdet_I ⟨rfl, rfl⟩ Z hD hS (zrunV (rest := []) Z hP hD hS hl.1 (m_X4_holds l G q σ κ (k) rfl (t) (te) (outc σ t te k) (by omega) (h2 _)) zY_X4_holds km_X4_32 (q0 := 2) rfl rfl rfl rfl ⟨⟨Nat.le_of_ble_eq_true rfl, Nat.le_of_ble_eq_true rfl⟩, Nat.le_of_ble_eq_true rfl, Nat.le_of_ble_eq_true rfl⟩ (Nat.le_of_ble_eq_true rfl) dX4_outcome_20) (fun H locs hP hD hS => ?_)
      refine zb_eq (tgt := 40) hx hb dX4_outcome_23 (by decide) (fun c23 => ?_) (fun c23 => ?_)
      · skip
        refine zr_iinc (lv' := [(6, .int (zI (((k : Nat) : Int) + (1 : Int)))), (5, .int (outc σ t te k)), (0, .ref (q 2)), (1, .long (t)), (3, .int (te)), (4, .int (zI ((b : Nat) : Int)))]) hx hb 1 dX4_outcome_40 hl rfl (by decide) rfl (fun ls hl => ?_)
        refine lv_goto (tgt := 6) hx hb dX4_outcome_43 (by decide) ?_
        have h9 : outc σ t te (k + 1) = outc σ t te k := by rw [outc, c23]; rfl
        exact ih6 (k + 1) (by omega) (by omega) _ _ _ hP hD hS (lv_sub hl [1, 0, 2, 3, 4, 5] (by rw [h9]; rfl))
      · skip
        refine lv_aload_n hx hb dX4_outcome_26 rfl (lv_at hl 2 rfl) ?_
        refine gC_2_5 Z hP kf_X4_29 dX4_outcome_27 ?_
        refine lv_iload hx hb dX4_outcome_30 (lv_at hl 1 rfl) ?_
        refine ldN Z hP 22 (σ.2.1 9) rfl (k) rfl (by omega) (by decide) dX4_outcome_32 ?_
        refine lv_iload hx hb dX4_outcome_33 (lv_at hl 0 rfl) ?_
        refine zdet_I ⟨rfl, rfl⟩ Z hD hS (zrunS (rest := []) Z hP hD hS hl.1 (m_X4_act l G (wC G q σ κ) ((σ.2.1 9) (k)) rfl (outc σ t te k) (by have := h3 k; omega)) zY_X4_act km_X4_36 rfl rfl ⟨⟨Nat.le_of_ble_eq_true rfl, Nat.le_of_ble_eq_true rfl⟩, Nat.le_of_ble_eq_true rfl, Nat.le_of_ble_eq_true rfl⟩ (Nat.le_of_ble_eq_true rfl) dX4_outcome_35) (fun H locs hP hD hS => ?_)
        refine lv_istore (lv' := [(5, .int (act ((σ.2.1 9) (k)) ((outc σ t te k)))), (6, .int (zI ((k : Nat) : Int))), (0, .ref (q 2)), (1, .long (t)), (3, .int (te)), (4, .int (zI ((b : Nat) : Int)))]) hx hb dX4_outcome_38 hl (by decide) rfl (fun ls hl => ?_)
        refine zr_iinc (lv' := [(6, .int (zI (((k : Nat) : Int) + (1 : Int)))), (5, .int (act ((σ.2.1 9) (k)) ((outc σ t te k)))), (0, .ref (q 2)), (1, .long (t)), (3, .int (te)), (4, .int (zI ((b : Nat) : Int)))]) hx hb 1 dX4_outcome_40 hl rfl (by decide) rfl (fun ls hl => ?_)
        refine lv_goto (tgt := 6) hx hb dX4_outcome_43 (by decide) ?_
        have h9 : outc σ t te (k + 1) = act ((σ.2.1 9) (k)) ((outc σ t te k)) := by rw [outc, c23]; rfl
        exact ih6 (k + 1) (by omega) (by omega) _ _ _ hP hD hS (lv_sub hl [1, 0, 2, 3, 4, 5] (by rw [h9]; rfl))
abbrev r_X3_takes : Room := { frames := 1, cells := 0, slots := 0, locals := 21 }
set_option maxHeartbeats 4000000 in
set_option maxRecDepth 100000 in
theorem m_X3_takes (l : Launch) (G : ZG) (q : Nat → Nat) (σ : St) (κ : KC) {e_rv : Int} (rv : Nat) (he_rv : e_rv = (rv : Int)) (te : Int32) (st : Int32) (h1 : rv < 4) (h2 : σ.2.1 19 rv ≤ 8) :
    MC l G yX3_takes (wY yX3_takes cX3_takes 4 (some .boolean)) r_X3_takes (wC G q σ κ) [.ref (q 3), .int (zI e_rv), .int (te), .int (st)] (QI G (fun r9 (_ : Unit) => r9 = (tB (tk σ rv te st))) (fun _ => wC G q σ κ)) := by
  subst he_rv
  refine MC.mk (by decide +kernel) (Nat.le_of_ble_eq_true rfl) ?_
  intro p e s m av below meth c A H locs ls Q Z hr hnm hQ hP hD hS hl
  have hx := Z.1
  have hb := Z.2.1
  have hown := Z.2.2.2.1
  have hW := Z.2.2.2.2.1
  have hl : lv_has ls 4 [(0, .ref (q 3)), (1, .int (zI ((rv : Nat) : Int))), (2, .int (te)), (3, .int (st))] := hl
  refine lv_iload_n hx hb dX3_takes_0 rfl (lv_at hl 3 rfl) ?_
  refine zr_sipush hx hb dX3_takes_1 (by decide) ?_
  refine lv_iand hx hb dX3_takes_4 ?_
  refine lv_if_ne (tgt := 36) hx hb dX3_takes_5 (by decide) (fun c5 => ?_) (fun c5 => ?_)
  · skip
    refine zr_iconst hx hb dX3_takes_36 ?_
    exact zret_B () Z hr (by decide +kernel) hP hD hS (tB_0 (by
        have h9 : tb st 8 = true := by
          cases h8 : tb st 8 with
          | true => rfl
          | false => exact absurd ((tb_256 st).mpr h8) c5
        unfold tk; simp [h9])) rfl ⟨Nat.le_refl _, Nat.le_refl _⟩ hQ dX3_takes_37
  · skip
    refine lv_iload_n hx hb dX3_takes_8 rfl (lv_at hl 2 rfl) ?_
    refine lv_aload_n hx hb dX3_takes_9 rfl (lv_at hl 0 rfl) ?_
    refine gC_3_1 Z hP kf_X3_15 dX3_takes_10 ?_
    refine lv_iload_n hx hb dX3_takes_13 rfl (lv_at hl 1 rfl) ?_
    refine ldI Z hP 23 (σ.2.2.1 2) rfl (rv) rfl (by omega) (by decide) dX3_takes_14 ?_
    refine lv_iand hx hb dX3_takes_15 ?_
    refine lv_if_eq (tgt := 36) hx hb dX3_takes_16 (by decide) (fun c16 => ?_) (fun c16 => ?_)
    · skip
      refine zr_iconst hx hb dX3_takes_36 ?_
      exact zret_B () Z hr (by decide +kernel) hP hD hS (tB_0 (by unfold tk; simp [c16])) rfl ⟨Nat.le_refl _, Nat.le_refl _⟩ hQ dX3_takes_37
    · skip
      refine lv_iload_n hx hb dX3_takes_19 rfl (lv_at hl 3 rfl) ?_
      refine lv_aload_n hx hb dX3_takes_20 rfl (lv_at hl 0 rfl) ?_
      refine gC_3_2 Z hP kf_X3_19 dX3_takes_21 ?_
      refine lv_iload_n hx hb dX3_takes_24 rfl (lv_at hl 1 rfl) ?_
      refine ldM Z hP 24 (σ.2.1 19) rfl (rv) rfl (by omega) (by decide) dX3_takes_25 ?_
      refine zdet_I ⟨rfl, rfl⟩ Z hD hS (zrunSN (rest := []) Z hP hD hS hl.1 (m_X5_hasTagOrNeedsNone l G (wC G q σ κ) (st) ((σ.2.1 19) (rv)) rfl (by omega)) zY_X5_hasTagOrNeedsNone (by decide +kernel : (RX3, 22, yX5_hasTagOrNeedsNone, RX5) ∈ xNest) rfl rfl ⟨⟨Nat.le_of_ble_eq_true rfl, Nat.le_of_ble_eq_true rfl⟩, Nat.le_of_ble_eq_true rfl, Nat.le_of_ble_eq_true rfl⟩ (Nat.le_of_ble_eq_true rfl) dX3_takes_26) (fun H locs hP hD hS => ?_)
      refine zb_eq (tgt := 36) hx hb dX3_takes_29 (by decide) (fun c29 => ?_) (fun c29 => ?_)
      · skip
        refine zr_iconst hx hb dX3_takes_36 ?_
        exact zret_B () Z hr (by decide +kernel) hP hD hS (tB_0 (by
            have h9 : tb st 8 = false := (tb_256 st).mp c5
            unfold tk; rw [c29, h9]; simp)) rfl ⟨Nat.le_refl _, Nat.le_refl _⟩ hQ dX3_takes_37
      · skip
        refine zr_iconst hx hb dX3_takes_32 ?_
        refine lv_goto (tgt := 37) hx hb dX3_takes_33 (by decide) ?_
        exact zret_B () Z hr (by decide +kernel) hP hD hS (tB_1 (by
            have h9 : tb st 8 = false := (tb_256 st).mp c5
            unfold tk; rw [c29, h9]; simp [c16])) rfl ⟨Nat.le_refl _, Nat.le_refl _⟩ hQ dX3_takes_37
abbrev r_X5_outcomeOf : Room := { frames := 4, cells := 0, slots := 0, locals := 86 }
set_option maxHeartbeats 4000000 in
set_option maxRecDepth 100000 in
theorem m_X5_outcomeOf (l : Launch) (G : ZG) (q : Nat → Nat) (σ : St) (κ : KC) {e_i : Int} (i : Nat) (he_i : e_i = (i : Int)) (hI : okC σ) (h1 : i < σ.1 4) :
    MC l G yX5_outcomeOf (wY yX5_outcomeOf cX5_outcomeOf 2 (some .int)) r_X5_outcomeOf (wC G q σ κ) [.ref (q 0), .int (zI e_i)] (QI G (fun r9 (_ : Unit) => r9 = (out σ i)) (fun _ => wC G q σ κ)) := by
  subst he_i
  refine MC.mk (by decide +kernel) (Nat.le_of_ble_eq_true rfl) ?_
  intro p e s m av below meth c A H locs ls Q Z hr hnm hQ hP hD hS hl
  have hx := Z.1
  have hb := Z.2.1
  have hown := Z.2.2.2.1
  have hW := Z.2.2.2.2.1
  have hl : lv_has ls 2 [(0, .ref (q 0)), (1, .int (zI ((i : Nat) : Int)))] := hl
  obtain ⟨hn, hru, hrv, hdv, hsr, hmn, ht1, ht2, hwn, hv1, hv2, hmj, htm, hse, htg, hrt, hac, hk1, hk2, hkd, hmm, hmv, hord, hpo, hlo⟩ := id hI
  refine lv_aload_n hx hb dX5_outcomeOf_0 rfl (lv_at hl 0 rfl) ?_
  refine gC_0_5 Z hP kf_X5_32 dX5_outcomeOf_1 ?_
  refine lv_aload_n hx hb dX5_outcomeOf_4 rfl (lv_at hl 0 rfl) ?_
  refine gC_0_4 Z hP kf_X5_25 dX5_outcomeOf_5 ?_
  refine lv_iload_n hx hb dX5_outcomeOf_8 rfl (lv_at hl 1 rfl) ?_
  refine zdet_L ⟨rfl, rfl⟩ Z hD hS (zrunV (rest := [.ref (q 2)]) Z hP hD hS hl.1 (m_X1_latestTitle l G q σ κ (i) rfl (by omega) (hv1 _ h1) (hv2 _)) zY_X1_latestTitle km_X5_196 (q0 := 1) rfl rfl rfl rfl ⟨⟨Nat.le_of_ble_eq_true rfl, Nat.le_of_ble_eq_true rfl⟩, Nat.le_of_ble_eq_true rfl, Nat.le_of_ble_eq_true rfl⟩ (Nat.le_of_ble_eq_true rfl) dX5_outcomeOf_9) (fun H locs hP hD hS => ?_)
  refine lv_aload_n hx hb dX5_outcomeOf_12 rfl (lv_at hl 0 rfl) ?_
  refine gC_0_4 Z hP kf_X5_25 dX5_outcomeOf_13 ?_
  refine lv_iload_n hx hb dX5_outcomeOf_16 rfl (lv_at hl 1 rfl) ?_
  refine zdet_I ⟨rfl, rfl⟩ Z hD hS (zrunV (rest := [.long (lat σ i), .ref (q 2)]) Z hP hD hS hl.1 (m_X1_tellers l G q σ κ (i) rfl (by omega)) zY_X1_tellers km_X5_170 (q0 := 1) rfl rfl rfl rfl ⟨⟨Nat.le_of_ble_eq_true rfl, Nat.le_of_ble_eq_true rfl⟩, Nat.le_of_ble_eq_true rfl, Nat.le_of_ble_eq_true rfl⟩ (Nat.le_of_ble_eq_true rfl) dX5_outcomeOf_17) (fun H locs hP hD hS => ?_)
  refine lv_aload_n hx hb dX5_outcomeOf_20 rfl (lv_at hl 0 rfl) ?_
  refine gC_0_5 Z hP kf_X5_32 dX5_outcomeOf_21 ?_
  refine zdet_I ⟨rfl, rfl⟩ Z hD hS (zrunV (rest := [.int ((σ.2.2.1 0) i), .long (lat σ i), .ref (q 2)]) Z hP hD hS hl.1 (m_X4_size l G q σ κ) zY_X4_size km_X5_192 (q0 := 2) rfl rfl rfl rfl ⟨⟨Nat.le_of_ble_eq_true rfl, Nat.le_of_ble_eq_true rfl⟩, Nat.le_of_ble_eq_true rfl, Nat.le_of_ble_eq_true rfl⟩ (Nat.le_of_ble_eq_true rfl) dX5_outcomeOf_24) (fun H locs hP hD hS => ?_)
  refine zdet_I ⟨rfl, rfl⟩ Z hD hS (zrunV (rest := []) Z hP hD hS hl.1 (m_X4_outcome l G q σ κ (lat σ i) ((σ.2.2.1 0) i) (σ.1 5) rfl hru htg hac) zY_X4_outcome km_X5_200 (q0 := 2) rfl rfl rfl rfl ⟨⟨Nat.le_of_ble_eq_true rfl, Nat.le_of_ble_eq_true rfl⟩, Nat.le_of_ble_eq_true rfl, Nat.le_of_ble_eq_true rfl⟩ (Nat.le_of_ble_eq_true rfl) dX5_outcomeOf_27) (fun H locs hP hD hS => ?_)
  exact zret_I () Z hr hP hD hS rfl rfl ⟨Nat.le_refl _, Nat.le_refl _⟩ hQ dX5_outcomeOf_30
abbrev r_X5_gather_kk : Room := { frames := 5, cells := 0, slots := 0, locals := 107 }
set_option maxHeartbeats 4000000 in
set_option maxRecDepth 100000 in
theorem m_X5_gather_kk (l : Launch) (G : ZG) (q : Nat → Nat) (σ : St) (κ : KC) {e_rv : Int} (rv : Nat) (he_rv : e_rv = (rv : Int)) (hI : okC σ) (h1 : rv < σ.1 6) :
    MC l G yX5_gather (wY yX5_gather cX5_gather 7 (some .int)) r_X5_gather_kk (wC G q σ κ) [.ref (q 0), .int (zI e_rv), .ref (q 14), .ref (q 6)] (QI G (fun r9 (_ : Unit) => r9 = (zI (((gth (shw σ rv) (σ.2.1 10) (κ.1) (σ.1 4)).1 : Nat) : Int))) (fun _ => wC G q σ ((gth (shw σ rv) (σ.2.1 10) (κ.1) (σ.1 4)).2, κ.2.1, κ.2.2))) := by
  subst he_rv
  refine MC.mk (by decide +kernel) (Nat.le_of_ble_eq_true rfl) ?_
  intro p e s m av below meth c A H locs ls Q Z hr hnm hQ hP hD hS hl
  have hx := Z.1
  have hb := Z.2.1
  have hown := Z.2.2.2.1
  have hW := Z.2.2.2.2.1
  have hl : lv_has ls 7 [(0, .ref (q 0)), (1, .int (zI ((rv : Nat) : Int))), (2, .ref (q 14)), (3, .ref (q 6))] := hl
  obtain ⟨hn, hru, hrv, hdv, hsr, hmn, ht1, ht2, hwn, hv1, hv2, hmj, htm, hse, htg, hrt, hac, hk1, hk2, hkd, hmm, hmv, hord, hpo, hlo⟩ := id hI
  refine zr_iconst hx hb dX5_gather_0 ?_
  refine lv_istore (lv' := [(4, .int (zI (0 : Int))), (0, .ref (q 0)), (1, .int (zI ((rv : Nat) : Int))), (2, .ref (q 14)), (3, .ref (q 6))]) hx hb dX5_gather_1 hl (by decide) rfl (fun ls hl => ?_)
  refine zr_iconst hx hb dX5_gather_3 ?_
  refine lv_istore (lv' := [(5, .int (zI (0 : Int))), (4, .int (zI (0 : Int))), (0, .ref (q 0)), (1, .int (zI ((rv : Nat) : Int))), (2, .ref (q 14)), (3, .ref (q 6))]) hx hb dX5_gather_4 hl (by decide) rfl (fun ls hl => ?_)
  suffices LP6 : ∀ (f9 : Nat) (k : Nat), σ.1 4 < k + f9 → (k ≤ σ.1 4) → ∀ (H : Heap) (locs : List Loc) (ls : Array Slot), va_P G.1 vwCl (wC G q σ ((gth (shw σ rv) (σ.2.1 10) (κ.1) k).2, κ.2.1, κ.2.2)) H → va_D A (wC G q σ ((gth (shw σ rv) (σ.2.1 10) (κ.1) k).2, κ.2.1, κ.2.2)) → va_S A s.heap H locs → lv_has ls 7 [(4, .int (zI (((gth (shw σ rv) (σ.2.1 10) (κ.1) k).1 : Nat) : Int))), (5, .int (zI ((k : Nat) : Int))), (0, .ref (q 0)), (1, .int (zI ((rv : Nat) : Int))), (2, .ref (q 14)), (3, .ref (q 6))] → W p l e r_X5_gather_kk s m av below meth c H locs 0 0 Q (F0 m 6 ls []) from LP6 (σ.1 4 + 1) (0) (by omega) (by omega) _ _ _ hP hD hS (lv_sub hl [1, 0, 2, 3, 4, 5] rfl)
  intro f9
  induction f9 with
  | zero => intro k hf9 hk; exfalso; omega
  | succ f9 ih6 =>
    intro k hf9 hk H locs ls hP hD hS hl
    have hg9 := gth_le (shw σ rv) (σ.2.1 10) (κ.1) k
    refine lv_iload hx hb dX5_gather_6 (lv_at hl 1 rfl) ?_
    refine lv_aload_n hx hb dX5_gather_8 rfl (lv_at hl 2 rfl) ?_
    refine gC_0_4 Z hP kf_X5_25 dX5_gather_9 ?_
    refine zdet_I ⟨rfl, rfl⟩ Z hD hS (zrunV (rest := [.int (zI ((k : Nat) : Int))]) Z hP hD hS hl.1 (m_X1_size l G q σ ((gth (shw σ rv) (σ.2.1 10) (κ.1) k).2, κ.2.1, κ.2.2)) zY_X1_size km_X5_132 (q0 := 1) rfl rfl rfl rfl ⟨⟨Nat.le_of_ble_eq_true rfl, Nat.le_of_ble_eq_true rfl⟩, Nat.le_of_ble_eq_true rfl, Nat.le_of_ble_eq_true rfl⟩ (Nat.le_of_ble_eq_true rfl) dX5_gather_12) (fun H locs hP hD hS => ?_)
    refine zc_ge (tgt := 65) hx hb ((k : Nat) : Int) ((σ.1 4 : Nat) : Int) (zI_toInt (by omega)) (zI_toInt (by omega)) dX5_gather_15 (by decide) (fun c15 => ?_) (fun c15 => ?_)
    · skip
      refine lv_iload hx hb dX5_gather_65 (lv_at hl 0 rfl) ?_
      exact zret_I () Z hr hP hD hS (by
          have h9 : k = σ.1 4 := by omega
          rw [h9]) (by
          have h9 : k = σ.1 4 := by omega
          rw [h9]) ⟨Nat.le_refl _, Nat.le_refl _⟩ hQ dX5_gather_67
    · skip
      have hi9 := hord k (by omega)
      refine lv_aload_n hx hb dX5_gather_18 rfl (lv_at hl 4 rfl) ?_
      refine lv_iload hx hb dX5_gather_19 (lv_at hl 1 rfl) ?_
      refine ldN Z hP 14 (σ.2.1 10) rfl (k) rfl (by omega) (by decide) dX5_gather_21 ?_
      refine lv_istore (lv' := [(6, .int (zI (((σ.2.1 10) (k) : Nat) : Int))), (4, .int (zI (((gth (shw σ rv) (σ.2.1 10) (κ.1) k).1 : Nat) : Int))), (5, .int (zI ((k : Nat) : Int))), (0, .ref (q 0)), (1, .int (zI ((rv : Nat) : Int))), (2, .ref (q 14)), (3, .ref (q 6))]) hx hb dX5_gather_22 hl (by decide) rfl (fun ls hl => ?_)
      refine lv_aload_n hx hb dX5_gather_24 rfl (lv_at hl 3 rfl) ?_
      refine gC_0_6 Z hP kf_X5_39 dX5_gather_25 ?_
      refine lv_iload_n hx hb dX5_gather_28 rfl (lv_at hl 4 rfl) ?_
      refine lv_aload_n hx hb dX5_gather_29 rfl (lv_at hl 3 rfl) ?_
      refine gC_0_4 Z hP kf_X5_25 dX5_gather_30 ?_
      refine lv_iload hx hb dX5_gather_33 (lv_at hl 0 rfl) ?_
      refine zdet_I ⟨rfl, rfl⟩ Z hD hS (zrunV (rest := [.int (zI ((rv : Nat) : Int)), .ref (q 3)]) Z hP hD hS hl.1 (m_X1_tellers l G q σ ((gth (shw σ rv) (σ.2.1 10) (κ.1) k).2, κ.2.1, κ.2.2) ((σ.2.1 10) (k)) rfl (by omega)) zY_X1_tellers km_X5_170 (q0 := 1) rfl rfl rfl rfl ⟨⟨Nat.le_of_ble_eq_true rfl, Nat.le_of_ble_eq_true rfl⟩, Nat.le_of_ble_eq_true rfl, Nat.le_of_ble_eq_true rfl⟩ (Nat.le_of_ble_eq_true rfl) dX5_gather_35) (fun H locs hP hD hS => ?_)
      refine lv_aload_n hx hb dX5_gather_38 rfl (lv_at hl 3 rfl) ?_
      refine lv_iload hx hb dX5_gather_39 (lv_at hl 0 rfl) ?_
      refine zdet_I ⟨rfl, rfl⟩ Z hD hS (zrunV (rest := [.int ((σ.2.2.1 0) ((σ.2.1 10) (k))), .int (zI ((rv : Nat) : Int)), .ref (q 3)]) Z hP hD hS hl.1 (m_X5_outcomeOf l G q σ ((gth (shw σ rv) (σ.2.1 10) (κ.1) k).2, κ.2.1, κ.2.2) ((σ.2.1 10) (k)) rfl hI (by omega)) zY_X5_outcomeOf km_X5_193 (q0 := 0) rfl rfl rfl rfl ⟨⟨Nat.le_of_ble_eq_true rfl, Nat.le_of_ble_eq_true rfl⟩, Nat.le_of_ble_eq_true rfl, Nat.le_of_ble_eq_true rfl⟩ (Nat.le_of_ble_eq_true rfl) dX5_gather_41) (fun H locs hP hD hS => ?_)
      refine zdet_I ⟨rfl, rfl⟩ Z hD hS (zrunV (rest := []) Z hP hD hS hl.1 (m_X3_takes l G q σ ((gth (shw σ rv) (σ.2.1 10) (κ.1) k).2, κ.2.1, κ.2.2) (rv) rfl ((σ.2.2.1 0) ((σ.2.1 10) (k))) (out σ ((σ.2.1 10) (k))) (by omega) (hrt _)) zY_X3_takes km_X5_305 (q0 := 3) rfl rfl rfl rfl ⟨⟨Nat.le_of_ble_eq_true rfl, Nat.le_of_ble_eq_true rfl⟩, Nat.le_of_ble_eq_true rfl, Nat.le_of_ble_eq_true rfl⟩ (Nat.le_of_ble_eq_true rfl) dX5_gather_44) (fun H locs hP hD hS => ?_)
      refine zb_eq (tgt := 59) hx hb dX5_gather_47 (by decide) (fun c47 => ?_) (fun c47 => ?_)
      · skip
        refine zr_iinc (lv' := [(5, .int (zI (((k : Nat) : Int) + (1 : Int)))), (6, .int (zI (((σ.2.1 10) (k) : Nat) : Int))), (4, .int (zI (((gth (shw σ rv) (σ.2.1 10) (κ.1) k).1 : Nat) : Int))), (0, .ref (q 0)), (1, .int (zI ((rv : Nat) : Int))), (2, .ref (q 14)), (3, .ref (q 6))]) hx hb 2 dX5_gather_59 hl rfl (by decide) rfl (fun ls hl => ?_)
        refine lv_goto (tgt := 6) hx hb dX5_gather_62 (by decide) ?_
        have h9 : gth (shw σ rv) (σ.2.1 10) (κ.1) (k + 1) = gth (shw σ rv) (σ.2.1 10) (κ.1) k := by rw [gth]; exact if_neg (by rw [show shw σ rv ((σ.2.1 10) k) = false from c47]; decide)
        have hw9 : wC G q σ ((gth (shw σ rv) (σ.2.1 10) (κ.1) k).2, κ.2.1, κ.2.2) = wC G q σ ((gth (shw σ rv) (σ.2.1 10) (κ.1) (k + 1)).2, κ.2.1, κ.2.2) := (by rw [h9])
        rw [hw9] at hP hD
        exact ih6 (k + 1) (by omega) (by omega) _ _ _ hP hD hS (lv_sub hl [2, 0, 3, 4, 5, 6] (by rw [h9]; rfl))
      · skip
        refine lv_aload_n hx hb dX5_gather_50 rfl (lv_at hl 6 rfl) ?_
        refine lv_iload hx hb dX5_gather_51 (lv_at hl 1 rfl) ?_
        refine lv_iload hx hb dX5_gather_53 (lv_at hl 0 rfl) ?_
        refine stN (ws1 := wC G q σ (va_up ((gth (shw σ rv) (σ.2.1 10) (κ.1) k).2) ((gth (shw σ rv) (σ.2.1 10) (κ.1) k).1) ((σ.2.1 10) (k)), κ.2.1, κ.2.2)) Z hP hD hS 6 ((gth (shw σ rv) (σ.2.1 10) (κ.1) k).2) rfl ((gth (shw σ rv) (σ.2.1 10) (κ.1) k).1) rfl (by omega) (by decide) ((σ.2.1 10) (k)) rfl rfl dX5_gather_55 (fun H locs hP hD hS => ?_)
        refine zr_iinc (lv' := [(4, .int (zI ((((gth (shw σ rv) (σ.2.1 10) (κ.1) k).1 : Nat) : Int) + (1 : Int)))), (6, .int (zI (((σ.2.1 10) (k) : Nat) : Int))), (5, .int (zI ((k : Nat) : Int))), (0, .ref (q 0)), (1, .int (zI ((rv : Nat) : Int))), (2, .ref (q 14)), (3, .ref (q 6))]) hx hb 1 dX5_gather_56 hl rfl (by decide) rfl (fun ls hl => ?_)
        refine zr_iinc (lv' := [(5, .int (zI (((k : Nat) : Int) + (1 : Int)))), (4, .int (zI ((((gth (shw σ rv) (σ.2.1 10) (κ.1) k).1 : Nat) : Int) + (1 : Int)))), (6, .int (zI (((σ.2.1 10) (k) : Nat) : Int))), (0, .ref (q 0)), (1, .int (zI ((rv : Nat) : Int))), (2, .ref (q 14)), (3, .ref (q 6))]) hx hb 2 dX5_gather_59 hl rfl (by decide) rfl (fun ls hl => ?_)
        refine lv_goto (tgt := 6) hx hb dX5_gather_62 (by decide) ?_
        have h9 : gth (shw σ rv) (σ.2.1 10) (κ.1) (k + 1) = ((gth (shw σ rv) (σ.2.1 10) (κ.1) k).1 + 1, va_up (gth (shw σ rv) (σ.2.1 10) (κ.1) k).2 (gth (shw σ rv) (σ.2.1 10) (κ.1) k).1 ((σ.2.1 10) k)) := by rw [gth]; exact if_pos c47
        have hw9 : wC G q σ (va_up ((gth (shw σ rv) (σ.2.1 10) (κ.1) k).2) ((gth (shw σ rv) (σ.2.1 10) (κ.1) k).1) ((σ.2.1 10) (k)), κ.2.1, κ.2.2) = wC G q σ ((gth (shw σ rv) (σ.2.1 10) (κ.1) (k + 1)).2, κ.2.1, κ.2.2) := (by rw [h9])
        rw [hw9] at hP hD
        exact ih6 (k + 1) (by omega) (by omega) _ _ _ hP hD hS (lv_sub hl [1, 0, 3, 4, 5, 6] (by rw [h9]; rfl))
abbrev r_X5_gather_ak : Room := { frames := 5, cells := 0, slots := 0, locals := 107 }
set_option maxHeartbeats 4000000 in
set_option maxRecDepth 100000 in
theorem m_X5_gather_ak (l : Launch) (G : ZG) (q : Nat → Nat) (σ : St) (κ : KC) {e_rv : Int} (rv : Nat) (he_rv : e_rv = (rv : Int)) (hI : okC σ) (h1 : rv < σ.1 6) (h2 : ∀ y9, y9 < σ.1 4 → κ.2.2 y9 < σ.1 4) :
    MC l G yX5_gather (wY yX5_gather cX5_gather 7 (some .int)) r_X5_gather_ak (wC G q σ κ) [.ref (q 0), .int (zI e_rv), .ref (q 15), .ref (q 6)] (QI G (fun r9 (_ : Unit) => r9 = (zI (((gth (shw σ rv) (κ.2.2) (κ.1) (σ.1 4)).1 : Nat) : Int))) (fun _ => wC G q σ ((gth (shw σ rv) (κ.2.2) (κ.1) (σ.1 4)).2, κ.2.1, κ.2.2))) := by
  subst he_rv
  refine MC.mk (by decide +kernel) (Nat.le_of_ble_eq_true rfl) ?_
  intro p e s m av below meth c A H locs ls Q Z hr hnm hQ hP hD hS hl
  have hx := Z.1
  have hb := Z.2.1
  have hown := Z.2.2.2.1
  have hW := Z.2.2.2.2.1
  have hl : lv_has ls 7 [(0, .ref (q 0)), (1, .int (zI ((rv : Nat) : Int))), (2, .ref (q 15)), (3, .ref (q 6))] := hl
  obtain ⟨hn, hru, hrv, hdv, hsr, hmn, ht1, ht2, hwn, hv1, hv2, hmj, htm, hse, htg, hrt, hac, hk1, hk2, hkd, hmm, hmv, hord, hpo, hlo⟩ := id hI
  refine zr_iconst hx hb dX5_gather_0 ?_
  refine lv_istore (lv' := [(4, .int (zI (0 : Int))), (0, .ref (q 0)), (1, .int (zI ((rv : Nat) : Int))), (2, .ref (q 15)), (3, .ref (q 6))]) hx hb dX5_gather_1 hl (by decide) rfl (fun ls hl => ?_)
  refine zr_iconst hx hb dX5_gather_3 ?_
  refine lv_istore (lv' := [(5, .int (zI (0 : Int))), (4, .int (zI (0 : Int))), (0, .ref (q 0)), (1, .int (zI ((rv : Nat) : Int))), (2, .ref (q 15)), (3, .ref (q 6))]) hx hb dX5_gather_4 hl (by decide) rfl (fun ls hl => ?_)
  suffices LP6 : ∀ (f9 : Nat) (k : Nat), σ.1 4 < k + f9 → (k ≤ σ.1 4) → ∀ (H : Heap) (locs : List Loc) (ls : Array Slot), va_P G.1 vwCl (wC G q σ ((gth (shw σ rv) (κ.2.2) (κ.1) k).2, κ.2.1, κ.2.2)) H → va_D A (wC G q σ ((gth (shw σ rv) (κ.2.2) (κ.1) k).2, κ.2.1, κ.2.2)) → va_S A s.heap H locs → lv_has ls 7 [(4, .int (zI (((gth (shw σ rv) (κ.2.2) (κ.1) k).1 : Nat) : Int))), (5, .int (zI ((k : Nat) : Int))), (0, .ref (q 0)), (1, .int (zI ((rv : Nat) : Int))), (2, .ref (q 15)), (3, .ref (q 6))] → W p l e r_X5_gather_ak s m av below meth c H locs 0 0 Q (F0 m 6 ls []) from LP6 (σ.1 4 + 1) (0) (by omega) (by omega) _ _ _ hP hD hS (lv_sub hl [1, 0, 2, 3, 4, 5] rfl)
  intro f9
  induction f9 with
  | zero => intro k hf9 hk; exfalso; omega
  | succ f9 ih6 =>
    intro k hf9 hk H locs ls hP hD hS hl
    have hg9 := gth_le (shw σ rv) (κ.2.2) (κ.1) k
    refine lv_iload hx hb dX5_gather_6 (lv_at hl 1 rfl) ?_
    refine lv_aload_n hx hb dX5_gather_8 rfl (lv_at hl 2 rfl) ?_
    refine gC_0_4 Z hP kf_X5_25 dX5_gather_9 ?_
    refine zdet_I ⟨rfl, rfl⟩ Z hD hS (zrunV (rest := [.int (zI ((k : Nat) : Int))]) Z hP hD hS hl.1 (m_X1_size l G q σ ((gth (shw σ rv) (κ.2.2) (κ.1) k).2, κ.2.1, κ.2.2)) zY_X1_size km_X5_132 (q0 := 1) rfl rfl rfl rfl ⟨⟨Nat.le_of_ble_eq_true rfl, Nat.le_of_ble_eq_true rfl⟩, Nat.le_of_ble_eq_true rfl, Nat.le_of_ble_eq_true rfl⟩ (Nat.le_of_ble_eq_true rfl) dX5_gather_12) (fun H locs hP hD hS => ?_)
    refine zc_ge (tgt := 65) hx hb ((k : Nat) : Int) ((σ.1 4 : Nat) : Int) (zI_toInt (by omega)) (zI_toInt (by omega)) dX5_gather_15 (by decide) (fun c15 => ?_) (fun c15 => ?_)
    · skip
      refine lv_iload hx hb dX5_gather_65 (lv_at hl 0 rfl) ?_
      exact zret_I () Z hr hP hD hS (by
          have h9 : k = σ.1 4 := by omega
          rw [h9]) (by
          have h9 : k = σ.1 4 := by omega
          rw [h9]) ⟨Nat.le_refl _, Nat.le_refl _⟩ hQ dX5_gather_67
    · skip
      have hi9 := h2 k (by omega)
      refine lv_aload_n hx hb dX5_gather_18 rfl (lv_at hl 4 rfl) ?_
      refine lv_iload hx hb dX5_gather_19 (lv_at hl 1 rfl) ?_
      refine ldN Z hP 15 (κ.2.2) rfl (k) rfl (by omega) (by decide) dX5_gather_21 ?_
      refine lv_istore (lv' := [(6, .int (zI ((κ.2.2 (k) : Nat) : Int))), (4, .int (zI (((gth (shw σ rv) (κ.2.2) (κ.1) k).1 : Nat) : Int))), (5, .int (zI ((k : Nat) : Int))), (0, .ref (q 0)), (1, .int (zI ((rv : Nat) : Int))), (2, .ref (q 15)), (3, .ref (q 6))]) hx hb dX5_gather_22 hl (by decide) rfl (fun ls hl => ?_)
      refine lv_aload_n hx hb dX5_gather_24 rfl (lv_at hl 3 rfl) ?_
      refine gC_0_6 Z hP kf_X5_39 dX5_gather_25 ?_
      refine lv_iload_n hx hb dX5_gather_28 rfl (lv_at hl 4 rfl) ?_
      refine lv_aload_n hx hb dX5_gather_29 rfl (lv_at hl 3 rfl) ?_
      refine gC_0_4 Z hP kf_X5_25 dX5_gather_30 ?_
      refine lv_iload hx hb dX5_gather_33 (lv_at hl 0 rfl) ?_
      refine zdet_I ⟨rfl, rfl⟩ Z hD hS (zrunV (rest := [.int (zI ((rv : Nat) : Int)), .ref (q 3)]) Z hP hD hS hl.1 (m_X1_tellers l G q σ ((gth (shw σ rv) (κ.2.2) (κ.1) k).2, κ.2.1, κ.2.2) (κ.2.2 (k)) rfl (by omega)) zY_X1_tellers km_X5_170 (q0 := 1) rfl rfl rfl rfl ⟨⟨Nat.le_of_ble_eq_true rfl, Nat.le_of_ble_eq_true rfl⟩, Nat.le_of_ble_eq_true rfl, Nat.le_of_ble_eq_true rfl⟩ (Nat.le_of_ble_eq_true rfl) dX5_gather_35) (fun H locs hP hD hS => ?_)
      refine lv_aload_n hx hb dX5_gather_38 rfl (lv_at hl 3 rfl) ?_
      refine lv_iload hx hb dX5_gather_39 (lv_at hl 0 rfl) ?_
      refine zdet_I ⟨rfl, rfl⟩ Z hD hS (zrunV (rest := [.int ((σ.2.2.1 0) (κ.2.2 (k))), .int (zI ((rv : Nat) : Int)), .ref (q 3)]) Z hP hD hS hl.1 (m_X5_outcomeOf l G q σ ((gth (shw σ rv) (κ.2.2) (κ.1) k).2, κ.2.1, κ.2.2) (κ.2.2 (k)) rfl hI (by omega)) zY_X5_outcomeOf km_X5_193 (q0 := 0) rfl rfl rfl rfl ⟨⟨Nat.le_of_ble_eq_true rfl, Nat.le_of_ble_eq_true rfl⟩, Nat.le_of_ble_eq_true rfl, Nat.le_of_ble_eq_true rfl⟩ (Nat.le_of_ble_eq_true rfl) dX5_gather_41) (fun H locs hP hD hS => ?_)
      refine zdet_I ⟨rfl, rfl⟩ Z hD hS (zrunV (rest := []) Z hP hD hS hl.1 (m_X3_takes l G q σ ((gth (shw σ rv) (κ.2.2) (κ.1) k).2, κ.2.1, κ.2.2) (rv) rfl ((σ.2.2.1 0) (κ.2.2 (k))) (out σ (κ.2.2 (k))) (by omega) (hrt _)) zY_X3_takes km_X5_305 (q0 := 3) rfl rfl rfl rfl ⟨⟨Nat.le_of_ble_eq_true rfl, Nat.le_of_ble_eq_true rfl⟩, Nat.le_of_ble_eq_true rfl, Nat.le_of_ble_eq_true rfl⟩ (Nat.le_of_ble_eq_true rfl) dX5_gather_44) (fun H locs hP hD hS => ?_)
      refine zb_eq (tgt := 59) hx hb dX5_gather_47 (by decide) (fun c47 => ?_) (fun c47 => ?_)
      · skip
        refine zr_iinc (lv' := [(5, .int (zI (((k : Nat) : Int) + (1 : Int)))), (6, .int (zI ((κ.2.2 (k) : Nat) : Int))), (4, .int (zI (((gth (shw σ rv) (κ.2.2) (κ.1) k).1 : Nat) : Int))), (0, .ref (q 0)), (1, .int (zI ((rv : Nat) : Int))), (2, .ref (q 15)), (3, .ref (q 6))]) hx hb 2 dX5_gather_59 hl rfl (by decide) rfl (fun ls hl => ?_)
        refine lv_goto (tgt := 6) hx hb dX5_gather_62 (by decide) ?_
        have h9 : gth (shw σ rv) (κ.2.2) (κ.1) (k + 1) = gth (shw σ rv) (κ.2.2) (κ.1) k := by rw [gth]; exact if_neg (by rw [show shw σ rv ((κ.2.2) k) = false from c47]; decide)
        have hw9 : wC G q σ ((gth (shw σ rv) (κ.2.2) (κ.1) k).2, κ.2.1, κ.2.2) = wC G q σ ((gth (shw σ rv) (κ.2.2) (κ.1) (k + 1)).2, κ.2.1, κ.2.2) := (by rw [h9])
        rw [hw9] at hP hD
        exact ih6 (k + 1) (by omega) (by omega) _ _ _ hP hD hS (lv_sub hl [2, 0, 3, 4, 5, 6] (by rw [h9]; rfl))
      · skip
        refine lv_aload_n hx hb dX5_gather_50 rfl (lv_at hl 6 rfl) ?_
        refine lv_iload hx hb dX5_gather_51 (lv_at hl 1 rfl) ?_
        refine lv_iload hx hb dX5_gather_53 (lv_at hl 0 rfl) ?_
        refine stN (ws1 := wC G q σ (va_up ((gth (shw σ rv) (κ.2.2) (κ.1) k).2) ((gth (shw σ rv) (κ.2.2) (κ.1) k).1) (κ.2.2 (k)), κ.2.1, κ.2.2)) Z hP hD hS 6 ((gth (shw σ rv) (κ.2.2) (κ.1) k).2) rfl ((gth (shw σ rv) (κ.2.2) (κ.1) k).1) rfl (by omega) (by decide) (κ.2.2 (k)) rfl rfl dX5_gather_55 (fun H locs hP hD hS => ?_)
        refine zr_iinc (lv' := [(4, .int (zI ((((gth (shw σ rv) (κ.2.2) (κ.1) k).1 : Nat) : Int) + (1 : Int)))), (6, .int (zI ((κ.2.2 (k) : Nat) : Int))), (5, .int (zI ((k : Nat) : Int))), (0, .ref (q 0)), (1, .int (zI ((rv : Nat) : Int))), (2, .ref (q 15)), (3, .ref (q 6))]) hx hb 1 dX5_gather_56 hl rfl (by decide) rfl (fun ls hl => ?_)
        refine zr_iinc (lv' := [(5, .int (zI (((k : Nat) : Int) + (1 : Int)))), (4, .int (zI ((((gth (shw σ rv) (κ.2.2) (κ.1) k).1 : Nat) : Int) + (1 : Int)))), (6, .int (zI ((κ.2.2 (k) : Nat) : Int))), (0, .ref (q 0)), (1, .int (zI ((rv : Nat) : Int))), (2, .ref (q 15)), (3, .ref (q 6))]) hx hb 2 dX5_gather_59 hl rfl (by decide) rfl (fun ls hl => ?_)
        refine lv_goto (tgt := 6) hx hb dX5_gather_62 (by decide) ?_
        have h9 : gth (shw σ rv) (κ.2.2) (κ.1) (k + 1) = ((gth (shw σ rv) (κ.2.2) (κ.1) k).1 + 1, va_up (gth (shw σ rv) (κ.2.2) (κ.1) k).2 (gth (shw σ rv) (κ.2.2) (κ.1) k).1 ((κ.2.2) k)) := by rw [gth]; exact if_pos c47
        have hw9 : wC G q σ (va_up ((gth (shw σ rv) (κ.2.2) (κ.1) k).2) ((gth (shw σ rv) (κ.2.2) (κ.1) k).1) (κ.2.2 (k)), κ.2.1, κ.2.2) = wC G q σ ((gth (shw σ rv) (κ.2.2) (κ.1) (k + 1)).2, κ.2.1, κ.2.2) := (by rw [h9])
        rw [hw9] at hP hD
        exact ih6 (k + 1) (by omega) (by omega) _ _ _ hP hD hS (lv_sub hl [1, 0, 3, 4, 5, 6] (by rw [h9]; rfl))
abbrev r_X5_gather_aa : Room := { frames := 5, cells := 0, slots := 0, locals := 107 }
set_option maxHeartbeats 4000000 in
set_option maxRecDepth 100000 in
theorem m_X5_gather_aa (l : Launch) (G : ZG) (q : Nat → Nat) (σ : St) (κ : KC) {e_rv : Int} (rv : Nat) (he_rv : e_rv = (rv : Int)) (hI : okC σ) (h1 : rv < σ.1 6) (h2 : ∀ y9, y9 < σ.1 4 → κ.2.2 y9 < σ.1 4) :
    MC l G yX5_gather (wY yX5_gather cX5_gather 7 (some .int)) r_X5_gather_aa (wC G q σ κ) [.ref (q 0), .int (zI e_rv), .ref (q 15), .ref (q 7)] (QI G (fun r9 (_ : Unit) => r9 = (zI (((gth (shw σ rv) (κ.2.2) (κ.2.1) (σ.1 4)).1 : Nat) : Int))) (fun _ => wC G q σ (κ.1, (gth (shw σ rv) (κ.2.2) (κ.2.1) (σ.1 4)).2, κ.2.2))) := by
  subst he_rv
  refine MC.mk (by decide +kernel) (Nat.le_of_ble_eq_true rfl) ?_
  intro p e s m av below meth c A H locs ls Q Z hr hnm hQ hP hD hS hl
  have hx := Z.1
  have hb := Z.2.1
  have hown := Z.2.2.2.1
  have hW := Z.2.2.2.2.1
  have hl : lv_has ls 7 [(0, .ref (q 0)), (1, .int (zI ((rv : Nat) : Int))), (2, .ref (q 15)), (3, .ref (q 7))] := hl
  obtain ⟨hn, hru, hrv, hdv, hsr, hmn, ht1, ht2, hwn, hv1, hv2, hmj, htm, hse, htg, hrt, hac, hk1, hk2, hkd, hmm, hmv, hord, hpo, hlo⟩ := id hI
  refine zr_iconst hx hb dX5_gather_0 ?_
  refine lv_istore (lv' := [(4, .int (zI (0 : Int))), (0, .ref (q 0)), (1, .int (zI ((rv : Nat) : Int))), (2, .ref (q 15)), (3, .ref (q 7))]) hx hb dX5_gather_1 hl (by decide) rfl (fun ls hl => ?_)
  refine zr_iconst hx hb dX5_gather_3 ?_
  refine lv_istore (lv' := [(5, .int (zI (0 : Int))), (4, .int (zI (0 : Int))), (0, .ref (q 0)), (1, .int (zI ((rv : Nat) : Int))), (2, .ref (q 15)), (3, .ref (q 7))]) hx hb dX5_gather_4 hl (by decide) rfl (fun ls hl => ?_)
  suffices LP6 : ∀ (f9 : Nat) (k : Nat), σ.1 4 < k + f9 → (k ≤ σ.1 4) → ∀ (H : Heap) (locs : List Loc) (ls : Array Slot), va_P G.1 vwCl (wC G q σ (κ.1, (gth (shw σ rv) (κ.2.2) (κ.2.1) k).2, κ.2.2)) H → va_D A (wC G q σ (κ.1, (gth (shw σ rv) (κ.2.2) (κ.2.1) k).2, κ.2.2)) → va_S A s.heap H locs → lv_has ls 7 [(4, .int (zI (((gth (shw σ rv) (κ.2.2) (κ.2.1) k).1 : Nat) : Int))), (5, .int (zI ((k : Nat) : Int))), (0, .ref (q 0)), (1, .int (zI ((rv : Nat) : Int))), (2, .ref (q 15)), (3, .ref (q 7))] → W p l e r_X5_gather_aa s m av below meth c H locs 0 0 Q (F0 m 6 ls []) from LP6 (σ.1 4 + 1) (0) (by omega) (by omega) _ _ _ hP hD hS (lv_sub hl [1, 0, 2, 3, 4, 5] rfl)
  intro f9
  induction f9 with
  | zero => intro k hf9 hk; exfalso; omega
  | succ f9 ih6 =>
    intro k hf9 hk H locs ls hP hD hS hl
    have hg9 := gth_le (shw σ rv) (κ.2.2) (κ.2.1) k
    refine lv_iload hx hb dX5_gather_6 (lv_at hl 1 rfl) ?_
    refine lv_aload_n hx hb dX5_gather_8 rfl (lv_at hl 2 rfl) ?_
    refine gC_0_4 Z hP kf_X5_25 dX5_gather_9 ?_
    refine zdet_I ⟨rfl, rfl⟩ Z hD hS (zrunV (rest := [.int (zI ((k : Nat) : Int))]) Z hP hD hS hl.1 (m_X1_size l G q σ (κ.1, (gth (shw σ rv) (κ.2.2) (κ.2.1) k).2, κ.2.2)) zY_X1_size km_X5_132 (q0 := 1) rfl rfl rfl rfl ⟨⟨Nat.le_of_ble_eq_true rfl, Nat.le_of_ble_eq_true rfl⟩, Nat.le_of_ble_eq_true rfl, Nat.le_of_ble_eq_true rfl⟩ (Nat.le_of_ble_eq_true rfl) dX5_gather_12) (fun H locs hP hD hS => ?_)
    refine zc_ge (tgt := 65) hx hb ((k : Nat) : Int) ((σ.1 4 : Nat) : Int) (zI_toInt (by omega)) (zI_toInt (by omega)) dX5_gather_15 (by decide) (fun c15 => ?_) (fun c15 => ?_)
    · skip
      refine lv_iload hx hb dX5_gather_65 (lv_at hl 0 rfl) ?_
      exact zret_I () Z hr hP hD hS (by
          have h9 : k = σ.1 4 := by omega
          rw [h9]) (by
          have h9 : k = σ.1 4 := by omega
          rw [h9]) ⟨Nat.le_refl _, Nat.le_refl _⟩ hQ dX5_gather_67
    · skip
      have hi9 := h2 k (by omega)
      refine lv_aload_n hx hb dX5_gather_18 rfl (lv_at hl 4 rfl) ?_
      refine lv_iload hx hb dX5_gather_19 (lv_at hl 1 rfl) ?_
      refine ldN Z hP 15 (κ.2.2) rfl (k) rfl (by omega) (by decide) dX5_gather_21 ?_
      refine lv_istore (lv' := [(6, .int (zI ((κ.2.2 (k) : Nat) : Int))), (4, .int (zI (((gth (shw σ rv) (κ.2.2) (κ.2.1) k).1 : Nat) : Int))), (5, .int (zI ((k : Nat) : Int))), (0, .ref (q 0)), (1, .int (zI ((rv : Nat) : Int))), (2, .ref (q 15)), (3, .ref (q 7))]) hx hb dX5_gather_22 hl (by decide) rfl (fun ls hl => ?_)
      refine lv_aload_n hx hb dX5_gather_24 rfl (lv_at hl 3 rfl) ?_
      refine gC_0_6 Z hP kf_X5_39 dX5_gather_25 ?_
      refine lv_iload_n hx hb dX5_gather_28 rfl (lv_at hl 4 rfl) ?_
      refine lv_aload_n hx hb dX5_gather_29 rfl (lv_at hl 3 rfl) ?_
      refine gC_0_4 Z hP kf_X5_25 dX5_gather_30 ?_
      refine lv_iload hx hb dX5_gather_33 (lv_at hl 0 rfl) ?_
      refine zdet_I ⟨rfl, rfl⟩ Z hD hS (zrunV (rest := [.int (zI ((rv : Nat) : Int)), .ref (q 3)]) Z hP hD hS hl.1 (m_X1_tellers l G q σ (κ.1, (gth (shw σ rv) (κ.2.2) (κ.2.1) k).2, κ.2.2) (κ.2.2 (k)) rfl (by omega)) zY_X1_tellers km_X5_170 (q0 := 1) rfl rfl rfl rfl ⟨⟨Nat.le_of_ble_eq_true rfl, Nat.le_of_ble_eq_true rfl⟩, Nat.le_of_ble_eq_true rfl, Nat.le_of_ble_eq_true rfl⟩ (Nat.le_of_ble_eq_true rfl) dX5_gather_35) (fun H locs hP hD hS => ?_)
      refine lv_aload_n hx hb dX5_gather_38 rfl (lv_at hl 3 rfl) ?_
      refine lv_iload hx hb dX5_gather_39 (lv_at hl 0 rfl) ?_
      refine zdet_I ⟨rfl, rfl⟩ Z hD hS (zrunV (rest := [.int ((σ.2.2.1 0) (κ.2.2 (k))), .int (zI ((rv : Nat) : Int)), .ref (q 3)]) Z hP hD hS hl.1 (m_X5_outcomeOf l G q σ (κ.1, (gth (shw σ rv) (κ.2.2) (κ.2.1) k).2, κ.2.2) (κ.2.2 (k)) rfl hI (by omega)) zY_X5_outcomeOf km_X5_193 (q0 := 0) rfl rfl rfl rfl ⟨⟨Nat.le_of_ble_eq_true rfl, Nat.le_of_ble_eq_true rfl⟩, Nat.le_of_ble_eq_true rfl, Nat.le_of_ble_eq_true rfl⟩ (Nat.le_of_ble_eq_true rfl) dX5_gather_41) (fun H locs hP hD hS => ?_)
      refine zdet_I ⟨rfl, rfl⟩ Z hD hS (zrunV (rest := []) Z hP hD hS hl.1 (m_X3_takes l G q σ (κ.1, (gth (shw σ rv) (κ.2.2) (κ.2.1) k).2, κ.2.2) (rv) rfl ((σ.2.2.1 0) (κ.2.2 (k))) (out σ (κ.2.2 (k))) (by omega) (hrt _)) zY_X3_takes km_X5_305 (q0 := 3) rfl rfl rfl rfl ⟨⟨Nat.le_of_ble_eq_true rfl, Nat.le_of_ble_eq_true rfl⟩, Nat.le_of_ble_eq_true rfl, Nat.le_of_ble_eq_true rfl⟩ (Nat.le_of_ble_eq_true rfl) dX5_gather_44) (fun H locs hP hD hS => ?_)
      refine zb_eq (tgt := 59) hx hb dX5_gather_47 (by decide) (fun c47 => ?_) (fun c47 => ?_)
      · skip
        refine zr_iinc (lv' := [(5, .int (zI (((k : Nat) : Int) + (1 : Int)))), (6, .int (zI ((κ.2.2 (k) : Nat) : Int))), (4, .int (zI (((gth (shw σ rv) (κ.2.2) (κ.2.1) k).1 : Nat) : Int))), (0, .ref (q 0)), (1, .int (zI ((rv : Nat) : Int))), (2, .ref (q 15)), (3, .ref (q 7))]) hx hb 2 dX5_gather_59 hl rfl (by decide) rfl (fun ls hl => ?_)
        refine lv_goto (tgt := 6) hx hb dX5_gather_62 (by decide) ?_
        have h9 : gth (shw σ rv) (κ.2.2) (κ.2.1) (k + 1) = gth (shw σ rv) (κ.2.2) (κ.2.1) k := by rw [gth]; exact if_neg (by rw [show shw σ rv ((κ.2.2) k) = false from c47]; decide)
        have hw9 : wC G q σ (κ.1, (gth (shw σ rv) (κ.2.2) (κ.2.1) k).2, κ.2.2) = wC G q σ (κ.1, (gth (shw σ rv) (κ.2.2) (κ.2.1) (k + 1)).2, κ.2.2) := (by rw [h9])
        rw [hw9] at hP hD
        exact ih6 (k + 1) (by omega) (by omega) _ _ _ hP hD hS (lv_sub hl [2, 0, 3, 4, 5, 6] (by rw [h9]; rfl))
      · skip
        refine lv_aload_n hx hb dX5_gather_50 rfl (lv_at hl 6 rfl) ?_
        refine lv_iload hx hb dX5_gather_51 (lv_at hl 1 rfl) ?_
        refine lv_iload hx hb dX5_gather_53 (lv_at hl 0 rfl) ?_
        refine stN (ws1 := wC G q σ (κ.1, va_up ((gth (shw σ rv) (κ.2.2) (κ.2.1) k).2) ((gth (shw σ rv) (κ.2.2) (κ.2.1) k).1) (κ.2.2 (k)), κ.2.2)) Z hP hD hS 7 ((gth (shw σ rv) (κ.2.2) (κ.2.1) k).2) rfl ((gth (shw σ rv) (κ.2.2) (κ.2.1) k).1) rfl (by omega) (by decide) (κ.2.2 (k)) rfl rfl dX5_gather_55 (fun H locs hP hD hS => ?_)
        refine zr_iinc (lv' := [(4, .int (zI ((((gth (shw σ rv) (κ.2.2) (κ.2.1) k).1 : Nat) : Int) + (1 : Int)))), (6, .int (zI ((κ.2.2 (k) : Nat) : Int))), (5, .int (zI ((k : Nat) : Int))), (0, .ref (q 0)), (1, .int (zI ((rv : Nat) : Int))), (2, .ref (q 15)), (3, .ref (q 7))]) hx hb 1 dX5_gather_56 hl rfl (by decide) rfl (fun ls hl => ?_)
        refine zr_iinc (lv' := [(5, .int (zI (((k : Nat) : Int) + (1 : Int)))), (4, .int (zI ((((gth (shw σ rv) (κ.2.2) (κ.2.1) k).1 : Nat) : Int) + (1 : Int)))), (6, .int (zI ((κ.2.2 (k) : Nat) : Int))), (0, .ref (q 0)), (1, .int (zI ((rv : Nat) : Int))), (2, .ref (q 15)), (3, .ref (q 7))]) hx hb 2 dX5_gather_59 hl rfl (by decide) rfl (fun ls hl => ?_)
        refine lv_goto (tgt := 6) hx hb dX5_gather_62 (by decide) ?_
        have h9 : gth (shw σ rv) (κ.2.2) (κ.2.1) (k + 1) = ((gth (shw σ rv) (κ.2.2) (κ.2.1) k).1 + 1, va_up (gth (shw σ rv) (κ.2.2) (κ.2.1) k).2 (gth (shw σ rv) (κ.2.2) (κ.2.1) k).1 ((κ.2.2) k)) := by rw [gth]; exact if_pos c47
        have hw9 : wC G q σ (κ.1, va_up ((gth (shw σ rv) (κ.2.2) (κ.2.1) k).2) ((gth (shw σ rv) (κ.2.2) (κ.2.1) k).1) (κ.2.2 (k)), κ.2.2) = wC G q σ (κ.1, (gth (shw σ rv) (κ.2.2) (κ.2.1) (k + 1)).2, κ.2.2) := (by rw [h9])
        rw [hw9] at hP hD
        exact ih6 (k + 1) (by omega) (by omega) _ _ _ hP hD hS (lv_sub hl [1, 0, 3, 4, 5, 6] (by rw [h9]; rfl))
