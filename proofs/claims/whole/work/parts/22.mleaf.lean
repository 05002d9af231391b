abbrev r_X6_in : Room := { frames := 0, cells := 0, slots := 0, locals := 0 }
set_option maxHeartbeats 4000000 in
set_option maxRecDepth 100000 in
theorem m_X6_in (l : Launch) (G : ZG) (ws : va_W) (a : Int) (lo : Int) (hi : Int) (h1 : zR a) (h2 : zR lo) (h3 : zR hi) :
    MC l G yX6_in (wY yX6_in cX6_in 3 (some .boolean)) r_X6_in (ws) [.int (zI (a : Int)), .int (zI (lo : Int)), .int (zI (hi : Int))] (QI G (fun r9 (_ : Unit) => r9 = (tB (decide (lo ≤ a ∧ a ≤ hi)))) (fun _ => ws)) := by
  refine MC.mk (by decide +kernel) (Nat.le_of_ble_eq_true rfl) ?_
  intro p e s m av below meth c A H locs ls Q Z hr hnm hQ hP hD hS hl
  have hx := Z.1
  have hb := Z.2.1
  have hown := Z.2.2.2.1
  have hW := Z.2.2.2.2.1
  have hl : lv_has ls 3 [(0, .int (zI (a : Int))), (1, .int (zI (lo : Int))), (2, .int (zI (hi : Int)))] := hl
  refine lv_iload_n hx hb dX6_in_0 rfl (lv_at hl 0 rfl) ?_
  refine lv_iload_n hx hb dX6_in_1 rfl (lv_at hl 1 rfl) ?_
  refine zc_lt (tgt := 14) hx hb (a : Int) (lo : Int) (zI_toInt (by omega)) (zI_toInt (by omega)) dX6_in_2 (by decide) (fun c2 => ?_) (fun c2 => ?_)
  · skip
    refine zr_iconst hx hb dX6_in_14 ?_
    exact zret_B () Z hr (by decide +kernel) hP hD hS (tB_0 (by simp; omega)) rfl ⟨Nat.le_refl _, Nat.le_refl _⟩ hQ dX6_in_15
  · skip
    refine lv_iload_n hx hb dX6_in_5 rfl (lv_at hl 0 rfl) ?_
    refine lv_iload_n hx hb dX6_in_6 rfl (lv_at hl 2 rfl) ?_
    refine zc_gt (tgt := 14) hx hb (a : Int) (hi : Int) (zI_toInt (by omega)) (zI_toInt (by omega)) dX6_in_7 (by decide) (fun c7 => ?_) (fun c7 => ?_)
    · skip
      refine zr_iconst hx hb dX6_in_14 ?_
      exact zret_B () Z hr (by decide +kernel) hP hD hS (tB_0 (by simp; omega)) rfl ⟨Nat.le_refl _, Nat.le_refl _⟩ hQ dX6_in_15
    · skip
      refine zr_iconst hx hb dX6_in_10 ?_
      refine lv_goto (tgt := 15) hx hb dX6_in_11 (by decide) ?_
      exact zret_B () Z hr (by decide +kernel) hP hD hS (tB_1 (by simp; omega)) rfl ⟨Nat.le_refl _, Nat.le_refl _⟩ hQ dX6_in_15
abbrev r_X6_plain : Room := { frames := 0, cells := 0, slots := 0, locals := 0 }
set_option maxHeartbeats 4000000 in
set_option maxRecDepth 100000 in
theorem m_X6_plain (l : Launch) (G : ZG) (q : Nat → Nat) (σ : St) (κ : KM) (a : Int) :
    MC l G yX6_plain (wY yX6_plain cX6_plain 2 (some .int)) r_X6_plain (wM G q σ κ) [.ref (q 0), .int (zI (a : Int))] (QI G (fun r9 (_ : Unit) => r9 = (zI (a : Int))) (fun _ => wM G q σ ((0 : Int), κ.2.1, κ.2.2.1, κ.2.2.2))) := by
  refine MC.mk (by decide +kernel) (Nat.le_of_ble_eq_true rfl) ?_
  intro p e s m av below meth c A H locs ls Q Z hr hnm hQ hP hD hS hl
  have hx := Z.1
  have hb := Z.2.1
  have hown := Z.2.2.2.1
  have hW := Z.2.2.2.2.1
  have hl : lv_has ls 2 [(0, .ref (q 0)), (1, .int (zI (a : Int)))] := hl
  refine lv_aload_n hx hb dX6_plain_0 rfl (lv_at hl 0 rfl) ?_
  refine zr_iconst hx hb dX6_plain_1 ?_
  refine pM_0_23 Z hP hD hS kf_X6_80 dX6_plain_2 (fun H locs hP hD hS => ?_)
  refine lv_iload_n hx hb dX6_plain_5 rfl (lv_at hl 1 rfl) ?_
  exact zret_I () Z hr hP hD hS rfl rfl ⟨Nat.le_refl _, Nat.le_refl _⟩ hQ dX6_plain_6
abbrev r_X6_checked : Room := { frames := 0, cells := 0, slots := 0, locals := 0 }
set_option maxHeartbeats 4000000 in
set_option maxRecDepth 100000 in
theorem m_X6_checked (l : Launch) (G : ZG) (q : Nat → Nat) (σ : St) (κ : KM) (b : Bool) (h1 : b = true) :
    MC l G yX6_checked (wY yX6_checked cX6_checked 2 (some .int)) r_X6_checked (wM G q σ κ) [.ref (q 0), .int (tB (b))] (QI G (fun r9 (_ : Unit) => r9 = (zI (0 : Int))) (fun _ => wM G q σ ((0 : Int), κ.2.1, κ.2.2.1, κ.2.2.2))) := by
  refine MC.mk (by decide +kernel) (Nat.le_of_ble_eq_true rfl) ?_
  intro p e s m av below meth c A H locs ls Q Z hr hnm hQ hP hD hS hl
  have hx := Z.1
  have hb := Z.2.1
  have hown := Z.2.2.2.1
  have hW := Z.2.2.2.2.1
  have hl : lv_has ls 2 [(0, .ref (q 0)), (1, .int (tB (b)))] := hl
  refine lv_aload_n hx hb dX6_checked_0 rfl (lv_at hl 0 rfl) ?_
  refine lv_iload_n hx hb dX6_checked_1 rfl (lv_at hl 1 rfl) ?_
  refine zb_eq (tgt := 9) hx hb dX6_checked_2 (by decide) (fun c2 => by rw [h1] at c2; cases c2) (fun c2 => ?_)
  refine zr_iconst hx hb dX6_checked_5 ?_
  refine lv_goto (tgt := 10) hx hb dX6_checked_6 (by decide) ?_
  refine pM_0_23 Z hP hD hS kf_X6_80 dX6_checked_10 (fun H locs hP hD hS => ?_)
  refine lv_aload_n hx hb dX6_checked_13 rfl (lv_at hl 0 rfl) ?_
  refine gM_0_23 Z hP kf_X6_80 dX6_checked_14 ?_
  refine zr_top (w := .int (zI (0 : Int))) rfl ?_
  exact zret_I () Z hr hP hD hS rfl rfl ⟨Nat.le_refl _, Nat.le_refl _⟩ hQ dX6_checked_17
abbrev r_X6_checked_n : Room := { frames := 0, cells := 0, slots := 0, locals := 0 }
set_option maxHeartbeats 4000000 in
set_option maxRecDepth 100000 in
theorem m_X6_checked_n (l : Launch) (G : ZG) (q : Nat → Nat) (σ : St) (κ : KM) (b : Bool) (h1 : b = false) :
    MC l G yX6_checked (wY yX6_checked cX6_checked 2 (some .int)) r_X6_checked_n (wM G q σ κ) [.ref (q 0), .int (tB (b))] (QI G (fun r9 (_ : Unit) => r9 = (zI (1 : Int))) (fun _ => wM G q σ ((1 : Int), κ.2.1, κ.2.2.1, κ.2.2.2))) := by
  refine MC.mk (by decide +kernel) (Nat.le_of_ble_eq_true rfl) ?_
  intro p e s m av below meth c A H locs ls Q Z hr hnm hQ hP hD hS hl
  have hx := Z.1
  have hb := Z.2.1
  have hown := Z.2.2.2.1
  have hW := Z.2.2.2.2.1
  have hl : lv_has ls 2 [(0, .ref (q 0)), (1, .int (tB (b)))] := hl
  refine lv_aload_n hx hb dX6_checked_0 rfl (lv_at hl 0 rfl) ?_
  refine lv_iload_n hx hb dX6_checked_1 rfl (lv_at hl 1 rfl) ?_
  refine zb_eq (tgt := 9) hx hb dX6_checked_2 (by decide) (fun c2 => ?_) (fun c2 => by rw [h1] at c2; cases c2)
  refine zr_iconst hx hb dX6_checked_9 ?_
  refine pM_0_23 Z hP hD hS kf_X6_80 dX6_checked_10 (fun H locs hP hD hS => ?_)
  refine lv_aload_n hx hb dX6_checked_13 rfl (lv_at hl 0 rfl) ?_
  refine gM_0_23 Z hP kf_X6_80 dX6_checked_14 ?_
  refine zr_top (w := .int (zI (1 : Int))) rfl ?_
  exact zret_I () Z hr hP hD hS rfl rfl ⟨Nat.le_refl _, Nat.le_refl _⟩ hQ dX6_checked_17
abbrev r_X6_bits : Room := { frames := 0, cells := 0, slots := 0, locals := 0 }
set_option maxHeartbeats 4000000 in
set_option maxRecDepth 100000 in
theorem m_X6_bits (l : Launch) (G : ZG) (ws : va_W) (x : Int64) :
    MC l G yX6_bits (wY yX6_bits cX6_bits 4 (some .int)) r_X6_bits (ws) [.long (x)] (QI G (fun r9 (_ : Unit) => r9 = (zI ((popc x : Nat) : Int))) (fun _ => ws)) := by
  refine MC.mk (by decide +kernel) (Nat.le_of_ble_eq_true rfl) ?_
  intro p e s m av below meth c A H locs ls Q Z hr hnm hQ hP hD hS hl
  have hx := Z.1
  have hb := Z.2.1
  have hown := Z.2.2.2.1
  have hW := Z.2.2.2.2.1
  have hl : lv_has ls 4 [(0, .long (x))] := hl
  refine zr_iconst hx hb dX6_bits_0 ?_
  refine lv_istore_n (lv' := [(2, .int (zI (0 : Int))), (0, .long (x))]) hx hb dX6_bits_1 rfl hl (by decide) rfl (fun ls hl => ?_)
  refine zr_iconst hx hb dX6_bits_2 ?_
  refine lv_istore_n (lv' := [(3, .int (zI (0 : Int))), (2, .int (zI (0 : Int))), (0, .long (x))]) hx hb dX6_bits_3 rfl hl (by decide) rfl (fun ls hl => ?_)
  suffices LP4 : ∀ (f9 : Nat) (k : Nat), 64 < k + f9 → (k ≤ 64) → ∀ (H : Heap) (locs : List Loc) (ls : Array Slot), va_P G.1 vwCl (ws) H → va_D A (ws) → va_S A s.heap H locs → lv_has ls 4 [(3, .int (zI ((k : Nat) : Int))), (2, .int (zI ((cnt (fun y9 => x.toBitVec.getLsbD y9) k : Nat) : Int))), (0, .long (x))] → W p l e r_X6_bits s m av below meth c H locs 0 0 Q (F0 m 4 ls []) from LP4 (64 + 1) (0) (by omega) (by omega) _ _ _ hP hD hS (lv_sub hl [0, 1, 2] rfl)
  intro f9
  induction f9 with
  | zero => intro k hf9 hk; exfalso; omega
  | succ f9 ih4 =>
    intro k hf9 hk H locs ls hP hD hS hl
    refine lv_iload_n hx hb dX6_bits_4 rfl (lv_at hl 0 rfl) ?_
    refine zr_bipush hx hb dX6_bits_5 (by decide) ?_
    refine zc_ge (tgt := 34) hx hb ((k : Nat) : Int) (64 : Int) (zI_toInt (by omega)) (zI_toInt (by decide)) dX6_bits_7 (by decide) (fun c7 => ?_) (fun c7 => ?_)
    · skip
      refine lv_iload_n hx hb dX6_bits_34 rfl (lv_at hl 1 rfl) ?_
      exact zret_I () Z hr hP hD hS (by rw [show k = 64 from by omega]; rfl) rfl ⟨Nat.le_refl _, Nat.le_refl _⟩ hQ dX6_bits_35
    · skip
      refine lv_iload_n hx hb dX6_bits_10 rfl (lv_at hl 1 rfl) ?_
      refine lv_lload_n hx hb dX6_bits_11 rfl (lv_at hl 2 rfl) ?_
      refine lv_iload_n hx hb dX6_bits_12 rfl (lv_at hl 0 rfl) ?_
      refine lv_lshr (v := x >>> ((zI ((k : Nat) : Int)).toInt64 &&& 63)) hx hb dX6_bits_13 rfl ?_
      refine lv_lconst (v := 1) hx hb dX6_bits_14 (by decide) ?_
      refine lv_land hx hb dX6_bits_15 ?_
      refine lv_lconst (v := 1) hx hb dX6_bits_16 (by decide) ?_
      refine zl_ne (tgt := 25) hx hb dX6_bits_17 dX6_bits_18 (by decide) (fun c17 => ?_) (fun c17 => ?_)
      · skip
        refine zr_iconst hx hb dX6_bits_25 ?_
        refine zr_iadd hx hb dX6_bits_26 ?_
        refine lv_istore_n (lv' := [(2, .int (zI (((cnt (fun y9 => x.toBitVec.getLsbD y9) k : Nat) : Int) + (0 : Int)))), (3, .int (zI ((k : Nat) : Int))), (0, .long (x))]) hx hb dX6_bits_27 rfl hl (by decide) rfl (fun ls hl => ?_)
        refine zr_iinc (lv' := [(3, .int (zI (((k : Nat) : Int) + (1 : Int)))), (2, .int (zI (((cnt (fun y9 => x.toBitVec.getLsbD y9) k : Nat) : Int) + (0 : Int)))), (0, .long (x))]) hx hb 1 dX6_bits_28 hl rfl (by decide) rfl (fun ls hl => ?_)
        refine lv_goto (tgt := 4) hx hb dX6_bits_31 (by decide) ?_
        have h9 : cnt (fun y9 => x.toBitVec.getLsbD y9) (k + 1) = cnt (fun y9 => x.toBitVec.getLsbD y9) k := cnt_no (p := (fun y9 => x.toBitVec.getLsbD y9)) (by
            show x.toBitVec.getLsbD k = false
            cases h8 : x.toBitVec.getLsbD k with
            | false => rfl
            | true => exact absurd ((bit_shr x k (by omega)).mpr h8) c17)
        exact ih4 (k + 1) (by omega) (by omega) _ _ _ hP hD hS (lv_sub hl [0, 1, 2] (by rw [h9]; rfl))
      · skip
        refine zr_iconst hx hb dX6_bits_21 ?_
        refine lv_goto (tgt := 26) hx hb dX6_bits_22 (by decide) ?_
        refine zr_iadd hx hb dX6_bits_26 ?_
        refine lv_istore_n (lv' := [(2, .int (zI (((cnt (fun y9 => x.toBitVec.getLsbD y9) k : Nat) : Int) + (1 : Int)))), (3, .int (zI ((k : Nat) : Int))), (0, .long (x))]) hx hb dX6_bits_27 rfl hl (by decide) rfl (fun ls hl => ?_)
        refine zr_iinc (lv' := [(3, .int (zI (((k : Nat) : Int) + (1 : Int)))), (2, .int (zI (((cnt (fun y9 => x.toBitVec.getLsbD y9) k : Nat) : Int) + (1 : Int)))), (0, .long (x))]) hx hb 1 dX6_bits_28 hl rfl (by decide) rfl (fun ls hl => ?_)
        refine lv_goto (tgt := 4) hx hb dX6_bits_31 (by decide) ?_
        have h9 : cnt (fun y9 => x.toBitVec.getLsbD y9) (k + 1) = cnt (fun y9 => x.toBitVec.getLsbD y9) k + 1 := cnt_yes (p := (fun y9 => x.toBitVec.getLsbD y9)) ((bit_shr x k (by omega)).mp c17)
        exact ih4 (k + 1) (by omega) (by omega) _ _ _ hP hD hS (lv_sub hl [0, 1, 2] (by rw [h9]; rfl))
abbrev r_X6_likenessOf : Room := { frames := 1, cells := 0, slots := 0, locals := 23 }
set_option maxHeartbeats 4000000 in
set_option maxRecDepth 100000 in
theorem m_X6_likenessOf (l : Launch) (G : ZG) (ws : va_W) (a : Int64) (b : Int64) (h1 : a ≠ 0 ∨ b ≠ 0) :
    MC l G yX6_likenessOf (wY yX6_likenessOf cX6_likenessOf 4 (some .int)) r_X6_likenessOf (ws) [.long (a), .long (b)] (QI G (fun r9 (_ : Unit) => r9 = (zI ((like a b : Nat) : Int))) (fun _ => ws)) := by
  refine MC.mk (by decide +kernel) (Nat.le_of_ble_eq_true rfl) ?_
  intro p e s m av below meth c A H locs ls Q Z hr hnm hQ hP hD hS hl
  have hx := Z.1
  have hb := Z.2.1
  have hown := Z.2.2.2.1
  have hW := Z.2.2.2.2.1
  have hl : lv_has ls 4 [(0, .long (a)), (2, .long (b))] := hl
  have hp1 := popc_le (a &&& b)
  have hp2 := popc_le (a ||| b)
  have hp3 := popc_or h1
  refine zr_bipush hx hb dX6_likenessOf_0 (by decide) ?_
  refine lv_lload_n hx hb dX6_likenessOf_2 rfl (lv_at hl 0 rfl) ?_
  refine lv_lload_n hx hb dX6_likenessOf_3 rfl (lv_at hl 1 rfl) ?_
  refine lv_land hx hb dX6_likenessOf_4 ?_
  refine zdet_I ⟨rfl, rfl⟩ Z hD hS (zrunS (rest := [.int (zI (100 : Int))]) Z hP hD hS hl.1 (m_X6_bits l G (ws) ((a) &&& (b))) zY_X6_bits km_X6_124 rfl rfl ⟨⟨Nat.le_of_ble_eq_true rfl, Nat.le_of_ble_eq_true rfl⟩, Nat.le_of_ble_eq_true rfl, Nat.le_of_ble_eq_true rfl⟩ (Nat.le_of_ble_eq_true rfl) dX6_likenessOf_5) (fun H locs hP hD hS => ?_)
  refine zr_imul hx hb dX6_likenessOf_8 ?_
  refine lv_lload_n hx hb dX6_likenessOf_9 rfl (lv_at hl 0 rfl) ?_
  refine lv_lload_n hx hb dX6_likenessOf_10 rfl (lv_at hl 1 rfl) ?_
  refine lv_lor hx hb dX6_likenessOf_11 ?_
  refine zdet_I ⟨rfl, rfl⟩ Z hD hS (zrunS (rest := [.int (zI ((100 : Int) * ((popc (((a) &&& (b))) : Nat) : Int)))]) Z hP hD hS hl.1 (m_X6_bits l G (ws) ((a) ||| (b))) zY_X6_bits km_X6_124 rfl rfl ⟨⟨Nat.le_of_ble_eq_true rfl, Nat.le_of_ble_eq_true rfl⟩, Nat.le_of_ble_eq_true rfl, Nat.le_of_ble_eq_true rfl⟩ (Nat.le_of_ble_eq_true rfl) dX6_likenessOf_12) (fun H locs hP hD hS => ?_)
  refine zr_idiv hx hb (by omega) dX6_likenessOf_15 ?_
  exact zret_I () Z hr hP hD hS (congrArg zI (by unfold like; exact (Int.natCast_ediv _ _).symm)) rfl ⟨Nat.le_refl _, Nat.le_refl _⟩ hQ dX6_likenessOf_16
abbrev r_X6_pairAt : Room := { frames := 0, cells := 0, slots := 0, locals := 0 }
set_option maxHeartbeats 4000000 in
set_option maxRecDepth 100000 in
theorem m_X6_pairAt (l : Launch) (G : ZG) (q : Nat → Nat) (σ : St) (κ : KM) (a : Int) (b : Int) (hI : okM σ) (h1 : zR a) (h2 : zR b) :
    MC l G yX6_pairAt (wY yX6_pairAt cX6_pairAt 4 (some .int)) r_X6_pairAt (wM G q σ κ) [.ref (q 0), .int (zI (a : Int)), .int (zI (b : Int))] (QI G (fun r9 (_ : Unit) => r9 = (zI (pat σ a b : Int))) (fun _ => wM G q σ κ)) := by
  refine MC.mk (by decide +kernel) (Nat.le_of_ble_eq_true rfl) ?_
  intro p e s m av below meth c A H locs ls Q Z hr hnm hQ hP hD hS hl
  have hx := Z.1
  have hb := Z.2.1
  have hown := Z.2.2.2.1
  have hW := Z.2.2.2.2.1
  have hl : lv_has ls 4 [(0, .ref (q 0)), (1, .int (zI (a : Int))), (2, .int (zI (b : Int)))] := hl
  obtain ⟨hn, hru, hrv, hdv, hsr, hmn, ht1, ht2, hwn, hv1, hv2, hmj, htm, hse, htg, hrt, hac, hk1, hk2, hkd, hmm, hmv, hpp, hpl, hp3, hp4, hp6, hp5, hp7, hnz⟩ := id hI
  refine zr_iconst hx hb dX6_pairAt_0 ?_
  refine lv_istore_n (lv' := [(3, .int (zI (0 : Int))), (0, .ref (q 0)), (1, .int (zI (a : Int))), (2, .int (zI (b : Int)))]) hx hb dX6_pairAt_1 rfl hl (by decide) rfl (fun ls hl => ?_)
  suffices LP2 : ∀ (f9 : Nat) (k : Nat), σ.1 8 < k + f9 → (k ≤ σ.1 8) → (∀ y9, y9 < k → patI σ a b y9 = false) → ∀ (H : Heap) (locs : List Loc) (ls : Array Slot), va_P G.1 vwCl (wM G q σ κ) H → va_D A (wM G q σ κ) → va_S A s.heap H locs → lv_has ls 4 [(3, .int (zI ((k : Nat) : Int))), (0, .ref (q 0)), (1, .int (zI (a : Int))), (2, .int (zI (b : Int)))] → W p l e r_X6_pairAt s m av below meth c H locs 0 0 Q (F0 m 2 ls []) from LP2 (σ.1 8 + 1) (0) (by omega) (by omega) (fun y9 hy => by omega) _ _ _ hP hD hS (lv_sub hl [0, 1, 2, 3] rfl)
  intro f9
  induction f9 with
  | zero => intro k hf9 hk hno; exfalso; omega
  | succ f9 ih2 =>
    intro k hf9 hk hno H locs ls hP hD hS hl
    have hq3 := hp3 k
    have hq4 := hp4 k
    refine lv_iload_n hx hb dX6_pairAt_2 rfl (lv_at hl 0 rfl) ?_
    refine lv_aload_n hx hb dX6_pairAt_3 rfl (lv_at hl 1 rfl) ?_
    refine gM_0_29 Z hP kf_X6_99 dX6_pairAt_4 ?_
    refine zc_ge (tgt := 43) hx hb ((k : Nat) : Int) ((σ.1 8 : Nat) : Int) (zI_toInt (by omega)) (zI_toInt (by omega)) dX6_pairAt_7 (by decide) (fun c7 => ?_) (fun c7 => ?_)
    · skip
      refine zr_iconst hx hb dX6_pairAt_43 ?_
      exact zret_I () Z hr hP hD hS (congrArg zI (pat_no (fun y9 hy => hno y9 (by omega))).symm) rfl ⟨Nat.le_refl _, Nat.le_refl _⟩ hQ dX6_pairAt_44
    · skip
      refine lv_aload_n hx hb dX6_pairAt_10 rfl (lv_at hl 1 rfl) ?_
      refine gM_0_8 Z hP kf_X6_35 dX6_pairAt_11 ?_
      refine lv_iload_n hx hb dX6_pairAt_14 rfl (lv_at hl 0 rfl) ?_
      refine ldN Z hP 9 (σ.2.1 13) rfl (k) rfl (by omega) (by decide) dX6_pairAt_15 ?_
      refine lv_iload_n hx hb dX6_pairAt_16 rfl (lv_at hl 2 rfl) ?_
      refine zc_ne (tgt := 37) hx hb (((σ.2.1 13) (k) : Nat) : Int) (a : Int) (zI_toInt (by omega)) (zI_toInt (by omega)) dX6_pairAt_17 (by decide) (fun c17 => ?_) (fun c17 => ?_)
      · skip
        refine zr_iinc (lv' := [(3, .int (zI (((k : Nat) : Int) + (1 : Int)))), (0, .ref (q 0)), (1, .int (zI (a : Int))), (2, .int (zI (b : Int)))]) hx hb 0 dX6_pairAt_37 hl rfl (by decide) rfl (fun ls hl => ?_)
        refine lv_goto (tgt := 2) hx hb dX6_pairAt_40 (by decide) ?_
        exact ih2 (k + 1) (by omega) (by omega) (fun y9 hy => by
            by_cases e9 : y9 = k
            · subst e9; unfold patI; simp [c17]
            · exact hno y9 (by omega)) _ _ _ hP hD hS (lv_sub hl [0, 1, 2, 3] rfl)
      · skip
        refine lv_aload_n hx hb dX6_pairAt_20 rfl (lv_at hl 1 rfl) ?_
        refine gM_0_9 Z hP kf_X6_38 dX6_pairAt_21 ?_
        refine lv_iload_n hx hb dX6_pairAt_24 rfl (lv_at hl 0 rfl) ?_
        refine ldN Z hP 10 (σ.2.1 14) rfl (k) rfl (by omega) (by decide) dX6_pairAt_25 ?_
        refine lv_iload_n hx hb dX6_pairAt_26 rfl (lv_at hl 3 rfl) ?_
        refine zc_ne (tgt := 37) hx hb (((σ.2.1 14) (k) : Nat) : Int) (b : Int) (zI_toInt (by omega)) (zI_toInt (by omega)) dX6_pairAt_27 (by decide) (fun c27 => ?_) (fun c27 => ?_)
        · skip
          refine zr_iinc (lv' := [(3, .int (zI (((k : Nat) : Int) + (1 : Int)))), (0, .ref (q 0)), (1, .int (zI (a : Int))), (2, .int (zI (b : Int)))]) hx hb 0 dX6_pairAt_37 hl rfl (by decide) rfl (fun ls hl => ?_)
          refine lv_goto (tgt := 2) hx hb dX6_pairAt_40 (by decide) ?_
          exact ih2 (k + 1) (by omega) (by omega) (fun y9 hy => by
              by_cases e9 : y9 = k
              · subst e9; unfold patI; simp [c27]
              · exact hno y9 (by omega)) _ _ _ hP hD hS (lv_sub hl [0, 1, 2, 3] rfl)
        · skip
          refine lv_aload_n hx hb dX6_pairAt_30 rfl (lv_at hl 1 rfl) ?_
          refine gM_0_10 Z hP kf_X6_41 dX6_pairAt_31 ?_
          refine lv_iload_n hx hb dX6_pairAt_34 rfl (lv_at hl 0 rfl) ?_
          refine ldN Z hP 11 (σ.2.1 15) rfl (k) rfl (by omega) (by decide) dX6_pairAt_35 ?_
          exact zret_I () Z hr hP hD hS (congrArg zI (pat_yes (by omega) (by omega) (by omega) hno).symm) rfl ⟨Nat.le_refl _, Nat.le_refl _⟩ hQ dX6_pairAt_36
abbrev r_X6_linkAt : Room := { frames := 0, cells := 0, slots := 0, locals := 0 }
set_option maxHeartbeats 4000000 in
set_option maxRecDepth 100000 in
theorem m_X6_linkAt (l : Launch) (G : ZG) (q : Nat → Nat) (σ : St) (κ : KM) (a : Int) (hI : okM σ) (h1 : zR a) :
    MC l G yX6_linkAt (wY yX6_linkAt cX6_linkAt 3 (some .int)) r_X6_linkAt (wM G q σ κ) [.ref (q 0), .int (zI (a : Int))] (QI G (fun r9 (_ : Unit) => r9 = (zI (lkt σ a : Int))) (fun _ => wM G q σ κ)) := by
  refine MC.mk (by decide +kernel) (Nat.le_of_ble_eq_true rfl) ?_
  intro p e s m av below meth c A H locs ls Q Z hr hnm hQ hP hD hS hl
  have hx := Z.1
  have hb := Z.2.1
  have hown := Z.2.2.2.1
  have hW := Z.2.2.2.2.1
  have hl : lv_has ls 3 [(0, .ref (q 0)), (1, .int (zI (a : Int)))] := hl
  obtain ⟨hn, hru, hrv, hdv, hsr, hmn, ht1, ht2, hwn, hv1, hv2, hmj, htm, hse, htg, hrt, hac, hk1, hk2, hkd, hmm, hmv, hpp, hpl, hp3, hp4, hp6, hp5, hp7, hnz⟩ := id hI
  refine zr_iconst hx hb dX6_linkAt_0 ?_
  refine lv_istore_n (lv' := [(2, .int (zI (0 : Int))), (0, .ref (q 0)), (1, .int (zI (a : Int)))]) hx hb dX6_linkAt_1 rfl hl (by decide) rfl (fun ls hl => ?_)
  suffices LP2 : ∀ (f9 : Nat) (k : Nat), σ.1 9 < k + f9 → (k ≤ σ.1 9) → (∀ y9, y9 < k → lktI σ a y9 = false) → ∀ (H : Heap) (locs : List Loc) (ls : Array Slot), va_P G.1 vwCl (wM G q σ κ) H → va_D A (wM G q σ κ) → va_S A s.heap H locs → lv_has ls 3 [(2, .int (zI ((k : Nat) : Int))), (0, .ref (q 0)), (1, .int (zI (a : Int)))] → W p l e r_X6_linkAt s m av below meth c H locs 0 0 Q (F0 m 2 ls []) from LP2 (σ.1 9 + 1) (0) (by omega) (by omega) (fun y9 hy => by omega) _ _ _ hP hD hS (lv_sub hl [0, 1, 2] rfl)
  intro f9
  induction f9 with
  | zero => intro k hf9 hk hno; exfalso; omega
  | succ f9 ih2 =>
    intro k hf9 hk hno H locs ls hP hD hS hl
    have hq3 := hp6 k
    refine lv_iload_n hx hb dX6_linkAt_2 rfl (lv_at hl 0 rfl) ?_
    refine lv_aload_n hx hb dX6_linkAt_3 rfl (lv_at hl 1 rfl) ?_
    refine gM_0_30 Z hP kf_X6_102 dX6_linkAt_4 ?_
    refine zc_ge (tgt := 33) hx hb ((k : Nat) : Int) ((σ.1 9 : Nat) : Int) (zI_toInt (by omega)) (zI_toInt (by omega)) dX6_linkAt_7 (by decide) (fun c7 => ?_) (fun c7 => ?_)
    · skip
      refine zr_iconst hx hb dX6_linkAt_33 ?_
      exact zret_I () Z hr hP hD hS (congrArg zI (lkt_no (fun y9 hy => hno y9 (by omega))).symm) rfl ⟨Nat.le_refl _, Nat.le_refl _⟩ hQ dX6_linkAt_34
    · skip
      refine lv_aload_n hx hb dX6_linkAt_10 rfl (lv_at hl 1 rfl) ?_
      refine gM_0_11 Z hP kf_X6_44 dX6_linkAt_11 ?_
      refine lv_iload_n hx hb dX6_linkAt_14 rfl (lv_at hl 0 rfl) ?_
      refine ldN Z hP 12 (σ.2.1 16) rfl (k) rfl (by omega) (by decide) dX6_linkAt_15 ?_
      refine lv_iload_n hx hb dX6_linkAt_16 rfl (lv_at hl 2 rfl) ?_
      refine zc_ne (tgt := 27) hx hb (((σ.2.1 16) (k) : Nat) : Int) (a : Int) (zI_toInt (by omega)) (zI_toInt (by omega)) dX6_linkAt_17 (by decide) (fun c17 => ?_) (fun c17 => ?_)
      · skip
        refine zr_iinc (lv' := [(2, .int (zI (((k : Nat) : Int) + (1 : Int)))), (0, .ref (q 0)), (1, .int (zI (a : Int)))]) hx hb 0 dX6_linkAt_27 hl rfl (by decide) rfl (fun ls hl => ?_)
        refine lv_goto (tgt := 2) hx hb dX6_linkAt_30 (by decide) ?_
        exact ih2 (k + 1) (by omega) (by omega) (fun y9 hy => by
            by_cases e9 : y9 = k
            · subst e9; unfold lktI; simp [c17]
            · exact hno y9 (by omega)) _ _ _ hP hD hS (lv_sub hl [0, 1, 2] rfl)
      · skip
        refine lv_aload_n hx hb dX6_linkAt_20 rfl (lv_at hl 1 rfl) ?_
        refine gM_0_12 Z hP kf_X6_47 dX6_linkAt_21 ?_
        refine lv_iload_n hx hb dX6_linkAt_24 rfl (lv_at hl 0 rfl) ?_
        refine ldN Z hP 13 (σ.2.1 17) rfl (k) rfl (by omega) (by decide) dX6_linkAt_25 ?_
        exact zret_I () Z hr hP hD hS (congrArg zI (lkt_yes (by omega) (by omega) hno).symm) rfl ⟨Nat.le_refl _, Nat.le_refl _⟩ hQ dX6_linkAt_26
abbrev r_X6_latest : Room := { frames := 0, cells := 0, slots := 0, locals := 0 }
set_option maxHeartbeats 4000000 in
set_option maxRecDepth 100000 in
theorem m_X6_latest (l : Launch) (G : ZG) (q : Nat → Nat) (σ : St) (κ : KM) {e_i : Int} (i : Nat) (he_i : e_i = (i : Int)) (h1 : i < 30) (h2 : 1 ≤ σ.2.1 2 i) (h3 : σ.2.1 2 i < 1000000) :
    MC l G yX6_latest (wY yX6_latest cX6_latest 2 (some .long)) r_X6_latest (wM G q σ κ) [.ref (q 0), .int (zI e_i)] (QL G (fun r9 (_ : Unit) => r9 = (lat σ i)) (fun _ => wM G q σ κ)) := by
  subst he_i
  refine MC.mk (by decide +kernel) (Nat.le_of_ble_eq_true rfl) ?_
  intro p e s m av below meth c A H locs ls Q Z hr hnm hQ hP hD hS hl
  have hx := Z.1
  have hb := Z.2.1
  have hown := Z.2.2.2.1
  have hW := Z.2.2.2.2.1
  have hl : lv_has ls 2 [(0, .ref (q 0)), (1, .int (zI ((i : Nat) : Int)))] := hl
  refine lv_aload_n hx hb dX6_latest_0 rfl (lv_at hl 0 rfl) ?_
  refine gM_0_0 Z hP kf_X6_7 dX6_latest_1 ?_
  refine zr_iconst hx hb dX6_latest_4 ?_
  refine lv_iload_n hx hb dX6_latest_5 rfl (lv_at hl 1 rfl) ?_
  refine zr_imul hx hb dX6_latest_6 ?_
  refine lv_aload_n hx hb dX6_latest_7 rfl (lv_at hl 0 rfl) ?_
  refine gM_0_6 Z hP kf_X6_29 dX6_latest_8 ?_
  refine lv_iload_n hx hb dX6_latest_11 rfl (lv_at hl 1 rfl) ?_
  refine ldN Z hP 7 (σ.2.1 2) rfl (i) rfl (by omega) (by decide) dX6_latest_12 ?_
  refine zr_iconst hx hb dX6_latest_13 ?_
  refine zr_isub hx hb dX6_latest_14 ?_
  refine zr_iconst hx hb dX6_latest_15 ?_
  refine zr_irem hx hb (by omega) dX6_latest_16 ?_
  refine zr_iadd hx hb dX6_latest_17 ?_
  refine ldL Z hP 1 (σ.2.2.2 0) rfl (4 * i + (σ.2.1 2 i - 1) % 4) (by omega) (by omega) (by decide) dX6_latest_18 ?_
  exact zret_L () Z hr hP hD hS rfl rfl ⟨Nat.le_refl _, Nat.le_refl _⟩ hQ dX6_latest_19
abbrev r_X6_likest : Room := { frames := 2, cells := 0, slots := 0, locals := 46 }
set_option maxHeartbeats 4000000 in
set_option maxRecDepth 100000 in
theorem m_X6_likest (l : Launch) (G : ZG) (q : Nat → Nat) (σ : St) (κ : KM) (t : Int64) (hI : okM σ) (h1 : t ≠ 0) :
    MC l G yX6_likest (wY yX6_likest cX6_likest 6 (some .int)) r_X6_likest (wM G q σ κ) [.ref (q 0), .long (t)] (QI G (fun r9 (_ : Unit) => r9 = (zI (bst σ t (((σ.1 0 : Nat) : Int) - ((σ.1 2 : Nat) : Int)) (σ.1 1) (σ.1 4) : Int))) (fun _ => wM G q σ κ)) := by
  refine MC.mk (by decide +kernel) (Nat.le_of_ble_eq_true rfl) ?_
  intro p e s m av below meth c A H locs ls Q Z hr hnm hQ hP hD hS hl
  have hx := Z.1
  have hb := Z.2.1
  have hown := Z.2.2.2.1
  have hW := Z.2.2.2.2.1
  have hl : lv_has ls 6 [(0, .ref (q 0)), (1, .long (t))] := hl
  obtain ⟨hn, hru, hrv, hdv, hsr, hmn, ht1, ht2, hwn, hv1, hv2, hmj, htm, hse, htg, hrt, hac, hk1, hk2, hkd, hmm, hmv, hpp, hpl, hp3, hp4, hp6, hp5, hp7, hnz⟩ := id hI
  refine zr_iconst hx hb dX6_likest_0 ?_
  refine lv_istore_n (lv' := [(3, .int (zI (-1 : Int))), (0, .ref (q 0)), (1, .long (t))]) hx hb dX6_likest_1 rfl hl (by decide) rfl (fun ls hl => ?_)
  refine zr_iconst hx hb dX6_likest_2 ?_
  refine lv_istore (lv' := [(4, .int (zI (0 : Int))), (3, .int (zI (-1 : Int))), (0, .ref (q 0)), (1, .long (t))]) hx hb dX6_likest_3 hl (by decide) rfl (fun ls hl => ?_)
  suffices LP5 : ∀ (f9 : Nat) (k : Nat), σ.1 4 < k + f9 → (k ≤ σ.1 4) → ∀ (H : Heap) (locs : List Loc) (ls : Array Slot), va_P G.1 vwCl (wM G q σ κ) H → va_D A (wM G q σ κ) → va_S A s.heap H locs → lv_has ls 6 [(4, .int (zI ((k : Nat) : Int))), (3, .int (zI (bst σ t (((σ.1 0 : Nat) : Int) - ((σ.1 2 : Nat) : Int)) (σ.1 1) k : Int))), (0, .ref (q 0)), (1, .long (t))] → W p l e r_X6_likest s m av below meth c H locs 0 0 Q (F0 m 5 ls []) from LP5 (σ.1 4 + 1) (0) (by omega) (by omega) _ _ _ hP hD hS (lv_sub hl [0, 1, 2, 3] rfl)
  intro f9
  induction f9 with
  | zero => intro k hf9 hk; exfalso; omega
  | succ f9 ih5 =>
    intro k hf9 hk H locs ls hP hD hS hl
    have hb9 := bst_in σ t (((σ.1 0 : Nat) : Int) - ((σ.1 2 : Nat) : Int)) (σ.1 1) k
    have hs9 := hse k
    have hl9 := like_le t (lat σ k)
    have hl8 := like_le t (lat σ (bst σ t (((σ.1 0 : Nat) : Int) - ((σ.1 2 : Nat) : Int)) (σ.1 1) k).toNat)
    refine lv_iload hx hb dX6_likest_5 (lv_at hl 0 rfl) ?_
    refine lv_aload_n hx hb dX6_likest_7 rfl (lv_at hl 2 rfl) ?_
    refine gM_0_28 Z hP kf_X6_96 dX6_likest_8 ?_
    refine zc_ge (tgt := 84) hx hb ((k : Nat) : Int) ((σ.1 4 : Nat) : Int) (zI_toInt (by omega)) (zI_toInt (by omega)) dX6_likest_11 (by decide) (fun c11 => ?_) (fun c11 => ?_)
    · skip
      refine lv_iload_n hx hb dX6_likest_84 rfl (lv_at hl 1 rfl) ?_
      exact zret_I () Z hr hP hD hS (by rw [show k = σ.1 4 from by omega]) rfl ⟨Nat.le_refl _, Nat.le_refl _⟩ hQ dX6_likest_85
    · skip
      refine lv_lload_n hx hb dX6_likest_14 rfl (lv_at hl 3 rfl) ?_
      refine lv_aload_n hx hb dX6_likest_15 rfl (lv_at hl 2 rfl) ?_
      refine lv_iload hx hb dX6_likest_16 (lv_at hl 0 rfl) ?_
      refine zdet_L ⟨rfl, rfl⟩ Z hD hS (zrunV (rest := [.long (t)]) Z hP hD hS hl.1 (m_X6_latest l G q σ κ (k) rfl (by omega) (hv1 _ (by omega)) (hv2 _)) zY_X6_latest km_X6_145 (q0 := 0) rfl rfl rfl rfl ⟨⟨Nat.le_of_ble_eq_true rfl, Nat.le_of_ble_eq_true rfl⟩, Nat.le_of_ble_eq_true rfl, Nat.le_of_ble_eq_true rfl⟩ (Nat.le_of_ble_eq_true rfl) dX6_likest_18) (fun H locs hP hD hS => ?_)
      refine zdet_I ⟨rfl, rfl⟩ Z hD hS (zrunS (rest := []) Z hP hD hS hl.1 (m_X6_likenessOf l G (wM G q σ κ) (t) (lat σ k) (Or.inl h1)) zY_X6_likenessOf km_X6_141 rfl rfl ⟨⟨Nat.le_of_ble_eq_true rfl, Nat.le_of_ble_eq_true rfl⟩, Nat.le_of_ble_eq_true rfl, Nat.le_of_ble_eq_true rfl⟩ (Nat.le_of_ble_eq_true rfl) dX6_likest_21) (fun H locs hP hD hS => ?_)
      refine lv_istore (lv' := [(5, .int (zI ((like ((t)) ((lat σ k)) : Nat) : Int))), (4, .int (zI ((k : Nat) : Int))), (3, .int (zI (bst σ t (((σ.1 0 : Nat) : Int) - ((σ.1 2 : Nat) : Int)) (σ.1 1) k : Int))), (0, .ref (q 0)), (1, .long (t))]) hx hb dX6_likest_24 hl (by decide) rfl (fun ls hl => ?_)
      refine lv_aload_n hx hb dX6_likest_26 rfl (lv_at hl 3 rfl) ?_
      refine gM_0_24 Z hP kf_X6_84 dX6_likest_27 ?_
      refine lv_aload_n hx hb dX6_likest_30 rfl (lv_at hl 3 rfl) ?_
      refine gM_0_3 Z hP kf_X6_19 dX6_likest_31 ?_
      refine lv_iload hx hb dX6_likest_34 (lv_at hl 1 rfl) ?_
      refine ldN Z hP 4 (σ.2.1 0) rfl (k) rfl (by omega) (by decide) dX6_likest_36 ?_
      refine zr_isub hx hb dX6_likest_37 ?_
      refine lv_aload_n hx hb dX6_likest_38 rfl (lv_at hl 3 rfl) ?_
      refine gM_0_26 Z hP kf_X6_90 dX6_likest_39 ?_
      refine zc_gt (tgt := 78) hx hb (((σ.1 0 : Nat) : Int) - (((σ.2.1 0) (k) : Nat) : Int)) ((σ.1 2 : Nat) : Int) (zI_toInt (by omega)) (zI_toInt (by omega)) dX6_likest_42 (by decide) (fun c42 => ?_) (fun c42 => ?_)
      · skip
        refine zr_iinc (lv' := [(4, .int (zI (((k : Nat) : Int) + (1 : Int)))), (5, .int (zI ((like ((t)) ((lat σ k)) : Nat) : Int))), (3, .int (zI (bst σ t (((σ.1 0 : Nat) : Int) - ((σ.1 2 : Nat) : Int)) (σ.1 1) k : Int))), (0, .ref (q 0)), (1, .long (t))]) hx hb 1 dX6_likest_78 hl rfl (by decide) rfl (fun ls hl => ?_)
        refine lv_goto (tgt := 5) hx hb dX6_likest_81 (by decide) ?_
        have h9 : bst σ t (((σ.1 0 : Nat) : Int) - ((σ.1 2 : Nat) : Int)) (σ.1 1) (k + 1) = bst σ t (((σ.1 0 : Nat) : Int) - ((σ.1 2 : Nat) : Int)) (σ.1 1) k := by
            rw [bst]
            exact if_neg (fun h => by omega)
        exact ih5 (k + 1) (by omega) (by omega) _ _ _ hP hD hS (lv_sub hl [0, 2, 3, 4] (by rw [h9]; rfl))
      · skip
        refine lv_iload hx hb dX6_likest_45 (lv_at hl 0 rfl) ?_
        refine lv_aload_n hx hb dX6_likest_47 rfl (lv_at hl 3 rfl) ?_
        refine gM_0_25 Z hP kf_X6_87 dX6_likest_48 ?_
        refine zc_ge (tgt := 57) hx hb ((like ((t)) ((lat σ k)) : Nat) : Int) ((σ.1 1 : Nat) : Int) (zI_toInt (by omega)) (zI_toInt (by omega)) dX6_likest_51 (by decide) (fun c51 => ?_) (fun c51 => ?_)
        · skip
          refine lv_iload_n hx hb dX6_likest_57 rfl (lv_at hl 2 rfl) ?_
          refine zc0_lt (tgt := 75) hx hb (bst σ t (((σ.1 0 : Nat) : Int) - ((σ.1 2 : Nat) : Int)) (σ.1 1) k : Int) (zI_toInt (by omega)) dX6_likest_58 (by decide) (fun c58 => ?_) (fun c58 => ?_)
          · skip
            refine lv_iload hx hb dX6_likest_75 (lv_at hl 1 rfl) ?_
            refine lv_istore_n (lv' := [(3, .int (zI ((k : Nat) : Int))), (5, .int (zI ((like ((t)) ((lat σ k)) : Nat) : Int))), (4, .int (zI ((k : Nat) : Int))), (0, .ref (q 0)), (1, .long (t))]) hx hb dX6_likest_77 rfl hl (by decide) rfl (fun ls hl => ?_)
            refine zr_iinc (lv' := [(4, .int (zI (((k : Nat) : Int) + (1 : Int)))), (3, .int (zI ((k : Nat) : Int))), (5, .int (zI ((like ((t)) ((lat σ k)) : Nat) : Int))), (0, .ref (q 0)), (1, .long (t))]) hx hb 2 dX6_likest_78 hl rfl (by decide) rfl (fun ls hl => ?_)
            refine lv_goto (tgt := 5) hx hb dX6_likest_81 (by decide) ?_
            have h9 : bst σ t (((σ.1 0 : Nat) : Int) - ((σ.1 2 : Nat) : Int)) (σ.1 1) (k + 1) = ((k : Nat) : Int) := by
                rw [bst]
                exact if_pos ⟨by omega, by omega, by omega⟩
            exact ih5 (k + 1) (by omega) (by omega) _ _ _ hP hD hS (lv_sub hl [0, 1, 3, 4] (by rw [h9]; rfl))
          · skip
            refine lv_iload hx hb dX6_likest_61 (lv_at hl 0 rfl) ?_
            refine lv_lload_n hx hb dX6_likest_63 rfl (lv_at hl 4 rfl) ?_
            refine lv_aload_n hx hb dX6_likest_64 rfl (lv_at hl 3 rfl) ?_
            refine lv_iload_n hx hb dX6_likest_65 rfl (lv_at hl 2 rfl) ?_
            refine zdet_L ⟨rfl, rfl⟩ Z hD hS (zrunV (rest := [.long (t), .int (zI ((like ((t)) ((lat σ k)) : Nat) : Int))]) Z hP hD hS hl.1 (m_X6_latest l G q σ κ ((bst σ t (((σ.1 0 : Nat) : Int) - ((σ.1 2 : Nat) : Int)) (σ.1 1) k).toNat) (by omega) (by omega) (hv1 _ (by omega)) (hv2 _)) zY_X6_latest km_X6_145 (q0 := 0) rfl rfl rfl rfl ⟨⟨Nat.le_of_ble_eq_true rfl, Nat.le_of_ble_eq_true rfl⟩, Nat.le_of_ble_eq_true rfl, Nat.le_of_ble_eq_true rfl⟩ (Nat.le_of_ble_eq_true rfl) dX6_likest_66) (fun H locs hP hD hS => ?_)
            refine zdet_I ⟨rfl, rfl⟩ Z hD hS (zrunS (rest := [.int (zI ((like ((t)) ((lat σ k)) : Nat) : Int))]) Z hP hD hS hl.1 (m_X6_likenessOf l G (wM G q σ κ) (t) (lat σ ((bst σ t (((σ.1 0 : Nat) : Int) - ((σ.1 2 : Nat) : Int)) (σ.1 1) k).toNat)) (Or.inl h1)) zY_X6_likenessOf km_X6_141 rfl rfl ⟨⟨Nat.le_of_ble_eq_true rfl, Nat.le_of_ble_eq_true rfl⟩, Nat.le_of_ble_eq_true rfl, Nat.le_of_ble_eq_true rfl⟩ (Nat.le_of_ble_eq_true rfl) dX6_likest_69) (fun H locs hP hD hS => ?_)
            refine zc_le (tgt := 78) hx hb ((like ((t)) ((lat σ k)) : Nat) : Int) ((like ((t)) ((lat σ ((bst σ t (((σ.1 0 : Nat) : Int) - ((σ.1 2 : Nat) : Int)) (σ.1 1) k).toNat))) : Nat) : Int) (zI_toInt (by omega)) (zI_toInt (by omega)) dX6_likest_72 (by decide) (fun c72 => ?_) (fun c72 => ?_)
            · skip
              refine zr_iinc (lv' := [(4, .int (zI (((k : Nat) : Int) + (1 : Int)))), (5, .int (zI ((like ((t)) ((lat σ k)) : Nat) : Int))), (3, .int (zI (bst σ t (((σ.1 0 : Nat) : Int) - ((σ.1 2 : Nat) : Int)) (σ.1 1) k : Int))), (0, .ref (q 0)), (1, .long (t))]) hx hb 1 dX6_likest_78 hl rfl (by decide) rfl (fun ls hl => ?_)
              refine lv_goto (tgt := 5) hx hb dX6_likest_81 (by decide) ?_
              have h9 : bst σ t (((σ.1 0 : Nat) : Int) - ((σ.1 2 : Nat) : Int)) (σ.1 1) (k + 1) = bst σ t (((σ.1 0 : Nat) : Int) - ((σ.1 2 : Nat) : Int)) (σ.1 1) k := by
                  rw [bst]
                  exact if_neg (fun h => by omega)
              exact ih5 (k + 1) (by omega) (by omega) _ _ _ hP hD hS (lv_sub hl [0, 2, 3, 4] (by rw [h9]; rfl))
            · skip
              refine lv_iload hx hb dX6_likest_75 (lv_at hl 1 rfl) ?_
              refine lv_istore_n (lv' := [(3, .int (zI ((k : Nat) : Int))), (5, .int (zI ((like ((t)) ((lat σ k)) : Nat) : Int))), (4, .int (zI ((k : Nat) : Int))), (0, .ref (q 0)), (1, .long (t))]) hx hb dX6_likest_77 rfl hl (by decide) rfl (fun ls hl => ?_)
              refine zr_iinc (lv' := [(4, .int (zI (((k : Nat) : Int) + (1 : Int)))), (3, .int (zI ((k : Nat) : Int))), (5, .int (zI ((like ((t)) ((lat σ k)) : Nat) : Int))), (0, .ref (q 0)), (1, .long (t))]) hx hb 2 dX6_likest_78 hl rfl (by decide) rfl (fun ls hl => ?_)
              refine lv_goto (tgt := 5) hx hb dX6_likest_81 (by decide) ?_
              have h9 : bst σ t (((σ.1 0 : Nat) : Int) - ((σ.1 2 : Nat) : Int)) (σ.1 1) (k + 1) = ((k : Nat) : Int) := by
                  rw [bst]
                  exact if_pos ⟨by omega, by omega, by omega⟩
              exact ih5 (k + 1) (by omega) (by omega) _ _ _ hP hD hS (lv_sub hl [0, 1, 3, 4] (by rw [h9]; rfl))
        · skip
          refine lv_goto (tgt := 78) hx hb dX6_likest_54 (by decide) ?_
          refine zr_iinc (lv' := [(4, .int (zI (((k : Nat) : Int) + (1 : Int)))), (5, .int (zI ((like ((t)) ((lat σ k)) : Nat) : Int))), (3, .int (zI (bst σ t (((σ.1 0 : Nat) : Int) - ((σ.1 2 : Nat) : Int)) (σ.1 1) k : Int))), (0, .ref (q 0)), (1, .long (t))]) hx hb 1 dX6_likest_78 hl rfl (by decide) rfl (fun ls hl => ?_)
          refine lv_goto (tgt := 5) hx hb dX6_likest_81 (by decide) ?_
          have h9 : bst σ t (((σ.1 0 : Nat) : Int) - ((σ.1 2 : Nat) : Int)) (σ.1 1) (k + 1) = bst σ t (((σ.1 0 : Nat) : Int) - ((σ.1 2 : Nat) : Int)) (σ.1 1) k := by
              rw [bst]
              exact if_neg (fun h => by omega)
          exact ih5 (k + 1) (by omega) (by omega) _ _ _ hP hD hS (lv_sub hl [0, 2, 3, 4] (by rw [h9]; rfl))
abbrev r_X6_found : Room := { frames := 3, cells := 0, slots := 0, locals := 71 }
set_option maxHeartbeats 4000000 in
set_option maxRecDepth 100000 in
theorem m_X6_found (l : Launch) (G : ZG) (q : Nat → Nat) (σ : St) (κ : KM) (sr : Int) (idn : Int) (lk : Int) (t : Int64) (hI : okM σ) (h1 : zR sr) (h2 : zR idn) (h3 : zR lk) (h4 : t ≠ 0) :
    MC l G yX6_found (wY yX6_found cX6_found 7 (some .int)) r_X6_found (wM G q σ κ) [.ref (q 0), .int (zI (sr : Int)), .int (zI (idn : Int)), .int (zI (lk : Int)), .long (t)] (QI G (fun r9 (_ : Unit) => r9 = (zI (fndM σ sr idn lk t : Int))) (fun _ => wM G q σ κ)) := by
  refine MC.mk (by decide +kernel) (Nat.le_of_ble_eq_true rfl) ?_
  intro p e s m av below meth c A H locs ls Q Z hr hnm hQ hP hD hS hl
  have hx := Z.1
  have hb := Z.2.1
  have hown := Z.2.2.2.1
  have hW := Z.2.2.2.2.1
  have hl : lv_has ls 7 [(0, .ref (q 0)), (1, .int (zI (sr : Int))), (2, .int (zI (idn : Int))), (3, .int (zI (lk : Int))), (4, .long (t))] := hl
  obtain ⟨hn, hru, hrv, hdv, hsr, hmn, ht1, ht2, hwn, hv1, hv2, hmj, htm, hse, htg, hrt, hac, hk1, hk2, hkd, hmm, hmv, hpp, hpl, hp3, hp4, hp6, hp5, hp7, hnz⟩ := id hI
  have hq1 := pat_in hI sr idn
  have hq2 := lkt_in hI lk
  have hq3 := bst_in σ t (((σ.1 0 : Nat) : Int) - ((σ.1 2 : Nat) : Int)) (σ.1 1) (σ.1 4)
  refine lv_iload_n hx hb dX6_found_0 rfl (lv_at hl 2 rfl) ?_
  refine zr_iconst hx hb dX6_found_1 ?_
  refine zc_ne (tgt := 9) hx hb (idn : Int) (-1 : Int) (zI_toInt (by omega)) (zI_toInt (by decide)) dX6_found_2 (by decide) (fun c2 => ?_) (fun c2 => ?_)
  · skip
    refine lv_aload_n hx hb dX6_found_9 rfl (lv_at hl 0 rfl) ?_
    refine lv_iload_n hx hb dX6_found_10 rfl (lv_at hl 1 rfl) ?_
    refine lv_iload_n hx hb dX6_found_11 rfl (lv_at hl 2 rfl) ?_
    refine zdet_I ⟨rfl, rfl⟩ Z hD hS (zrunV (rest := []) Z hP hD hS hl.1 (m_X6_pairAt l G q σ κ (sr : Int) (idn : Int) hI (by omega) (by omega)) zY_X6_pairAt km_X6_149 (q0 := 0) rfl rfl rfl rfl ⟨⟨Nat.le_of_ble_eq_true rfl, Nat.le_of_ble_eq_true rfl⟩, Nat.le_of_ble_eq_true rfl, Nat.le_of_ble_eq_true rfl⟩ (Nat.le_of_ble_eq_true rfl) dX6_found_12) (fun H locs hP hD hS => ?_)
    refine lv_istore (lv' := [(6, .int (zI (pat σ (sr : Int) (idn : Int) : Int))), (0, .ref (q 0)), (1, .int (zI (sr : Int))), (2, .int (zI (idn : Int))), (3, .int (zI (lk : Int))), (4, .long (t))]) hx hb dX6_found_15 hl (by decide) rfl (fun ls hl => ?_)
    refine lv_iload hx hb dX6_found_17 (lv_at hl 0 rfl) ?_
    refine zc0_ge (tgt := 34) hx hb (pat σ (sr : Int) (idn : Int) : Int) (zI_toInt (by omega)) dX6_found_19 (by decide) (fun c19 => ?_) (fun c19 => ?_)
    · skip
      refine lv_iload hx hb dX6_found_34 (lv_at hl 0 rfl) ?_
      refine zc0_ge (tgt := 48) hx hb (pat σ (sr : Int) (idn : Int) : Int) (zI_toInt (by omega)) dX6_found_36 (by decide) (fun c36 => ?_) (fun c36 => ?_)
      · skip
        refine lv_iload hx hb dX6_found_48 (lv_at hl 0 rfl) ?_
        exact zret_I () Z hr hP hD hS (congrArg zI (by
            have e1 : fndP σ sr idn = pat σ sr idn := by unfold fndP; exact if_neg (by omega)
            have e2 : fndQ σ sr idn lk = pat σ sr idn := by unfold fndQ; rw [e1]; exact if_neg (by omega)
            unfold fndM bstM; rw [e2]; exact (if_neg (by omega)).symm)) rfl ⟨Nat.le_refl _, Nat.le_refl _⟩ hQ dX6_found_50
      · skip
        refine lv_aload_n hx hb dX6_found_39 rfl (lv_at hl 1 rfl) ?_
        refine lv_lload hx hb dX6_found_40 (lv_at hl 5 rfl) ?_
        refine zdet_I ⟨rfl, rfl⟩ Z hD hS (zrunV (rest := []) Z hP hD hS hl.1 (m_X6_likest l G q σ κ (t) hI (by omega)) zY_X6_likest km_X6_156 (q0 := 0) rfl rfl rfl rfl ⟨⟨Nat.le_of_ble_eq_true rfl, Nat.le_of_ble_eq_true rfl⟩, Nat.le_of_ble_eq_true rfl, Nat.le_of_ble_eq_true rfl⟩ (Nat.le_of_ble_eq_true rfl) dX6_found_42) (fun H locs hP hD hS => ?_)
        refine lv_goto (tgt := 50) hx hb dX6_found_45 (by decide) ?_
        exact zret_I () Z hr hP hD hS (congrArg zI (by
            have e1 : fndP σ sr idn = pat σ sr idn := by unfold fndP; exact if_neg (by omega)
            have e2 : fndQ σ sr idn lk = pat σ sr idn := by unfold fndQ; rw [e1]; exact if_neg (by omega)
            unfold fndM bstM; rw [e2]; exact (if_pos (by omega)).symm)) rfl ⟨Nat.le_refl _, Nat.le_refl _⟩ hQ dX6_found_50
    · skip
      refine lv_iload_n hx hb dX6_found_22 rfl (lv_at hl 4 rfl) ?_
      refine zr_iconst hx hb dX6_found_23 ?_
      refine zc_eq (tgt := 34) hx hb (lk : Int) (-1 : Int) (zI_toInt (by omega)) (zI_toInt (by decide)) dX6_found_24 (by decide) (fun c24 => ?_) (fun c24 => ?_)
      · skip
        refine lv_iload hx hb dX6_found_34 (lv_at hl 0 rfl) ?_
        refine zc0_ge (tgt := 48) hx hb (pat σ (sr : Int) (idn : Int) : Int) (zI_toInt (by omega)) dX6_found_36 (by decide) (fun c36 => ?_) (fun c36 => ?_)
        · skip
          refine lv_iload hx hb dX6_found_48 (lv_at hl 0 rfl) ?_
          exact zret_I () Z hr hP hD hS (congrArg zI (by
              have e1 : fndP σ sr idn = pat σ sr idn := by unfold fndP; exact if_neg (by omega)
              have e2 : fndQ σ sr idn lk = pat σ sr idn := by unfold fndQ; rw [e1]; exact if_neg (by omega)
              unfold fndM bstM; rw [e2]; exact (if_neg (by omega)).symm)) rfl ⟨Nat.le_refl _, Nat.le_refl _⟩ hQ dX6_found_50
        · skip
          refine lv_aload_n hx hb dX6_found_39 rfl (lv_at hl 1 rfl) ?_
          refine lv_lload hx hb dX6_found_40 (lv_at hl 5 rfl) ?_
          refine zdet_I ⟨rfl, rfl⟩ Z hD hS (zrunV (rest := []) Z hP hD hS hl.1 (m_X6_likest l G q σ κ (t) hI (by omega)) zY_X6_likest km_X6_156 (q0 := 0) rfl rfl rfl rfl ⟨⟨Nat.le_of_ble_eq_true rfl, Nat.le_of_ble_eq_true rfl⟩, Nat.le_of_ble_eq_true rfl, Nat.le_of_ble_eq_true rfl⟩ (Nat.le_of_ble_eq_true rfl) dX6_found_42) (fun H locs hP hD hS => ?_)
          refine lv_goto (tgt := 50) hx hb dX6_found_45 (by decide) ?_
          exact zret_I () Z hr hP hD hS (congrArg zI (by
              have e1 : fndP σ sr idn = pat σ sr idn := by unfold fndP; exact if_neg (by omega)
              have e2 : fndQ σ sr idn lk = pat σ sr idn := by unfold fndQ; rw [e1]; exact if_neg (by omega)
              unfold fndM bstM; rw [e2]; exact (if_pos (by omega)).symm)) rfl ⟨Nat.le_refl _, Nat.le_refl _⟩ hQ dX6_found_50
      · skip
        refine lv_aload_n hx hb dX6_found_27 rfl (lv_at hl 1 rfl) ?_
        refine lv_iload_n hx hb dX6_found_28 rfl (lv_at hl 4 rfl) ?_
        refine zdet_I ⟨rfl, rfl⟩ Z hD hS (zrunV (rest := []) Z hP hD hS hl.1 (m_X6_linkAt l G q σ κ (lk : Int) hI (by omega)) zY_X6_linkAt km_X6_153 (q0 := 0) rfl rfl rfl rfl ⟨⟨Nat.le_of_ble_eq_true rfl, Nat.le_of_ble_eq_true rfl⟩, Nat.le_of_ble_eq_true rfl, Nat.le_of_ble_eq_true rfl⟩ (Nat.le_of_ble_eq_true rfl) dX6_found_29) (fun H locs hP hD hS => ?_)
        refine lv_istore (lv' := [(6, .int (zI (lkt σ (lk : Int) : Int))), (0, .ref (q 0)), (1, .int (zI (sr : Int))), (2, .int (zI (idn : Int))), (3, .int (zI (lk : Int))), (4, .long (t))]) hx hb dX6_found_32 hl (by decide) rfl (fun ls hl => ?_)
        refine lv_iload hx hb dX6_found_34 (lv_at hl 0 rfl) ?_
        refine zc0_ge (tgt := 48) hx hb (lkt σ (lk : Int) : Int) (zI_toInt (by omega)) dX6_found_36 (by decide) (fun c36 => ?_) (fun c36 => ?_)
        · skip
          refine lv_iload hx hb dX6_found_48 (lv_at hl 0 rfl) ?_
          exact zret_I () Z hr hP hD hS (congrArg zI (by
              have e1 : fndP σ sr idn = pat σ sr idn := by unfold fndP; exact if_neg (by omega)
              have e2 : fndQ σ sr idn lk = lkt σ lk := by unfold fndQ; rw [e1]; exact if_pos (by omega)
              unfold fndM bstM; rw [e2]; exact (if_neg (by omega)).symm)) rfl ⟨Nat.le_refl _, Nat.le_refl _⟩ hQ dX6_found_50
        · skip
          refine lv_aload_n hx hb dX6_found_39 rfl (lv_at hl 1 rfl) ?_
          refine lv_lload hx hb dX6_found_40 (lv_at hl 5 rfl) ?_
          refine zdet_I ⟨rfl, rfl⟩ Z hD hS (zrunV (rest := []) Z hP hD hS hl.1 (m_X6_likest l G q σ κ (t) hI (by omega)) zY_X6_likest km_X6_156 (q0 := 0) rfl rfl rfl rfl ⟨⟨Nat.le_of_ble_eq_true rfl, Nat.le_of_ble_eq_true rfl⟩, Nat.le_of_ble_eq_true rfl, Nat.le_of_ble_eq_true rfl⟩ (Nat.le_of_ble_eq_true rfl) dX6_found_42) (fun H locs hP hD hS => ?_)
          refine lv_goto (tgt := 50) hx hb dX6_found_45 (by decide) ?_
          exact zret_I () Z hr hP hD hS (congrArg zI (by
              have e1 : fndP σ sr idn = pat σ sr idn := by unfold fndP; exact if_neg (by omega)
              have e2 : fndQ σ sr idn lk = lkt σ lk := by unfold fndQ; rw [e1]; exact if_pos (by omega)
              unfold fndM bstM; rw [e2]; exact (if_pos (by omega)).symm)) rfl ⟨Nat.le_refl _, Nat.le_refl _⟩ hQ dX6_found_50
  · skip
    refine zr_iconst hx hb dX6_found_5 ?_
    refine lv_goto (tgt := 15) hx hb dX6_found_6 (by decide) ?_
    refine lv_istore (lv' := [(6, .int (zI (-1 : Int))), (0, .ref (q 0)), (1, .int (zI (sr : Int))), (2, .int (zI (idn : Int))), (3, .int (zI (lk : Int))), (4, .long (t))]) hx hb dX6_found_15 hl (by decide) rfl (fun ls hl => ?_)
    refine lv_iload hx hb dX6_found_17 (lv_at hl 0 rfl) ?_
    refine zc0_ge (tgt := 34) hx hb (-1 : Int) (zI_toInt (by decide)) dX6_found_19 (by decide) (fun c19 => by exfalso; omega) (fun c19 => ?_)
    refine lv_iload_n hx hb dX6_found_22 rfl (lv_at hl 4 rfl) ?_
    refine zr_iconst hx hb dX6_found_23 ?_
    refine zc_eq (tgt := 34) hx hb (lk : Int) (-1 : Int) (zI_toInt (by omega)) (zI_toInt (by decide)) dX6_found_24 (by decide) (fun c24 => ?_) (fun c24 => ?_)
    · skip
      refine lv_iload hx hb dX6_found_34 (lv_at hl 0 rfl) ?_
      refine zc0_ge (tgt := 48) hx hb (-1 : Int) (zI_toInt (by decide)) dX6_found_36 (by decide) (fun c36 => by exfalso; omega) (fun c36 => ?_)
      refine lv_aload_n hx hb dX6_found_39 rfl (lv_at hl 1 rfl) ?_
      refine lv_lload hx hb dX6_found_40 (lv_at hl 5 rfl) ?_
      refine zdet_I ⟨rfl, rfl⟩ Z hD hS (zrunV (rest := []) Z hP hD hS hl.1 (m_X6_likest l G q σ κ (t) hI (by omega)) zY_X6_likest km_X6_156 (q0 := 0) rfl rfl rfl rfl ⟨⟨Nat.le_of_ble_eq_true rfl, Nat.le_of_ble_eq_true rfl⟩, Nat.le_of_ble_eq_true rfl, Nat.le_of_ble_eq_true rfl⟩ (Nat.le_of_ble_eq_true rfl) dX6_found_42) (fun H locs hP hD hS => ?_)
      refine lv_goto (tgt := 50) hx hb dX6_found_45 (by decide) ?_
      exact zret_I () Z hr hP hD hS (congrArg zI (by
          have e1 : fndP σ sr idn = -1 := by unfold fndP; exact if_pos (by omega)
          have e2 : fndQ σ sr idn lk = -1 := by unfold fndQ; rw [e1]; exact if_neg (by omega)
          unfold fndM bstM; rw [e2]; exact (if_pos (by omega)).symm)) rfl ⟨Nat.le_refl _, Nat.le_refl _⟩ hQ dX6_found_50
    · skip
      refine lv_aload_n hx hb dX6_found_27 rfl (lv_at hl 1 rfl) ?_
      refine lv_iload_n hx hb dX6_found_28 rfl (lv_at hl 4 rfl) ?_
      refine zdet_I ⟨rfl, rfl⟩ Z hD hS (zrunV (rest := []) Z hP hD hS hl.1 (m_X6_linkAt l G q σ κ (lk : Int) hI (by omega)) zY_X6_linkAt km_X6_153 (q0 := 0) rfl rfl rfl rfl ⟨⟨Nat.le_of_ble_eq_true rfl, Nat.le_of_ble_eq_true rfl⟩, Nat.le_of_ble_eq_true rfl, Nat.le_of_ble_eq_true rfl⟩ (Nat.le_of_ble_eq_true rfl) dX6_found_29) (fun H locs hP hD hS => ?_)
      refine lv_istore (lv' := [(6, .int (zI (lkt σ (lk : Int) : Int))), (0, .ref (q 0)), (1, .int (zI (sr : Int))), (2, .int (zI (idn : Int))), (3, .int (zI (lk : Int))), (4, .long (t))]) hx hb dX6_found_32 hl (by decide) rfl (fun ls hl => ?_)
      refine lv_iload hx hb dX6_found_34 (lv_at hl 0 rfl) ?_
      refine zc0_ge (tgt := 48) hx hb (lkt σ (lk : Int) : Int) (zI_toInt (by omega)) dX6_found_36 (by decide) (fun c36 => ?_) (fun c36 => ?_)
      · skip
        refine lv_iload hx hb dX6_found_48 (lv_at hl 0 rfl) ?_
        exact zret_I () Z hr hP hD hS (congrArg zI (by
            have e1 : fndP σ sr idn = -1 := by unfold fndP; exact if_pos (by omega)
            have e2 : fndQ σ sr idn lk = lkt σ lk := by unfold fndQ; rw [e1]; exact if_pos (by omega)
            unfold fndM bstM; rw [e2]; exact (if_neg (by omega)).symm)) rfl ⟨Nat.le_refl _, Nat.le_refl _⟩ hQ dX6_found_50
      · skip
        refine lv_aload_n hx hb dX6_found_39 rfl (lv_at hl 1 rfl) ?_
        refine lv_lload hx hb dX6_found_40 (lv_at hl 5 rfl) ?_
        refine zdet_I ⟨rfl, rfl⟩ Z hD hS (zrunV (rest := []) Z hP hD hS hl.1 (m_X6_likest l G q σ κ (t) hI (by omega)) zY_X6_likest km_X6_156 (q0 := 0) rfl rfl rfl rfl ⟨⟨Nat.le_of_ble_eq_true rfl, Nat.le_of_ble_eq_true rfl⟩, Nat.le_of_ble_eq_true rfl, Nat.le_of_ble_eq_true rfl⟩ (Nat.le_of_ble_eq_true rfl) dX6_found_42) (fun H locs hP hD hS => ?_)
        refine lv_goto (tgt := 50) hx hb dX6_found_45 (by decide) ?_
        exact zret_I () Z hr hP hD hS (congrArg zI (by
            have e1 : fndP σ sr idn = -1 := by unfold fndP; exact if_pos (by omega)
            have e2 : fndQ σ sr idn lk = lkt σ lk := by unfold fndQ; rw [e1]; exact if_pos (by omega)
            unfold fndM bstM; rw [e2]; exact (if_pos (by omega)).symm)) rfl ⟨Nat.le_refl _, Nat.le_refl _⟩ hQ dX6_found_50
abbrev r_X6_adds : Room := { frames := 0, cells := 0, slots := 0, locals := 0 }
set_option maxHeartbeats 4000000 in
set_option maxRecDepth 100000 in
theorem m_X6_adds (l : Launch) (G : ZG) (q : Nat → Nat) (σ : St) (κ : KM) (t : Int64) (td : Int) (hI : okM σ) (h1 : σ.1 4 < 30) (h2 : zR td) (h3 : -1 ≤ td) :
    MC l G yX6_adds (wY yX6_adds cX6_adds 4 none) r_X6_adds (wM G q σ κ) [.ref (q 0), .long (t), .int (zI (td : Int))] (QV G (fun (_ : Unit) => True) (fun _ => wM G q (adS σ t td) κ)) := by
  refine MC.mk (by decide +kernel) (Nat.le_of_ble_eq_true rfl) ?_
  intro p e s m av below meth c A H locs ls Q Z hr hnm hQ hP hD hS hl
  have hx := Z.1
  have hb := Z.2.1
  have hown := Z.2.2.2.1
  have hW := Z.2.2.2.2.1
  have hl : lv_has ls 4 [(0, .ref (q 0)), (1, .long (t)), (3, .int (zI (td : Int)))] := hl
  obtain ⟨hn, hru, hrv, hdv, hsr, hmn, ht1, ht2, hwn, hv1, hv2, hmj, htm, hse, htg, hrt, hac, hk1, hk2, hkd, hmm, hmv, hpp, hpl, hp3, hp4, hp6, hp5, hp7, hnz⟩ := id hI
  refine lv_aload_n hx hb dX6_adds_0 rfl (lv_at hl 0 rfl) ?_
  refine gM_0_3 Z hP kf_X6_19 dX6_adds_1 ?_
  refine lv_aload_n hx hb dX6_adds_4 rfl (lv_at hl 0 rfl) ?_
  refine gM_0_28 Z hP kf_X6_96 dX6_adds_5 ?_
  refine lv_aload_n hx hb dX6_adds_8 rfl (lv_at hl 0 rfl) ?_
  refine gM_0_24 Z hP kf_X6_84 dX6_adds_9 ?_
  refine stN (ws1 := wM G q (sA σ 0 (va_up (σ.2.1 0) (σ.1 4) (σ.1 0))) κ) Z hP hD hS 4 (σ.2.1 0) rfl (σ.1 4) rfl (by omega) (by decide) (σ.1 0) rfl rfl dX6_adds_12 (fun H locs hP hD hS => ?_)
  refine lv_aload_n hx hb dX6_adds_13 rfl (lv_at hl 0 rfl) ?_
  refine gM_0_4 Z hP kf_X6_23 dX6_adds_14 ?_
  refine lv_aload_n hx hb dX6_adds_17 rfl (lv_at hl 0 rfl) ?_
  refine gM_0_28 Z hP kf_X6_96 dX6_adds_18 ?_
  refine zr_top (w := .int (zI ((σ.1 4 : Nat) : Int))) rfl ?_
  refine lv_iload_n hx hb dX6_adds_21 rfl (lv_at hl 2 rfl) ?_
  refine zr_iconst hx hb dX6_adds_22 ?_
  refine zc_eq (tgt := 50) hx hb (td : Int) (-1 : Int) (zI_toInt (by omega)) (zI_toInt (by decide)) dX6_adds_23 (by decide) (fun c23 => ?_) (fun c23 => ?_)
  · skip
    refine lv_aload_n hx hb dX6_adds_50 rfl (lv_at hl 0 rfl) ?_
    refine gM_0_24 Z hP kf_X6_84 dX6_adds_51 ?_
    refine zr_top (w := .int (zI ((σ.1 0 : Nat) : Int))) rfl ?_
    refine stN (ws1 := wM G q (sA (sA σ 0 (va_up (σ.2.1 0) (σ.1 4) (σ.1 0))) 1 (va_up (σ.2.1 1) (σ.1 4) (tmF σ td))) κ) Z hP hD hS 5 (σ.2.1 1) rfl (σ.1 4) rfl (by omega) (by decide) (tmF σ td) (by unfold tmF; split <;> omega) rfl dX6_adds_54 (fun H locs hP hD hS => ?_)
    refine lv_aload_n hx hb dX6_adds_55 rfl (lv_at hl 0 rfl) ?_
    refine gM_0_5 Z hP kf_X6_26 dX6_adds_56 ?_
    refine lv_aload_n hx hb dX6_adds_59 rfl (lv_at hl 0 rfl) ?_
    refine gM_0_28 Z hP kf_X6_96 dX6_adds_60 ?_
    refine zr_top (w := .int (zI ((σ.1 4 : Nat) : Int))) rfl ?_
    refine zr_iconst hx hb dX6_adds_63 ?_
    refine stI (ws1 := wM G q (sI (sA (sA σ 0 (va_up (σ.2.1 0) (σ.1 4) (σ.1 0))) 1 (va_up (σ.2.1 1) (σ.1 4) (tmF σ td))) 0 (va_up (σ.2.2.1 0) (σ.1 4) (zI (0 : Int)))) κ) Z hP hD hS 6 (σ.2.2.1 0) rfl (σ.1 4) rfl (by omega) (by decide) rfl dX6_adds_64 (fun H locs hP hD hS => ?_)
    refine lv_aload_n hx hb dX6_adds_65 rfl (lv_at hl 0 rfl) ?_
    refine gM_0_6 Z hP kf_X6_29 dX6_adds_66 ?_
    refine lv_aload_n hx hb dX6_adds_69 rfl (lv_at hl 0 rfl) ?_
    refine gM_0_28 Z hP kf_X6_96 dX6_adds_70 ?_
    refine zr_top (w := .int (zI ((σ.1 4 : Nat) : Int))) rfl ?_
    refine zr_iconst hx hb dX6_adds_73 ?_
    refine stN (ws1 := wM G q (sA (sI (sA (sA σ 0 (va_up (σ.2.1 0) (σ.1 4) (σ.1 0))) 1 (va_up (σ.2.1 1) (σ.1 4) (tmF σ td))) 0 (va_up (σ.2.2.1 0) (σ.1 4) (zI (0 : Int)))) 2 (va_up (σ.2.1 2) (σ.1 4) (1))) κ) Z hP hD hS 7 (σ.2.1 2) rfl (σ.1 4) rfl (by omega) (by decide) (1) (by omega) rfl dX6_adds_74 (fun H locs hP hD hS => ?_)
    refine lv_aload_n hx hb dX6_adds_75 rfl (lv_at hl 0 rfl) ?_
    refine gM_0_7 Z hP kf_X6_32 dX6_adds_76 ?_
    refine lv_aload_n hx hb dX6_adds_79 rfl (lv_at hl 0 rfl) ?_
    refine gM_0_28 Z hP kf_X6_96 dX6_adds_80 ?_
    refine zr_top (w := .int (zI ((σ.1 4 : Nat) : Int))) rfl ?_
    refine zr_iconst hx hb dX6_adds_83 ?_
    refine stN (ws1 := wM G q (sA (sA (sI (sA (sA σ 0 (va_up (σ.2.1 0) (σ.1 4) (σ.1 0))) 1 (va_up (σ.2.1 1) (σ.1 4) (tmF σ td))) 0 (va_up (σ.2.2.1 0) (σ.1 4) (zI (0 : Int)))) 2 (va_up (σ.2.1 2) (σ.1 4) (1))) 3 (va_up (σ.2.1 3) (σ.1 4) (0))) κ) Z hP hD hS 8 (σ.2.1 3) rfl (σ.1 4) rfl (by omega) (by decide) (0) (by omega) rfl dX6_adds_84 (fun H locs hP hD hS => ?_)
    refine lv_aload_n hx hb dX6_adds_85 rfl (lv_at hl 0 rfl) ?_
    refine gM_0_0 Z hP kf_X6_7 dX6_adds_86 ?_
    refine zr_iconst hx hb dX6_adds_89 ?_
    refine lv_aload_n hx hb dX6_adds_90 rfl (lv_at hl 0 rfl) ?_
    refine gM_0_28 Z hP kf_X6_96 dX6_adds_91 ?_
    refine zr_top (w := .int (zI ((σ.1 4 : Nat) : Int))) rfl ?_
    refine zr_imul hx hb dX6_adds_94 ?_
    refine lv_lload_n hx hb dX6_adds_95 rfl (lv_at hl 1 rfl) ?_
    refine stL (ws1 := wM G q (sL (sA (sA (sI (sA (sA σ 0 (va_up (σ.2.1 0) (σ.1 4) (σ.1 0))) 1 (va_up (σ.2.1 1) (σ.1 4) (tmF σ td))) 0 (va_up (σ.2.2.1 0) (σ.1 4) (zI (0 : Int)))) 2 (va_up (σ.2.1 2) (σ.1 4) (1))) 3 (va_up (σ.2.1 3) (σ.1 4) (0))) 0 (va_up (σ.2.2.2 0) ((4 * σ.1 4)) (t))) κ) Z hP hD hS 1 (σ.2.2.2 0) rfl ((4 * σ.1 4)) (by omega) (by omega) (by decide) rfl dX6_adds_96 (fun H locs hP hD hS => ?_)
    refine lv_aload_n hx hb dX6_adds_97 rfl (lv_at hl 0 rfl) ?_
    refine lv_dup hx hb dX6_adds_98 rfl ?_
    refine gM_0_28 Z hP kf_X6_96 dX6_adds_99 ?_
    refine zr_top (w := .int (zI ((σ.1 4 : Nat) : Int))) rfl ?_
    refine zr_iconst hx hb dX6_adds_102 ?_
    refine zr_iadd hx hb dX6_adds_103 ?_
    refine pM_0_28 Z hP hD hS ((σ.1 4 + 1)) (by omega) kf_X6_96 dX6_adds_104 (fun H locs hP hD hS => ?_)
    exact zret_V () Z hr hP hD hS trivial rfl ⟨Nat.le_refl _, Nat.le_refl _⟩ hQ dX6_adds_107
  · skip
    refine lv_iload_n hx hb dX6_adds_26 rfl (lv_at hl 2 rfl) ?_
    refine lv_aload_n hx hb dX6_adds_27 rfl (lv_at hl 0 rfl) ?_
    refine gM_0_24 Z hP kf_X6_84 dX6_adds_28 ?_
    refine zr_top (w := .int (zI ((σ.1 0 : Nat) : Int))) rfl ?_
    refine zc_gt (tgt := 50) hx hb (td : Int) ((σ.1 0 : Nat) : Int) (zI_toInt (by omega)) (zI_toInt (by omega)) dX6_adds_31 (by decide) (fun c31 => ?_) (fun c31 => ?_)
    · skip
      refine lv_aload_n hx hb dX6_adds_50 rfl (lv_at hl 0 rfl) ?_
      refine gM_0_24 Z hP kf_X6_84 dX6_adds_51 ?_
      refine zr_top (w := .int (zI ((σ.1 0 : Nat) : Int))) rfl ?_
      refine stN (ws1 := wM G q (sA (sA σ 0 (va_up (σ.2.1 0) (σ.1 4) (σ.1 0))) 1 (va_up (σ.2.1 1) (σ.1 4) (tmF σ td))) κ) Z hP hD hS 5 (σ.2.1 1) rfl (σ.1 4) rfl (by omega) (by decide) (tmF σ td) (by unfold tmF; split <;> omega) rfl dX6_adds_54 (fun H locs hP hD hS => ?_)
      refine lv_aload_n hx hb dX6_adds_55 rfl (lv_at hl 0 rfl) ?_
      refine gM_0_5 Z hP kf_X6_26 dX6_adds_56 ?_
      refine lv_aload_n hx hb dX6_adds_59 rfl (lv_at hl 0 rfl) ?_
      refine gM_0_28 Z hP kf_X6_96 dX6_adds_60 ?_
      refine zr_top (w := .int (zI ((σ.1 4 : Nat) : Int))) rfl ?_
      refine zr_iconst hx hb dX6_adds_63 ?_
      refine stI (ws1 := wM G q (sI (sA (sA σ 0 (va_up (σ.2.1 0) (σ.1 4) (σ.1 0))) 1 (va_up (σ.2.1 1) (σ.1 4) (tmF σ td))) 0 (va_up (σ.2.2.1 0) (σ.1 4) (zI (0 : Int)))) κ) Z hP hD hS 6 (σ.2.2.1 0) rfl (σ.1 4) rfl (by omega) (by decide) rfl dX6_adds_64 (fun H locs hP hD hS => ?_)
      refine lv_aload_n hx hb dX6_adds_65 rfl (lv_at hl 0 rfl) ?_
      refine gM_0_6 Z hP kf_X6_29 dX6_adds_66 ?_
      refine lv_aload_n hx hb dX6_adds_69 rfl (lv_at hl 0 rfl) ?_
      refine gM_0_28 Z hP kf_X6_96 dX6_adds_70 ?_
      refine zr_top (w := .int (zI ((σ.1 4 : Nat) : Int))) rfl ?_
      refine zr_iconst hx hb dX6_adds_73 ?_
      refine stN (ws1 := wM G q (sA (sI (sA (sA σ 0 (va_up (σ.2.1 0) (σ.1 4) (σ.1 0))) 1 (va_up (σ.2.1 1) (σ.1 4) (tmF σ td))) 0 (va_up (σ.2.2.1 0) (σ.1 4) (zI (0 : Int)))) 2 (va_up (σ.2.1 2) (σ.1 4) (1))) κ) Z hP hD hS 7 (σ.2.1 2) rfl (σ.1 4) rfl (by omega) (by decide) (1) (by omega) rfl dX6_adds_74 (fun H locs hP hD hS => ?_)
      refine lv_aload_n hx hb dX6_adds_75 rfl (lv_at hl 0 rfl) ?_
      refine gM_0_7 Z hP kf_X6_32 dX6_adds_76 ?_
      refine lv_aload_n hx hb dX6_adds_79 rfl (lv_at hl 0 rfl) ?_
      refine gM_0_28 Z hP kf_X6_96 dX6_adds_80 ?_
      refine zr_top (w := .int (zI ((σ.1 4 : Nat) : Int))) rfl ?_
      refine zr_iconst hx hb dX6_adds_83 ?_
      refine stN (ws1 := wM G q (sA (sA (sI (sA (sA σ 0 (va_up (σ.2.1 0) (σ.1 4) (σ.1 0))) 1 (va_up (σ.2.1 1) (σ.1 4) (tmF σ td))) 0 (va_up (σ.2.2.1 0) (σ.1 4) (zI (0 : Int)))) 2 (va_up (σ.2.1 2) (σ.1 4) (1))) 3 (va_up (σ.2.1 3) (σ.1 4) (0))) κ) Z hP hD hS 8 (σ.2.1 3) rfl (σ.1 4) rfl (by omega) (by decide) (0) (by omega) rfl dX6_adds_84 (fun H locs hP hD hS => ?_)
      refine lv_aload_n hx hb dX6_adds_85 rfl (lv_at hl 0 rfl) ?_
      refine gM_0_0 Z hP kf_X6_7 dX6_adds_86 ?_
      refine zr_iconst hx hb dX6_adds_89 ?_
      refine lv_aload_n hx hb dX6_adds_90 rfl (lv_at hl 0 rfl) ?_
      refine gM_0_28 Z hP kf_X6_96 dX6_adds_91 ?_
      refine zr_top (w := .int (zI ((σ.1 4 : Nat) : Int))) rfl ?_
      refine zr_imul hx hb dX6_adds_94 ?_
      refine lv_lload_n hx hb dX6_adds_95 rfl (lv_at hl 1 rfl) ?_
      refine stL (ws1 := wM G q (sL (sA (sA (sI (sA (sA σ 0 (va_up (σ.2.1 0) (σ.1 4) (σ.1 0))) 1 (va_up (σ.2.1 1) (σ.1 4) (tmF σ td))) 0 (va_up (σ.2.2.1 0) (σ.1 4) (zI (0 : Int)))) 2 (va_up (σ.2.1 2) (σ.1 4) (1))) 3 (va_up (σ.2.1 3) (σ.1 4) (0))) 0 (va_up (σ.2.2.2 0) ((4 * σ.1 4)) (t))) κ) Z hP hD hS 1 (σ.2.2.2 0) rfl ((4 * σ.1 4)) (by omega) (by omega) (by decide) rfl dX6_adds_96 (fun H locs hP hD hS => ?_)
      refine lv_aload_n hx hb dX6_adds_97 rfl (lv_at hl 0 rfl) ?_
      refine lv_dup hx hb dX6_adds_98 rfl ?_
      refine gM_0_28 Z hP kf_X6_96 dX6_adds_99 ?_
      refine zr_top (w := .int (zI ((σ.1 4 : Nat) : Int))) rfl ?_
      refine zr_iconst hx hb dX6_adds_102 ?_
      refine zr_iadd hx hb dX6_adds_103 ?_
      refine pM_0_28 Z hP hD hS ((σ.1 4 + 1)) (by omega) kf_X6_96 dX6_adds_104 (fun H locs hP hD hS => ?_)
      exact zret_V () Z hr hP hD hS trivial rfl ⟨Nat.le_refl _, Nat.le_refl _⟩ hQ dX6_adds_107
    · skip
      refine lv_iload_n hx hb dX6_adds_34 rfl (lv_at hl 2 rfl) ?_
      refine lv_aload_n hx hb dX6_adds_35 rfl (lv_at hl 0 rfl) ?_
      refine gM_0_24 Z hP kf_X6_84 dX6_adds_36 ?_
      refine zr_top (w := .int (zI ((σ.1 0 : Nat) : Int))) rfl ?_
      refine zr_sipush hx hb dX6_adds_39 (by decide) ?_
      refine zr_isub hx hb dX6_adds_42 ?_
      refine zc_lt (tgt := 50) hx hb (td : Int) (((σ.1 0 : Nat) : Int) - (1440 : Int)) (zI_toInt (by omega)) (zI_toInt (by omega)) dX6_adds_43 (by decide) (fun c43 => ?_) (fun c43 => ?_)
      · skip
        refine lv_aload_n hx hb dX6_adds_50 rfl (lv_at hl 0 rfl) ?_
        refine gM_0_24 Z hP kf_X6_84 dX6_adds_51 ?_
        refine zr_top (w := .int (zI ((σ.1 0 : Nat) : Int))) rfl ?_
        refine stN (ws1 := wM G q (sA (sA σ 0 (va_up (σ.2.1 0) (σ.1 4) (σ.1 0))) 1 (va_up (σ.2.1 1) (σ.1 4) (tmF σ td))) κ) Z hP hD hS 5 (σ.2.1 1) rfl (σ.1 4) rfl (by omega) (by decide) (tmF σ td) (by unfold tmF; split <;> omega) rfl dX6_adds_54 (fun H locs hP hD hS => ?_)
        refine lv_aload_n hx hb dX6_adds_55 rfl (lv_at hl 0 rfl) ?_
        refine gM_0_5 Z hP kf_X6_26 dX6_adds_56 ?_
        refine lv_aload_n hx hb dX6_adds_59 rfl (lv_at hl 0 rfl) ?_
        refine gM_0_28 Z hP kf_X6_96 dX6_adds_60 ?_
        refine zr_top (w := .int (zI ((σ.1 4 : Nat) : Int))) rfl ?_
        refine zr_iconst hx hb dX6_adds_63 ?_
        refine stI (ws1 := wM G q (sI (sA (sA σ 0 (va_up (σ.2.1 0) (σ.1 4) (σ.1 0))) 1 (va_up (σ.2.1 1) (σ.1 4) (tmF σ td))) 0 (va_up (σ.2.2.1 0) (σ.1 4) (zI (0 : Int)))) κ) Z hP hD hS 6 (σ.2.2.1 0) rfl (σ.1 4) rfl (by omega) (by decide) rfl dX6_adds_64 (fun H locs hP hD hS => ?_)
        refine lv_aload_n hx hb dX6_adds_65 rfl (lv_at hl 0 rfl) ?_
        refine gM_0_6 Z hP kf_X6_29 dX6_adds_66 ?_
        refine lv_aload_n hx hb dX6_adds_69 rfl (lv_at hl 0 rfl) ?_
        refine gM_0_28 Z hP kf_X6_96 dX6_adds_70 ?_
        refine zr_top (w := .int (zI ((σ.1 4 : Nat) : Int))) rfl ?_
        refine zr_iconst hx hb dX6_adds_73 ?_
        refine stN (ws1 := wM G q (sA (sI (sA (sA σ 0 (va_up (σ.2.1 0) (σ.1 4) (σ.1 0))) 1 (va_up (σ.2.1 1) (σ.1 4) (tmF σ td))) 0 (va_up (σ.2.2.1 0) (σ.1 4) (zI (0 : Int)))) 2 (va_up (σ.2.1 2) (σ.1 4) (1))) κ) Z hP hD hS 7 (σ.2.1 2) rfl (σ.1 4) rfl (by omega) (by decide) (1) (by omega) rfl dX6_adds_74 (fun H locs hP hD hS => ?_)
        refine lv_aload_n hx hb dX6_adds_75 rfl (lv_at hl 0 rfl) ?_
        refine gM_0_7 Z hP kf_X6_32 dX6_adds_76 ?_
        refine lv_aload_n hx hb dX6_adds_79 rfl (lv_at hl 0 rfl) ?_
        refine gM_0_28 Z hP kf_X6_96 dX6_adds_80 ?_
        refine zr_top (w := .int (zI ((σ.1 4 : Nat) : Int))) rfl ?_
        refine zr_iconst hx hb dX6_adds_83 ?_
        refine stN (ws1 := wM G q (sA (sA (sI (sA (sA σ 0 (va_up (σ.2.1 0) (σ.1 4) (σ.1 0))) 1 (va_up (σ.2.1 1) (σ.1 4) (tmF σ td))) 0 (va_up (σ.2.2.1 0) (σ.1 4) (zI (0 : Int)))) 2 (va_up (σ.2.1 2) (σ.1 4) (1))) 3 (va_up (σ.2.1 3) (σ.1 4) (0))) κ) Z hP hD hS 8 (σ.2.1 3) rfl (σ.1 4) rfl (by omega) (by decide) (0) (by omega) rfl dX6_adds_84 (fun H locs hP hD hS => ?_)
        refine lv_aload_n hx hb dX6_adds_85 rfl (lv_at hl 0 rfl) ?_
        refine gM_0_0 Z hP kf_X6_7 dX6_adds_86 ?_
        refine zr_iconst hx hb dX6_adds_89 ?_
        refine lv_aload_n hx hb dX6_adds_90 rfl (lv_at hl 0 rfl) ?_
        refine gM_0_28 Z hP kf_X6_96 dX6_adds_91 ?_
        refine zr_top (w := .int (zI ((σ.1 4 : Nat) : Int))) rfl ?_
        refine zr_imul hx hb dX6_adds_94 ?_
        refine lv_lload_n hx hb dX6_adds_95 rfl (lv_at hl 1 rfl) ?_
        refine stL (ws1 := wM G q (sL (sA (sA (sI (sA (sA σ 0 (va_up (σ.2.1 0) (σ.1 4) (σ.1 0))) 1 (va_up (σ.2.1 1) (σ.1 4) (tmF σ td))) 0 (va_up (σ.2.2.1 0) (σ.1 4) (zI (0 : Int)))) 2 (va_up (σ.2.1 2) (σ.1 4) (1))) 3 (va_up (σ.2.1 3) (σ.1 4) (0))) 0 (va_up (σ.2.2.2 0) ((4 * σ.1 4)) (t))) κ) Z hP hD hS 1 (σ.2.2.2 0) rfl ((4 * σ.1 4)) (by omega) (by omega) (by decide) rfl dX6_adds_96 (fun H locs hP hD hS => ?_)
        refine lv_aload_n hx hb dX6_adds_97 rfl (lv_at hl 0 rfl) ?_
        refine lv_dup hx hb dX6_adds_98 rfl ?_
        refine gM_0_28 Z hP kf_X6_96 dX6_adds_99 ?_
        refine zr_top (w := .int (zI ((σ.1 4 : Nat) : Int))) rfl ?_
        refine zr_iconst hx hb dX6_adds_102 ?_
        refine zr_iadd hx hb dX6_adds_103 ?_
        refine pM_0_28 Z hP hD hS ((σ.1 4 + 1)) (by omega) kf_X6_96 dX6_adds_104 (fun H locs hP hD hS => ?_)
        exact zret_V () Z hr hP hD hS trivial rfl ⟨Nat.le_refl _, Nat.le_refl _⟩ hQ dX6_adds_107
      · skip
        refine lv_iload_n hx hb dX6_adds_46 rfl (lv_at hl 2 rfl) ?_
        refine lv_goto (tgt := 54) hx hb dX6_adds_47 (by decide) ?_
        refine stN (ws1 := wM G q (sA (sA σ 0 (va_up (σ.2.1 0) (σ.1 4) (σ.1 0))) 1 (va_up (σ.2.1 1) (σ.1 4) (tmF σ td))) κ) Z hP hD hS 5 (σ.2.1 1) rfl (σ.1 4) rfl (by omega) (by decide) (tmF σ td) (by unfold tmF; split <;> omega) rfl dX6_adds_54 (fun H locs hP hD hS => ?_)
        refine lv_aload_n hx hb dX6_adds_55 rfl (lv_at hl 0 rfl) ?_
        refine gM_0_5 Z hP kf_X6_26 dX6_adds_56 ?_
        refine lv_aload_n hx hb dX6_adds_59 rfl (lv_at hl 0 rfl) ?_
        refine gM_0_28 Z hP kf_X6_96 dX6_adds_60 ?_
        refine zr_top (w := .int (zI ((σ.1 4 : Nat) : Int))) rfl ?_
        refine zr_iconst hx hb dX6_adds_63 ?_
        refine stI (ws1 := wM G q (sI (sA (sA σ 0 (va_up (σ.2.1 0) (σ.1 4) (σ.1 0))) 1 (va_up (σ.2.1 1) (σ.1 4) (tmF σ td))) 0 (va_up (σ.2.2.1 0) (σ.1 4) (zI (0 : Int)))) κ) Z hP hD hS 6 (σ.2.2.1 0) rfl (σ.1 4) rfl (by omega) (by decide) rfl dX6_adds_64 (fun H locs hP hD hS => ?_)
        refine lv_aload_n hx hb dX6_adds_65 rfl (lv_at hl 0 rfl) ?_
        refine gM_0_6 Z hP kf_X6_29 dX6_adds_66 ?_
        refine lv_aload_n hx hb dX6_adds_69 rfl (lv_at hl 0 rfl) ?_
        refine gM_0_28 Z hP kf_X6_96 dX6_adds_70 ?_
        refine zr_top (w := .int (zI ((σ.1 4 : Nat) : Int))) rfl ?_
        refine zr_iconst hx hb dX6_adds_73 ?_
        refine stN (ws1 := wM G q (sA (sI (sA (sA σ 0 (va_up (σ.2.1 0) (σ.1 4) (σ.1 0))) 1 (va_up (σ.2.1 1) (σ.1 4) (tmF σ td))) 0 (va_up (σ.2.2.1 0) (σ.1 4) (zI (0 : Int)))) 2 (va_up (σ.2.1 2) (σ.1 4) (1))) κ) Z hP hD hS 7 (σ.2.1 2) rfl (σ.1 4) rfl (by omega) (by decide) (1) (by omega) rfl dX6_adds_74 (fun H locs hP hD hS => ?_)
        refine lv_aload_n hx hb dX6_adds_75 rfl (lv_at hl 0 rfl) ?_
        refine gM_0_7 Z hP kf_X6_32 dX6_adds_76 ?_
        refine lv_aload_n hx hb dX6_adds_79 rfl (lv_at hl 0 rfl) ?_
        refine gM_0_28 Z hP kf_X6_96 dX6_adds_80 ?_
        refine zr_top (w := .int (zI ((σ.1 4 : Nat) : Int))) rfl ?_
        refine zr_iconst hx hb dX6_adds_83 ?_
        refine stN (ws1 := wM G q (sA (sA (sI (sA (sA σ 0 (va_up (σ.2.1 0) (σ.1 4) (σ.1 0))) 1 (va_up (σ.2.1 1) (σ.1 4) (tmF σ td))) 0 (va_up (σ.2.2.1 0) (σ.1 4) (zI (0 : Int)))) 2 (va_up (σ.2.1 2) (σ.1 4) (1))) 3 (va_up (σ.2.1 3) (σ.1 4) (0))) κ) Z hP hD hS 8 (σ.2.1 3) rfl (σ.1 4) rfl (by omega) (by decide) (0) (by omega) rfl dX6_adds_84 (fun H locs hP hD hS => ?_)
        refine lv_aload_n hx hb dX6_adds_85 rfl (lv_at hl 0 rfl) ?_
        refine gM_0_0 Z hP kf_X6_7 dX6_adds_86 ?_
        refine zr_iconst hx hb dX6_adds_89 ?_
        refine lv_aload_n hx hb dX6_adds_90 rfl (lv_at hl 0 rfl) ?_
        refine gM_0_28 Z hP kf_X6_96 dX6_adds_91 ?_
        refine zr_top (w := .int (zI ((σ.1 4 : Nat) : Int))) rfl ?_
        refine zr_imul hx hb dX6_adds_94 ?_
        refine lv_lload_n hx hb dX6_adds_95 rfl (lv_at hl 1 rfl) ?_
        refine stL (ws1 := wM G q (sL (sA (sA (sI (sA (sA σ 0 (va_up (σ.2.1 0) (σ.1 4) (σ.1 0))) 1 (va_up (σ.2.1 1) (σ.1 4) (tmF σ td))) 0 (va_up (σ.2.2.1 0) (σ.1 4) (zI (0 : Int)))) 2 (va_up (σ.2.1 2) (σ.1 4) (1))) 3 (va_up (σ.2.1 3) (σ.1 4) (0))) 0 (va_up (σ.2.2.2 0) ((4 * σ.1 4)) (t))) κ) Z hP hD hS 1 (σ.2.2.2 0) rfl ((4 * σ.1 4)) (by omega) (by omega) (by decide) rfl dX6_adds_96 (fun H locs hP hD hS => ?_)
        refine lv_aload_n hx hb dX6_adds_97 rfl (lv_at hl 0 rfl) ?_
        refine lv_dup hx hb dX6_adds_98 rfl ?_
        refine gM_0_28 Z hP kf_X6_96 dX6_adds_99 ?_
        refine zr_top (w := .int (zI ((σ.1 4 : Nat) : Int))) rfl ?_
        refine zr_iconst hx hb dX6_adds_102 ?_
        refine zr_iadd hx hb dX6_adds_103 ?_
        refine pM_0_28 Z hP hD hS ((σ.1 4 + 1)) (by omega) kf_X6_96 dX6_adds_104 (fun H locs hP hD hS => ?_)
        exact zret_V () Z hr hP hD hS trivial rfl ⟨Nat.le_refl _, Nat.le_refl _⟩ hQ dX6_adds_107
abbrev r_X6_changes : Room := { frames := 2, cells := 0, slots := 0, locals := 46 }
set_option maxHeartbeats 4000000 in
set_option maxRecDepth 100000 in
theorem m_X6_changes (l : Launch) (G : ZG) (q : Nat → Nat) (σ : St) (κ : KM) {e_i : Int} (i : Nat) (he_i : e_i = (i : Int)) (t : Int64) (hI : okM σ) (h1 : i < σ.1 4) :
    MC l G yX6_changes (wY yX6_changes cX6_changes 4 none) r_X6_changes (wM G q σ κ) [.ref (q 0), .int (zI e_i), .long (t)] (QV G (fun (_ : Unit) => True) (fun _ => wM G q (chg σ i t) κ)) := by
  subst he_i
  refine MC.mk (by decide +kernel) (Nat.le_of_ble_eq_true rfl) ?_
  intro p e s m av below meth c A H locs ls Q Z hr hnm hQ hP hD hS hl
  have hx := Z.1
  have hb := Z.2.1
  have hown := Z.2.2.2.1
  have hW := Z.2.2.2.2.1
  have hl : lv_has ls 4 [(0, .ref (q 0)), (1, .int (zI ((i : Nat) : Int))), (2, .long (t))] := hl
  obtain ⟨hn, hru, hrv, hdv, hsr, hmn, ht1, ht2, hwn, hv1, hv2, hmj, htm, hse, htg, hrt, hac, hk1, hk2, hkd, hmm, hmv, hpp, hpl, hp3, hp4, hp6, hp5, hp7, hnz⟩ := id hI
  have hv9 := hv1 i h1
  have hv8 := hv2 i
  have hl9 := like_le (lat σ i) t
  refine lv_aload_n hx hb dX6_changes_0 rfl (lv_at hl 0 rfl) ?_
  refine lv_iload_n hx hb dX6_changes_1 rfl (lv_at hl 1 rfl) ?_
  refine zdet_L ⟨rfl, rfl⟩ Z hD hS (zrunV (rest := []) Z hP hD hS hl.1 (m_X6_latest l G q σ κ (i) rfl (by omega) (hv1 _ (by omega)) (hv2 _)) zY_X6_latest km_X6_145 (q0 := 0) rfl rfl rfl rfl ⟨⟨Nat.le_of_ble_eq_true rfl, Nat.le_of_ble_eq_true rfl⟩, Nat.le_of_ble_eq_true rfl, Nat.le_of_ble_eq_true rfl⟩ (Nat.le_of_ble_eq_true rfl) dX6_changes_2) (fun H locs hP hD hS => ?_)
  refine lv_lload_n hx hb dX6_changes_5 rfl (lv_at hl 2 rfl) ?_
  refine zl_ne (tgt := 11) hx hb dX6_changes_6 dX6_changes_7 (by decide) (fun c6 => ?_) (fun c6 => ?_)
  · skip
    refine lv_aload_n hx hb dX6_changes_11 rfl (lv_at hl 0 rfl) ?_
    refine lv_iload_n hx hb dX6_changes_12 rfl (lv_at hl 1 rfl) ?_
    refine zdet_L ⟨rfl, rfl⟩ Z hD hS (zrunV (rest := []) Z hP hD hS hl.1 (m_X6_latest l G q σ κ (i) rfl (by omega) (hv1 _ (by omega)) (hv2 _)) zY_X6_latest km_X6_145 (q0 := 0) rfl rfl rfl rfl ⟨⟨Nat.le_of_ble_eq_true rfl, Nat.le_of_ble_eq_true rfl⟩, Nat.le_of_ble_eq_true rfl, Nat.le_of_ble_eq_true rfl⟩ (Nat.le_of_ble_eq_true rfl) dX6_changes_13) (fun H locs hP hD hS => ?_)
    refine lv_lload_n hx hb dX6_changes_16 rfl (lv_at hl 2 rfl) ?_
    refine zdet_I ⟨rfl, rfl⟩ Z hD hS (zrunS (rest := []) Z hP hD hS hl.1 (m_X6_likenessOf l G (wM G q σ κ) (lat σ i) (t) (Or.inl (hnz _ h1))) zY_X6_likenessOf km_X6_141 rfl rfl ⟨⟨Nat.le_of_ble_eq_true rfl, Nat.le_of_ble_eq_true rfl⟩, Nat.le_of_ble_eq_true rfl, Nat.le_of_ble_eq_true rfl⟩ (Nat.le_of_ble_eq_true rfl) dX6_changes_17) (fun H locs hP hD hS => ?_)
    refine lv_aload_n hx hb dX6_changes_20 rfl (lv_at hl 0 rfl) ?_
    refine gM_0_25 Z hP kf_X6_87 dX6_changes_21 ?_
    refine zc_ge (tgt := 39) hx hb ((like ((lat σ i)) ((t)) : Nat) : Int) ((σ.1 1 : Nat) : Int) (zI_toInt (by omega)) (zI_toInt (by omega)) dX6_changes_24 (by decide) (fun c24 => ?_) (fun c24 => ?_)
    · skip
      refine lv_aload_n hx hb dX6_changes_39 rfl (lv_at hl 0 rfl) ?_
      refine gM_0_6 Z hP kf_X6_29 dX6_changes_40 ?_
      refine lv_iload_n hx hb dX6_changes_43 rfl (lv_at hl 1 rfl) ?_
      refine lv_dup2_11 hx hb dX6_changes_44 rfl rfl ?_
      refine ldN Z hP 7 (σ.2.1 2) rfl (i) rfl (by omega) (by decide) dX6_changes_45 ?_
      refine zr_iconst hx hb dX6_changes_46 ?_
      refine zr_iadd hx hb dX6_changes_47 ?_
      refine stN (ws1 := wM G q (sA σ 2 (va_up (σ.2.1 2) (i) (((σ.2.1 2) (i) + 1)))) κ) Z hP hD hS 7 (σ.2.1 2) rfl (i) rfl (by omega) (by decide) (((σ.2.1 2) (i) + 1)) (by omega) rfl dX6_changes_48 (fun H locs hP hD hS => ?_)
      refine lv_aload_n hx hb dX6_changes_49 rfl (lv_at hl 0 rfl) ?_
      refine gM_0_0 Z hP kf_X6_7 dX6_changes_50 ?_
      refine zr_iconst hx hb dX6_changes_53 ?_
      refine lv_iload_n hx hb dX6_changes_54 rfl (lv_at hl 1 rfl) ?_
      refine zr_imul hx hb dX6_changes_55 ?_
      refine lv_aload_n hx hb dX6_changes_56 rfl (lv_at hl 0 rfl) ?_
      refine gM_0_6 Z hP kf_X6_29 dX6_changes_57 ?_
      refine lv_iload_n hx hb dX6_changes_60 rfl (lv_at hl 1 rfl) ?_
      refine ldN Z hP 7 (va_up (σ.2.1 2) (i) (((σ.2.1 2) (i) + 1))) rfl (i) rfl (by omega) (by decide) dX6_changes_61 ?_
      refine zr_top (w := .int (zI ((σ.2.1 2 i + 1 : Nat) : Int))) (by rw [va_up_self]) ?_
      refine zr_iconst hx hb dX6_changes_62 ?_
      refine zr_isub hx hb dX6_changes_63 ?_
      refine zr_iconst hx hb dX6_changes_64 ?_
      refine zr_irem hx hb (by omega) dX6_changes_65 ?_
      refine zr_iadd hx hb dX6_changes_66 ?_
      refine lv_lload_n hx hb dX6_changes_67 rfl (lv_at hl 2 rfl) ?_
      refine stL (ws1 := wM G q (sL (sA σ 2 (va_up (σ.2.1 2) (i) (((σ.2.1 2) (i) + 1)))) 0 (va_up (σ.2.2.2 0) (4 * i + σ.2.1 2 i % 4) (t))) κ) Z hP hD hS 1 (σ.2.2.2 0) rfl (4 * i + σ.2.1 2 i % 4) (by omega) (by omega) (by decide) rfl dX6_changes_68 (fun H locs hP hD hS => ?_)
      exact zret_V () Z hr hP hD hS trivial (by rw [chg, if_neg c6, if_neg (by omega)]) ⟨Nat.le_refl _, Nat.le_refl _⟩ hQ dX6_changes_69
    · skip
      refine lv_aload_n hx hb dX6_changes_27 rfl (lv_at hl 0 rfl) ?_
      refine gM_0_7 Z hP kf_X6_32 dX6_changes_28 ?_
      refine lv_iload_n hx hb dX6_changes_31 rfl (lv_at hl 1 rfl) ?_
      refine lv_aload_n hx hb dX6_changes_32 rfl (lv_at hl 0 rfl) ?_
      refine gM_0_6 Z hP kf_X6_29 dX6_changes_33 ?_
      refine lv_iload_n hx hb dX6_changes_36 rfl (lv_at hl 1 rfl) ?_
      refine ldN Z hP 7 (σ.2.1 2) rfl (i) rfl (by omega) (by decide) dX6_changes_37 ?_
      refine stN (ws1 := wM G q (sA σ 3 (va_up (σ.2.1 3) (i) ((σ.2.1 2) (i)))) κ) Z hP hD hS 8 (σ.2.1 3) rfl (i) rfl (by omega) (by decide) ((σ.2.1 2) (i)) rfl rfl dX6_changes_38 (fun H locs hP hD hS => ?_)
      refine lv_aload_n hx hb dX6_changes_39 rfl (lv_at hl 0 rfl) ?_
      refine gM_0_6 Z hP kf_X6_29 dX6_changes_40 ?_
      refine lv_iload_n hx hb dX6_changes_43 rfl (lv_at hl 1 rfl) ?_
      refine lv_dup2_11 hx hb dX6_changes_44 rfl rfl ?_
      refine ldN Z hP 7 (σ.2.1 2) rfl (i) rfl (by omega) (by decide) dX6_changes_45 ?_
      refine zr_iconst hx hb dX6_changes_46 ?_
      refine zr_iadd hx hb dX6_changes_47 ?_
      refine stN (ws1 := wM G q (sA (sA σ 3 (va_up (σ.2.1 3) (i) ((σ.2.1 2) (i)))) 2 (va_up (σ.2.1 2) (i) (((σ.2.1 2) (i) + 1)))) κ) Z hP hD hS 7 (σ.2.1 2) rfl (i) rfl (by omega) (by decide) (((σ.2.1 2) (i) + 1)) (by omega) rfl dX6_changes_48 (fun H locs hP hD hS => ?_)
      refine lv_aload_n hx hb dX6_changes_49 rfl (lv_at hl 0 rfl) ?_
      refine gM_0_0 Z hP kf_X6_7 dX6_changes_50 ?_
      refine zr_iconst hx hb dX6_changes_53 ?_
      refine lv_iload_n hx hb dX6_changes_54 rfl (lv_at hl 1 rfl) ?_
      refine zr_imul hx hb dX6_changes_55 ?_
      refine lv_aload_n hx hb dX6_changes_56 rfl (lv_at hl 0 rfl) ?_
      refine gM_0_6 Z hP kf_X6_29 dX6_changes_57 ?_
      refine lv_iload_n hx hb dX6_changes_60 rfl (lv_at hl 1 rfl) ?_
      refine ldN Z hP 7 (va_up (σ.2.1 2) (i) (((σ.2.1 2) (i) + 1))) rfl (i) rfl (by omega) (by decide) dX6_changes_61 ?_
      refine zr_top (w := .int (zI ((σ.2.1 2 i + 1 : Nat) : Int))) (by rw [va_up_self]) ?_
      refine zr_iconst hx hb dX6_changes_62 ?_
      refine zr_isub hx hb dX6_changes_63 ?_
      refine zr_iconst hx hb dX6_changes_64 ?_
      refine zr_irem hx hb (by omega) dX6_changes_65 ?_
      refine zr_iadd hx hb dX6_changes_66 ?_
      refine lv_lload_n hx hb dX6_changes_67 rfl (lv_at hl 2 rfl) ?_
      refine stL (ws1 := wM G q (sL (sA (sA σ 3 (va_up (σ.2.1 3) (i) ((σ.2.1 2) (i)))) 2 (va_up (σ.2.1 2) (i) (((σ.2.1 2) (i) + 1)))) 0 (va_up (σ.2.2.2 0) (4 * i + σ.2.1 2 i % 4) (t))) κ) Z hP hD hS 1 (σ.2.2.2 0) rfl (4 * i + σ.2.1 2 i % 4) (by omega) (by omega) (by decide) rfl dX6_changes_68 (fun H locs hP hD hS => ?_)
      exact zret_V () Z hr hP hD hS trivial (by rw [chg, if_neg c6, if_pos (by omega)]) ⟨Nat.le_refl _, Nat.le_refl _⟩ hQ dX6_changes_69
  · skip
    exact zret_V () Z hr hP hD hS trivial (by rw [chg, if_pos c6]) ⟨Nat.le_refl _, Nat.le_refl _⟩ hQ dX6_changes_10
abbrev r_X6_holds : Room := { frames := 1, cells := 0, slots := 0, locals := 21 }
set_option maxHeartbeats 4000000 in
set_option maxRecDepth 100000 in
theorem m_X6_holds (l : Launch) (G : ZG) (q : Nat → Nat) (σ : St) (κ : KM) {e_r : Int} (r : Nat) (he_r : e_r = (r : Int)) {e_i : Int} (i : Nat) (he_i : e_i = (i : Int)) (hI : okM σ) (h1 : r < 6) (h2 : i < σ.1 4) :
    MC l G yX6_holds (wY yX6_holds cX6_holds 7 (some .boolean)) r_X6_holds (wM G q σ κ) [.ref (q 0), .int (zI e_r), .int (zI e_i)] (QI G (fun r9 (_ : Unit) => r9 = (tB (hold σ r (lat σ i) ((σ.2.2.1 0) i) κ.2.1))) (fun _ => wM G q σ κ)) := by
  subst he_r
  subst he_i
  refine MC.mk (by decide +kernel) (Nat.le_of_ble_eq_true rfl) ?_
  intro p e s m av below meth c A H locs ls Q Z hr hnm hQ hP hD hS hl
  have hx := Z.1
  have hb := Z.2.1
  have hown := Z.2.2.2.1
  have hW := Z.2.2.2.2.1
  have hl : lv_has ls 7 [(0, .ref (q 0)), (1, .int (zI ((r : Nat) : Int))), (2, .int (zI ((i : Nat) : Int)))] := hl
  obtain ⟨hn, hru, hrv, hdv, hsr, hmn, ht1, ht2, hwn, hv1, hv2, hmj, htm, hse, htg, hrt, hac, hk1, hk2, hkd, hmm, hmv, hpp, hpl, hp3, hp4, hp6, hp5, hp7, hnz⟩ := id hI
  have hg9 := htg r
  have hB : σ.2.1 18 r ≠ 0 → ((κ.2.1 >>> (zI (((σ.2.1 18 r : Nat) : Int) - (1 : Int)) &&& 31)) &&& zI (1 : Int) = zI (1 : Int) ↔ tb κ.2.1 (σ.2.1 18 r - 1) = true) := by
    intro hx0
    have h8 : ((σ.2.1 18 r : Nat) : Int) - 1 = ((σ.2.1 18 r - 1 : Nat) : Int) := by omega
    rw [h8]; exact tb_shr _ _ (by omega)
  refine lv_aload_n hx hb dX6_holds_0 rfl (lv_at hl 0 rfl) ?_
  refine lv_iload_n hx hb dX6_holds_1 rfl (lv_at hl 2 rfl) ?_
  refine zdet_L ⟨rfl, rfl⟩ Z hD hS (zrunV (rest := []) Z hP hD hS hl.1 (m_X6_latest l G q σ κ (i) rfl (by omega) (hv1 _ (by omega)) (hv2 _)) zY_X6_latest km_X6_145 (q0 := 0) rfl rfl rfl rfl ⟨⟨Nat.le_of_ble_eq_true rfl, Nat.le_of_ble_eq_true rfl⟩, Nat.le_of_ble_eq_true rfl, Nat.le_of_ble_eq_true rfl⟩ (Nat.le_of_ble_eq_true rfl) dX6_holds_2) (fun H locs hP hD hS => ?_)
  refine lv_lstore_n (lv' := [(3, .long (lat σ i)), (0, .ref (q 0)), (1, .int (zI ((r : Nat) : Int))), (2, .int (zI ((i : Nat) : Int)))]) hx hb dX6_holds_5 rfl hl (by decide) rfl (fun ls hl => ?_)
  refine lv_lload_n hx hb dX6_holds_6 rfl (lv_at hl 0 rfl) ?_
  refine lv_aload_n hx hb dX6_holds_7 rfl (lv_at hl 1 rfl) ?_
  refine gM_0_1 Z hP kf_X6_13 dX6_holds_8 ?_
  refine lv_iload_n hx hb dX6_holds_11 rfl (lv_at hl 2 rfl) ?_
  refine ldL Z hP 2 (σ.2.2.2 1) rfl (r) rfl (by omega) (by decide) dX6_holds_12 ?_
  refine lv_land hx hb dX6_holds_13 ?_
  refine lv_aload_n hx hb dX6_holds_14 rfl (lv_at hl 1 rfl) ?_
  refine gM_0_1 Z hP kf_X6_13 dX6_holds_15 ?_
  refine lv_iload_n hx hb dX6_holds_18 rfl (lv_at hl 2 rfl) ?_
  refine ldL Z hP 2 (σ.2.2.2 1) rfl (r) rfl (by omega) (by decide) dX6_holds_19 ?_
  refine zl_ne (tgt := 52) hx hb dX6_holds_20 dX6_holds_21 (by decide) (fun c20 => ?_) (fun c20 => ?_)
  · skip
    refine zr_iconst hx hb dX6_holds_52 ?_
    refine lv_istore (lv' := [(5, .int (zI (0 : Int))), (3, .long (lat σ i)), (0, .ref (q 0)), (1, .int (zI ((r : Nat) : Int))), (2, .int (zI ((i : Nat) : Int)))]) hx hb dX6_holds_53 hl (by decide) rfl (fun ls hl => ?_)
    refine lv_aload_n hx hb dX6_holds_55 rfl (lv_at hl 2 rfl) ?_
    refine gM_0_13 Z hP kf_X6_50 dX6_holds_56 ?_
    refine lv_iload_n hx hb dX6_holds_59 rfl (lv_at hl 3 rfl) ?_
    refine ldI Z hP 14 (σ.2.2.1 1) rfl (r) rfl (by omega) (by decide) dX6_holds_60 ?_
    refine lv_if_eq (tgt := 80) hx hb dX6_holds_61 (by decide) (fun c61 => ?_) (fun c61 => ?_)
    · skip
      refine zr_iconst hx hb dX6_holds_80 ?_
      refine lv_goto (tgt := 85) hx hb dX6_holds_81 (by decide) ?_
      refine lv_istore (lv' := [(6, .int (zI (1 : Int))), (5, .int (zI (0 : Int))), (3, .long (lat σ i)), (0, .ref (q 0)), (1, .int (zI ((r : Nat) : Int))), (2, .int (zI ((i : Nat) : Int)))]) hx hb dX6_holds_85 hl (by decide) rfl (fun ls hl => ?_)
      refine lv_iload hx hb dX6_holds_87 (lv_at hl 1 rfl) ?_
      refine zc0_eq (tgt := 128) hx hb (0 : Int) (zI_toInt (by decide)) dX6_holds_89 (by decide) (fun c89 => ?_) (fun c89 => by exfalso; omega)
      refine zr_iconst hx hb dX6_holds_128 ?_
      exact zret_B () Z hr (by decide +kernel) hP hD hS (tB_0 (by
          unfold hold; simp [c20, c61])) rfl ⟨Nat.le_refl _, Nat.le_refl _⟩ hQ dX6_holds_129
    · skip
      refine lv_aload_n hx hb dX6_holds_64 rfl (lv_at hl 2 rfl) ?_
      refine gM_0_5 Z hP kf_X6_26 dX6_holds_65 ?_
      refine lv_iload_n hx hb dX6_holds_68 rfl (lv_at hl 4 rfl) ?_
      refine ldI Z hP 6 (σ.2.2.1 0) rfl (i) rfl (by omega) (by decide) dX6_holds_69 ?_
      refine lv_aload_n hx hb dX6_holds_70 rfl (lv_at hl 2 rfl) ?_
      refine gM_0_13 Z hP kf_X6_50 dX6_holds_71 ?_
      refine lv_iload_n hx hb dX6_holds_74 rfl (lv_at hl 3 rfl) ?_
      refine ldI Z hP 14 (σ.2.2.1 1) rfl (r) rfl (by omega) (by decide) dX6_holds_75 ?_
      refine lv_iand hx hb dX6_holds_76 ?_
      refine lv_if_eq (tgt := 84) hx hb dX6_holds_77 (by decide) (fun c77 => ?_) (fun c77 => ?_)
      · skip
        refine zr_iconst hx hb dX6_holds_84 ?_
        refine lv_istore (lv' := [(6, .int (zI (0 : Int))), (5, .int (zI (0 : Int))), (3, .long (lat σ i)), (0, .ref (q 0)), (1, .int (zI ((r : Nat) : Int))), (2, .int (zI ((i : Nat) : Int)))]) hx hb dX6_holds_85 hl (by decide) rfl (fun ls hl => ?_)
        refine lv_iload hx hb dX6_holds_87 (lv_at hl 1 rfl) ?_
        refine zc0_eq (tgt := 128) hx hb (0 : Int) (zI_toInt (by decide)) dX6_holds_89 (by decide) (fun c89 => ?_) (fun c89 => by exfalso; omega)
        refine zr_iconst hx hb dX6_holds_128 ?_
        exact zret_B () Z hr (by decide +kernel) hP hD hS (tB_0 (by
            unfold hold; simp [c20, c61, c77])) rfl ⟨Nat.le_refl _, Nat.le_refl _⟩ hQ dX6_holds_129
      · skip
        refine zr_iconst hx hb dX6_holds_80 ?_
        refine lv_goto (tgt := 85) hx hb dX6_holds_81 (by decide) ?_
        refine lv_istore (lv' := [(6, .int (zI (1 : Int))), (5, .int (zI (0 : Int))), (3, .long (lat σ i)), (0, .ref (q 0)), (1, .int (zI ((r : Nat) : Int))), (2, .int (zI ((i : Nat) : Int)))]) hx hb dX6_holds_85 hl (by decide) rfl (fun ls hl => ?_)
        refine lv_iload hx hb dX6_holds_87 (lv_at hl 1 rfl) ?_
        refine zc0_eq (tgt := 128) hx hb (0 : Int) (zI_toInt (by decide)) dX6_holds_89 (by decide) (fun c89 => ?_) (fun c89 => by exfalso; omega)
        refine zr_iconst hx hb dX6_holds_128 ?_
        exact zret_B () Z hr (by decide +kernel) hP hD hS (tB_0 (by
            unfold hold; simp [c20, c61, c77])) rfl ⟨Nat.le_refl _, Nat.le_refl _⟩ hQ dX6_holds_129
  · skip
    refine lv_aload_n hx hb dX6_holds_24 rfl (lv_at hl 1 rfl) ?_
    refine gM_0_2 Z hP kf_X6_16 dX6_holds_25 ?_
    refine lv_iload_n hx hb dX6_holds_28 rfl (lv_at hl 2 rfl) ?_
    refine ldL Z hP 3 (σ.2.2.2 2) rfl (r) rfl (by omega) (by decide) dX6_holds_29 ?_
    refine lv_lconst (v := 0) hx hb dX6_holds_30 (by decide) ?_
    refine zl_eq (tgt := 48) hx hb dX6_holds_31 dX6_holds_32 (by decide) (fun c31 => ?_) (fun c31 => ?_)
    · skip
      refine zr_iconst hx hb dX6_holds_48 ?_
      refine lv_goto (tgt := 53) hx hb dX6_holds_49 (by decide) ?_
      refine lv_istore (lv' := [(5, .int (zI (1 : Int))), (3, .long (lat σ i)), (0, .ref (q 0)), (1, .int (zI ((r : Nat) : Int))), (2, .int (zI ((i : Nat) : Int)))]) hx hb dX6_holds_53 hl (by decide) rfl (fun ls hl => ?_)
      refine lv_aload_n hx hb dX6_holds_55 rfl (lv_at hl 2 rfl) ?_
      refine gM_0_13 Z hP kf_X6_50 dX6_holds_56 ?_
      refine lv_iload_n hx hb dX6_holds_59 rfl (lv_at hl 3 rfl) ?_
      refine ldI Z hP 14 (σ.2.2.1 1) rfl (r) rfl (by omega) (by decide) dX6_holds_60 ?_
      refine lv_if_eq (tgt := 80) hx hb dX6_holds_61 (by decide) (fun c61 => ?_) (fun c61 => ?_)
      · skip
        refine zr_iconst hx hb dX6_holds_80 ?_
        refine lv_goto (tgt := 85) hx hb dX6_holds_81 (by decide) ?_
        refine lv_istore (lv' := [(6, .int (zI (1 : Int))), (5, .int (zI (1 : Int))), (3, .long (lat σ i)), (0, .ref (q 0)), (1, .int (zI ((r : Nat) : Int))), (2, .int (zI ((i : Nat) : Int)))]) hx hb dX6_holds_85 hl (by decide) rfl (fun ls hl => ?_)
        refine lv_iload hx hb dX6_holds_87 (lv_at hl 1 rfl) ?_
        refine zc0_eq (tgt := 128) hx hb (1 : Int) (zI_toInt (by decide)) dX6_holds_89 (by decide) (fun c89 => by exfalso; omega) (fun c89 => ?_)
        refine lv_iload hx hb dX6_holds_92 (lv_at hl 0 rfl) ?_
        refine zc0_eq (tgt := 128) hx hb (1 : Int) (zI_toInt (by decide)) dX6_holds_94 (by decide) (fun c94 => by exfalso; omega) (fun c94 => ?_)
        refine lv_aload_n hx hb dX6_holds_97 rfl (lv_at hl 3 rfl) ?_
        refine gM_0_14 Z hP kf_X6_53 dX6_holds_98 ?_
        refine lv_iload_n hx hb dX6_holds_101 rfl (lv_at hl 4 rfl) ?_
        refine ldM Z hP 15 (σ.2.1 18) rfl (r) rfl (by omega) (by decide) dX6_holds_102 ?_
        refine zr_iconst hx hb dX6_holds_103 ?_
        refine zc_eq (tgt := 124) hx hb ((((σ.2.1 18) (r) : Nat) : Int) - (1 : Int)) (-1 : Int) (zI_toInt (by omega)) (zI_toInt (by decide)) dX6_holds_104 (by decide) (fun c104 => ?_) (fun c104 => ?_)
        · skip
          refine zr_iconst hx hb dX6_holds_124 ?_
          refine lv_goto (tgt := 129) hx hb dX6_holds_125 (by decide) ?_
          exact zret_B () Z hr (by decide +kernel) hP hD hS (tB_1 (by
              have h8 : σ.2.1 18 r = 0 := by omega
              unfold hold; simp [c20, c31, c61, h8])) rfl ⟨Nat.le_refl _, Nat.le_refl _⟩ hQ dX6_holds_129
        · skip
          refine lv_aload_n hx hb dX6_holds_107 rfl (lv_at hl 3 rfl) ?_
          refine gM_0_34 Z hP kf_X6_114 dX6_holds_108 ?_
          refine lv_aload_n hx hb dX6_holds_111 rfl (lv_at hl 3 rfl) ?_
          refine gM_0_14 Z hP kf_X6_53 dX6_holds_112 ?_
          refine lv_iload_n hx hb dX6_holds_115 rfl (lv_at hl 4 rfl) ?_
          refine ldM Z hP 15 (σ.2.1 18) rfl (r) rfl (by omega) (by decide) dX6_holds_116 ?_
          refine lv_ishr hx hb dX6_holds_117 ?_
          refine zr_iconst hx hb dX6_holds_118 ?_
          refine lv_iand hx hb dX6_holds_119 ?_
          refine zr_iconst hx hb dX6_holds_120 ?_
          refine lv_icmp_ne (tgt := 128) hx hb dX6_holds_121 (by decide) (fun c121 => ?_) (fun c121 => ?_)
          · skip
            refine zr_iconst hx hb dX6_holds_128 ?_
            exact zret_B () Z hr (by decide +kernel) hP hD hS (tB_0 (by
                have h8 : σ.2.1 18 r ≠ 0 := by omega
                have h9 : tb κ.2.1 (σ.2.1 18 r - 1) = false := by
                  cases h7 : tb κ.2.1 (σ.2.1 18 r - 1) with
                  | false => rfl
                  | true => exact absurd ((hB h8).mpr h7) c121
                unfold hold; simp [c20, c31, c61, h8, h9])) rfl ⟨Nat.le_refl _, Nat.le_refl _⟩ hQ dX6_holds_129
          · skip
            refine zr_iconst hx hb dX6_holds_124 ?_
            refine lv_goto (tgt := 129) hx hb dX6_holds_125 (by decide) ?_
            exact zret_B () Z hr (by decide +kernel) hP hD hS (tB_1 (by
                have h8 : σ.2.1 18 r ≠ 0 := by omega
                have h9 : tb κ.2.1 (σ.2.1 18 r - 1) = true := by
                  exact (hB h8).mp c121
                unfold hold; simp [c20, c31, c61, h8, h9])) rfl ⟨Nat.le_refl _, Nat.le_refl _⟩ hQ dX6_holds_129
      · skip
        refine lv_aload_n hx hb dX6_holds_64 rfl (lv_at hl 2 rfl) ?_
        refine gM_0_5 Z hP kf_X6_26 dX6_holds_65 ?_
        refine lv_iload_n hx hb dX6_holds_68 rfl (lv_at hl 4 rfl) ?_
        refine ldI Z hP 6 (σ.2.2.1 0) rfl (i) rfl (by omega) (by decide) dX6_holds_69 ?_
        refine lv_aload_n hx hb dX6_holds_70 rfl (lv_at hl 2 rfl) ?_
        refine gM_0_13 Z hP kf_X6_50 dX6_holds_71 ?_
        refine lv_iload_n hx hb dX6_holds_74 rfl (lv_at hl 3 rfl) ?_
        refine ldI Z hP 14 (σ.2.2.1 1) rfl (r) rfl (by omega) (by decide) dX6_holds_75 ?_
        refine lv_iand hx hb dX6_holds_76 ?_
        refine lv_if_eq (tgt := 84) hx hb dX6_holds_77 (by decide) (fun c77 => ?_) (fun c77 => ?_)
        · skip
          refine zr_iconst hx hb dX6_holds_84 ?_
          refine lv_istore (lv' := [(6, .int (zI (0 : Int))), (5, .int (zI (1 : Int))), (3, .long (lat σ i)), (0, .ref (q 0)), (1, .int (zI ((r : Nat) : Int))), (2, .int (zI ((i : Nat) : Int)))]) hx hb dX6_holds_85 hl (by decide) rfl (fun ls hl => ?_)
          refine lv_iload hx hb dX6_holds_87 (lv_at hl 1 rfl) ?_
          refine zc0_eq (tgt := 128) hx hb (1 : Int) (zI_toInt (by decide)) dX6_holds_89 (by decide) (fun c89 => by exfalso; omega) (fun c89 => ?_)
          refine lv_iload hx hb dX6_holds_92 (lv_at hl 0 rfl) ?_
          refine zc0_eq (tgt := 128) hx hb (0 : Int) (zI_toInt (by decide)) dX6_holds_94 (by decide) (fun c94 => ?_) (fun c94 => by exfalso; omega)
          refine zr_iconst hx hb dX6_holds_128 ?_
          exact zret_B () Z hr (by decide +kernel) hP hD hS (tB_0 (by
              unfold hold; simp [c20, c31, c61, c77])) rfl ⟨Nat.le_refl _, Nat.le_refl _⟩ hQ dX6_holds_129
        · skip
          refine zr_iconst hx hb dX6_holds_80 ?_
          refine lv_goto (tgt := 85) hx hb dX6_holds_81 (by decide) ?_
          refine lv_istore (lv' := [(6, .int (zI (1 : Int))), (5, .int (zI (1 : Int))), (3, .long (lat σ i)), (0, .ref (q 0)), (1, .int (zI ((r : Nat) : Int))), (2, .int (zI ((i : Nat) : Int)))]) hx hb dX6_holds_85 hl (by decide) rfl (fun ls hl => ?_)
          refine lv_iload hx hb dX6_holds_87 (lv_at hl 1 rfl) ?_
          refine zc0_eq (tgt := 128) hx hb (1 : Int) (zI_toInt (by decide)) dX6_holds_89 (by decide) (fun c89 => by exfalso; omega) (fun c89 => ?_)
          refine lv_iload hx hb dX6_holds_92 (lv_at hl 0 rfl) ?_
          refine zc0_eq (tgt := 128) hx hb (1 : Int) (zI_toInt (by decide)) dX6_holds_94 (by decide) (fun c94 => by exfalso; omega) (fun c94 => ?_)
          refine lv_aload_n hx hb dX6_holds_97 rfl (lv_at hl 3 rfl) ?_
          refine gM_0_14 Z hP kf_X6_53 dX6_holds_98 ?_
          refine lv_iload_n hx hb dX6_holds_101 rfl (lv_at hl 4 rfl) ?_
          refine ldM Z hP 15 (σ.2.1 18) rfl (r) rfl (by omega) (by decide) dX6_holds_102 ?_
          refine zr_iconst hx hb dX6_holds_103 ?_
          refine zc_eq (tgt := 124) hx hb ((((σ.2.1 18) (r) : Nat) : Int) - (1 : Int)) (-1 : Int) (zI_toInt (by omega)) (zI_toInt (by decide)) dX6_holds_104 (by decide) (fun c104 => ?_) (fun c104 => ?_)
          · skip
            refine zr_iconst hx hb dX6_holds_124 ?_
            refine lv_goto (tgt := 129) hx hb dX6_holds_125 (by decide) ?_
            exact zret_B () Z hr (by decide +kernel) hP hD hS (tB_1 (by
                have h8 : σ.2.1 18 r = 0 := by omega
                unfold hold; simp [c20, c31, c61, c77, h8])) rfl ⟨Nat.le_refl _, Nat.le_refl _⟩ hQ dX6_holds_129
          · skip
            refine lv_aload_n hx hb dX6_holds_107 rfl (lv_at hl 3 rfl) ?_
            refine gM_0_34 Z hP kf_X6_114 dX6_holds_108 ?_
            refine lv_aload_n hx hb dX6_holds_111 rfl (lv_at hl 3 rfl) ?_
            refine gM_0_14 Z hP kf_X6_53 dX6_holds_112 ?_
            refine lv_iload_n hx hb dX6_holds_115 rfl (lv_at hl 4 rfl) ?_
            refine ldM Z hP 15 (σ.2.1 18) rfl (r) rfl (by omega) (by decide) dX6_holds_116 ?_
            refine lv_ishr hx hb dX6_holds_117 ?_
            refine zr_iconst hx hb dX6_holds_118 ?_
            refine lv_iand hx hb dX6_holds_119 ?_
            refine zr_iconst hx hb dX6_holds_120 ?_
            refine lv_icmp_ne (tgt := 128) hx hb dX6_holds_121 (by decide) (fun c121 => ?_) (fun c121 => ?_)
            · skip
              refine zr_iconst hx hb dX6_holds_128 ?_
              exact zret_B () Z hr (by decide +kernel) hP hD hS (tB_0 (by
                  have h8 : σ.2.1 18 r ≠ 0 := by omega
                  have h9 : tb κ.2.1 (σ.2.1 18 r - 1) = false := by
                    cases h7 : tb κ.2.1 (σ.2.1 18 r - 1) with
                    | false => rfl
                    | true => exact absurd ((hB h8).mpr h7) c121
                  unfold hold; simp [c20, c31, c61, c77, h8, h9])) rfl ⟨Nat.le_refl _, Nat.le_refl _⟩ hQ dX6_holds_129
            · skip
              refine zr_iconst hx hb dX6_holds_124 ?_
              refine lv_goto (tgt := 129) hx hb dX6_holds_125 (by decide) ?_
              exact zret_B () Z hr (by decide +kernel) hP hD hS (tB_1 (by
                  have h8 : σ.2.1 18 r ≠ 0 := by omega
                  have h9 : tb κ.2.1 (σ.2.1 18 r - 1) = true := by
                    exact (hB h8).mp c121
                  unfold hold; simp [c20, c31, c61, c77, h8, h9])) rfl ⟨Nat.le_refl _, Nat.le_refl _⟩ hQ dX6_holds_129
    · skip
      refine lv_lload_n hx hb dX6_holds_35 rfl (lv_at hl 0 rfl) ?_
      refine lv_aload_n hx hb dX6_holds_36 rfl (lv_at hl 1 rfl) ?_
      refine gM_0_2 Z hP kf_X6_16 dX6_holds_37 ?_
      refine lv_iload_n hx hb dX6_holds_40 rfl (lv_at hl 2 rfl) ?_
      refine ldL Z hP 3 (σ.2.2.2 2) rfl (r) rfl (by omega) (by decide) dX6_holds_41 ?_
      refine lv_land hx hb dX6_holds_42 ?_
      refine lv_lconst (v := 0) hx hb dX6_holds_43 (by decide) ?_
      refine zl_eq (tgt := 52) hx hb dX6_holds_44 dX6_holds_45 (by decide) (fun c44 => ?_) (fun c44 => ?_)
      · skip
        refine zr_iconst hx hb dX6_holds_52 ?_
        refine lv_istore (lv' := [(5, .int (zI (0 : Int))), (3, .long (lat σ i)), (0, .ref (q 0)), (1, .int (zI ((r : Nat) : Int))), (2, .int (zI ((i : Nat) : Int)))]) hx hb dX6_holds_53 hl (by decide) rfl (fun ls hl => ?_)
        refine lv_aload_n hx hb dX6_holds_55 rfl (lv_at hl 2 rfl) ?_
        refine gM_0_13 Z hP kf_X6_50 dX6_holds_56 ?_
        refine lv_iload_n hx hb dX6_holds_59 rfl (lv_at hl 3 rfl) ?_
        refine ldI Z hP 14 (σ.2.2.1 1) rfl (r) rfl (by omega) (by decide) dX6_holds_60 ?_
        refine lv_if_eq (tgt := 80) hx hb dX6_holds_61 (by decide) (fun c61 => ?_) (fun c61 => ?_)
        · skip
          refine zr_iconst hx hb dX6_holds_80 ?_
          refine lv_goto (tgt := 85) hx hb dX6_holds_81 (by decide) ?_
          refine lv_istore (lv' := [(6, .int (zI (1 : Int))), (5, .int (zI (0 : Int))), (3, .long (lat σ i)), (0, .ref (q 0)), (1, .int (zI ((r : Nat) : Int))), (2, .int (zI ((i : Nat) : Int)))]) hx hb dX6_holds_85 hl (by decide) rfl (fun ls hl => ?_)
          refine lv_iload hx hb dX6_holds_87 (lv_at hl 1 rfl) ?_
          refine zc0_eq (tgt := 128) hx hb (0 : Int) (zI_toInt (by decide)) dX6_holds_89 (by decide) (fun c89 => ?_) (fun c89 => by exfalso; omega)
          refine zr_iconst hx hb dX6_holds_128 ?_
          exact zret_B () Z hr (by decide +kernel) hP hD hS (tB_0 (by
              unfold hold; simp [c20, c31, c44, c61])) rfl ⟨Nat.le_refl _, Nat.le_refl _⟩ hQ dX6_holds_129
        · skip
          refine lv_aload_n hx hb dX6_holds_64 rfl (lv_at hl 2 rfl) ?_
          refine gM_0_5 Z hP kf_X6_26 dX6_holds_65 ?_
          refine lv_iload_n hx hb dX6_holds_68 rfl (lv_at hl 4 rfl) ?_
          refine ldI Z hP 6 (σ.2.2.1 0) rfl (i) rfl (by omega) (by decide) dX6_holds_69 ?_
          refine lv_aload_n hx hb dX6_holds_70 rfl (lv_at hl 2 rfl) ?_
          refine gM_0_13 Z hP kf_X6_50 dX6_holds_71 ?_
          refine lv_iload_n hx hb dX6_holds_74 rfl (lv_at hl 3 rfl) ?_
          refine ldI Z hP 14 (σ.2.2.1 1) rfl (r) rfl (by omega) (by decide) dX6_holds_75 ?_
          refine lv_iand hx hb dX6_holds_76 ?_
          refine lv_if_eq (tgt := 84) hx hb dX6_holds_77 (by decide) (fun c77 => ?_) (fun c77 => ?_)
          · skip
            refine zr_iconst hx hb dX6_holds_84 ?_
            refine lv_istore (lv' := [(6, .int (zI (0 : Int))), (5, .int (zI (0 : Int))), (3, .long (lat σ i)), (0, .ref (q 0)), (1, .int (zI ((r : Nat) : Int))), (2, .int (zI ((i : Nat) : Int)))]) hx hb dX6_holds_85 hl (by decide) rfl (fun ls hl => ?_)
            refine lv_iload hx hb dX6_holds_87 (lv_at hl 1 rfl) ?_
            refine zc0_eq (tgt := 128) hx hb (0 : Int) (zI_toInt (by decide)) dX6_holds_89 (by decide) (fun c89 => ?_) (fun c89 => by exfalso; omega)
            refine zr_iconst hx hb dX6_holds_128 ?_
            exact zret_B () Z hr (by decide +kernel) hP hD hS (tB_0 (by
                unfold hold; simp [c20, c31, c44, c61, c77])) rfl ⟨Nat.le_refl _, Nat.le_refl _⟩ hQ dX6_holds_129
          · skip
            refine zr_iconst hx hb dX6_holds_80 ?_
            refine lv_goto (tgt := 85) hx hb dX6_holds_81 (by decide) ?_
            refine lv_istore (lv' := [(6, .int (zI (1 : Int))), (5, .int (zI (0 : Int))), (3, .long (lat σ i)), (0, .ref (q 0)), (1, .int (zI ((r : Nat) : Int))), (2, .int (zI ((i : Nat) : Int)))]) hx hb dX6_holds_85 hl (by decide) rfl (fun ls hl => ?_)
            refine lv_iload hx hb dX6_holds_87 (lv_at hl 1 rfl) ?_
            refine zc0_eq (tgt := 128) hx hb (0 : Int) (zI_toInt (by decide)) dX6_holds_89 (by decide) (fun c89 => ?_) (fun c89 => by exfalso; omega)
            refine zr_iconst hx hb dX6_holds_128 ?_
            exact zret_B () Z hr (by decide +kernel) hP hD hS (tB_0 (by
                unfold hold; simp [c20, c31, c44, c61, c77])) rfl ⟨Nat.le_refl _, Nat.le_refl _⟩ hQ dX6_holds_129
      · skip
        refine zr_iconst hx hb dX6_holds_48 ?_
        refine lv_goto (tgt := 53) hx hb dX6_holds_49 (by decide) ?_
        refine lv_istore (lv' := [(5, .int (zI (1 : Int))), (3, .long (lat σ i)), (0, .ref (q 0)), (1, .int (zI ((r : Nat) : Int))), (2, .int (zI ((i : Nat) : Int)))]) hx hb dX6_holds_53 hl (by decide) rfl (fun ls hl => ?_)
        refine lv_aload_n hx hb dX6_holds_55 rfl (lv_at hl 2 rfl) ?_
        refine gM_0_13 Z hP kf_X6_50 dX6_holds_56 ?_
        refine lv_iload_n hx hb dX6_holds_59 rfl (lv_at hl 3 rfl) ?_
        refine ldI Z hP 14 (σ.2.2.1 1) rfl (r) rfl (by omega) (by decide) dX6_holds_60 ?_
        refine lv_if_eq (tgt := 80) hx hb dX6_holds_61 (by decide) (fun c61 => ?_) (fun c61 => ?_)
        · skip
          refine zr_iconst hx hb dX6_holds_80 ?_
          refine lv_goto (tgt := 85) hx hb dX6_holds_81 (by decide) ?_
          refine lv_istore (lv' := [(6, .int (zI (1 : Int))), (5, .int (zI (1 : Int))), (3, .long (lat σ i)), (0, .ref (q 0)), (1, .int (zI ((r : Nat) : Int))), (2, .int (zI ((i : Nat) : Int)))]) hx hb dX6_holds_85 hl (by decide) rfl (fun ls hl => ?_)
          refine lv_iload hx hb dX6_holds_87 (lv_at hl 1 rfl) ?_
          refine zc0_eq (tgt := 128) hx hb (1 : Int) (zI_toInt (by decide)) dX6_holds_89 (by decide) (fun c89 => by exfalso; omega) (fun c89 => ?_)
          refine lv_iload hx hb dX6_holds_92 (lv_at hl 0 rfl) ?_
          refine zc0_eq (tgt := 128) hx hb (1 : Int) (zI_toInt (by decide)) dX6_holds_94 (by decide) (fun c94 => by exfalso; omega) (fun c94 => ?_)
          refine lv_aload_n hx hb dX6_holds_97 rfl (lv_at hl 3 rfl) ?_
          refine gM_0_14 Z hP kf_X6_53 dX6_holds_98 ?_
          refine lv_iload_n hx hb dX6_holds_101 rfl (lv_at hl 4 rfl) ?_
          refine ldM Z hP 15 (σ.2.1 18) rfl (r) rfl (by omega) (by decide) dX6_holds_102 ?_
          refine zr_iconst hx hb dX6_holds_103 ?_
          refine zc_eq (tgt := 124) hx hb ((((σ.2.1 18) (r) : Nat) : Int) - (1 : Int)) (-1 : Int) (zI_toInt (by omega)) (zI_toInt (by decide)) dX6_holds_104 (by decide) (fun c104 => ?_) (fun c104 => ?_)
          · skip
            refine zr_iconst hx hb dX6_holds_124 ?_
            refine lv_goto (tgt := 129) hx hb dX6_holds_125 (by decide) ?_
            exact zret_B () Z hr (by decide +kernel) hP hD hS (tB_1 (by
                have h8 : σ.2.1 18 r = 0 := by omega
                unfold hold; simp [c20, c31, c44, c61, h8])) rfl ⟨Nat.le_refl _, Nat.le_refl _⟩ hQ dX6_holds_129
          · skip
            refine lv_aload_n hx hb dX6_holds_107 rfl (lv_at hl 3 rfl) ?_
            refine gM_0_34 Z hP kf_X6_114 dX6_holds_108 ?_
            refine lv_aload_n hx hb dX6_holds_111 rfl (lv_at hl 3 rfl) ?_
            refine gM_0_14 Z hP kf_X6_53 dX6_holds_112 ?_
            refine lv_iload_n hx hb dX6_holds_115 rfl (lv_at hl 4 rfl) ?_
            refine ldM Z hP 15 (σ.2.1 18) rfl (r) rfl (by omega) (by decide) dX6_holds_116 ?_
            refine lv_ishr hx hb dX6_holds_117 ?_
            refine zr_iconst hx hb dX6_holds_118 ?_
            refine lv_iand hx hb dX6_holds_119 ?_
            refine zr_iconst hx hb dX6_holds_120 ?_
            refine lv_icmp_ne (tgt := 128) hx hb dX6_holds_121 (by decide) (fun c121 => ?_) (fun c121 => ?_)
            · skip
              refine zr_iconst hx hb dX6_holds_128 ?_
              exact zret_B () Z hr (by decide +kernel) hP hD hS (tB_0 (by
                  have h8 : σ.2.1 18 r ≠ 0 := by omega
                  have h9 : tb κ.2.1 (σ.2.1 18 r - 1) = false := by
                    cases h7 : tb κ.2.1 (σ.2.1 18 r - 1) with
                    | false => rfl
                    | true => exact absurd ((hB h8).mpr h7) c121
                  unfold hold; simp [c20, c31, c44, c61, h8, h9])) rfl ⟨Nat.le_refl _, Nat.le_refl _⟩ hQ dX6_holds_129
            · skip
              refine zr_iconst hx hb dX6_holds_124 ?_
              refine lv_goto (tgt := 129) hx hb dX6_holds_125 (by decide) ?_
              exact zret_B () Z hr (by decide +kernel) hP hD hS (tB_1 (by
                  have h8 : σ.2.1 18 r ≠ 0 := by omega
                  have h9 : tb κ.2.1 (σ.2.1 18 r - 1) = true := by
                    exact (hB h8).mp c121
                  unfold hold; simp [c20, c31, c44, c61, h8, h9])) rfl ⟨Nat.le_refl _, Nat.le_refl _⟩ hQ dX6_holds_129
        · skip
          refine lv_aload_n hx hb dX6_holds_64 rfl (lv_at hl 2 rfl) ?_
          refine gM_0_5 Z hP kf_X6_26 dX6_holds_65 ?_
          refine lv_iload_n hx hb dX6_holds_68 rfl (lv_at hl 4 rfl) ?_
          refine ldI Z hP 6 (σ.2.2.1 0) rfl (i) rfl (by omega) (by decide) dX6_holds_69 ?_
          refine lv_aload_n hx hb dX6_holds_70 rfl (lv_at hl 2 rfl) ?_
          refine gM_0_13 Z hP kf_X6_50 dX6_holds_71 ?_
          refine lv_iload_n hx hb dX6_holds_74 rfl (lv_at hl 3 rfl) ?_
          refine ldI Z hP 14 (σ.2.2.1 1) rfl (r) rfl (by omega) (by decide) dX6_holds_75 ?_
          refine lv_iand hx hb dX6_holds_76 ?_
          refine lv_if_eq (tgt := 84) hx hb dX6_holds_77 (by decide) (fun c77 => ?_) (fun c77 => ?_)
          · skip
            refine zr_iconst hx hb dX6_holds_84 ?_
            refine lv_istore (lv' := [(6, .int (zI (0 : Int))), (5, .int (zI (1 : Int))), (3, .long (lat σ i)), (0, .ref (q 0)), (1, .int (zI ((r : Nat) : Int))), (2, .int (zI ((i : Nat) : Int)))]) hx hb dX6_holds_85 hl (by decide) rfl (fun ls hl => ?_)
            refine lv_iload hx hb dX6_holds_87 (lv_at hl 1 rfl) ?_
            refine zc0_eq (tgt := 128) hx hb (1 : Int) (zI_toInt (by decide)) dX6_holds_89 (by decide) (fun c89 => by exfalso; omega) (fun c89 => ?_)
            refine lv_iload hx hb dX6_holds_92 (lv_at hl 0 rfl) ?_
            refine zc0_eq (tgt := 128) hx hb (0 : Int) (zI_toInt (by decide)) dX6_holds_94 (by decide) (fun c94 => ?_) (fun c94 => by exfalso; omega)
            refine zr_iconst hx hb dX6_holds_128 ?_
            exact zret_B () Z hr (by decide +kernel) hP hD hS (tB_0 (by
                unfold hold; simp [c20, c31, c44, c61, c77])) rfl ⟨Nat.le_refl _, Nat.le_refl _⟩ hQ dX6_holds_129
          · skip
            refine zr_iconst hx hb dX6_holds_80 ?_
            refine lv_goto (tgt := 85) hx hb dX6_holds_81 (by decide) ?_
            refine lv_istore (lv' := [(6, .int (zI (1 : Int))), (5, .int (zI (1 : Int))), (3, .long (lat σ i)), (0, .ref (q 0)), (1, .int (zI ((r : Nat) : Int))), (2, .int (zI ((i : Nat) : Int)))]) hx hb dX6_holds_85 hl (by decide) rfl (fun ls hl => ?_)
            refine lv_iload hx hb dX6_holds_87 (lv_at hl 1 rfl) ?_
            refine zc0_eq (tgt := 128) hx hb (1 : Int) (zI_toInt (by decide)) dX6_holds_89 (by decide) (fun c89 => by exfalso; omega) (fun c89 => ?_)
            refine lv_iload hx hb dX6_holds_92 (lv_at hl 0 rfl) ?_
            refine zc0_eq (tgt := 128) hx hb (1 : Int) (zI_toInt (by decide)) dX6_holds_94 (by decide) (fun c94 => by exfalso; omega) (fun c94 => ?_)
            refine lv_aload_n hx hb dX6_holds_97 rfl (lv_at hl 3 rfl) ?_
            refine gM_0_14 Z hP kf_X6_53 dX6_holds_98 ?_
            refine lv_iload_n hx hb dX6_holds_101 rfl (lv_at hl 4 rfl) ?_
            refine ldM Z hP 15 (σ.2.1 18) rfl (r) rfl (by omega) (by decide) dX6_holds_102 ?_
            refine zr_iconst hx hb dX6_holds_103 ?_
            refine zc_eq (tgt := 124) hx hb ((((σ.2.1 18) (r) : Nat) : Int) - (1 : Int)) (-1 : Int) (zI_toInt (by omega)) (zI_toInt (by decide)) dX6_holds_104 (by decide) (fun c104 => ?_) (fun c104 => ?_)
            · skip
              refine zr_iconst hx hb dX6_holds_124 ?_
              refine lv_goto (tgt := 129) hx hb dX6_holds_125 (by decide) ?_
              exact zret_B () Z hr (by decide +kernel) hP hD hS (tB_1 (by
                  have h8 : σ.2.1 18 r = 0 := by omega
                  unfold hold; simp [c20, c31, c44, c61, c77, h8])) rfl ⟨Nat.le_refl _, Nat.le_refl _⟩ hQ dX6_holds_129
            · skip
              refine lv_aload_n hx hb dX6_holds_107 rfl (lv_at hl 3 rfl) ?_
              refine gM_0_34 Z hP kf_X6_114 dX6_holds_108 ?_
              refine lv_aload_n hx hb dX6_holds_111 rfl (lv_at hl 3 rfl) ?_
              refine gM_0_14 Z hP kf_X6_53 dX6_holds_112 ?_
              refine lv_iload_n hx hb dX6_holds_115 rfl (lv_at hl 4 rfl) ?_
              refine ldM Z hP 15 (σ.2.1 18) rfl (r) rfl (by omega) (by decide) dX6_holds_116 ?_
              refine lv_ishr hx hb dX6_holds_117 ?_
              refine zr_iconst hx hb dX6_holds_118 ?_
              refine lv_iand hx hb dX6_holds_119 ?_
              refine zr_iconst hx hb dX6_holds_120 ?_
              refine lv_icmp_ne (tgt := 128) hx hb dX6_holds_121 (by decide) (fun c121 => ?_) (fun c121 => ?_)
              · skip
                refine zr_iconst hx hb dX6_holds_128 ?_
                exact zret_B () Z hr (by decide +kernel) hP hD hS (tB_0 (by
                    have h8 : σ.2.1 18 r ≠ 0 := by omega
                    have h9 : tb κ.2.1 (σ.2.1 18 r - 1) = false := by
                      cases h7 : tb κ.2.1 (σ.2.1 18 r - 1) with
                      | false => rfl
                      | true => exact absurd ((hB h8).mpr h7) c121
                    unfold hold; simp [c20, c31, c44, c61, c77, h8, h9])) rfl ⟨Nat.le_refl _, Nat.le_refl _⟩ hQ dX6_holds_129
              · skip
                refine zr_iconst hx hb dX6_holds_124 ?_
                refine lv_goto (tgt := 129) hx hb dX6_holds_125 (by decide) ?_
                exact zret_B () Z hr (by decide +kernel) hP hD hS (tB_1 (by
                    have h8 : σ.2.1 18 r ≠ 0 := by omega
                    have h9 : tb κ.2.1 (σ.2.1 18 r - 1) = true := by
                      exact (hB h8).mp c121
                    unfold hold; simp [c20, c31, c44, c61, c77, h8, h9])) rfl ⟨Nat.le_refl _, Nat.le_refl _⟩ hQ dX6_holds_129
abbrev r_X6_goes : Room := { frames := 2, cells := 0, slots := 0, locals := 47 }
set_option maxHeartbeats 4000000 in
set_option maxRecDepth 100000 in
theorem m_X6_goes (l : Launch) (G : ZG) (q : Nat → Nat) (σ : St) (κ : KM) {e_i : Int} (i : Nat) (he_i : e_i = (i : Int)) (hI : okM σ) (h1 : i < σ.1 4) :
    MC l G yX6_goes (wY yX6_goes cX6_goes 3 none) r_X6_goes (wM G q σ κ) [.ref (q 0), .int (zI e_i)] (QV G (fun (_ : Unit) => True) (fun _ => wM G q σ (κ.1, goI σ i))) := by
  subst he_i
  refine MC.mk (by decide +kernel) (Nat.le_of_ble_eq_true rfl) ?_
  intro p e s m av below meth c A H locs ls Q Z hr hnm hQ hP hD hS hl
  have hx := Z.1
  have hb := Z.2.1
  have hown := Z.2.2.2.1
  have hW := Z.2.2.2.2.1
  have hl : lv_has ls 3 [(0, .ref (q 0)), (1, .int (zI ((i : Nat) : Int)))] := hl
  obtain ⟨hn, hru, hrv, hdv, hsr, hmn, ht1, ht2, hwn, hv1, hv2, hmj, htm, hse, htg, hrt, hac, hk1, hk2, hkd, hmm, hmv, hpp, hpl, hp3, hp4, hp6, hp5, hp7, hnz⟩ := id hI
  refine lv_aload_n hx hb dX6_goes_0 rfl (lv_at hl 0 rfl) ?_
  refine zr_iconst hx hb dX6_goes_1 ?_
  refine pM_0_34 Z hP hD hS kf_X6_114 dX6_goes_2 (fun H locs hP hD hS => ?_)
  refine lv_aload_n hx hb dX6_goes_5 rfl (lv_at hl 0 rfl) ?_
  refine zr_iconst hx hb dX6_goes_6 ?_
  refine pM_0_36 Z hP hD hS (false) (by decide) kf_X6_120 dX6_goes_7 (fun H locs hP hD hS => ?_)
  refine lv_aload_n hx hb dX6_goes_10 rfl (lv_at hl 0 rfl) ?_
  refine zr_iconst hx hb dX6_goes_11 ?_
  refine pM_0_35 Z hP hD hS kf_X6_117 dX6_goes_12 (fun H locs hP hD hS => ?_)
  refine zr_iconst hx hb dX6_goes_15 ?_
  refine lv_istore_n (lv' := [(2, .int (zI (0 : Int))), (0, .ref (q 0)), (1, .int (zI ((i : Nat) : Int)))]) hx hb dX6_goes_16 rfl hl (by decide) rfl (fun ls hl => ?_)
  suffices LP17 : ∀ (f9 : Nat) (k : Nat), σ.1 5 < k + f9 → (k ≤ σ.1 5) → ∀ (H : Heap) (locs : List Loc) (ls : Array Slot), va_P G.1 vwCl (wM G q σ (κ.1, (goS σ (lat σ i) (σ.2.2.1 0 i) k))) H → va_D A (wM G q σ (κ.1, (goS σ (lat σ i) (σ.2.2.1 0 i) k))) → va_S A s.heap H locs → lv_has ls 3 [(2, .int (zI ((k : Nat) : Int))), (0, .ref (q 0)), (1, .int (zI ((i : Nat) : Int)))] → W p l e r_X6_goes s m av below meth c H locs 0 0 Q (F0 m 17 ls []) from LP17 (σ.1 5 + 1) (0) (by omega) (by omega) _ _ _ hP hD hS (lv_sub hl [0, 1, 2] rfl)
  intro f9
  induction f9 with
  | zero => intro k hf9 hk; exfalso; omega
  | succ f9 ih17 =>
    intro k hf9 hk H locs ls hP hD hS hl
    have ha9 := hac k
    refine lv_iload_n hx hb dX6_goes_17 rfl (lv_at hl 0 rfl) ?_
    refine lv_aload_n hx hb dX6_goes_18 rfl (lv_at hl 1 rfl) ?_
    refine gM_0_31 Z hP kf_X6_105 dX6_goes_19 ?_
    refine zr_top (w := .int (zI ((σ.1 5 : Nat) : Int))) rfl ?_
    refine zc_ge (tgt := 106) hx hb ((k : Nat) : Int) ((σ.1 5 : Nat) : Int) (zI_toInt (by omega)) (zI_toInt (by omega)) dX6_goes_22 (by decide) (fun c22 => ?_) (fun c22 => ?_)
    · skip
      exact zret_V () Z hr hP hD hS trivial (by rw [show k = σ.1 5 from by omega] <;> rfl) ⟨Nat.le_refl _, Nat.le_refl _⟩ hQ dX6_goes_106
    · skip
      refine lv_aload_n hx hb dX6_goes_25 rfl (lv_at hl 1 rfl) ?_
      refine lv_iload_n hx hb dX6_goes_26 rfl (lv_at hl 0 rfl) ?_
      refine lv_iload_n hx hb dX6_goes_27 rfl (lv_at hl 2 rfl) ?_
      refine zdet_I ⟨rfl, rfl⟩ Z hD hS (zrunV (rest := []) Z hP hD hS hl.1 (m_X6_holds l G q σ (κ.1, (goS σ (lat σ i) (σ.2.2.1 0 i) k)) (k) rfl (i) rfl hI (by omega) h1) zY_X6_holds km_X6_175 (q0 := 0) rfl rfl rfl rfl ⟨⟨Nat.le_of_ble_eq_true rfl, Nat.le_of_ble_eq_true rfl⟩, Nat.le_of_ble_eq_true rfl, Nat.le_of_ble_eq_true rfl⟩ (Nat.le_of_ble_eq_true rfl) dX6_goes_28) (fun H locs hP hD hS => ?_)
      refine zb_ne (tgt := 37) hx hb dX6_goes_31 (by decide) (fun c31 => ?_) (fun c31 => ?_)
      · skip
        refine lv_aload_n hx hb dX6_goes_37 rfl (lv_at hl 1 rfl) ?_
        refine lv_dup hx hb dX6_goes_38 rfl ?_
        refine gM_0_35 Z hP kf_X6_117 dX6_goes_39 ?_
        refine zr_top (w := .int (((goS σ (lat σ i) (σ.2.2.1 0 i) k)).2.1)) rfl ?_
        refine zr_iconst hx hb dX6_goes_42 ?_
        refine lv_iload_n hx hb dX6_goes_43 rfl (lv_at hl 0 rfl) ?_
        refine lv_ishl hx hb dX6_goes_44 ?_
        refine lv_ior hx hb dX6_goes_45 ?_
        refine pM_0_35 Z hP hD hS kf_X6_117 dX6_goes_46 (fun H locs hP hD hS => ?_)
        refine lv_aload_n hx hb dX6_goes_49 rfl (lv_at hl 1 rfl) ?_
        refine gM_0_15 Z hP kf_X6_56 dX6_goes_50 ?_
        refine lv_iload_n hx hb dX6_goes_53 rfl (lv_at hl 0 rfl) ?_
        refine ldN Z hP 16 (σ.2.1 9) rfl (k) rfl (by omega) (by decide) dX6_goes_54 ?_
        refine zr_bipush hx hb dX6_goes_55 (by decide) ?_
        refine zc_ge (tgt := 80) hx hb (((σ.2.1 9) (k) : Nat) : Int) (8 : Int) (zI_toInt (by omega)) (zI_toInt (by decide)) dX6_goes_57 (by decide) (fun c57 => ?_) (fun c57 => ?_)
        · skip
          refine lv_aload_n hx hb dX6_goes_80 rfl (lv_at hl 1 rfl) ?_
          refine lv_aload_n hx hb dX6_goes_81 rfl (lv_at hl 1 rfl) ?_
          refine gM_0_15 Z hP kf_X6_56 dX6_goes_82 ?_
          refine lv_iload_n hx hb dX6_goes_85 rfl (lv_at hl 0 rfl) ?_
          refine ldN Z hP 16 (σ.2.1 9) rfl (k) rfl (by omega) (by decide) dX6_goes_86 ?_
          refine zr_bipush hx hb dX6_goes_87 (by decide) ?_
          refine zc_ne (tgt := 96) hx hb (((σ.2.1 9) (k) : Nat) : Int) (8 : Int) (zI_toInt (by omega)) (zI_toInt (by decide)) dX6_goes_89 (by decide) (fun c89 => ?_) (fun c89 => ?_)
          · skip
            refine zr_iconst hx hb dX6_goes_96 ?_
            refine pM_0_36 Z hP hD hS (false) (by decide) kf_X6_120 dX6_goes_97 (fun H locs hP hD hS => ?_)
            refine zr_iinc (lv' := [(2, .int (zI (((k : Nat) : Int) + (1 : Int)))), (0, .ref (q 0)), (1, .int (zI ((i : Nat) : Int)))]) hx hb 0 dX6_goes_100 hl rfl (by decide) rfl (fun ls hl => ?_)
            refine lv_goto (tgt := 17) hx hb dX6_goes_103 (by decide) ?_
            have h9 : (goS σ (lat σ i) (σ.2.2.1 0 i) (k + 1)) = ((goS σ (lat σ i) (σ.2.2.1 0 i) k).1, (goS σ (lat σ i) (σ.2.2.1 0 i) k).2.1 ||| (zI (1 : Int) <<< (zI ((k : Nat) : Int) &&& 31)), false) := by
                rw [goS, if_pos c31, if_neg (by omega), show (σ.2.1 9 k == 8) = false from by simp; omega]
            have hw9 : wM G q σ (κ.1, ((goS σ (lat σ i) (σ.2.2.1 0 i) k)).1, (((goS σ (lat σ i) (σ.2.2.1 0 i) k)).2.1) ||| (zI (1 : Int) <<< (zI ((k : Nat) : Int) &&& 31)), false) = wM G q σ (κ.1, (goS σ (lat σ i) (σ.2.2.1 0 i) (k + 1))) := (by rw [h9] <;> rfl)
            rw [hw9] at hP hD
            exact ih17 (k + 1) (by omega) (by omega) _ _ _ hP hD hS (lv_sub hl [0, 1, 2] rfl)
          · skip
            refine zr_iconst hx hb dX6_goes_92 ?_
            refine lv_goto (tgt := 97) hx hb dX6_goes_93 (by decide) ?_
            refine pM_0_36 Z hP hD hS (true) (by decide) kf_X6_120 dX6_goes_97 (fun H locs hP hD hS => ?_)
            refine zr_iinc (lv' := [(2, .int (zI (((k : Nat) : Int) + (1 : Int)))), (0, .ref (q 0)), (1, .int (zI ((i : Nat) : Int)))]) hx hb 0 dX6_goes_100 hl rfl (by decide) rfl (fun ls hl => ?_)
            refine lv_goto (tgt := 17) hx hb dX6_goes_103 (by decide) ?_
            have h9 : (goS σ (lat σ i) (σ.2.2.1 0 i) (k + 1)) = ((goS σ (lat σ i) (σ.2.2.1 0 i) k).1, (goS σ (lat σ i) (σ.2.2.1 0 i) k).2.1 ||| (zI (1 : Int) <<< (zI ((k : Nat) : Int) &&& 31)), true) := by
                rw [goS, if_pos c31, if_neg (by omega), show (σ.2.1 9 k == 8) = true from by simp; omega]
            have hw9 : wM G q σ (κ.1, ((goS σ (lat σ i) (σ.2.2.1 0 i) k)).1, (((goS σ (lat σ i) (σ.2.2.1 0 i) k)).2.1) ||| (zI (1 : Int) <<< (zI ((k : Nat) : Int) &&& 31)), true) = wM G q σ (κ.1, (goS σ (lat σ i) (σ.2.2.1 0 i) (k + 1))) := (by rw [h9] <;> rfl)
            rw [hw9] at hP hD
            exact ih17 (k + 1) (by omega) (by omega) _ _ _ hP hD hS (lv_sub hl [0, 1, 2] rfl)
        · skip
          refine lv_aload_n hx hb dX6_goes_60 rfl (lv_at hl 1 rfl) ?_
          refine lv_dup hx hb dX6_goes_61 rfl ?_
          refine gM_0_34 Z hP kf_X6_114 dX6_goes_62 ?_
          refine zr_top (w := .int (((goS σ (lat σ i) (σ.2.2.1 0 i) k)).1)) rfl ?_
          refine zr_iconst hx hb dX6_goes_65 ?_
          refine lv_aload_n hx hb dX6_goes_66 rfl (lv_at hl 1 rfl) ?_
          refine gM_0_15 Z hP kf_X6_56 dX6_goes_67 ?_
          refine lv_iload_n hx hb dX6_goes_70 rfl (lv_at hl 0 rfl) ?_
          refine ldN Z hP 16 (σ.2.1 9) rfl (k) rfl (by omega) (by decide) dX6_goes_71 ?_
          refine lv_ishl hx hb dX6_goes_72 ?_
          refine lv_ior hx hb dX6_goes_73 ?_
          refine pM_0_34 Z hP hD hS kf_X6_114 dX6_goes_74 (fun H locs hP hD hS => ?_)
          refine lv_goto (tgt := 100) hx hb dX6_goes_77 (by decide) ?_
          refine zr_iinc (lv' := [(2, .int (zI (((k : Nat) : Int) + (1 : Int)))), (0, .ref (q 0)), (1, .int (zI ((i : Nat) : Int)))]) hx hb 0 dX6_goes_100 hl rfl (by decide) rfl (fun ls hl => ?_)
          refine lv_goto (tgt := 17) hx hb dX6_goes_103 (by decide) ?_
          have h9 : (goS σ (lat σ i) (σ.2.2.1 0 i) (k + 1)) = ((goS σ (lat σ i) (σ.2.2.1 0 i) k).1 ||| (zI (1 : Int) <<< (zI ((σ.2.1 9 k : Nat) : Int) &&& 31)), (goS σ (lat σ i) (σ.2.2.1 0 i) k).2.1 ||| (zI (1 : Int) <<< (zI ((k : Nat) : Int) &&& 31)), (goS σ (lat σ i) (σ.2.2.1 0 i) k).2.2) := by
              rw [goS, if_pos c31]; exact if_pos (by omega)
          have hw9 : wM G q σ (κ.1, (((goS σ (lat σ i) (σ.2.2.1 0 i) k)).1) ||| (zI (1 : Int) <<< (zI (((σ.2.1 9) (k) : Nat) : Int) &&& 31)), (((goS σ (lat σ i) (σ.2.2.1 0 i) k)).2.1) ||| (zI (1 : Int) <<< (zI ((k : Nat) : Int) &&& 31)), ((goS σ (lat σ i) (σ.2.2.1 0 i) k)).2.2) = wM G q σ (κ.1, (goS σ (lat σ i) (σ.2.2.1 0 i) (k + 1))) := (by rw [h9] <;> rfl)
          rw [hw9] at hP hD
          exact ih17 (k + 1) (by omega) (by omega) _ _ _ hP hD hS (lv_sub hl [0, 1, 2] rfl)
      · skip
        refine lv_goto (tgt := 100) hx hb dX6_goes_34 (by decide) ?_
        refine zr_iinc (lv' := [(2, .int (zI (((k : Nat) : Int) + (1 : Int)))), (0, .ref (q 0)), (1, .int (zI ((i : Nat) : Int)))]) hx hb 0 dX6_goes_100 hl rfl (by decide) rfl (fun ls hl => ?_)
        refine lv_goto (tgt := 17) hx hb dX6_goes_103 (by decide) ?_
        have h9 : (goS σ (lat σ i) (σ.2.2.1 0 i) (k + 1)) = (goS σ (lat σ i) (σ.2.2.1 0 i) k) := by
            rw [goS]; exact if_neg (by rw [c31]; decide)
        have hw9 : wM G q σ (κ.1, (goS σ (lat σ i) (σ.2.2.1 0 i) k)) = wM G q σ (κ.1, (goS σ (lat σ i) (σ.2.2.1 0 i) (k + 1))) := (by rw [h9] <;> rfl)
        rw [hw9] at hP hD
        exact ih17 (k + 1) (by omega) (by omega) _ _ _ hP hD hS (lv_sub hl [0, 1, 2] rfl)
abbrev r_X6_shows : Room := { frames := 3, cells := 0, slots := 0, locals := 69 }
set_option maxHeartbeats 4000000 in
set_option maxRecDepth 100000 in
theorem m_X6_shows (l : Launch) (G : ZG) (q : Nat → Nat) (σ : St) (κ : KM) {e_rv : Int} (rv : Nat) (he_rv : e_rv = (rv : Int)) {e_i : Int} (i : Nat) (he_i : e_i = (i : Int)) (hI : okM σ) (h1 : rv < σ.1 6) (h2 : i < σ.1 4) :
    MC l G yX6_shows (wY yX6_shows cX6_shows 3 (some .boolean)) r_X6_shows (wM G q σ κ) [.ref (q 0), .int (zI e_rv), .int (zI e_i)] (QI G (fun r9 (_ : Unit) => r9 = (tB (shM σ rv i))) (fun _ => wM G q σ (κ.1, goI σ i))) := by
  subst he_rv
  subst he_i
  refine MC.mk (by decide +kernel) (Nat.le_of_ble_eq_true rfl) ?_
  intro p e s m av below meth c A H locs ls Q Z hr hnm hQ hP hD hS hl
  have hx := Z.1
  have hb := Z.2.1
  have hown := Z.2.2.2.1
  have hW := Z.2.2.2.2.1
  have hl : lv_has ls 3 [(0, .ref (q 0)), (1, .int (zI ((rv : Nat) : Int))), (2, .int (zI ((i : Nat) : Int)))] := hl
  obtain ⟨hn, hru, hrv, hdv, hsr, hmn, ht1, ht2, hwn, hv1, hv2, hmj, htm, hse, htg, hrt, hac, hk1, hk2, hkd, hmm, hmv, hpp, hpl, hp3, hp4, hp6, hp5, hp7, hnz⟩ := id hI
  have hg9 := hrt rv
  have hB : σ.2.1 19 rv ≠ 0 → (((goI σ i).1 >>> (zI (((σ.2.1 19 rv : Nat) : Int) - (1 : Int)) &&& 31)) &&& zI (1 : Int) = zI (1 : Int) ↔ tb (goI σ i).1 (σ.2.1 19 rv - 1) = true) := by
    intro hx0
    have h8 : ((σ.2.1 19 rv : Nat) : Int) - 1 = ((σ.2.1 19 rv - 1 : Nat) : Int) := by omega
    rw [h8]; exact tb_shr _ _ (by omega)
  refine lv_aload_n hx hb dX6_shows_0 rfl (lv_at hl 0 rfl) ?_
  refine lv_iload_n hx hb dX6_shows_1 rfl (lv_at hl 2 rfl) ?_
  refine zdet_V ⟨rfl, rfl⟩ Z hD hS (zrunV (rest := []) Z hP hD hS hl.1 (m_X6_goes l G q σ κ (i) rfl hI (by omega)) zY_X6_goes km_X6_179 (q0 := 0) rfl rfl rfl rfl ⟨⟨Nat.le_of_ble_eq_true rfl, Nat.le_of_ble_eq_true rfl⟩, Nat.le_of_ble_eq_true rfl, Nat.le_of_ble_eq_true rfl⟩ (Nat.le_of_ble_eq_true rfl) dX6_shows_2) (fun H locs hP hD hS => ?_)
  refine lv_aload_n hx hb dX6_shows_5 rfl (lv_at hl 0 rfl) ?_
  refine gM_0_36 Z hP kf_X6_120 dX6_shows_6 ?_
  refine zr_top (w := .int (tB ((goI σ i).2.2))) rfl ?_
  refine zb_ne (tgt := 59) hx hb dX6_shows_9 (by decide) (fun c9 => ?_) (fun c9 => ?_)
  · skip
    refine zr_iconst hx hb dX6_shows_59 ?_
    exact zret_B () Z hr (by decide +kernel) hP hD hS (tB_0 (by
        unfold shM; simp [c9])) rfl ⟨Nat.le_refl _, Nat.le_refl _⟩ hQ dX6_shows_60
  · skip
    refine lv_aload_n hx hb dX6_shows_12 rfl (lv_at hl 0 rfl) ?_
    refine gM_0_5 Z hP kf_X6_26 dX6_shows_13 ?_
    refine lv_iload_n hx hb dX6_shows_16 rfl (lv_at hl 2 rfl) ?_
    refine ldI Z hP 6 (σ.2.2.1 0) rfl (i) rfl (by omega) (by decide) dX6_shows_17 ?_
    refine lv_aload_n hx hb dX6_shows_18 rfl (lv_at hl 0 rfl) ?_
    refine gM_0_16 Z hP kf_X6_59 dX6_shows_19 ?_
    refine lv_iload_n hx hb dX6_shows_22 rfl (lv_at hl 1 rfl) ?_
    refine ldI Z hP 17 (σ.2.2.1 2) rfl (rv) rfl (by omega) (by decide) dX6_shows_23 ?_
    refine lv_iand hx hb dX6_shows_24 ?_
    refine lv_if_eq (tgt := 59) hx hb dX6_shows_25 (by decide) (fun c25 => ?_) (fun c25 => ?_)
    · skip
      refine zr_iconst hx hb dX6_shows_59 ?_
      exact zret_B () Z hr (by decide +kernel) hP hD hS (tB_0 (by
          unfold shM; simp [c9, c25])) rfl ⟨Nat.le_refl _, Nat.le_refl _⟩ hQ dX6_shows_60
    · skip
      refine lv_aload_n hx hb dX6_shows_28 rfl (lv_at hl 0 rfl) ?_
      refine gM_0_17 Z hP kf_X6_62 dX6_shows_29 ?_
      refine lv_iload_n hx hb dX6_shows_32 rfl (lv_at hl 1 rfl) ?_
      refine ldM Z hP 18 (σ.2.1 19) rfl (rv) rfl (by omega) (by decide) dX6_shows_33 ?_
      refine zr_iconst hx hb dX6_shows_34 ?_
      refine zc_eq (tgt := 55) hx hb ((((σ.2.1 19) (rv) : Nat) : Int) - (1 : Int)) (-1 : Int) (zI_toInt (by omega)) (zI_toInt (by decide)) dX6_shows_35 (by decide) (fun c35 => ?_) (fun c35 => ?_)
      · skip
        refine zr_iconst hx hb dX6_shows_55 ?_
        refine lv_goto (tgt := 60) hx hb dX6_shows_56 (by decide) ?_
        exact zret_B () Z hr (by decide +kernel) hP hD hS (tB_1 (by
            have h8 : σ.2.1 19 rv = 0 := by omega
            unfold shM; simp [c9, c25, h8])) rfl ⟨Nat.le_refl _, Nat.le_refl _⟩ hQ dX6_shows_60
      · skip
        refine lv_aload_n hx hb dX6_shows_38 rfl (lv_at hl 0 rfl) ?_
        refine gM_0_34 Z hP kf_X6_114 dX6_shows_39 ?_
        refine zr_top (w := .int ((goI σ i).1)) rfl ?_
        refine lv_aload_n hx hb dX6_shows_42 rfl (lv_at hl 0 rfl) ?_
        refine gM_0_17 Z hP kf_X6_62 dX6_shows_43 ?_
        refine lv_iload_n hx hb dX6_shows_46 rfl (lv_at hl 1 rfl) ?_
        refine ldM Z hP 18 (σ.2.1 19) rfl (rv) rfl (by omega) (by decide) dX6_shows_47 ?_
        refine lv_ishr hx hb dX6_shows_48 ?_
        refine zr_iconst hx hb dX6_shows_49 ?_
        refine lv_iand hx hb dX6_shows_50 ?_
        refine zr_iconst hx hb dX6_shows_51 ?_
        refine lv_icmp_ne (tgt := 59) hx hb dX6_shows_52 (by decide) (fun c52 => ?_) (fun c52 => ?_)
        · skip
          refine zr_iconst hx hb dX6_shows_59 ?_
          exact zret_B () Z hr (by decide +kernel) hP hD hS (tB_0 (by
              have h8 : σ.2.1 19 rv ≠ 0 := by omega
              have h9 : tb (goI σ i).1 (σ.2.1 19 rv - 1) = false := by
                cases h7 : tb (goI σ i).1 (σ.2.1 19 rv - 1) with
                | false => rfl
                | true => exact absurd ((hB h8).mpr h7) c52
              unfold shM; simp [c9, c25, h8, h9])) rfl ⟨Nat.le_refl _, Nat.le_refl _⟩ hQ dX6_shows_60
        · skip
          refine zr_iconst hx hb dX6_shows_55 ?_
          refine lv_goto (tgt := 60) hx hb dX6_shows_56 (by decide) ?_
          exact zret_B () Z hr (by decide +kernel) hP hD hS (tB_1 (by
              have h8 : σ.2.1 19 rv ≠ 0 := by omega
              have h9 : tb (goI σ i).1 (σ.2.1 19 rv - 1) = true := by
                exact (hB h8).mp c52
              unfold shM; simp [c9, c25, h8, h9])) rfl ⟨Nat.le_refl _, Nat.le_refl _⟩ hQ dX6_shows_60
abbrev r_X6_sizeOf : Room := { frames := 4, cells := 0, slots := 0, locals := 91 }
set_option maxHeartbeats 4000000 in
set_option maxRecDepth 100000 in
theorem m_X6_sizeOf (l : Launch) (G : ZG) (q : Nat → Nat) (σ : St) (κ : KM) {e_i : Int} (i : Nat) (he_i : e_i = (i : Int)) (hI : okM σ) (h1 : i < σ.1 6) :
    MC l G yX6_sizeOf (wY yX6_sizeOf cX6_sizeOf 4 (some .int)) r_X6_sizeOf (wM G q σ κ) [.ref (q 0), .int (zI e_i)] (QI G (S := Int32 × Int32 × Bool) (fun r9 (_ : Int32 × Int32 × Bool) => r9 = (zI ((cnt (shM σ i) (σ.1 4) : Nat) : Int))) (fun u => wM G q σ (κ.1, u))) := by
  subst he_i
  refine MC.mk (by decide +kernel) (Nat.le_of_ble_eq_true rfl) ?_
  intro p e s m av below meth c A H locs ls Q Z hr hnm hQ hP hD hS hl
  have hx := Z.1
  have hb := Z.2.1
  have hown := Z.2.2.2.1
  have hW := Z.2.2.2.2.1
  have hl : lv_has ls 4 [(0, .ref (q 0)), (1, .int (zI ((i : Nat) : Int)))] := hl
  obtain ⟨hn, hru, hrv, hdv, hsr, hmn, ht1, ht2, hwn, hv1, hv2, hmj, htm, hse, htg, hrt, hac, hk1, hk2, hkd, hmm, hmv, hpp, hpl, hp3, hp4, hp6, hp5, hp7, hnz⟩ := id hI
  refine zr_iconst hx hb dX6_sizeOf_0 ?_
  refine lv_istore_n (lv' := [(2, .int (zI (0 : Int))), (0, .ref (q 0)), (1, .int (zI ((i : Nat) : Int)))]) hx hb dX6_sizeOf_1 rfl hl (by decide) rfl (fun ls hl => ?_)
  refine zr_iconst hx hb dX6_sizeOf_2 ?_
  refine lv_istore_n (lv' := [(3, .int (zI (0 : Int))), (2, .int (zI (0 : Int))), (0, .ref (q 0)), (1, .int (zI ((i : Nat) : Int)))]) hx hb dX6_sizeOf_3 rfl hl (by decide) rfl (fun ls hl => ?_)
  suffices LP4 : ∀ (f9 : Nat) (k : Nat) (u9 : Int32 × Int32 × Bool), σ.1 4 < k + f9 → (k ≤ σ.1 4) → ∀ (H : Heap) (locs : List Loc) (ls : Array Slot), va_P G.1 vwCl (wM G q σ (κ.1, u9)) H → va_D A (wM G q σ (κ.1, u9)) → va_S A s.heap H locs → lv_has ls 4 [(3, .int (zI ((k : Nat) : Int))), (2, .int (zI ((cnt (shM σ i) k : Nat) : Int))), (0, .ref (q 0)), (1, .int (zI ((i : Nat) : Int)))] → W p l e r_X6_sizeOf s m av below meth c H locs 0 0 Q (F0 m 4 ls []) from LP4 (σ.1 4 + 1) (0) (κ.2) (by omega) (by omega) _ _ _ hP hD hS (lv_sub hl [0, 1, 2, 3] rfl)
  intro f9
  induction f9 with
  | zero => intro k u9 hf9 hk; exfalso; omega
  | succ f9 ih4 =>
    intro k u9 hf9 hk H locs ls hP hD hS hl
    have hc9 := cnt_le (shM σ i) k
    refine lv_iload_n hx hb dX6_sizeOf_4 rfl (lv_at hl 0 rfl) ?_
    refine lv_aload_n hx hb dX6_sizeOf_5 rfl (lv_at hl 2 rfl) ?_
    refine gM_0_28 Z hP kf_X6_96 dX6_sizeOf_6 ?_
    refine zr_top (w := .int (zI ((σ.1 4 : Nat) : Int))) rfl ?_
    refine zc_ge (tgt := 35) hx hb ((k : Nat) : Int) ((σ.1 4 : Nat) : Int) (zI_toInt (by omega)) (zI_toInt (by omega)) dX6_sizeOf_9 (by decide) (fun c9 => ?_) (fun c9 => ?_)
    · skip
      refine lv_iload_n hx hb dX6_sizeOf_35 rfl (lv_at hl 1 rfl) ?_
      exact zret_I (u9) Z hr hP hD hS (by rw [show k = σ.1 4 from by omega]) rfl ⟨Nat.le_refl _, Nat.le_refl _⟩ hQ dX6_sizeOf_36
    · skip
      refine lv_iload_n hx hb dX6_sizeOf_12 rfl (lv_at hl 1 rfl) ?_
      refine lv_aload_n hx hb dX6_sizeOf_13 rfl (lv_at hl 2 rfl) ?_
      refine lv_iload_n hx hb dX6_sizeOf_14 rfl (lv_at hl 3 rfl) ?_
      refine lv_iload_n hx hb dX6_sizeOf_15 rfl (lv_at hl 0 rfl) ?_
      refine zdet_I ⟨rfl, rfl⟩ Z hD hS (zrunV (rest := [.int (zI ((cnt (shM σ i) k : Nat) : Int))]) Z hP hD hS hl.1 (m_X6_shows l G q σ (κ.1, u9) (i) rfl (k) rfl hI h1 (by omega)) zY_X6_shows km_X6_183 (q0 := 0) rfl rfl rfl rfl ⟨⟨Nat.le_of_ble_eq_true rfl, Nat.le_of_ble_eq_true rfl⟩, Nat.le_of_ble_eq_true rfl, Nat.le_of_ble_eq_true rfl⟩ (Nat.le_of_ble_eq_true rfl) dX6_sizeOf_16) (fun H locs hP hD hS => ?_)
      refine zb_eq (tgt := 26) hx hb dX6_sizeOf_19 (by decide) (fun c19 => ?_) (fun c19 => ?_)
      · skip
        refine zr_iconst hx hb dX6_sizeOf_26 ?_
        refine zr_iadd hx hb dX6_sizeOf_27 ?_
        refine lv_istore_n (lv' := [(2, .int (zI (((cnt (shM σ i) k : Nat) : Int) + (0 : Int)))), (3, .int (zI ((k : Nat) : Int))), (0, .ref (q 0)), (1, .int (zI ((i : Nat) : Int)))]) hx hb dX6_sizeOf_28 rfl hl (by decide) rfl (fun ls hl => ?_)
        refine zr_iinc (lv' := [(3, .int (zI (((k : Nat) : Int) + (1 : Int)))), (2, .int (zI (((cnt (shM σ i) k : Nat) : Int) + (0 : Int)))), (0, .ref (q 0)), (1, .int (zI ((i : Nat) : Int)))]) hx hb 1 dX6_sizeOf_29 hl rfl (by decide) rfl (fun ls hl => ?_)
        refine lv_goto (tgt := 4) hx hb dX6_sizeOf_32 (by decide) ?_
        have h9 : cnt (shM σ i) (k + 1) = cnt (shM σ i) k := cnt_no (p := (shM σ i)) c19
        exact ih4 (k + 1) (goI σ k) (by omega) (by omega) _ _ _ hP hD hS (lv_sub hl [0, 1, 2, 3] (by rw [h9]; rfl))
      · skip
        refine zr_iconst hx hb dX6_sizeOf_22 ?_
        refine lv_goto (tgt := 27) hx hb dX6_sizeOf_23 (by decide) ?_
        refine zr_iadd hx hb dX6_sizeOf_27 ?_
        refine lv_istore_n (lv' := [(2, .int (zI (((cnt (shM σ i) k : Nat) : Int) + (1 : Int)))), (3, .int (zI ((k : Nat) : Int))), (0, .ref (q 0)), (1, .int (zI ((i : Nat) : Int)))]) hx hb dX6_sizeOf_28 rfl hl (by decide) rfl (fun ls hl => ?_)
        refine zr_iinc (lv' := [(3, .int (zI (((k : Nat) : Int) + (1 : Int)))), (2, .int (zI (((cnt (shM σ i) k : Nat) : Int) + (1 : Int)))), (0, .ref (q 0)), (1, .int (zI ((i : Nat) : Int)))]) hx hb 1 dX6_sizeOf_29 hl rfl (by decide) rfl (fun ls hl => ?_)
        refine lv_goto (tgt := 4) hx hb dX6_sizeOf_32 (by decide) ?_
        have h9 : cnt (shM σ i) (k + 1) = cnt (shM σ i) k + 1 := cnt_yes (p := (shM σ i)) c19
        exact ih4 (k + 1) (goI σ k) (by omega) (by omega) _ _ _ hP hD hS (lv_sub hl [0, 1, 2, 3] (by rw [h9]; rfl))
abbrev r_X6_ahead : Room := { frames := 4, cells := 0, slots := 0, locals := 91 }
set_option maxHeartbeats 4000000 in
set_option maxRecDepth 100000 in
theorem m_X6_ahead (l : Launch) (G : ZG) (q : Nat → Nat) (σ : St) (κ : KM) {e_rv : Int} (rv : Nat) (he_rv : e_rv = (rv : Int)) {e_b : Int} (b : Nat) (he_b : e_b = (b : Int)) (hI : okM σ) (h1 : rv < σ.1 6) (h2 : b < σ.1 4) :
    MC l G yX6_ahead (wY yX6_ahead cX6_ahead 6 (some .int)) r_X6_ahead (wM G q σ κ) [.ref (q 0), .int (zI e_rv), .int (zI e_b)] (QI G (S := Int32 × Int32 × Bool) (fun r9 (_ : Int32 × Int32 × Bool) => r9 = (zI ((ahM σ rv b : Nat) : Int))) (fun u => wM G q σ (κ.1, u))) := by
  subst he_rv
  subst he_b
  refine MC.mk (by decide +kernel) (Nat.le_of_ble_eq_true rfl) ?_
  intro p e s m av below meth c A H locs ls Q Z hr hnm hQ hP hD hS hl
  have hx := Z.1
  have hb := Z.2.1
  have hown := Z.2.2.2.1
  have hW := Z.2.2.2.2.1
  have hl : lv_has ls 6 [(0, .ref (q 0)), (1, .int (zI ((rv : Nat) : Int))), (2, .int (zI ((b : Nat) : Int)))] := hl
  obtain ⟨hn, hru, hrv, hdv, hsr, hmn, ht1, ht2, hwn, hv1, hv2, hmj, htm, hse, htg, hrt, hac, hk1, hk2, hkd, hmm, hmv, hpp, hpl, hp3, hp4, hp6, hp5, hp7, hnz⟩ := id hI
  have hb9 := htm b
  refine zr_iconst hx hb dX6_ahead_0 ?_
  refine lv_istore_n (lv' := [(3, .int (zI (0 : Int))), (0, .ref (q 0)), (1, .int (zI ((rv : Nat) : Int))), (2, .int (zI ((b : Nat) : Int)))]) hx hb dX6_ahead_1 rfl hl (by decide) rfl (fun ls hl => ?_)
  refine zr_iconst hx hb dX6_ahead_2 ?_
  refine lv_istore (lv' := [(4, .int (zI (0 : Int))), (3, .int (zI (0 : Int))), (0, .ref (q 0)), (1, .int (zI ((rv : Nat) : Int))), (2, .int (zI ((b : Nat) : Int)))]) hx hb dX6_ahead_3 hl (by decide) rfl (fun ls hl => ?_)
  suffices LP5 : ∀ (f9 : Nat) (k : Nat) (u9 : Int32 × Int32 × Bool), σ.1 4 < k + f9 → (k ≤ σ.1 4) → ∀ (H : Heap) (locs : List Loc) (ls : Array Slot), va_P G.1 vwCl (wM G q σ (κ.1, u9)) H → va_D A (wM G q σ (κ.1, u9)) → va_S A s.heap H locs → lv_has ls 6 [(4, .int (zI ((k : Nat) : Int))), (3, .int (zI ((cnt (fun y9 => isAh σ y9 b && shM σ rv y9) k : Nat) : Int))), (0, .ref (q 0)), (1, .int (zI ((rv : Nat) : Int))), (2, .int (zI ((b : Nat) : Int)))] → W p l e r_X6_ahead s m av below meth c H locs 0 0 Q (F0 m 5 ls []) from LP5 (σ.1 4 + 1) (0) (κ.2) (by omega) (by omega) _ _ _ hP hD hS (lv_sub hl [0, 1, 2, 3, 4] rfl)
  intro f9
  induction f9 with
  | zero => intro k u9 hf9 hk; exfalso; omega
  | succ f9 ih5 =>
    intro k u9 hf9 hk H locs ls hP hD hS hl
    have hc9 := cnt_le (fun y9 => isAh σ y9 b && shM σ rv y9) k
    have ht9 := htm k
    refine lv_iload hx hb dX6_ahead_5 (lv_at hl 0 rfl) ?_
    refine lv_aload_n hx hb dX6_ahead_7 rfl (lv_at hl 2 rfl) ?_
    refine gM_0_28 Z hP kf_X6_96 dX6_ahead_8 ?_
    refine zr_top (w := .int (zI ((σ.1 4 : Nat) : Int))) rfl ?_
    refine zc_ge (tgt := 88) hx hb ((k : Nat) : Int) ((σ.1 4 : Nat) : Int) (zI_toInt (by omega)) (zI_toInt (by omega)) dX6_ahead_11 (by decide) (fun c11 => ?_) (fun c11 => ?_)
    · skip
      refine lv_iload_n hx hb dX6_ahead_88 rfl (lv_at hl 1 rfl) ?_
      exact zret_I (u9) Z hr hP hD hS (by rw [show k = σ.1 4 from by omega] <;> rfl) rfl ⟨Nat.le_refl _, Nat.le_refl _⟩ hQ dX6_ahead_89
    · skip
      refine lv_aload_n hx hb dX6_ahead_14 rfl (lv_at hl 2 rfl) ?_
      refine gM_0_4 Z hP kf_X6_23 dX6_ahead_15 ?_
      refine lv_iload hx hb dX6_ahead_18 (lv_at hl 0 rfl) ?_
      refine ldN Z hP 5 (σ.2.1 1) rfl (k) rfl (by omega) (by decide) dX6_ahead_20 ?_
      refine lv_aload_n hx hb dX6_ahead_21 rfl (lv_at hl 2 rfl) ?_
      refine gM_0_4 Z hP kf_X6_23 dX6_ahead_22 ?_
      refine lv_iload_n hx hb dX6_ahead_25 rfl (lv_at hl 4 rfl) ?_
      refine ldN Z hP 5 (σ.2.1 1) rfl (b) rfl (by omega) (by decide) dX6_ahead_26 ?_
      refine zc_gt (tgt := 52) hx hb (((σ.2.1 1) (k) : Nat) : Int) (((σ.2.1 1) (b) : Nat) : Int) (zI_toInt (by omega)) (zI_toInt (by omega)) dX6_ahead_27 (by decide) (fun c27 => ?_) (fun c27 => ?_)
      · skip
        refine zr_iconst hx hb dX6_ahead_52 ?_
        refine lv_goto (tgt := 57) hx hb dX6_ahead_53 (by decide) ?_
        refine lv_istore (lv' := [(5, .int (zI (1 : Int))), (4, .int (zI ((k : Nat) : Int))), (3, .int (zI ((cnt (fun y9 => isAh σ y9 b && shM σ rv y9) k : Nat) : Int))), (0, .ref (q 0)), (1, .int (zI ((rv : Nat) : Int))), (2, .int (zI ((b : Nat) : Int)))]) hx hb dX6_ahead_57 hl (by decide) rfl (fun ls hl => ?_)
        refine lv_iload_n hx hb dX6_ahead_59 rfl (lv_at hl 2 rfl) ?_
        refine lv_iload hx hb dX6_ahead_60 (lv_at hl 0 rfl) ?_
        refine zc0_eq (tgt := 79) hx hb (1 : Int) (zI_toInt (by decide)) dX6_ahead_62 (by decide) (fun c62 => by exfalso; omega) (fun c62 => ?_)
        refine lv_aload_n hx hb dX6_ahead_65 rfl (lv_at hl 3 rfl) ?_
        refine lv_iload_n hx hb dX6_ahead_66 rfl (lv_at hl 4 rfl) ?_
        refine lv_iload hx hb dX6_ahead_67 (lv_at hl 1 rfl) ?_
        refine zdet_I ⟨rfl, rfl⟩ Z hD hS (zrunV (rest := [.int (zI ((cnt (fun y9 => isAh σ y9 b && shM σ rv y9) k : Nat) : Int))]) Z hP hD hS hl.1 (m_X6_shows l G q σ (κ.1, u9) (rv) rfl (k) rfl hI h1 (by omega)) zY_X6_shows km_X6_183 (q0 := 0) rfl rfl rfl rfl ⟨⟨Nat.le_of_ble_eq_true rfl, Nat.le_of_ble_eq_true rfl⟩, Nat.le_of_ble_eq_true rfl, Nat.le_of_ble_eq_true rfl⟩ (Nat.le_of_ble_eq_true rfl) dX6_ahead_69) (fun H locs hP hD hS => ?_)
        refine zb_eq (tgt := 79) hx hb dX6_ahead_72 (by decide) (fun c72 => ?_) (fun c72 => ?_)
        · skip
          refine zr_iconst hx hb dX6_ahead_79 ?_
          refine zr_iadd hx hb dX6_ahead_80 ?_
          refine lv_istore_n (lv' := [(3, .int (zI (((cnt (fun y9 => isAh σ y9 b && shM σ rv y9) k : Nat) : Int) + (0 : Int)))), (5, .int (zI (1 : Int))), (4, .int (zI ((k : Nat) : Int))), (0, .ref (q 0)), (1, .int (zI ((rv : Nat) : Int))), (2, .int (zI ((b : Nat) : Int)))]) hx hb dX6_ahead_81 rfl hl (by decide) rfl (fun ls hl => ?_)
          refine zr_iinc (lv' := [(4, .int (zI (((k : Nat) : Int) + (1 : Int)))), (3, .int (zI (((cnt (fun y9 => isAh σ y9 b && shM σ rv y9) k : Nat) : Int) + (0 : Int)))), (5, .int (zI (1 : Int))), (0, .ref (q 0)), (1, .int (zI ((rv : Nat) : Int))), (2, .int (zI ((b : Nat) : Int)))]) hx hb 2 dX6_ahead_82 hl rfl (by decide) rfl (fun ls hl => ?_)
          refine lv_goto (tgt := 5) hx hb dX6_ahead_85 (by decide) ?_
          have h9 : cnt (fun y9 => isAh σ y9 b && shM σ rv y9) (k + 1) = cnt (fun y9 => isAh σ y9 b && shM σ rv y9) k := cnt_no (p := (fun y9 => isAh σ y9 b && shM σ rv y9)) (by show (isAh σ k b && shM σ rv k) = false; rw [show isAh σ k b = true from by unfold isAh; simp; omega, c72]; rfl)
          exact ih5 (k + 1) (goI σ k) (by omega) (by omega) _ _ _ hP hD hS (lv_sub hl [0, 1, 3, 4, 5] (by rw [h9]; rfl))
        · skip
          refine zr_iconst hx hb dX6_ahead_75 ?_
          refine lv_goto (tgt := 80) hx hb dX6_ahead_76 (by decide) ?_
          refine zr_iadd hx hb dX6_ahead_80 ?_
          refine lv_istore_n (lv' := [(3, .int (zI (((cnt (fun y9 => isAh σ y9 b && shM σ rv y9) k : Nat) : Int) + (1 : Int)))), (5, .int (zI (1 : Int))), (4, .int (zI ((k : Nat) : Int))), (0, .ref (q 0)), (1, .int (zI ((rv : Nat) : Int))), (2, .int (zI ((b : Nat) : Int)))]) hx hb dX6_ahead_81 rfl hl (by decide) rfl (fun ls hl => ?_)
          refine zr_iinc (lv' := [(4, .int (zI (((k : Nat) : Int) + (1 : Int)))), (3, .int (zI (((cnt (fun y9 => isAh σ y9 b && shM σ rv y9) k : Nat) : Int) + (1 : Int)))), (5, .int (zI (1 : Int))), (0, .ref (q 0)), (1, .int (zI ((rv : Nat) : Int))), (2, .int (zI ((b : Nat) : Int)))]) hx hb 2 dX6_ahead_82 hl rfl (by decide) rfl (fun ls hl => ?_)
          refine lv_goto (tgt := 5) hx hb dX6_ahead_85 (by decide) ?_
          have h9 : cnt (fun y9 => isAh σ y9 b && shM σ rv y9) (k + 1) = cnt (fun y9 => isAh σ y9 b && shM σ rv y9) k + 1 := cnt_yes (p := (fun y9 => isAh σ y9 b && shM σ rv y9)) (by show (isAh σ k b && shM σ rv k) = true; rw [show isAh σ k b = true from by unfold isAh; simp; omega, c72]; rfl)
          exact ih5 (k + 1) (goI σ k) (by omega) (by omega) _ _ _ hP hD hS (lv_sub hl [0, 1, 3, 4, 5] (by rw [h9]; rfl))
      · skip
        refine lv_aload_n hx hb dX6_ahead_30 rfl (lv_at hl 2 rfl) ?_
        refine gM_0_4 Z hP kf_X6_23 dX6_ahead_31 ?_
        refine lv_iload hx hb dX6_ahead_34 (lv_at hl 0 rfl) ?_
        refine ldN Z hP 5 (σ.2.1 1) rfl (k) rfl (by omega) (by decide) dX6_ahead_36 ?_
        refine lv_aload_n hx hb dX6_ahead_37 rfl (lv_at hl 2 rfl) ?_
        refine gM_0_4 Z hP kf_X6_23 dX6_ahead_38 ?_
        refine lv_iload_n hx hb dX6_ahead_41 rfl (lv_at hl 4 rfl) ?_
        refine ldN Z hP 5 (σ.2.1 1) rfl (b) rfl (by omega) (by decide) dX6_ahead_42 ?_
        refine zc_ne (tgt := 56) hx hb (((σ.2.1 1) (k) : Nat) : Int) (((σ.2.1 1) (b) : Nat) : Int) (zI_toInt (by omega)) (zI_toInt (by omega)) dX6_ahead_43 (by decide) (fun c43 => ?_) (fun c43 => ?_)
        · skip
          refine zr_iconst hx hb dX6_ahead_56 ?_
          refine lv_istore (lv' := [(5, .int (zI (0 : Int))), (4, .int (zI ((k : Nat) : Int))), (3, .int (zI ((cnt (fun y9 => isAh σ y9 b && shM σ rv y9) k : Nat) : Int))), (0, .ref (q 0)), (1, .int (zI ((rv : Nat) : Int))), (2, .int (zI ((b : Nat) : Int)))]) hx hb dX6_ahead_57 hl (by decide) rfl (fun ls hl => ?_)
          refine lv_iload_n hx hb dX6_ahead_59 rfl (lv_at hl 2 rfl) ?_
          refine lv_iload hx hb dX6_ahead_60 (lv_at hl 0 rfl) ?_
          refine zc0_eq (tgt := 79) hx hb (0 : Int) (zI_toInt (by decide)) dX6_ahead_62 (by decide) (fun c62 => ?_) (fun c62 => by exfalso; omega)
          refine zr_iconst hx hb dX6_ahead_79 ?_
          refine zr_iadd hx hb dX6_ahead_80 ?_
          refine lv_istore_n (lv' := [(3, .int (zI (((cnt (fun y9 => isAh σ y9 b && shM σ rv y9) k : Nat) : Int) + (0 : Int)))), (5, .int (zI (0 : Int))), (4, .int (zI ((k : Nat) : Int))), (0, .ref (q 0)), (1, .int (zI ((rv : Nat) : Int))), (2, .int (zI ((b : Nat) : Int)))]) hx hb dX6_ahead_81 rfl hl (by decide) rfl (fun ls hl => ?_)
          refine zr_iinc (lv' := [(4, .int (zI (((k : Nat) : Int) + (1 : Int)))), (3, .int (zI (((cnt (fun y9 => isAh σ y9 b && shM σ rv y9) k : Nat) : Int) + (0 : Int)))), (5, .int (zI (0 : Int))), (0, .ref (q 0)), (1, .int (zI ((rv : Nat) : Int))), (2, .int (zI ((b : Nat) : Int)))]) hx hb 2 dX6_ahead_82 hl rfl (by decide) rfl (fun ls hl => ?_)
          refine lv_goto (tgt := 5) hx hb dX6_ahead_85 (by decide) ?_
          have h9 : cnt (fun y9 => isAh σ y9 b && shM σ rv y9) (k + 1) = cnt (fun y9 => isAh σ y9 b && shM σ rv y9) k := cnt_no (p := (fun y9 => isAh σ y9 b && shM σ rv y9)) (by show (isAh σ k b && shM σ rv k) = false; rw [show isAh σ k b = false from by unfold isAh; simp; omega]; rfl)
          exact ih5 (k + 1) (u9) (by omega) (by omega) _ _ _ hP hD hS (lv_sub hl [0, 1, 3, 4, 5] (by rw [h9]; rfl))
        · skip
          refine lv_iload hx hb dX6_ahead_46 (lv_at hl 0 rfl) ?_
          refine lv_iload_n hx hb dX6_ahead_48 rfl (lv_at hl 4 rfl) ?_
          refine zc_le (tgt := 56) hx hb ((k : Nat) : Int) ((b : Nat) : Int) (zI_toInt (by omega)) (zI_toInt (by omega)) dX6_ahead_49 (by decide) (fun c49 => ?_) (fun c49 => ?_)
          · skip
            refine zr_iconst hx hb dX6_ahead_56 ?_
            refine lv_istore (lv' := [(5, .int (zI (0 : Int))), (4, .int (zI ((k : Nat) : Int))), (3, .int (zI ((cnt (fun y9 => isAh σ y9 b && shM σ rv y9) k : Nat) : Int))), (0, .ref (q 0)), (1, .int (zI ((rv : Nat) : Int))), (2, .int (zI ((b : Nat) : Int)))]) hx hb dX6_ahead_57 hl (by decide) rfl (fun ls hl => ?_)
            refine lv_iload_n hx hb dX6_ahead_59 rfl (lv_at hl 2 rfl) ?_
            refine lv_iload hx hb dX6_ahead_60 (lv_at hl 0 rfl) ?_
            refine zc0_eq (tgt := 79) hx hb (0 : Int) (zI_toInt (by decide)) dX6_ahead_62 (by decide) (fun c62 => ?_) (fun c62 => by exfalso; omega)
            refine zr_iconst hx hb dX6_ahead_79 ?_
            refine zr_iadd hx hb dX6_ahead_80 ?_
            refine lv_istore_n (lv' := [(3, .int (zI (((cnt (fun y9 => isAh σ y9 b && shM σ rv y9) k : Nat) : Int) + (0 : Int)))), (5, .int (zI (0 : Int))), (4, .int (zI ((k : Nat) : Int))), (0, .ref (q 0)), (1, .int (zI ((rv : Nat) : Int))), (2, .int (zI ((b : Nat) : Int)))]) hx hb dX6_ahead_81 rfl hl (by decide) rfl (fun ls hl => ?_)
            refine zr_iinc (lv' := [(4, .int (zI (((k : Nat) : Int) + (1 : Int)))), (3, .int (zI (((cnt (fun y9 => isAh σ y9 b && shM σ rv y9) k : Nat) : Int) + (0 : Int)))), (5, .int (zI (0 : Int))), (0, .ref (q 0)), (1, .int (zI ((rv : Nat) : Int))), (2, .int (zI ((b : Nat) : Int)))]) hx hb 2 dX6_ahead_82 hl rfl (by decide) rfl (fun ls hl => ?_)
            refine lv_goto (tgt := 5) hx hb dX6_ahead_85 (by decide) ?_
            have h9 : cnt (fun y9 => isAh σ y9 b && shM σ rv y9) (k + 1) = cnt (fun y9 => isAh σ y9 b && shM σ rv y9) k := cnt_no (p := (fun y9 => isAh σ y9 b && shM σ rv y9)) (by show (isAh σ k b && shM σ rv k) = false; rw [show isAh σ k b = false from by unfold isAh; simp; omega]; rfl)
            exact ih5 (k + 1) (u9) (by omega) (by omega) _ _ _ hP hD hS (lv_sub hl [0, 1, 3, 4, 5] (by rw [h9]; rfl))
          · skip
            refine zr_iconst hx hb dX6_ahead_52 ?_
            refine lv_goto (tgt := 57) hx hb dX6_ahead_53 (by decide) ?_
            refine lv_istore (lv' := [(5, .int (zI (1 : Int))), (4, .int (zI ((k : Nat) : Int))), (3, .int (zI ((cnt (fun y9 => isAh σ y9 b && shM σ rv y9) k : Nat) : Int))), (0, .ref (q 0)), (1, .int (zI ((rv : Nat) : Int))), (2, .int (zI ((b : Nat) : Int)))]) hx hb dX6_ahead_57 hl (by decide) rfl (fun ls hl => ?_)
            refine lv_iload_n hx hb dX6_ahead_59 rfl (lv_at hl 2 rfl) ?_
            refine lv_iload hx hb dX6_ahead_60 (lv_at hl 0 rfl) ?_
            refine zc0_eq (tgt := 79) hx hb (1 : Int) (zI_toInt (by decide)) dX6_ahead_62 (by decide) (fun c62 => by exfalso; omega) (fun c62 => ?_)
            refine lv_aload_n hx hb dX6_ahead_65 rfl (lv_at hl 3 rfl) ?_
            refine lv_iload_n hx hb dX6_ahead_66 rfl (lv_at hl 4 rfl) ?_
            refine lv_iload hx hb dX6_ahead_67 (lv_at hl 1 rfl) ?_
            refine zdet_I ⟨rfl, rfl⟩ Z hD hS (zrunV (rest := [.int (zI ((cnt (fun y9 => isAh σ y9 b && shM σ rv y9) k : Nat) : Int))]) Z hP hD hS hl.1 (m_X6_shows l G q σ (κ.1, u9) (rv) rfl (k) rfl hI h1 (by omega)) zY_X6_shows km_X6_183 (q0 := 0) rfl rfl rfl rfl ⟨⟨Nat.le_of_ble_eq_true rfl, Nat.le_of_ble_eq_true rfl⟩, Nat.le_of_ble_eq_true rfl, Nat.le_of_ble_eq_true rfl⟩ (Nat.le_of_ble_eq_true rfl) dX6_ahead_69) (fun H locs hP hD hS => ?_)
            refine zb_eq (tgt := 79) hx hb dX6_ahead_72 (by decide) (fun c72 => ?_) (fun c72 => ?_)
            · skip
              refine zr_iconst hx hb dX6_ahead_79 ?_
              refine zr_iadd hx hb dX6_ahead_80 ?_
              refine lv_istore_n (lv' := [(3, .int (zI (((cnt (fun y9 => isAh σ y9 b && shM σ rv y9) k : Nat) : Int) + (0 : Int)))), (5, .int (zI (1 : Int))), (4, .int (zI ((k : Nat) : Int))), (0, .ref (q 0)), (1, .int (zI ((rv : Nat) : Int))), (2, .int (zI ((b : Nat) : Int)))]) hx hb dX6_ahead_81 rfl hl (by decide) rfl (fun ls hl => ?_)
              refine zr_iinc (lv' := [(4, .int (zI (((k : Nat) : Int) + (1 : Int)))), (3, .int (zI (((cnt (fun y9 => isAh σ y9 b && shM σ rv y9) k : Nat) : Int) + (0 : Int)))), (5, .int (zI (1 : Int))), (0, .ref (q 0)), (1, .int (zI ((rv : Nat) : Int))), (2, .int (zI ((b : Nat) : Int)))]) hx hb 2 dX6_ahead_82 hl rfl (by decide) rfl (fun ls hl => ?_)
              refine lv_goto (tgt := 5) hx hb dX6_ahead_85 (by decide) ?_
              have h9 : cnt (fun y9 => isAh σ y9 b && shM σ rv y9) (k + 1) = cnt (fun y9 => isAh σ y9 b && shM σ rv y9) k := cnt_no (p := (fun y9 => isAh σ y9 b && shM σ rv y9)) (by show (isAh σ k b && shM σ rv k) = false; rw [show isAh σ k b = true from by unfold isAh; simp; omega, c72]; rfl)
              exact ih5 (k + 1) (goI σ k) (by omega) (by omega) _ _ _ hP hD hS (lv_sub hl [0, 1, 3, 4, 5] (by rw [h9]; rfl))
            · skip
              refine zr_iconst hx hb dX6_ahead_75 ?_
              refine lv_goto (tgt := 80) hx hb dX6_ahead_76 (by decide) ?_
              refine zr_iadd hx hb dX6_ahead_80 ?_
              refine lv_istore_n (lv' := [(3, .int (zI (((cnt (fun y9 => isAh σ y9 b && shM σ rv y9) k : Nat) : Int) + (1 : Int)))), (5, .int (zI (1 : Int))), (4, .int (zI ((k : Nat) : Int))), (0, .ref (q 0)), (1, .int (zI ((rv : Nat) : Int))), (2, .int (zI ((b : Nat) : Int)))]) hx hb dX6_ahead_81 rfl hl (by decide) rfl (fun ls hl => ?_)
              refine zr_iinc (lv' := [(4, .int (zI (((k : Nat) : Int) + (1 : Int)))), (3, .int (zI (((cnt (fun y9 => isAh σ y9 b && shM σ rv y9) k : Nat) : Int) + (1 : Int)))), (5, .int (zI (1 : Int))), (0, .ref (q 0)), (1, .int (zI ((rv : Nat) : Int))), (2, .int (zI ((b : Nat) : Int)))]) hx hb 2 dX6_ahead_82 hl rfl (by decide) rfl (fun ls hl => ?_)
              refine lv_goto (tgt := 5) hx hb dX6_ahead_85 (by decide) ?_
              have h9 : cnt (fun y9 => isAh σ y9 b && shM σ rv y9) (k + 1) = cnt (fun y9 => isAh σ y9 b && shM σ rv y9) k + 1 := cnt_yes (p := (fun y9 => isAh σ y9 b && shM σ rv y9)) (by show (isAh σ k b && shM σ rv k) = true; rw [show isAh σ k b = true from by unfold isAh; simp; omega, c72]; rfl)
              exact ih5 (k + 1) (goI σ k) (by omega) (by omega) _ _ _ hP hD hS (lv_sub hl [0, 1, 3, 4, 5] (by rw [h9]; rfl))
abbrev r_X6_itemAt : Room := { frames := 5, cells := 0, slots := 0, locals := 116 }
set_option maxHeartbeats 4000000 in
set_option maxRecDepth 100000 in
theorem m_X6_itemAt (l : Launch) (G : ZG) (q : Nat → Nat) (σ : St) (κ : KM) {e_rv : Int} (rv : Nat) (he_rv : e_rv = (rv : Int)) (rk : Int) (hI : okM σ) (h1 : rv < σ.1 6) (h2 : zR rk) :
    MC l G yX6_itemAt (wY yX6_itemAt cX6_itemAt 4 (some .int)) r_X6_itemAt (wM G q σ κ) [.ref (q 0), .int (zI e_rv), .int (zI (rk : Int))] (QI G (S := Int32 × Int32 × Bool) (fun r9 (_ : Int32 × Int32 × Bool) => r9 = (zI (itA σ rv rk : Int))) (fun u => wM G q σ (κ.1, u))) := by
  subst he_rv
  refine MC.mk (by decide +kernel) (Nat.le_of_ble_eq_true rfl) ?_
  intro p e s m av below meth c A H locs ls Q Z hr hnm hQ hP hD hS hl
  have hx := Z.1
  have hb := Z.2.1
  have hown := Z.2.2.2.1
  have hW := Z.2.2.2.2.1
  have hl : lv_has ls 4 [(0, .ref (q 0)), (1, .int (zI ((rv : Nat) : Int))), (2, .int (zI (rk : Int)))] := hl
  obtain ⟨hn, hru, hrv, hdv, hsr, hmn, ht1, ht2, hwn, hv1, hv2, hmj, htm, hse, htg, hrt, hac, hk1, hk2, hkd, hmm, hmv, hpp, hpl, hp3, hp4, hp6, hp5, hp7, hnz⟩ := id hI
  refine zr_iconst hx hb dX6_itemAt_0 ?_
  refine lv_istore_n (lv' := [(3, .int (zI (0 : Int))), (0, .ref (q 0)), (1, .int (zI ((rv : Nat) : Int))), (2, .int (zI (rk : Int)))]) hx hb dX6_itemAt_1 rfl hl (by decide) rfl (fun ls hl => ?_)
  suffices LP2 : ∀ (f9 : Nat) (k : Nat) (u9 : Int32 × Int32 × Bool), σ.1 4 < k + f9 → (k ≤ σ.1 4) → (∀ y9, y9 < k → (fun y9 => shM σ rv y9 && decide (((ahM σ rv y9 : Nat) : Int) = rk)) y9 = false) → ∀ (H : Heap) (locs : List Loc) (ls : Array Slot), va_P G.1 vwCl (wM G q σ (κ.1, u9)) H → va_D A (wM G q σ (κ.1, u9)) → va_S A s.heap H locs → lv_has ls 4 [(3, .int (zI ((k : Nat) : Int))), (0, .ref (q 0)), (1, .int (zI ((rv : Nat) : Int))), (2, .int (zI (rk : Int)))] → W p l e r_X6_itemAt s m av below meth c H locs 0 0 Q (F0 m 2 ls []) from LP2 (σ.1 4 + 1) (0) (κ.2) (by omega) (by omega) (fun y9 hy => by omega) _ _ _ hP hD hS (lv_sub hl [0, 1, 2, 3] rfl)
  intro f9
  induction f9 with
  | zero => intro k u9 hf9 hk hno; exfalso; omega
  | succ f9 ih2 =>
    intro k u9 hf9 hk hno H locs ls hP hD hS hl
    have ha9 : ahM σ rv k ≤ σ.1 4 := cnt_le _ _
    refine lv_iload_n hx hb dX6_itemAt_2 rfl (lv_at hl 0 rfl) ?_
    refine lv_aload_n hx hb dX6_itemAt_3 rfl (lv_at hl 1 rfl) ?_
    refine gM_0_28 Z hP kf_X6_96 dX6_itemAt_4 ?_
    refine zr_top (w := .int (zI ((σ.1 4 : Nat) : Int))) rfl ?_
    refine zc_ge (tgt := 37) hx hb ((k : Nat) : Int) ((σ.1 4 : Nat) : Int) (zI_toInt (by omega)) (zI_toInt (by omega)) dX6_itemAt_7 (by decide) (fun c7 => ?_) (fun c7 => ?_)
    · skip
      refine zr_iconst hx hb dX6_itemAt_37 ?_
      exact zret_I (u9) Z hr hP hD hS (congrArg zI (fI_no (p := (fun y9 => shM σ rv y9 && decide (((ahM σ rv y9 : Nat) : Int) = rk))) (fun y9 hy => hno y9 (by omega))).symm) rfl ⟨Nat.le_refl _, Nat.le_refl _⟩ hQ dX6_itemAt_38
    · skip
      refine lv_aload_n hx hb dX6_itemAt_10 rfl (lv_at hl 1 rfl) ?_
      refine lv_iload_n hx hb dX6_itemAt_11 rfl (lv_at hl 2 rfl) ?_
      refine lv_iload_n hx hb dX6_itemAt_12 rfl (lv_at hl 0 rfl) ?_
      refine zdet_I ⟨rfl, rfl⟩ Z hD hS (zrunV (rest := []) Z hP hD hS hl.1 (m_X6_shows l G q σ (κ.1, u9) (rv) rfl (k) rfl hI h1 (by omega)) zY_X6_shows km_X6_183 (q0 := 0) rfl rfl rfl rfl ⟨⟨Nat.le_of_ble_eq_true rfl, Nat.le_of_ble_eq_true rfl⟩, Nat.le_of_ble_eq_true rfl, Nat.le_of_ble_eq_true rfl⟩ (Nat.le_of_ble_eq_true rfl) dX6_itemAt_13) (fun H locs hP hD hS => ?_)
      refine zb_eq (tgt := 31) hx hb dX6_itemAt_16 (by decide) (fun c16 => ?_) (fun c16 => ?_)
      · skip
        refine zr_iinc (lv' := [(3, .int (zI (((k : Nat) : Int) + (1 : Int)))), (0, .ref (q 0)), (1, .int (zI ((rv : Nat) : Int))), (2, .int (zI (rk : Int)))]) hx hb 0 dX6_itemAt_31 hl rfl (by decide) rfl (fun ls hl => ?_)
        refine lv_goto (tgt := 2) hx hb dX6_itemAt_34 (by decide) ?_
        exact ih2 (k + 1) (goI σ k) (by omega) (by omega) (fun y9 hy => by
            by_cases e9 : y9 = k
            · subst e9; simp [c16]
            · exact hno y9 (by omega)) _ _ _ hP hD hS (lv_sub hl [0, 1, 2, 3] rfl)
      · skip
        refine lv_aload_n hx hb dX6_itemAt_19 rfl (lv_at hl 1 rfl) ?_
        refine lv_iload_n hx hb dX6_itemAt_20 rfl (lv_at hl 2 rfl) ?_
        refine lv_iload_n hx hb dX6_itemAt_21 rfl (lv_at hl 0 rfl) ?_
        refine zfin_I ⟨rfl, rfl⟩ Z hD hS (zrunV (rest := []) Z hP hD hS hl.1 (m_X6_ahead l G q σ (κ.1, goI σ k) (rv) rfl (k) rfl hI h1 (by omega)) zY_X6_ahead km_X6_192 (q0 := 0) rfl rfl rfl rfl ⟨⟨Nat.le_of_ble_eq_true rfl, Nat.le_of_ble_eq_true rfl⟩, Nat.le_of_ble_eq_true rfl, Nat.le_of_ble_eq_true rfl⟩ (Nat.le_of_ble_eq_true rfl) dX6_itemAt_22) (fun r u H locs hp hP hD hS => ?_)
        obtain rfl : r = (zI ((ahM σ rv k : Nat) : Int)) := hp
        refine lv_iload_n hx hb dX6_itemAt_25 rfl (lv_at hl 3 rfl) ?_
        refine zc_ne (tgt := 31) hx hb ((ahM σ rv k : Nat) : Int) (rk : Int) (zI_toInt (by omega)) (zI_toInt (by omega)) dX6_itemAt_26 (by decide) (fun c26 => ?_) (fun c26 => ?_)
        · skip
          refine zr_iinc (lv' := [(3, .int (zI (((k : Nat) : Int) + (1 : Int)))), (0, .ref (q 0)), (1, .int (zI ((rv : Nat) : Int))), (2, .int (zI (rk : Int)))]) hx hb 0 dX6_itemAt_31 hl rfl (by decide) rfl (fun ls hl => ?_)
          refine lv_goto (tgt := 2) hx hb dX6_itemAt_34 (by decide) ?_
          exact ih2 (k + 1) (u) (by omega) (by omega) (fun y9 hy => by
              by_cases e9 : y9 = k
              · subst e9; simp [c16, c26]
              · exact hno y9 (by omega)) _ _ _ hP hD hS (lv_sub hl [0, 1, 2, 3] rfl)
        · skip
          refine lv_iload_n hx hb dX6_itemAt_29 rfl (lv_at hl 0 rfl) ?_
          exact zret_I (u) Z hr hP hD hS (congrArg zI (fI_yes (p := (fun y9 => shM σ rv y9 && decide (((ahM σ rv y9 : Nat) : Int) = rk))) (k := k) (by omega) (by simp [c16]; omega) hno).symm) rfl ⟨Nat.le_refl _, Nat.le_refl _⟩ hQ dX6_itemAt_30
abbrev r_X6_isItem : Room := { frames := 1, cells := 0, slots := 0, locals := 22 }
set_option maxHeartbeats 4000000 in
set_option maxRecDepth 100000 in
theorem m_X6_isItem (l : Launch) (G : ZG) (q : Nat → Nat) (σ : St) (κ : KM) (a : Int) (h1 : zR a) (h2 : σ.1 4 ≤ 30) :
    MC l G yX6_isItem (wY yX6_isItem cX6_isItem 2 (some .boolean)) r_X6_isItem (wM G q σ κ) [.ref (q 0), .int (zI (a : Int))] (QI G (fun r9 (_ : Unit) => r9 = (tB (decide ((0 : Int) ≤ a ∧ a ≤ (((σ.1 4 : Nat) : Int) - (1 : Int)))))) (fun _ => wM G q σ κ)) := by
  refine MC.mk (by decide +kernel) (Nat.le_of_ble_eq_true rfl) ?_
  intro p e s m av below meth c A H locs ls Q Z hr hnm hQ hP hD hS hl
  have hx := Z.1
  have hb := Z.2.1
  have hown := Z.2.2.2.1
  have hW := Z.2.2.2.2.1
  have hl : lv_has ls 2 [(0, .ref (q 0)), (1, .int (zI (a : Int)))] := hl
  refine lv_iload_n hx hb dX6_isItem_0 rfl (lv_at hl 1 rfl) ?_
  refine zr_iconst hx hb dX6_isItem_1 ?_
  refine lv_aload_n hx hb dX6_isItem_2 rfl (lv_at hl 0 rfl) ?_
  refine gM_0_28 Z hP kf_X6_96 dX6_isItem_3 ?_
  refine zr_iconst hx hb dX6_isItem_6 ?_
  refine zr_isub hx hb dX6_isItem_7 ?_
  refine zdet_I ⟨rfl, rfl⟩ Z hD hS (zrunS (rest := []) Z hP hD hS hl.1 (m_X6_in l G (wM G q σ κ) (a : Int) (0 : Int) (((σ.1 4 : Nat) : Int) - (1 : Int)) h1 (by omega) (by omega)) zY_X6_in km_X6_128 rfl rfl ⟨⟨Nat.le_of_ble_eq_true rfl, Nat.le_of_ble_eq_true rfl⟩, Nat.le_of_ble_eq_true rfl, Nat.le_of_ble_eq_true rfl⟩ (Nat.le_of_ble_eq_true rfl) dX6_isItem_8) (fun H locs hP hD hS => ?_)
  exact zret_B () Z hr (tB_n _) hP hD hS rfl rfl ⟨Nat.le_refl _, Nat.le_refl _⟩ hQ dX6_isItem_11
abbrev r_X6_isRiver : Room := { frames := 1, cells := 0, slots := 0, locals := 22 }
set_option maxHeartbeats 4000000 in
set_option maxRecDepth 100000 in
theorem m_X6_isRiver (l : Launch) (G : ZG) (q : Nat → Nat) (σ : St) (κ : KM) (a : Int) (h1 : zR a) (h2 : σ.1 6 ≤ 30) :
    MC l G yX6_isRiver (wY yX6_isRiver cX6_isRiver 2 (some .boolean)) r_X6_isRiver (wM G q σ κ) [.ref (q 0), .int (zI (a : Int))] (QI G (fun r9 (_ : Unit) => r9 = (tB (decide ((0 : Int) ≤ a ∧ a ≤ (((σ.1 6 : Nat) : Int) - (1 : Int)))))) (fun _ => wM G q σ κ)) := by
  refine MC.mk (by decide +kernel) (Nat.le_of_ble_eq_true rfl) ?_
  intro p e s m av below meth c A H locs ls Q Z hr hnm hQ hP hD hS hl
  have hx := Z.1
  have hb := Z.2.1
  have hown := Z.2.2.2.1
  have hW := Z.2.2.2.2.1
  have hl : lv_has ls 2 [(0, .ref (q 0)), (1, .int (zI (a : Int)))] := hl
  refine lv_iload_n hx hb dX6_isRiver_0 rfl (lv_at hl 1 rfl) ?_
  refine zr_iconst hx hb dX6_isRiver_1 ?_
  refine lv_aload_n hx hb dX6_isRiver_2 rfl (lv_at hl 0 rfl) ?_
  refine gM_0_32 Z hP kf_X6_108 dX6_isRiver_3 ?_
  refine zr_iconst hx hb dX6_isRiver_6 ?_
  refine zr_isub hx hb dX6_isRiver_7 ?_
  refine zdet_I ⟨rfl, rfl⟩ Z hD hS (zrunS (rest := []) Z hP hD hS hl.1 (m_X6_in l G (wM G q σ κ) (a : Int) (0 : Int) (((σ.1 6 : Nat) : Int) - (1 : Int)) h1 (by omega) (by omega)) zY_X6_in km_X6_128 rfl rfl ⟨⟨Nat.le_of_ble_eq_true rfl, Nat.le_of_ble_eq_true rfl⟩, Nat.le_of_ble_eq_true rfl, Nat.le_of_ble_eq_true rfl⟩ (Nat.le_of_ble_eq_true rfl) dX6_isRiver_8) (fun H locs hP hD hS => ?_)
  exact zret_B () Z hr (tB_n _) hP hD hS rfl rfl ⟨Nat.le_refl _, Nat.le_refl _⟩ hQ dX6_isRiver_11
abbrev r_X6_isDevice : Room := { frames := 1, cells := 0, slots := 0, locals := 22 }
set_option maxHeartbeats 4000000 in
set_option maxRecDepth 100000 in
theorem m_X6_isDevice (l : Launch) (G : ZG) (q : Nat → Nat) (σ : St) (κ : KM) (a : Int) (h1 : zR a) (h2 : σ.1 7 ≤ 30) :
    MC l G yX6_isDevice (wY yX6_isDevice cX6_isDevice 2 (some .boolean)) r_X6_isDevice (wM G q σ κ) [.ref (q 0), .int (zI (a : Int))] (QI G (fun r9 (_ : Unit) => r9 = (tB (decide ((0 : Int) ≤ a ∧ a ≤ (((σ.1 7 : Nat) : Int) - (1 : Int)))))) (fun _ => wM G q σ κ)) := by
  refine MC.mk (by decide +kernel) (Nat.le_of_ble_eq_true rfl) ?_
  intro p e s m av below meth c A H locs ls Q Z hr hnm hQ hP hD hS hl
  have hx := Z.1
  have hb := Z.2.1
  have hown := Z.2.2.2.1
  have hW := Z.2.2.2.2.1
  have hl : lv_has ls 2 [(0, .ref (q 0)), (1, .int (zI (a : Int)))] := hl
  refine lv_iload_n hx hb dX6_isDevice_0 rfl (lv_at hl 1 rfl) ?_
  refine zr_iconst hx hb dX6_isDevice_1 ?_
  refine lv_aload_n hx hb dX6_isDevice_2 rfl (lv_at hl 0 rfl) ?_
  refine gM_0_33 Z hP kf_X6_111 dX6_isDevice_3 ?_
  refine zr_iconst hx hb dX6_isDevice_6 ?_
  refine zr_isub hx hb dX6_isDevice_7 ?_
  refine zdet_I ⟨rfl, rfl⟩ Z hD hS (zrunS (rest := []) Z hP hD hS hl.1 (m_X6_in l G (wM G q σ κ) (a : Int) (0 : Int) (((σ.1 7 : Nat) : Int) - (1 : Int)) h1 (by omega) (by omega)) zY_X6_in km_X6_128 rfl rfl ⟨⟨Nat.le_of_ble_eq_true rfl, Nat.le_of_ble_eq_true rfl⟩, Nat.le_of_ble_eq_true rfl, Nat.le_of_ble_eq_true rfl⟩ (Nat.le_of_ble_eq_true rfl) dX6_isDevice_8) (fun H locs hP hD hS => ?_)
  exact zret_B () Z hr (tB_n _) hP hD hS rfl rfl ⟨Nat.le_refl _, Nat.le_refl _⟩ hQ dX6_isDevice_11
abbrev r_X6_isReadBy : Room := { frames := 0, cells := 0, slots := 0, locals := 0 }
set_option maxHeartbeats 4000000 in
set_option maxRecDepth 100000 in
theorem m_X6_isReadBy (l : Launch) (G : ZG) (q : Nat → Nat) (σ : St) (κ : KM) {e_h : Int} (h : Nat) (he_h : e_h = (h : Int)) {e_i : Int} (i : Nat) (he_i : e_i = (i : Int)) {e_mj : Int} (mj : Nat) (he_mj : e_mj = (mj : Int)) (h1 : h < 5) (h2 : i < 30) (h3 : σ.2.1 6 (30 * h + i) < 1000000) (h4 : σ.2.1 8 (30 * h + i) < 1000000) (h5 : mj < 1000000) :
    MC l G yX6_isReadBy (wY yX6_isReadBy cX6_isReadBy 4 (some .boolean)) r_X6_isReadBy (wM G q σ κ) [.ref (q 0), .int (zI e_h), .int (zI e_i), .int (zI e_mj)] (QI G (fun r9 (_ : Unit) => r9 = (tB (rdBy σ h i mj))) (fun _ => wM G q σ κ)) := by
  subst he_h
  subst he_i
  subst he_mj
  refine MC.mk (by decide +kernel) (Nat.le_of_ble_eq_true rfl) ?_
  intro p e s m av below meth c A H locs ls Q Z hr hnm hQ hP hD hS hl
  have hx := Z.1
  have hb := Z.2.1
  have hown := Z.2.2.2.1
  have hW := Z.2.2.2.2.1
  have hl : lv_has ls 4 [(0, .ref (q 0)), (1, .int (zI ((h : Nat) : Int))), (2, .int (zI ((i : Nat) : Int))), (3, .int (zI ((mj : Nat) : Int)))] := hl
  refine lv_aload_n hx hb dX6_isReadBy_0 rfl (lv_at hl 0 rfl) ?_
  refine gM_0_18 Z hP kf_X6_65 dX6_isReadBy_1 ?_
  refine zr_bipush hx hb dX6_isReadBy_4 (by decide) ?_
  refine lv_iload_n hx hb dX6_isReadBy_6 rfl (lv_at hl 1 rfl) ?_
  refine zr_imul hx hb dX6_isReadBy_7 ?_
  refine lv_iload_n hx hb dX6_isReadBy_8 rfl (lv_at hl 2 rfl) ?_
  refine zr_iadd hx hb dX6_isReadBy_9 ?_
  refine ldN Z hP 19 (σ.2.1 6) rfl (30 * h + i) (by omega) (by omega) (by decide) dX6_isReadBy_10 ?_
  refine zr_iconst hx hb dX6_isReadBy_11 ?_
  refine zc_ne (tgt := 34) hx hb (((σ.2.1 6) (30 * h + i) : Nat) : Int) (2 : Int) (zI_toInt (by omega)) (zI_toInt (by decide)) dX6_isReadBy_12 (by decide) (fun c12 => ?_) (fun c12 => ?_)
  · skip
    refine zr_iconst hx hb dX6_isReadBy_34 ?_
    exact zret_B () Z hr (by decide +kernel) hP hD hS (tB_0 (by unfold rdBy; simp; omega)) rfl ⟨Nat.le_refl _, Nat.le_refl _⟩ hQ dX6_isReadBy_35
  · skip
    refine lv_aload_n hx hb dX6_isReadBy_15 rfl (lv_at hl 0 rfl) ?_
    refine gM_0_20 Z hP kf_X6_71 dX6_isReadBy_16 ?_
    refine zr_bipush hx hb dX6_isReadBy_19 (by decide) ?_
    refine lv_iload_n hx hb dX6_isReadBy_21 rfl (lv_at hl 1 rfl) ?_
    refine zr_imul hx hb dX6_isReadBy_22 ?_
    refine lv_iload_n hx hb dX6_isReadBy_23 rfl (lv_at hl 2 rfl) ?_
    refine zr_iadd hx hb dX6_isReadBy_24 ?_
    refine ldN Z hP 21 (σ.2.1 8) rfl (30 * h + i) (by omega) (by omega) (by decide) dX6_isReadBy_25 ?_
    refine lv_iload_n hx hb dX6_isReadBy_26 rfl (lv_at hl 3 rfl) ?_
    refine zc_lt (tgt := 34) hx hb (((σ.2.1 8) (30 * h + i) : Nat) : Int) ((mj : Nat) : Int) (zI_toInt (by omega)) (zI_toInt (by omega)) dX6_isReadBy_27 (by decide) (fun c27 => ?_) (fun c27 => ?_)
    · skip
      refine zr_iconst hx hb dX6_isReadBy_34 ?_
      exact zret_B () Z hr (by decide +kernel) hP hD hS (tB_0 (by unfold rdBy; simp; omega)) rfl ⟨Nat.le_refl _, Nat.le_refl _⟩ hQ dX6_isReadBy_35
    · skip
      refine zr_iconst hx hb dX6_isReadBy_30 ?_
      refine lv_goto (tgt := 35) hx hb dX6_isReadBy_31 (by decide) ?_
      exact zret_B () Z hr (by decide +kernel) hP hD hS (tB_1 (by unfold rdBy; simp; omega)) rfl ⟨Nat.le_refl _, Nat.le_refl _⟩ hQ dX6_isReadBy_35
abbrev r_X6_isReadNow : Room := { frames := 1, cells := 0, slots := 0, locals := 23 }
set_option maxHeartbeats 4000000 in
set_option maxRecDepth 100000 in
theorem m_X6_isReadNow (l : Launch) (G : ZG) (q : Nat → Nat) (σ : St) (κ : KM) {e_i : Int} (i : Nat) (he_i : e_i = (i : Int)) (hI : okM σ) (h1 : i < σ.1 4) :
    MC l G yX6_isReadNow (wY yX6_isReadNow cX6_isReadNow 2 (some .boolean)) r_X6_isReadNow (wM G q σ κ) [.ref (q 0), .int (zI e_i)] (QI G (fun r9 (_ : Unit) => r9 = (tB (rdR σ i))) (fun _ => wM G q σ κ)) := by
  subst he_i
  refine MC.mk (by decide +kernel) (Nat.le_of_ble_eq_true rfl) ?_
  intro p e s m av below meth c A H locs ls Q Z hr hnm hQ hP hD hS hl
  have hx := Z.1
  have hb := Z.2.1
  have hown := Z.2.2.2.1
  have hW := Z.2.2.2.2.1
  have hl : lv_has ls 2 [(0, .ref (q 0)), (1, .int (zI ((i : Nat) : Int)))] := hl
  obtain ⟨hn, hru, hrv, hdv, hsr, hmn, ht1, ht2, hwn, hv1, hv2, hmj, htm, hse, htg, hrt, hac, hk1, hk2, hkd, hmm, hmv, hpp, hpl, hp3, hp4, hp6, hp5, hp7, hnz⟩ := id hI
  refine lv_aload_n hx hb dX6_isReadNow_0 rfl (lv_at hl 0 rfl) ?_
  refine zr_iconst hx hb dX6_isReadNow_1 ?_
  refine lv_iload_n hx hb dX6_isReadNow_2 rfl (lv_at hl 1 rfl) ?_
  refine lv_aload_n hx hb dX6_isReadNow_3 rfl (lv_at hl 0 rfl) ?_
  refine gM_0_7 Z hP kf_X6_32 dX6_isReadNow_4 ?_
  refine lv_iload_n hx hb dX6_isReadNow_7 rfl (lv_at hl 1 rfl) ?_
  refine ldN Z hP 8 (σ.2.1 3) rfl (i) rfl (by omega) (by decide) dX6_isReadNow_8 ?_
  refine zdet_I ⟨rfl, rfl⟩ Z hD hS (zrunV (rest := []) Z hP hD hS hl.1 (m_X6_isReadBy l G q σ κ (4) (by omega) (i) rfl ((σ.2.1 3) (i)) rfl (by omega) (by omega) (by have := hkd (30 * 4 + i); omega) (hmv _) (hmj _)) zY_X6_isReadBy km_X6_201 (q0 := 0) rfl rfl rfl rfl ⟨⟨Nat.le_of_ble_eq_true rfl, Nat.le_of_ble_eq_true rfl⟩, Nat.le_of_ble_eq_true rfl, Nat.le_of_ble_eq_true rfl⟩ (Nat.le_of_ble_eq_true rfl) dX6_isReadNow_9) (fun H locs hP hD hS => ?_)
  exact zret_B () Z hr (tB_n _) hP hD hS rfl rfl ⟨Nat.le_refl _, Nat.le_refl _⟩ hQ dX6_isReadNow_12
abbrev r_X6_isReadAt : Room := { frames := 1, cells := 0, slots := 0, locals := 23 }
set_option maxHeartbeats 4000000 in
set_option maxRecDepth 100000 in
theorem m_X6_isReadAt (l : Launch) (G : ZG) (q : Nat → Nat) (σ : St) (κ : KM) {e_d : Int} (d : Nat) (he_d : e_d = (d : Int)) {e_i : Int} (i : Nat) (he_i : e_i = (i : Int)) (hI : okM σ) (h1 : i < 30) (h2 : d < 4) :
    MC l G yX6_isReadAt (wY yX6_isReadAt cX6_isReadAt 3 (some .boolean)) r_X6_isReadAt (wM G q σ κ) [.ref (q 0), .int (zI e_d), .int (zI e_i)] (QI G (fun r9 (_ : Unit) => r9 = (tB (rdD σ d i))) (fun _ => wM G q σ κ)) := by
  subst he_d
  subst he_i
  refine MC.mk (by decide +kernel) (Nat.le_of_ble_eq_true rfl) ?_
  intro p e s m av below meth c A H locs ls Q Z hr hnm hQ hP hD hS hl
  have hx := Z.1
  have hb := Z.2.1
  have hown := Z.2.2.2.1
  have hW := Z.2.2.2.2.1
  have hl : lv_has ls 3 [(0, .ref (q 0)), (1, .int (zI ((d : Nat) : Int))), (2, .int (zI ((i : Nat) : Int)))] := hl
  obtain ⟨hn, hru, hrv, hdv, hsr, hmn, ht1, ht2, hwn, hv1, hv2, hmj, htm, hse, htg, hrt, hac, hk1, hk2, hkd, hmm, hmv, hpp, hpl, hp3, hp4, hp6, hp5, hp7, hnz⟩ := id hI
  refine lv_aload_n hx hb dX6_isReadAt_0 rfl (lv_at hl 0 rfl) ?_
  refine lv_iload_n hx hb dX6_isReadAt_1 rfl (lv_at hl 1 rfl) ?_
  refine lv_iload_n hx hb dX6_isReadAt_2 rfl (lv_at hl 2 rfl) ?_
  refine lv_aload_n hx hb dX6_isReadAt_3 rfl (lv_at hl 0 rfl) ?_
  refine gM_0_22 Z hP kf_X6_77 dX6_isReadAt_4 ?_
  refine zr_bipush hx hb dX6_isReadAt_7 (by decide) ?_
  refine lv_iload_n hx hb dX6_isReadAt_9 rfl (lv_at hl 1 rfl) ?_
  refine zr_imul hx hb dX6_isReadAt_10 ?_
  refine lv_iload_n hx hb dX6_isReadAt_11 rfl (lv_at hl 2 rfl) ?_
  refine zr_iadd hx hb dX6_isReadAt_12 ?_
  refine ldN Z hP 23 (σ.2.1 5) rfl (30 * d + i) (by omega) (by omega) (by decide) dX6_isReadAt_13 ?_
  refine zdet_I ⟨rfl, rfl⟩ Z hD hS (zrunV (rest := []) Z hP hD hS hl.1 (m_X6_isReadBy l G q σ κ (d) rfl (i) rfl ((σ.2.1 5) (30 * d + i)) rfl (by omega) (by omega) (by have := hkd (30 * d + i); omega) (hmv _) (hk2 _)) zY_X6_isReadBy km_X6_201 (q0 := 0) rfl rfl rfl rfl ⟨⟨Nat.le_of_ble_eq_true rfl, Nat.le_of_ble_eq_true rfl⟩, Nat.le_of_ble_eq_true rfl, Nat.le_of_ble_eq_true rfl⟩ (Nat.le_of_ble_eq_true rfl) dX6_isReadAt_14) (fun H locs hP hD hS => ?_)
  exact zret_B () Z hr (tB_n _) hP hD hS rfl rfl ⟨Nat.le_refl _, Nat.le_refl _⟩ hQ dX6_isReadAt_17
abbrev r_X6_unreadIn : Room := { frames := 4, cells := 0, slots := 0, locals := 91 }
set_option maxHeartbeats 4000000 in
set_option maxRecDepth 100000 in
theorem m_X6_unreadIn (l : Launch) (G : ZG) (q : Nat → Nat) (σ : St) (κ : KM) {e_i : Int} (i : Nat) (he_i : e_i = (i : Int)) (hI : okM σ) (h1 : i < σ.1 6) :
    MC l G yX6_unreadIn (wY yX6_unreadIn cX6_unreadIn 4 (some .int)) r_X6_unreadIn (wM G q σ κ) [.ref (q 0), .int (zI e_i)] (QI G (S := Int32 × Int32 × Bool) (fun r9 (_ : Int32 × Int32 × Bool) => r9 = (zI ((cnt (fun y9 => shM σ i y9 && !rdR σ y9) (σ.1 4) : Nat) : Int))) (fun u => wM G q σ (κ.1, u))) := by
  subst he_i
  refine MC.mk (by decide +kernel) (Nat.le_of_ble_eq_true rfl) ?_
  intro p e s m av below meth c A H locs ls Q Z hr hnm hQ hP hD hS hl
  have hx := Z.1
  have hb := Z.2.1
  have hown := Z.2.2.2.1
  have hW := Z.2.2.2.2.1
  have hl : lv_has ls 4 [(0, .ref (q 0)), (1, .int (zI ((i : Nat) : Int)))] := hl
  obtain ⟨hn, hru, hrv, hdv, hsr, hmn, ht1, ht2, hwn, hv1, hv2, hmj, htm, hse, htg, hrt, hac, hk1, hk2, hkd, hmm, hmv, hpp, hpl, hp3, hp4, hp6, hp5, hp7, hnz⟩ := id hI
  refine zr_iconst hx hb dX6_unreadIn_0 ?_
  refine lv_istore_n (lv' := [(2, .int (zI (0 : Int))), (0, .ref (q 0)), (1, .int (zI ((i : Nat) : Int)))]) hx hb dX6_unreadIn_1 rfl hl (by decide) rfl (fun ls hl => ?_)
  refine zr_iconst hx hb dX6_unreadIn_2 ?_
  refine lv_istore_n (lv' := [(3, .int (zI (0 : Int))), (2, .int (zI (0 : Int))), (0, .ref (q 0)), (1, .int (zI ((i : Nat) : Int)))]) hx hb dX6_unreadIn_3 rfl hl (by decide) rfl (fun ls hl => ?_)
  suffices LP4 : ∀ (f9 : Nat) (k : Nat) (u9 : Int32 × Int32 × Bool), σ.1 4 < k + f9 → (k ≤ σ.1 4) → ∀ (H : Heap) (locs : List Loc) (ls : Array Slot), va_P G.1 vwCl (wM G q σ (κ.1, u9)) H → va_D A (wM G q σ (κ.1, u9)) → va_S A s.heap H locs → lv_has ls 4 [(3, .int (zI ((k : Nat) : Int))), (2, .int (zI ((cnt (fun y9 => shM σ i y9 && !rdR σ y9) k : Nat) : Int))), (0, .ref (q 0)), (1, .int (zI ((i : Nat) : Int)))] → W p l e r_X6_unreadIn s m av below meth c H locs 0 0 Q (F0 m 4 ls []) from LP4 (σ.1 4 + 1) (0) (κ.2) (by omega) (by omega) _ _ _ hP hD hS (lv_sub hl [0, 1, 2, 3] rfl)
  intro f9
  induction f9 with
  | zero => intro k u9 hf9 hk; exfalso; omega
  | succ f9 ih4 =>
    intro k u9 hf9 hk H locs ls hP hD hS hl
    have hc9 := cnt_le (fun y9 => shM σ i y9 && !rdR σ y9) k
    refine lv_iload_n hx hb dX6_unreadIn_4 rfl (lv_at hl 0 rfl) ?_
    refine lv_aload_n hx hb dX6_unreadIn_5 rfl (lv_at hl 2 rfl) ?_
    refine gM_0_28 Z hP kf_X6_96 dX6_unreadIn_6 ?_
    refine zr_top (w := .int (zI ((σ.1 4 : Nat) : Int))) rfl ?_
    refine zc_ge (tgt := 43) hx hb ((k : Nat) : Int) ((σ.1 4 : Nat) : Int) (zI_toInt (by omega)) (zI_toInt (by omega)) dX6_unreadIn_9 (by decide) (fun c9 => ?_) (fun c9 => ?_)
    · skip
      refine lv_iload_n hx hb dX6_unreadIn_43 rfl (lv_at hl 1 rfl) ?_
      exact zret_I (u9) Z hr hP hD hS (by rw [show k = σ.1 4 from by omega]) rfl ⟨Nat.le_refl _, Nat.le_refl _⟩ hQ dX6_unreadIn_44
    · skip
      refine lv_iload_n hx hb dX6_unreadIn_12 rfl (lv_at hl 1 rfl) ?_
      refine lv_aload_n hx hb dX6_unreadIn_13 rfl (lv_at hl 2 rfl) ?_
      refine lv_iload_n hx hb dX6_unreadIn_14 rfl (lv_at hl 3 rfl) ?_
      refine lv_iload_n hx hb dX6_unreadIn_15 rfl (lv_at hl 0 rfl) ?_
      refine zdet_I ⟨rfl, rfl⟩ Z hD hS (zrunV (rest := [.int (zI ((cnt (fun y9 => shM σ i y9 && !rdR σ y9) k : Nat) : Int))]) Z hP hD hS hl.1 (m_X6_shows l G q σ (κ.1, u9) (i) rfl (k) rfl hI h1 (by omega)) zY_X6_shows km_X6_183 (q0 := 0) rfl rfl rfl rfl ⟨⟨Nat.le_of_ble_eq_true rfl, Nat.le_of_ble_eq_true rfl⟩, Nat.le_of_ble_eq_true rfl, Nat.le_of_ble_eq_true rfl⟩ (Nat.le_of_ble_eq_true rfl) dX6_unreadIn_16) (fun H locs hP hD hS => ?_)
      refine zb_eq (tgt := 34) hx hb dX6_unreadIn_19 (by decide) (fun c19 => ?_) (fun c19 => ?_)
      · skip
        refine zr_iconst hx hb dX6_unreadIn_34 ?_
        refine zr_iadd hx hb dX6_unreadIn_35 ?_
        refine lv_istore_n (lv' := [(2, .int (zI (((cnt (fun y9 => shM σ i y9 && !rdR σ y9) k : Nat) : Int) + (0 : Int)))), (3, .int (zI ((k : Nat) : Int))), (0, .ref (q 0)), (1, .int (zI ((i : Nat) : Int)))]) hx hb dX6_unreadIn_36 rfl hl (by decide) rfl (fun ls hl => ?_)
        refine zr_iinc (lv' := [(3, .int (zI (((k : Nat) : Int) + (1 : Int)))), (2, .int (zI (((cnt (fun y9 => shM σ i y9 && !rdR σ y9) k : Nat) : Int) + (0 : Int)))), (0, .ref (q 0)), (1, .int (zI ((i : Nat) : Int)))]) hx hb 1 dX6_unreadIn_37 hl rfl (by decide) rfl (fun ls hl => ?_)
        refine lv_goto (tgt := 4) hx hb dX6_unreadIn_40 (by decide) ?_
        have h9 : cnt (fun y9 => shM σ i y9 && !rdR σ y9) (k + 1) = cnt (fun y9 => shM σ i y9 && !rdR σ y9) k := cnt_no (p := (fun y9 => shM σ i y9 && !rdR σ y9)) (by show (shM σ i k && !rdR σ k) = false; rw [c19]; rfl)
        exact ih4 (k + 1) (goI σ k) (by omega) (by omega) _ _ _ hP hD hS (lv_sub hl [0, 1, 2, 3] (by rw [h9]; rfl))
      · skip
        refine lv_aload_n hx hb dX6_unreadIn_22 rfl (lv_at hl 2 rfl) ?_
        refine lv_iload_n hx hb dX6_unreadIn_23 rfl (lv_at hl 0 rfl) ?_
        refine zdet_I ⟨rfl, rfl⟩ Z hD hS (zrunV (rest := [.int (zI ((cnt (fun y9 => shM σ i y9 && !rdR σ y9) k : Nat) : Int))]) Z hP hD hS hl.1 (m_X6_isReadNow l G q σ (κ.1, goI σ k) (k) rfl hI (by omega)) zY_X6_isReadNow km_X6_204 (q0 := 0) rfl rfl rfl rfl ⟨⟨Nat.le_of_ble_eq_true rfl, Nat.le_of_ble_eq_true rfl⟩, Nat.le_of_ble_eq_true rfl, Nat.le_of_ble_eq_true rfl⟩ (Nat.le_of_ble_eq_true rfl) dX6_unreadIn_24) (fun H locs hP hD hS => ?_)
        refine zb_ne (tgt := 34) hx hb dX6_unreadIn_27 (by decide) (fun c27 => ?_) (fun c27 => ?_)
        · skip
          refine zr_iconst hx hb dX6_unreadIn_34 ?_
          refine zr_iadd hx hb dX6_unreadIn_35 ?_
          refine lv_istore_n (lv' := [(2, .int (zI (((cnt (fun y9 => shM σ i y9 && !rdR σ y9) k : Nat) : Int) + (0 : Int)))), (3, .int (zI ((k : Nat) : Int))), (0, .ref (q 0)), (1, .int (zI ((i : Nat) : Int)))]) hx hb dX6_unreadIn_36 rfl hl (by decide) rfl (fun ls hl => ?_)
          refine zr_iinc (lv' := [(3, .int (zI (((k : Nat) : Int) + (1 : Int)))), (2, .int (zI (((cnt (fun y9 => shM σ i y9 && !rdR σ y9) k : Nat) : Int) + (0 : Int)))), (0, .ref (q 0)), (1, .int (zI ((i : Nat) : Int)))]) hx hb 1 dX6_unreadIn_37 hl rfl (by decide) rfl (fun ls hl => ?_)
          refine lv_goto (tgt := 4) hx hb dX6_unreadIn_40 (by decide) ?_
          have h9 : cnt (fun y9 => shM σ i y9 && !rdR σ y9) (k + 1) = cnt (fun y9 => shM σ i y9 && !rdR σ y9) k := cnt_no (p := (fun y9 => shM σ i y9 && !rdR σ y9)) (by show (shM σ i k && !rdR σ k) = false; rw [c19, c27]; rfl)
          exact ih4 (k + 1) (goI σ k) (by omega) (by omega) _ _ _ hP hD hS (lv_sub hl [0, 1, 2, 3] (by rw [h9]; rfl))
        · skip
          refine zr_iconst hx hb dX6_unreadIn_30 ?_
          refine lv_goto (tgt := 35) hx hb dX6_unreadIn_31 (by decide) ?_
          refine zr_iadd hx hb dX6_unreadIn_35 ?_
          refine lv_istore_n (lv' := [(2, .int (zI (((cnt (fun y9 => shM σ i y9 && !rdR σ y9) k : Nat) : Int) + (1 : Int)))), (3, .int (zI ((k : Nat) : Int))), (0, .ref (q 0)), (1, .int (zI ((i : Nat) : Int)))]) hx hb dX6_unreadIn_36 rfl hl (by decide) rfl (fun ls hl => ?_)
          refine zr_iinc (lv' := [(3, .int (zI (((k : Nat) : Int) + (1 : Int)))), (2, .int (zI (((cnt (fun y9 => shM σ i y9 && !rdR σ y9) k : Nat) : Int) + (1 : Int)))), (0, .ref (q 0)), (1, .int (zI ((i : Nat) : Int)))]) hx hb 1 dX6_unreadIn_37 hl rfl (by decide) rfl (fun ls hl => ?_)
          refine lv_goto (tgt := 4) hx hb dX6_unreadIn_40 (by decide) ?_
          have h9 : cnt (fun y9 => shM σ i y9 && !rdR σ y9) (k + 1) = cnt (fun y9 => shM σ i y9 && !rdR σ y9) k + 1 := cnt_yes (p := (fun y9 => shM σ i y9 && !rdR σ y9)) (by show (shM σ i k && !rdR σ k) = true; rw [c19, c27]; rfl)
          exact ih4 (k + 1) (goI σ k) (by omega) (by omega) _ _ _ hP hD hS (lv_sub hl [0, 1, 2, 3] (by rw [h9]; rfl))
abbrev r_X6_copies : Room := { frames := 0, cells := 0, slots := 0, locals := 0 }
set_option maxHeartbeats 4000000 in
set_option maxRecDepth 100000 in
theorem m_X6_copies (l : Launch) (G : ZG) (q : Nat → Nat) (σ : St) (κ : KM) {e_f : Int} (f : Nat) (he_f : e_f = (f : Int)) {e_t : Int} (t : Nat) (he_t : e_t = (t : Int)) {e_i : Int} (i : Nat) (he_i : e_i = (i : Int)) (h1 : f < 5) (h2 : t < 5) (h3 : i < 30) :
    MC l G yX6_copies (wY yX6_copies cX6_copies 4 none) r_X6_copies (wM G q σ κ) [.ref (q 0), .int (zI e_f), .int (zI e_t), .int (zI e_i)] (QV G (fun (_ : Unit) => True) (fun _ => wM G q (cpM σ f t i) κ)) := by
  subst he_f
  subst he_t
  subst he_i
  refine MC.mk (by decide +kernel) (Nat.le_of_ble_eq_true rfl) ?_
  intro p e s m av below meth c A H locs ls Q Z hr hnm hQ hP hD hS hl
  have hx := Z.1
  have hb := Z.2.1
  have hown := Z.2.2.2.1
  have hW := Z.2.2.2.2.1
  have hl : lv_has ls 4 [(0, .ref (q 0)), (1, .int (zI ((f : Nat) : Int))), (2, .int (zI ((t : Nat) : Int))), (3, .int (zI ((i : Nat) : Int)))] := hl
  refine lv_aload_n hx hb dX6_copies_0 rfl (lv_at hl 0 rfl) ?_
  refine gM_0_18 Z hP kf_X6_65 dX6_copies_1 ?_
  refine zr_bipush hx hb dX6_copies_4 (by decide) ?_
  refine lv_iload_n hx hb dX6_copies_6 rfl (lv_at hl 2 rfl) ?_
  refine zr_imul hx hb dX6_copies_7 ?_
  refine lv_iload_n hx hb dX6_copies_8 rfl (lv_at hl 3 rfl) ?_
  refine zr_iadd hx hb dX6_copies_9 ?_
  refine lv_aload_n hx hb dX6_copies_10 rfl (lv_at hl 0 rfl) ?_
  refine gM_0_18 Z hP kf_X6_65 dX6_copies_11 ?_
  refine zr_bipush hx hb dX6_copies_14 (by decide) ?_
  refine lv_iload_n hx hb dX6_copies_16 rfl (lv_at hl 1 rfl) ?_
  refine zr_imul hx hb dX6_copies_17 ?_
  refine lv_iload_n hx hb dX6_copies_18 rfl (lv_at hl 3 rfl) ?_
  refine zr_iadd hx hb dX6_copies_19 ?_
  refine ldN Z hP 19 (σ.2.1 6) rfl (30 * f + i) (by omega) (by omega) (by decide) dX6_copies_20 ?_
  refine stN (ws1 := wM G q (sA σ 6 (va_up (σ.2.1 6) (30 * t + i) ((σ.2.1 6) (30 * f + i)))) κ) Z hP hD hS 19 (σ.2.1 6) rfl (30 * t + i) (by omega) (by omega) (by decide) ((σ.2.1 6) (30 * f + i)) rfl rfl dX6_copies_21 (fun H locs hP hD hS => ?_)
  refine lv_aload_n hx hb dX6_copies_22 rfl (lv_at hl 0 rfl) ?_
  refine gM_0_19 Z hP kf_X6_68 dX6_copies_23 ?_
  refine zr_bipush hx hb dX6_copies_26 (by decide) ?_
  refine lv_iload_n hx hb dX6_copies_28 rfl (lv_at hl 2 rfl) ?_
  refine zr_imul hx hb dX6_copies_29 ?_
  refine lv_iload_n hx hb dX6_copies_30 rfl (lv_at hl 3 rfl) ?_
  refine zr_iadd hx hb dX6_copies_31 ?_
  refine lv_aload_n hx hb dX6_copies_32 rfl (lv_at hl 0 rfl) ?_
  refine gM_0_19 Z hP kf_X6_68 dX6_copies_33 ?_
  refine zr_bipush hx hb dX6_copies_36 (by decide) ?_
  refine lv_iload_n hx hb dX6_copies_38 rfl (lv_at hl 1 rfl) ?_
  refine zr_imul hx hb dX6_copies_39 ?_
  refine lv_iload_n hx hb dX6_copies_40 rfl (lv_at hl 3 rfl) ?_
  refine zr_iadd hx hb dX6_copies_41 ?_
  refine ldN Z hP 20 (σ.2.1 7) rfl (30 * f + i) (by omega) (by omega) (by decide) dX6_copies_42 ?_
  refine stN (ws1 := wM G q (sA (sA σ 6 (va_up (σ.2.1 6) (30 * t + i) ((σ.2.1 6) (30 * f + i)))) 7 (va_up (σ.2.1 7) (30 * t + i) ((σ.2.1 7) (30 * f + i)))) κ) Z hP hD hS 20 (σ.2.1 7) rfl (30 * t + i) (by omega) (by omega) (by decide) ((σ.2.1 7) (30 * f + i)) rfl rfl dX6_copies_43 (fun H locs hP hD hS => ?_)
  refine lv_aload_n hx hb dX6_copies_44 rfl (lv_at hl 0 rfl) ?_
  refine gM_0_20 Z hP kf_X6_71 dX6_copies_45 ?_
  refine zr_bipush hx hb dX6_copies_48 (by decide) ?_
  refine lv_iload_n hx hb dX6_copies_50 rfl (lv_at hl 2 rfl) ?_
  refine zr_imul hx hb dX6_copies_51 ?_
  refine lv_iload_n hx hb dX6_copies_52 rfl (lv_at hl 3 rfl) ?_
  refine zr_iadd hx hb dX6_copies_53 ?_
  refine lv_aload_n hx hb dX6_copies_54 rfl (lv_at hl 0 rfl) ?_
  refine gM_0_20 Z hP kf_X6_71 dX6_copies_55 ?_
  refine zr_bipush hx hb dX6_copies_58 (by decide) ?_
  refine lv_iload_n hx hb dX6_copies_60 rfl (lv_at hl 1 rfl) ?_
  refine zr_imul hx hb dX6_copies_61 ?_
  refine lv_iload_n hx hb dX6_copies_62 rfl (lv_at hl 3 rfl) ?_
  refine zr_iadd hx hb dX6_copies_63 ?_
  refine ldN Z hP 21 (σ.2.1 8) rfl (30 * f + i) (by omega) (by omega) (by decide) dX6_copies_64 ?_
  refine stN (ws1 := wM G q (sA (sA (sA σ 6 (va_up (σ.2.1 6) (30 * t + i) ((σ.2.1 6) (30 * f + i)))) 7 (va_up (σ.2.1 7) (30 * t + i) ((σ.2.1 7) (30 * f + i)))) 8 (va_up (σ.2.1 8) (30 * t + i) ((σ.2.1 8) (30 * f + i)))) κ) Z hP hD hS 21 (σ.2.1 8) rfl (30 * t + i) (by omega) (by omega) (by decide) ((σ.2.1 8) (30 * f + i)) rfl rfl dX6_copies_65 (fun H locs hP hD hS => ?_)
  exact zret_V () Z hr hP hD hS trivial rfl ⟨Nat.le_refl _, Nat.le_refl _⟩ hQ dX6_copies_66
abbrev r_X6_learns : Room := { frames := 0, cells := 0, slots := 0, locals := 0 }
set_option maxHeartbeats 4000000 in
set_option maxRecDepth 100000 in
theorem m_X6_learns (l : Launch) (G : ZG) (q : Nat → Nat) (σ : St) (κ : KM) {e_d : Int} (d : Nat) (he_d : e_d = (d : Int)) (hI : okM σ) (h1 : d < 4) :
    MC l G yX6_learns (wY yX6_learns cX6_learns 3 none) r_X6_learns (wM G q σ κ) [.ref (q 0), .int (zI e_d)] (QV G (fun (_ : Unit) => True) (fun _ => wM G q (lrN σ d (σ.1 4)) κ)) := by
  subst he_d
  refine MC.mk (by decide +kernel) (Nat.le_of_ble_eq_true rfl) ?_
  intro p e s m av below meth c A H locs ls Q Z hr hnm hQ hP hD hS hl
  have hx := Z.1
  have hb := Z.2.1
  have hown := Z.2.2.2.1
  have hW := Z.2.2.2.2.1
  have hl : lv_has ls 3 [(0, .ref (q 0)), (1, .int (zI ((d : Nat) : Int)))] := hl
  obtain ⟨hn, hru, hrv, hdv, hsr, hmn, ht1, ht2, hwn, hv1, hv2, hmj, htm, hse, htg, hrt, hac, hk1, hk2, hkd, hmm, hmv, hpp, hpl, hp3, hp4, hp6, hp5, hp7, hnz⟩ := id hI
  refine zr_iconst hx hb dX6_learns_0 ?_
  refine lv_istore_n (lv' := [(2, .int (zI (0 : Int))), (0, .ref (q 0)), (1, .int (zI ((d : Nat) : Int)))]) hx hb dX6_learns_1 rfl hl (by decide) rfl (fun ls hl => ?_)
  suffices LP2 : ∀ (f9 : Nat) (k : Nat), σ.1 4 < k + f9 → (k ≤ σ.1 4) → ∀ (H : Heap) (locs : List Loc) (ls : Array Slot), va_P G.1 vwCl (wM G q (lrN σ d k) κ) H → va_D A (wM G q (lrN σ d k) κ) → va_S A s.heap H locs → lv_has ls 3 [(2, .int (zI ((k : Nat) : Int))), (0, .ref (q 0)), (1, .int (zI ((d : Nat) : Int)))] → W p l e r_X6_learns s m av below meth c H locs 0 0 Q (F0 m 2 ls []) from LP2 (σ.1 4 + 1) (0) (by omega) (by omega) _ _ _ hP hD hS (lv_sub hl [0, 1, 2] rfl)
  intro f9
  induction f9 with
  | zero => intro k hf9 hk; exfalso; omega
  | succ f9 ih2 =>
    intro k hf9 hk H locs ls hP hD hS hl
    have hN9 : (lrN σ d k).1 4 = σ.1 4 := by rw [(lrN_ok hI d k).2]
    refine lv_iload_n hx hb dX6_learns_2 rfl (lv_at hl 0 rfl) ?_
    refine lv_aload_n hx hb dX6_learns_3 rfl (lv_at hl 1 rfl) ?_
    refine gM_0_28 Z hP kf_X6_96 dX6_learns_4 ?_
    refine zc_ge (tgt := 50) hx hb ((k : Nat) : Int) ((((lrN σ d k)).1 4 : Nat) : Int) (zI_toInt (by omega)) (zI_toInt (by omega)) dX6_learns_7 (by decide) (fun c7 => ?_) (fun c7 => ?_)
    · skip
      exact zret_V () Z hr hP hD hS trivial (by rw [show k = σ.1 4 from by omega]) ⟨Nat.le_refl _, Nat.le_refl _⟩ hQ dX6_learns_50
    · skip
      refine lv_aload_n hx hb dX6_learns_10 rfl (lv_at hl 1 rfl) ?_
      refine gM_0_21 Z hP kf_X6_74 dX6_learns_11 ?_
      refine zr_bipush hx hb dX6_learns_14 (by decide) ?_
      refine lv_iload_n hx hb dX6_learns_16 rfl (lv_at hl 2 rfl) ?_
      refine zr_imul hx hb dX6_learns_17 ?_
      refine lv_iload_n hx hb dX6_learns_18 rfl (lv_at hl 0 rfl) ?_
      refine zr_iadd hx hb dX6_learns_19 ?_
      refine lv_aload_n hx hb dX6_learns_20 rfl (lv_at hl 1 rfl) ?_
      refine gM_0_6 Z hP kf_X6_29 dX6_learns_21 ?_
      refine lv_iload_n hx hb dX6_learns_24 rfl (lv_at hl 0 rfl) ?_
      refine ldN Z hP 7 (((lrN σ d k)).2.1 2) rfl (k) rfl (by omega) (by decide) dX6_learns_25 ?_
      refine stN (ws1 := wM G q (sA (lrN σ d k) 4 (va_up (((lrN σ d k)).2.1 4) (30 * d + k) ((((lrN σ d k)).2.1 2) (k)))) κ) Z hP hD hS 22 (((lrN σ d k)).2.1 4) rfl (30 * d + k) (by omega) (by omega) (by decide) ((((lrN σ d k)).2.1 2) (k)) rfl rfl dX6_learns_26 (fun H locs hP hD hS => ?_)
      refine lv_aload_n hx hb dX6_learns_27 rfl (lv_at hl 1 rfl) ?_
      refine gM_0_22 Z hP kf_X6_77 dX6_learns_28 ?_
      refine zr_bipush hx hb dX6_learns_31 (by decide) ?_
      refine lv_iload_n hx hb dX6_learns_33 rfl (lv_at hl 2 rfl) ?_
      refine zr_imul hx hb dX6_learns_34 ?_
      refine lv_iload_n hx hb dX6_learns_35 rfl (lv_at hl 0 rfl) ?_
      refine zr_iadd hx hb dX6_learns_36 ?_
      refine lv_aload_n hx hb dX6_learns_37 rfl (lv_at hl 1 rfl) ?_
      refine gM_0_7 Z hP kf_X6_32 dX6_learns_38 ?_
      refine lv_iload_n hx hb dX6_learns_41 rfl (lv_at hl 0 rfl) ?_
      refine ldN Z hP 8 (((lrN σ d k)).2.1 3) rfl (k) rfl (by omega) (by decide) dX6_learns_42 ?_
      refine stN (ws1 := wM G q (sA (sA (lrN σ d k) 4 (va_up (((lrN σ d k)).2.1 4) (30 * d + k) ((((lrN σ d k)).2.1 2) (k)))) 5 (va_up (((lrN σ d k)).2.1 5) (30 * d + k) ((((lrN σ d k)).2.1 3) (k)))) κ) Z hP hD hS 23 (((lrN σ d k)).2.1 5) rfl (30 * d + k) (by omega) (by omega) (by decide) ((((lrN σ d k)).2.1 3) (k)) rfl rfl dX6_learns_43 (fun H locs hP hD hS => ?_)
      refine zr_iinc (lv' := [(2, .int (zI (((k : Nat) : Int) + (1 : Int)))), (0, .ref (q 0)), (1, .int (zI ((d : Nat) : Int)))]) hx hb 0 dX6_learns_44 hl rfl (by decide) rfl (fun ls hl => ?_)
      refine lv_goto (tgt := 2) hx hb dX6_learns_47 (by decide) ?_
      have hw9 : wM G q (sA (sA (lrN σ d k) 4 (va_up (((lrN σ d k)).2.1 4) (30 * d + k) ((((lrN σ d k)).2.1 2) (k)))) 5 (va_up (((lrN σ d k)).2.1 5) (30 * d + k) ((((lrN σ d k)).2.1 3) (k)))) κ = wM G q (lrN σ d (k + 1)) κ := rfl
      rw [hw9] at hP hD
      exact ih2 (k + 1) (by omega) (by omega) _ _ _ hP hD hS (lv_sub hl [0, 1, 2] rfl)
abbrev r_X6_knows : Room := { frames := 0, cells := 0, slots := 0, locals := 0 }
set_option maxHeartbeats 4000000 in
set_option maxRecDepth 100000 in
theorem m_X6_knows (l : Launch) (G : ZG) (q : Nat → Nat) (σ : St) (κ : KM) {e_d : Int} (d : Nat) (he_d : e_d = (d : Int)) {e_i : Int} (i : Nat) (he_i : e_i = (i : Int)) (h1 : d < 4) (h2 : i < 30) (h3 : σ.2.1 4 (30 * d + i) < 1000000) :
    MC l G yX6_knows (wY yX6_knows cX6_knows 3 (some .boolean)) r_X6_knows (wM G q σ κ) [.ref (q 0), .int (zI e_d), .int (zI e_i)] (QI G (fun r9 (_ : Unit) => r9 = (tB (decide (0 < (σ.2.1 4) (30 * d + i))))) (fun _ => wM G q σ κ)) := by
  subst he_d
  subst he_i
  refine MC.mk (by decide +kernel) (Nat.le_of_ble_eq_true rfl) ?_
  intro p e s m av below meth c A H locs ls Q Z hr hnm hQ hP hD hS hl
  have hx := Z.1
  have hb := Z.2.1
  have hown := Z.2.2.2.1
  have hW := Z.2.2.2.2.1
  have hl : lv_has ls 3 [(0, .ref (q 0)), (1, .int (zI ((d : Nat) : Int))), (2, .int (zI ((i : Nat) : Int)))] := hl
  refine lv_aload_n hx hb dX6_knows_0 rfl (lv_at hl 0 rfl) ?_
  refine gM_0_21 Z hP kf_X6_74 dX6_knows_1 ?_
  refine zr_bipush hx hb dX6_knows_4 (by decide) ?_
  refine lv_iload_n hx hb dX6_knows_6 rfl (lv_at hl 1 rfl) ?_
  refine zr_imul hx hb dX6_knows_7 ?_
  refine lv_iload_n hx hb dX6_knows_8 rfl (lv_at hl 2 rfl) ?_
  refine zr_iadd hx hb dX6_knows_9 ?_
  refine ldN Z hP 22 (σ.2.1 4) rfl (30 * d + i) (by omega) (by omega) (by decide) dX6_knows_10 ?_
  refine zc0_le (tgt := 18) hx hb (((σ.2.1 4) (30 * d + i) : Nat) : Int) (zI_toInt (by omega)) dX6_knows_11 (by decide) (fun c11 => ?_) (fun c11 => ?_)
  · skip
    refine zr_iconst hx hb dX6_knows_18 ?_
    exact zret_B () Z hr (by decide +kernel) hP hD hS (tB_0 (by simp; omega)) rfl ⟨Nat.le_refl _, Nat.le_refl _⟩ hQ dX6_knows_19
  · skip
    refine zr_iconst hx hb dX6_knows_14 ?_
    refine lv_goto (tgt := 19) hx hb dX6_knows_15 (by decide) ?_
    exact zret_B () Z hr (by decide +kernel) hP hD hS (tB_1 (by simp; omega)) rfl ⟨Nat.le_refl _, Nat.le_refl _⟩ hQ dX6_knows_19
abbrev r_X6_marks : Room := { frames := 0, cells := 0, slots := 0, locals := 0 }
set_option maxHeartbeats 4000000 in
set_option maxRecDepth 100000 in
theorem m_X6_marks (l : Launch) (G : ZG) (q : Nat → Nat) (σ : St) (κ : KM) {e_d : Int} (d : Nat) (he_d : e_d = (d : Int)) {e_i : Int} (i : Nat) (he_i : e_i = (i : Int)) (b : Bool) (h1 : d < 4) (h2 : i < 30) (h3 : 0 < σ.2.1 4 (30 * d + i)) :
    MC l G yX6_marks (wY yX6_marks cX6_marks 4 none) r_X6_marks (wM G q σ κ) [.ref (q 0), .int (zI e_d), .int (zI e_i), .int (tB (b))] (QV G (fun (_ : Unit) => True) (fun _ => wM G q (mkS σ d i b) κ)) := by
  subst he_d
  subst he_i
  refine MC.mk (by decide +kernel) (Nat.le_of_ble_eq_true rfl) ?_
  intro p e s m av below meth c A H locs ls Q Z hr hnm hQ hP hD hS hl
  have hx := Z.1
  have hb := Z.2.1
  have hown := Z.2.2.2.1
  have hW := Z.2.2.2.2.1
  have hl : lv_has ls 4 [(0, .ref (q 0)), (1, .int (zI ((d : Nat) : Int))), (2, .int (zI ((i : Nat) : Int))), (3, .int (tB (b)))] := hl
  refine lv_aload_n hx hb dX6_marks_0 rfl (lv_at hl 0 rfl) ?_
  refine gM_0_18 Z hP kf_X6_65 dX6_marks_1 ?_
  refine zr_bipush hx hb dX6_marks_4 (by decide) ?_
  refine lv_iload_n hx hb dX6_marks_6 rfl (lv_at hl 1 rfl) ?_
  refine zr_imul hx hb dX6_marks_7 ?_
  refine lv_iload_n hx hb dX6_marks_8 rfl (lv_at hl 2 rfl) ?_
  refine zr_iadd hx hb dX6_marks_9 ?_
  refine lv_iload_n hx hb dX6_marks_10 rfl (lv_at hl 3 rfl) ?_
  refine zb_eq (tgt := 18) hx hb dX6_marks_11 (by decide) (fun c11 => ?_) (fun c11 => ?_)
  · skip
    refine zr_iconst hx hb dX6_marks_18 ?_
    refine stN (ws1 := wM G q (sA σ 6 (va_up (σ.2.1 6) (30 * d + i) (1))) κ) Z hP hD hS 19 (σ.2.1 6) rfl (30 * d + i) (by omega) (by omega) (by decide) (1) (by omega) rfl dX6_marks_19 (fun H locs hP hD hS => ?_)
    refine lv_aload_n hx hb dX6_marks_20 rfl (lv_at hl 0 rfl) ?_
    refine gM_0_19 Z hP kf_X6_68 dX6_marks_21 ?_
    refine zr_bipush hx hb dX6_marks_24 (by decide) ?_
    refine lv_iload_n hx hb dX6_marks_26 rfl (lv_at hl 1 rfl) ?_
    refine zr_imul hx hb dX6_marks_27 ?_
    refine lv_iload_n hx hb dX6_marks_28 rfl (lv_at hl 2 rfl) ?_
    refine zr_iadd hx hb dX6_marks_29 ?_
    refine lv_aload_n hx hb dX6_marks_30 rfl (lv_at hl 0 rfl) ?_
    refine gM_0_24 Z hP kf_X6_84 dX6_marks_31 ?_
    refine zr_top (w := .int (zI ((σ.1 0 : Nat) : Int))) rfl ?_
    refine stN (ws1 := wM G q (sA (sA σ 6 (va_up (σ.2.1 6) (30 * d + i) (1))) 7 (va_up (σ.2.1 7) (30 * d + i) (σ.1 0))) κ) Z hP hD hS 20 (σ.2.1 7) rfl (30 * d + i) (by omega) (by omega) (by decide) (σ.1 0) rfl rfl dX6_marks_34 (fun H locs hP hD hS => ?_)
    refine lv_aload_n hx hb dX6_marks_35 rfl (lv_at hl 0 rfl) ?_
    refine gM_0_20 Z hP kf_X6_71 dX6_marks_36 ?_
    refine zr_bipush hx hb dX6_marks_39 (by decide) ?_
    refine lv_iload_n hx hb dX6_marks_41 rfl (lv_at hl 1 rfl) ?_
    refine zr_imul hx hb dX6_marks_42 ?_
    refine lv_iload_n hx hb dX6_marks_43 rfl (lv_at hl 2 rfl) ?_
    refine zr_iadd hx hb dX6_marks_44 ?_
    refine lv_aload_n hx hb dX6_marks_45 rfl (lv_at hl 0 rfl) ?_
    refine gM_0_21 Z hP kf_X6_74 dX6_marks_46 ?_
    refine zr_bipush hx hb dX6_marks_49 (by decide) ?_
    refine lv_iload_n hx hb dX6_marks_51 rfl (lv_at hl 1 rfl) ?_
    refine zr_imul hx hb dX6_marks_52 ?_
    refine lv_iload_n hx hb dX6_marks_53 rfl (lv_at hl 2 rfl) ?_
    refine zr_iadd hx hb dX6_marks_54 ?_
    refine ldN Z hP 22 (σ.2.1 4) rfl (30 * d + i) (by omega) (by omega) (by decide) dX6_marks_55 ?_
    refine zr_iconst hx hb dX6_marks_56 ?_
    refine zr_isub hx hb dX6_marks_57 ?_
    refine stN (ws1 := wM G q (sA (sA (sA σ 6 (va_up (σ.2.1 6) (30 * d + i) (1))) 7 (va_up (σ.2.1 7) (30 * d + i) (σ.1 0))) 8 (va_up (σ.2.1 8) (30 * d + i) (σ.2.1 4 (30 * d + i) - 1))) κ) Z hP hD hS 21 (σ.2.1 8) rfl (30 * d + i) (by omega) (by omega) (by decide) (σ.2.1 4 (30 * d + i) - 1) (by omega) rfl dX6_marks_58 (fun H locs hP hD hS => ?_)
    exact zret_V () Z hr hP hD hS trivial (by rw [c11] <;> rfl) ⟨Nat.le_refl _, Nat.le_refl _⟩ hQ dX6_marks_59
  · skip
    refine zr_iconst hx hb dX6_marks_14 ?_
    refine lv_goto (tgt := 19) hx hb dX6_marks_15 (by decide) ?_
    refine stN (ws1 := wM G q (sA σ 6 (va_up (σ.2.1 6) (30 * d + i) (2))) κ) Z hP hD hS 19 (σ.2.1 6) rfl (30 * d + i) (by omega) (by omega) (by decide) (2) (by omega) rfl dX6_marks_19 (fun H locs hP hD hS => ?_)
    refine lv_aload_n hx hb dX6_marks_20 rfl (lv_at hl 0 rfl) ?_
    refine gM_0_19 Z hP kf_X6_68 dX6_marks_21 ?_
    refine zr_bipush hx hb dX6_marks_24 (by decide) ?_
    refine lv_iload_n hx hb dX6_marks_26 rfl (lv_at hl 1 rfl) ?_
    refine zr_imul hx hb dX6_marks_27 ?_
    refine lv_iload_n hx hb dX6_marks_28 rfl (lv_at hl 2 rfl) ?_
    refine zr_iadd hx hb dX6_marks_29 ?_
    refine lv_aload_n hx hb dX6_marks_30 rfl (lv_at hl 0 rfl) ?_
    refine gM_0_24 Z hP kf_X6_84 dX6_marks_31 ?_
    refine zr_top (w := .int (zI ((σ.1 0 : Nat) : Int))) rfl ?_
    refine stN (ws1 := wM G q (sA (sA σ 6 (va_up (σ.2.1 6) (30 * d + i) (2))) 7 (va_up (σ.2.1 7) (30 * d + i) (σ.1 0))) κ) Z hP hD hS 20 (σ.2.1 7) rfl (30 * d + i) (by omega) (by omega) (by decide) (σ.1 0) rfl rfl dX6_marks_34 (fun H locs hP hD hS => ?_)
    refine lv_aload_n hx hb dX6_marks_35 rfl (lv_at hl 0 rfl) ?_
    refine gM_0_20 Z hP kf_X6_71 dX6_marks_36 ?_
    refine zr_bipush hx hb dX6_marks_39 (by decide) ?_
    refine lv_iload_n hx hb dX6_marks_41 rfl (lv_at hl 1 rfl) ?_
    refine zr_imul hx hb dX6_marks_42 ?_
    refine lv_iload_n hx hb dX6_marks_43 rfl (lv_at hl 2 rfl) ?_
    refine zr_iadd hx hb dX6_marks_44 ?_
    refine lv_aload_n hx hb dX6_marks_45 rfl (lv_at hl 0 rfl) ?_
    refine gM_0_21 Z hP kf_X6_74 dX6_marks_46 ?_
    refine zr_bipush hx hb dX6_marks_49 (by decide) ?_
    refine lv_iload_n hx hb dX6_marks_51 rfl (lv_at hl 1 rfl) ?_
    refine zr_imul hx hb dX6_marks_52 ?_
    refine lv_iload_n hx hb dX6_marks_53 rfl (lv_at hl 2 rfl) ?_
    refine zr_iadd hx hb dX6_marks_54 ?_
    refine ldN Z hP 22 (σ.2.1 4) rfl (30 * d + i) (by omega) (by omega) (by decide) dX6_marks_55 ?_
    refine zr_iconst hx hb dX6_marks_56 ?_
    refine zr_isub hx hb dX6_marks_57 ?_
    refine stN (ws1 := wM G q (sA (sA (sA σ 6 (va_up (σ.2.1 6) (30 * d + i) (2))) 7 (va_up (σ.2.1 7) (30 * d + i) (σ.1 0))) 8 (va_up (σ.2.1 8) (30 * d + i) (σ.2.1 4 (30 * d + i) - 1))) κ) Z hP hD hS 21 (σ.2.1 8) rfl (30 * d + i) (by omega) (by omega) (by decide) (σ.2.1 4 (30 * d + i) - 1) (by omega) rfl dX6_marks_58 (fun H locs hP hD hS => ?_)
    exact zret_V () Z hr hP hD hS trivial (by rw [c11] <;> rfl) ⟨Nat.le_refl _, Nat.le_refl _⟩ hQ dX6_marks_59
abbrev r_X6_wins : Room := { frames := 0, cells := 0, slots := 0, locals := 0 }
set_option maxHeartbeats 4000000 in
set_option maxRecDepth 100000 in
theorem m_X6_wins (l : Launch) (G : ZG) (q : Nat → Nat) (σ : St) (κ : KM) {e_d : Int} (d : Nat) (he_d : e_d = (d : Int)) {e_i : Int} (i : Nat) (he_i : e_i = (i : Int)) (hI : okM σ) (h1 : d < 4) (h2 : i < 30) :
    MC l G yX6_wins (wY yX6_wins cX6_wins 5 (some .boolean)) r_X6_wins (wM G q σ κ) [.ref (q 0), .int (zI e_d), .int (zI e_i)] (QI G (fun r9 (_ : Unit) => r9 = (tB (winM σ d i))) (fun _ => wM G q σ κ)) := by
  subst he_d
  subst he_i
  refine MC.mk (by decide +kernel) (Nat.le_of_ble_eq_true rfl) ?_
  intro p e s m av below meth c A H locs ls Q Z hr hnm hQ hP hD hS hl
  have hx := Z.1
  have hb := Z.2.1
  have hown := Z.2.2.2.1
  have hW := Z.2.2.2.2.1
  have hl : lv_has ls 5 [(0, .ref (q 0)), (1, .int (zI ((d : Nat) : Int))), (2, .int (zI ((i : Nat) : Int)))] := hl
  obtain ⟨-, -, hkd, hmm, hmv, -, -⟩ := okM_b hI
  have k1 := hkd (30 * d + i)
  have k2 := hkd (120 + i)
  have k3 := hmm (30 * d + i)
  have k4 := hmm (120 + i)
  have k5 := hmv (30 * d + i)
  have k6 := hmv (120 + i)
  refine zr_bipush hx hb dX6_wins_0 (by decide) ?_
  refine lv_iload_n hx hb dX6_wins_2 rfl (lv_at hl 1 rfl) ?_
  refine zr_imul hx hb dX6_wins_3 ?_
  refine lv_iload_n hx hb dX6_wins_4 rfl (lv_at hl 2 rfl) ?_
  refine zr_iadd hx hb dX6_wins_5 ?_
  refine lv_istore_n (lv' := [(3, .int (zI (((30 : Int) * ((d : Nat) : Int)) + ((i : Nat) : Int)))), (0, .ref (q 0)), (1, .int (zI ((d : Nat) : Int))), (2, .int (zI ((i : Nat) : Int)))]) hx hb dX6_wins_6 rfl hl (by decide) rfl (fun ls hl => ?_)
  refine zr_bipush hx hb dX6_wins_7 (by decide) ?_
  refine lv_iload_n hx hb dX6_wins_9 rfl (lv_at hl 3 rfl) ?_
  refine zr_iadd hx hb dX6_wins_10 ?_
  refine lv_istore (lv' := [(4, .int (zI ((120 : Int) + ((i : Nat) : Int)))), (3, .int (zI (((30 : Int) * ((d : Nat) : Int)) + ((i : Nat) : Int)))), (0, .ref (q 0)), (1, .int (zI ((d : Nat) : Int))), (2, .int (zI ((i : Nat) : Int)))]) hx hb dX6_wins_11 hl (by decide) rfl (fun ls hl => ?_)
  refine lv_aload_n hx hb dX6_wins_13 rfl (lv_at hl 2 rfl) ?_
  refine gM_0_18 Z hP kf_X6_65 dX6_wins_14 ?_
  refine lv_iload_n hx hb dX6_wins_17 rfl (lv_at hl 1 rfl) ?_
  refine ldN Z hP 19 (σ.2.1 6) rfl (30 * d + i) (by omega) (by omega) (by decide) dX6_wins_18 ?_
  refine zc0_eq (tgt := 32) hx hb (((σ.2.1 6) (30 * d + i) : Nat) : Int) (zI_toInt (by omega)) dX6_wins_19 (by decide) (fun c19 => ?_) (fun c19 => ?_)
  · skip
    refine lv_aload_n hx hb dX6_wins_32 rfl (lv_at hl 2 rfl) ?_
    refine gM_0_18 Z hP kf_X6_65 dX6_wins_33 ?_
    refine lv_iload hx hb dX6_wins_36 (lv_at hl 0 rfl) ?_
    refine ldN Z hP 19 (σ.2.1 6) rfl (120 + i) (by omega) (by omega) (by decide) dX6_wins_38 ?_
    refine zc0_ne (tgt := 46) hx hb (((σ.2.1 6) (120 + i) : Nat) : Int) (zI_toInt (by omega)) dX6_wins_39 (by decide) (fun c39 => ?_) (fun c39 => ?_)
    · skip
      refine zr_iconst hx hb dX6_wins_46 ?_
      exact zret_B () Z hr (by decide +kernel) hP hD hS (tB_0 (by unfold winM; rw [if_pos (by omega)]; simp; omega)) rfl ⟨Nat.le_refl _, Nat.le_refl _⟩ hQ dX6_wins_47
    · skip
      refine zr_iconst hx hb dX6_wins_42 ?_
      refine lv_goto (tgt := 47) hx hb dX6_wins_43 (by decide) ?_
      exact zret_B () Z hr (by decide +kernel) hP hD hS (tB_1 (by unfold winM; rw [if_pos (by omega)]; simp; omega)) rfl ⟨Nat.le_refl _, Nat.le_refl _⟩ hQ dX6_wins_47
  · skip
    refine lv_aload_n hx hb dX6_wins_22 rfl (lv_at hl 2 rfl) ?_
    refine gM_0_18 Z hP kf_X6_65 dX6_wins_23 ?_
    refine lv_iload hx hb dX6_wins_26 (lv_at hl 0 rfl) ?_
    refine ldN Z hP 19 (σ.2.1 6) rfl (120 + i) (by omega) (by omega) (by decide) dX6_wins_28 ?_
    refine zc0_ne (tgt := 48) hx hb (((σ.2.1 6) (120 + i) : Nat) : Int) (zI_toInt (by omega)) dX6_wins_29 (by decide) (fun c29 => ?_) (fun c29 => ?_)
    · skip
      refine lv_aload_n hx hb dX6_wins_48 rfl (lv_at hl 2 rfl) ?_
      refine gM_0_19 Z hP kf_X6_68 dX6_wins_49 ?_
      refine lv_iload_n hx hb dX6_wins_52 rfl (lv_at hl 1 rfl) ?_
      refine ldN Z hP 20 (σ.2.1 7) rfl (((30 * d) + i)) (by omega) (by omega) (by decide) dX6_wins_53 ?_
      refine lv_aload_n hx hb dX6_wins_54 rfl (lv_at hl 2 rfl) ?_
      refine gM_0_19 Z hP kf_X6_68 dX6_wins_55 ?_
      refine lv_iload hx hb dX6_wins_58 (lv_at hl 0 rfl) ?_
      refine ldN Z hP 20 (σ.2.1 7) rfl (120 + i) (by omega) (by omega) (by decide) dX6_wins_60 ?_
      refine zc_eq (tgt := 86) hx hb (((σ.2.1 7) (((30 * d) + i)) : Nat) : Int) (((σ.2.1 7) (120 + i) : Nat) : Int) (zI_toInt (by omega)) (zI_toInt (by omega)) dX6_wins_61 (by decide) (fun c61 => ?_) (fun c61 => ?_)
      · skip
        refine lv_aload_n hx hb dX6_wins_86 rfl (lv_at hl 2 rfl) ?_
        refine gM_0_18 Z hP kf_X6_65 dX6_wins_87 ?_
        refine lv_iload_n hx hb dX6_wins_90 rfl (lv_at hl 1 rfl) ?_
        refine ldN Z hP 19 (σ.2.1 6) rfl (((30 * d) + i)) (by omega) (by omega) (by decide) dX6_wins_91 ?_
        refine lv_aload_n hx hb dX6_wins_92 rfl (lv_at hl 2 rfl) ?_
        refine gM_0_18 Z hP kf_X6_65 dX6_wins_93 ?_
        refine lv_iload hx hb dX6_wins_96 (lv_at hl 0 rfl) ?_
        refine ldN Z hP 19 (σ.2.1 6) rfl (120 + i) (by omega) (by omega) (by decide) dX6_wins_98 ?_
        refine zc_eq (tgt := 118) hx hb (((σ.2.1 6) (((30 * d) + i)) : Nat) : Int) (((σ.2.1 6) (120 + i) : Nat) : Int) (zI_toInt (by omega)) (zI_toInt (by omega)) dX6_wins_99 (by decide) (fun c99 => ?_) (fun c99 => ?_)
        · skip
          refine lv_aload_n hx hb dX6_wins_118 rfl (lv_at hl 2 rfl) ?_
          refine gM_0_20 Z hP kf_X6_71 dX6_wins_119 ?_
          refine lv_iload_n hx hb dX6_wins_122 rfl (lv_at hl 1 rfl) ?_
          refine ldN Z hP 21 (σ.2.1 8) rfl (((30 * d) + i)) (by omega) (by omega) (by decide) dX6_wins_123 ?_
          refine lv_aload_n hx hb dX6_wins_124 rfl (lv_at hl 2 rfl) ?_
          refine gM_0_20 Z hP kf_X6_71 dX6_wins_125 ?_
          refine lv_iload hx hb dX6_wins_128 (lv_at hl 0 rfl) ?_
          refine ldN Z hP 21 (σ.2.1 8) rfl (120 + i) (by omega) (by omega) (by decide) dX6_wins_130 ?_
          refine zc_lt (tgt := 138) hx hb (((σ.2.1 8) (((30 * d) + i)) : Nat) : Int) (((σ.2.1 8) (120 + i) : Nat) : Int) (zI_toInt (by omega)) (zI_toInt (by omega)) dX6_wins_131 (by decide) (fun c131 => ?_) (fun c131 => ?_)
          · skip
            refine zr_iconst hx hb dX6_wins_138 ?_
            exact zret_B () Z hr (by decide +kernel) hP hD hS (tB_0 (by unfold winM; rw [if_neg (by omega)]; rw [if_neg (by omega)]; rw [if_neg (by omega)]; simp; omega)) rfl ⟨Nat.le_refl _, Nat.le_refl _⟩ hQ dX6_wins_139
          · skip
            refine zr_iconst hx hb dX6_wins_134 ?_
            refine lv_goto (tgt := 139) hx hb dX6_wins_135 (by decide) ?_
            exact zret_B () Z hr (by decide +kernel) hP hD hS (tB_1 (by unfold winM; rw [if_neg (by omega)]; rw [if_neg (by omega)]; rw [if_neg (by omega)]; simp; omega)) rfl ⟨Nat.le_refl _, Nat.le_refl _⟩ hQ dX6_wins_139
        · skip
          refine lv_aload_n hx hb dX6_wins_102 rfl (lv_at hl 2 rfl) ?_
          refine gM_0_18 Z hP kf_X6_65 dX6_wins_103 ?_
          refine lv_iload_n hx hb dX6_wins_106 rfl (lv_at hl 1 rfl) ?_
          refine ldN Z hP 19 (σ.2.1 6) rfl (((30 * d) + i)) (by omega) (by omega) (by decide) dX6_wins_107 ?_
          refine zr_iconst hx hb dX6_wins_108 ?_
          refine zc_ne (tgt := 116) hx hb (((σ.2.1 6) (((30 * d) + i)) : Nat) : Int) (2 : Int) (zI_toInt (by omega)) (zI_toInt (by decide)) dX6_wins_109 (by decide) (fun c109 => ?_) (fun c109 => ?_)
          · skip
            refine zr_iconst hx hb dX6_wins_116 ?_
            exact zret_B () Z hr (by decide +kernel) hP hD hS (tB_0 (by unfold winM; rw [if_neg (by omega)]; rw [if_neg (by omega)]; rw [if_pos (by omega)]; simp; omega)) rfl ⟨Nat.le_refl _, Nat.le_refl _⟩ hQ dX6_wins_117
          · skip
            refine zr_iconst hx hb dX6_wins_112 ?_
            refine lv_goto (tgt := 117) hx hb dX6_wins_113 (by decide) ?_
            exact zret_B () Z hr (by decide +kernel) hP hD hS (tB_1 (by unfold winM; rw [if_neg (by omega)]; rw [if_neg (by omega)]; rw [if_pos (by omega)]; simp; omega)) rfl ⟨Nat.le_refl _, Nat.le_refl _⟩ hQ dX6_wins_117
      · skip
        refine lv_aload_n hx hb dX6_wins_64 rfl (lv_at hl 2 rfl) ?_
        refine gM_0_19 Z hP kf_X6_68 dX6_wins_65 ?_
        refine lv_iload_n hx hb dX6_wins_68 rfl (lv_at hl 1 rfl) ?_
        refine ldN Z hP 20 (σ.2.1 7) rfl (((30 * d) + i)) (by omega) (by omega) (by decide) dX6_wins_69 ?_
        refine lv_aload_n hx hb dX6_wins_70 rfl (lv_at hl 2 rfl) ?_
        refine gM_0_19 Z hP kf_X6_68 dX6_wins_71 ?_
        refine lv_iload hx hb dX6_wins_74 (lv_at hl 0 rfl) ?_
        refine ldN Z hP 20 (σ.2.1 7) rfl (120 + i) (by omega) (by omega) (by decide) dX6_wins_76 ?_
        refine zc_le (tgt := 84) hx hb (((σ.2.1 7) (((30 * d) + i)) : Nat) : Int) (((σ.2.1 7) (120 + i) : Nat) : Int) (zI_toInt (by omega)) (zI_toInt (by omega)) dX6_wins_77 (by decide) (fun c77 => ?_) (fun c77 => ?_)
        · skip
          refine zr_iconst hx hb dX6_wins_84 ?_
          exact zret_B () Z hr (by decide +kernel) hP hD hS (tB_0 (by unfold winM; rw [if_neg (by omega)]; rw [if_pos (by omega)]; simp; omega)) rfl ⟨Nat.le_refl _, Nat.le_refl _⟩ hQ dX6_wins_85
        · skip
          refine zr_iconst hx hb dX6_wins_80 ?_
          refine lv_goto (tgt := 85) hx hb dX6_wins_81 (by decide) ?_
          exact zret_B () Z hr (by decide +kernel) hP hD hS (tB_1 (by unfold winM; rw [if_neg (by omega)]; rw [if_pos (by omega)]; simp; omega)) rfl ⟨Nat.le_refl _, Nat.le_refl _⟩ hQ dX6_wins_85
    · skip
      refine lv_aload_n hx hb dX6_wins_32 rfl (lv_at hl 2 rfl) ?_
      refine gM_0_18 Z hP kf_X6_65 dX6_wins_33 ?_
      refine lv_iload hx hb dX6_wins_36 (lv_at hl 0 rfl) ?_
      refine ldN Z hP 19 (σ.2.1 6) rfl (120 + i) (by omega) (by omega) (by decide) dX6_wins_38 ?_
      refine zc0_ne (tgt := 46) hx hb (((σ.2.1 6) (120 + i) : Nat) : Int) (zI_toInt (by omega)) dX6_wins_39 (by decide) (fun c39 => ?_) (fun c39 => ?_)
      · skip
        refine zr_iconst hx hb dX6_wins_46 ?_
        exact zret_B () Z hr (by decide +kernel) hP hD hS (tB_0 (by unfold winM; rw [if_pos (by omega)]; simp; omega)) rfl ⟨Nat.le_refl _, Nat.le_refl _⟩ hQ dX6_wins_47
      · skip
        refine zr_iconst hx hb dX6_wins_42 ?_
        refine lv_goto (tgt := 47) hx hb dX6_wins_43 (by decide) ?_
        exact zret_B () Z hr (by decide +kernel) hP hD hS (tB_1 (by unfold winM; rw [if_pos (by omega)]; simp; omega)) rfl ⟨Nat.le_refl _, Nat.le_refl _⟩ hQ dX6_wins_47
abbrev r_X6_thrown : Room := { frames := 0, cells := 0, slots := 0, locals := 0 }
set_option maxHeartbeats 4000000 in
set_option maxRecDepth 100000 in
theorem m_X6_thrown (l : Launch) (G : ZG) (q : Nat → Nat) (σ : St) (κ : KM)  :
    MC l G yX6_thrown (wY yX6_thrown cX6_thrown 1 (some .int)) r_X6_thrown (wM G q σ κ) [.ref (q 0)] (QI G (fun r9 (_ : Unit) => r9 = (zI (κ.1 : Int))) (fun _ => wM G q σ κ)) := by
  refine MC.mk (by decide +kernel) (Nat.le_of_ble_eq_true rfl) ?_
  intro p e s m av below meth c A H locs ls Q Z hr hnm hQ hP hD hS hl
  have hx := Z.1
  have hb := Z.2.1
  have hown := Z.2.2.2.1
  have hW := Z.2.2.2.2.1
  have hl : lv_has ls 1 [(0, .ref (q 0))] := hl
  refine lv_aload_n hx hb dX6_thrown_0 rfl (lv_at hl 0 rfl) ?_
  refine gM_0_23 Z hP kf_X6_80 dX6_thrown_1 ?_
  exact zret_I () Z hr hP hD hS rfl rfl ⟨Nat.le_refl _, Nat.le_refl _⟩ hQ dX6_thrown_4
