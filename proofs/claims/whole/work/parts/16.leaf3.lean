abbrev r_J13_bitCount_95d88 : Room := { frames := 0, cells := 0, slots := 0, locals := 0 }
set_option maxHeartbeats 4000000 in
set_option maxRecDepth 100000 in
theorem m_J13_bitCount_95d88 (l : Launch) (G : ZG) (ws : va_W) (x : Int64) :
    MC l G yJ13_bitCount_95d88 (wY yJ13_bitCount_95d88 cJ13_bitCount_95d88 2 (some .int)) r_J13_bitCount_95d88 (ws) [.long (x)] (QI G (fun r9 (_ : Unit) => r9 = (zI ((popc x : Nat) : Int))) (fun _ => ws)) := by
  refine MC.mkF (by decide +kernel) (Nat.le_of_ble_eq_true rfl) ?_
  intro p e s m av below meth c A H locs ls Q Z hr hnm hQ hP hD hS hl
  have hx := Z.1
  have hb := Z.2.1
  have hown := Z.2.2.2.1
  have hW := Z.2.2.2.2.1
  have hl : lv_has ls 2 [(0, .long (x))] := hl
  refine lv_lload_n hx hb dJ13_bitCount_95d88_0 rfl (lv_at hl 0 rfl) ?_
  refine lv_lload_n hx hb dJ13_bitCount_95d88_1 rfl (lv_at hl 0 rfl) ?_
  refine zr_iconst hx hb dJ13_bitCount_95d88_2 ?_
  refine lv_lushr (v := us (x) 1) hx hb dJ13_bitCount_95d88_3 (by rw [sh_1]; rfl) ?_
  refine lv_ldc2 hx hb hown (hW _ kk_J13_314) dJ13_bitCount_95d88_4 ?_
  refine lv_land hx hb dJ13_bitCount_95d88_7 ?_
  refine lv_lsub hx hb dJ13_bitCount_95d88_8 ?_
  refine zr_top (w := .long (bc1 x)) rfl ?_
  refine lv_lstore_n (lv' := [(0, .long (bc1 x))]) hx hb dJ13_bitCount_95d88_9 rfl hl (by decide) rfl (fun ls hl => ?_)
  refine lv_lload_n hx hb dJ13_bitCount_95d88_10 rfl (lv_at hl 0 rfl) ?_
  refine lv_ldc2 hx hb hown (hW _ kk_J13_316) dJ13_bitCount_95d88_11 ?_
  refine lv_land hx hb dJ13_bitCount_95d88_14 ?_
  refine lv_lload_n hx hb dJ13_bitCount_95d88_15 rfl (lv_at hl 0 rfl) ?_
  refine zr_iconst hx hb dJ13_bitCount_95d88_16 ?_
  refine lv_lushr (v := us (bc1 x) 2) hx hb dJ13_bitCount_95d88_17 (by rw [sh_2]; rfl) ?_
  refine lv_ldc2 hx hb hown (hW _ kk_J13_316) dJ13_bitCount_95d88_18 ?_
  refine lv_land hx hb dJ13_bitCount_95d88_21 ?_
  refine lv_ladd hx hb dJ13_bitCount_95d88_22 ?_
  refine zr_top (w := .long (bc2 x)) rfl ?_
  refine lv_lstore_n (lv' := [(0, .long (bc2 x))]) hx hb dJ13_bitCount_95d88_23 rfl hl (by decide) rfl (fun ls hl => ?_)
  refine lv_lload_n hx hb dJ13_bitCount_95d88_24 rfl (lv_at hl 0 rfl) ?_
  refine lv_lload_n hx hb dJ13_bitCount_95d88_25 rfl (lv_at hl 0 rfl) ?_
  refine zr_iconst hx hb dJ13_bitCount_95d88_26 ?_
  refine lv_lushr (v := us (bc2 x) 4) hx hb dJ13_bitCount_95d88_27 (by rw [sh_4]; rfl) ?_
  refine lv_ladd hx hb dJ13_bitCount_95d88_28 ?_
  refine lv_ldc2 hx hb hown (hW _ kk_J13_318) dJ13_bitCount_95d88_29 ?_
  refine lv_land hx hb dJ13_bitCount_95d88_32 ?_
  refine zr_top (w := .long (bc3 x)) rfl ?_
  refine lv_lstore_n (lv' := [(0, .long (bc3 x))]) hx hb dJ13_bitCount_95d88_33 rfl hl (by decide) rfl (fun ls hl => ?_)
  refine lv_lload_n hx hb dJ13_bitCount_95d88_34 rfl (lv_at hl 0 rfl) ?_
  refine lv_lload_n hx hb dJ13_bitCount_95d88_35 rfl (lv_at hl 0 rfl) ?_
  refine zr_bipush hx hb dJ13_bitCount_95d88_36 (by decide) ?_
  refine lv_lushr (v := us (bc3 x) 8) hx hb dJ13_bitCount_95d88_38 (by rw [sh_8]; rfl) ?_
  refine lv_ladd hx hb dJ13_bitCount_95d88_39 ?_
  refine zr_top (w := .long (bc4 x)) rfl ?_
  refine lv_lstore_n (lv' := [(0, .long (bc4 x))]) hx hb dJ13_bitCount_95d88_40 rfl hl (by decide) rfl (fun ls hl => ?_)
  refine lv_lload_n hx hb dJ13_bitCount_95d88_41 rfl (lv_at hl 0 rfl) ?_
  refine lv_lload_n hx hb dJ13_bitCount_95d88_42 rfl (lv_at hl 0 rfl) ?_
  refine zr_bipush hx hb dJ13_bitCount_95d88_43 (by decide) ?_
  refine lv_lushr (v := us (bc4 x) 16) hx hb dJ13_bitCount_95d88_45 (by rw [sh_16]; rfl) ?_
  refine lv_ladd hx hb dJ13_bitCount_95d88_46 ?_
  refine zr_top (w := .long (bc5 x)) rfl ?_
  refine lv_lstore_n (lv' := [(0, .long (bc5 x))]) hx hb dJ13_bitCount_95d88_47 rfl hl (by decide) rfl (fun ls hl => ?_)
  refine lv_lload_n hx hb dJ13_bitCount_95d88_48 rfl (lv_at hl 0 rfl) ?_
  refine lv_lload_n hx hb dJ13_bitCount_95d88_49 rfl (lv_at hl 0 rfl) ?_
  refine zr_bipush hx hb dJ13_bitCount_95d88_50 (by decide) ?_
  refine lv_lushr (v := us (bc5 x) 32) hx hb dJ13_bitCount_95d88_52 (by rw [sh_32]; rfl) ?_
  refine lv_ladd hx hb dJ13_bitCount_95d88_53 ?_
  refine zr_top (w := .long (bc6 x)) rfl ?_
  refine lv_lstore_n (lv' := [(0, .long (bc6 x))]) hx hb dJ13_bitCount_95d88_54 rfl hl (by decide) rfl (fun ls hl => ?_)
  refine lv_lload_n hx hb dJ13_bitCount_95d88_55 rfl (lv_at hl 0 rfl) ?_
  refine lv_l2i (v := (bc6 x).toInt32) hx hb dJ13_bitCount_95d88_56 rfl ?_
  refine zr_bipush hx hb dJ13_bitCount_95d88_57 (by decide) ?_
  refine lv_iand hx hb dJ13_bitCount_95d88_59 ?_
  exact zret_I () Z hr hP hD hS (bc_pop x) rfl ⟨Nat.le_refl _, Nat.le_refl _⟩ hQ dJ13_bitCount_95d88_60
abbrev r_X5_percentInCommon : Room := { frames := 1, cells := 0, slots := 0, locals := 21 }
set_option maxHeartbeats 4000000 in
set_option maxRecDepth 100000 in
theorem m_X5_percentInCommon (l : Launch) (G : ZG) (ws : va_W) (a : Int64) (b : Int64) :
    MC l G yX5_percentInCommon (wY yX5_percentInCommon cX5_percentInCommon 5 (some .int)) r_X5_percentInCommon (ws) [.long (a), .long (b)] (QI G (fun r9 (_ : Unit) => r9 = (zI ((like a b : Nat) : Int))) (fun _ => ws)) := by
  refine MC.mk (by decide +kernel) (Nat.le_of_ble_eq_true rfl) ?_
  intro p e s m av below meth c A H locs ls Q Z hr hnm hQ hP hD hS hl
  have hx := Z.1
  have hb := Z.2.1
  have hown := Z.2.2.2.1
  have hW := Z.2.2.2.2.1
  have hl : lv_has ls 5 [(0, .long (a)), (2, .long (b))] := hl
  have hp1 := popc_le (a &&& b)
  have hp2 := popc_le (a ||| b)
  refine lv_lload_n hx hb dX5_percentInCommon_0 rfl (lv_at hl 0 rfl) ?_
  refine lv_lload_n hx hb dX5_percentInCommon_1 rfl (lv_at hl 1 rfl) ?_
  refine lv_lor hx hb dX5_percentInCommon_2 ?_
  refine zdet_I ⟨rfl, rfl⟩ Z hD hS (zrunS (rest := []) Z hP hD hS hl.1 (m_J13_bitCount_95d88 l G (ws) ((a) ||| (b))) zY_J13_bitCount_95d88 km_X5_296 rfl rfl ⟨⟨Nat.le_of_ble_eq_true rfl, Nat.le_of_ble_eq_true rfl⟩, Nat.le_of_ble_eq_true rfl, Nat.le_of_ble_eq_true rfl⟩ (Nat.le_of_ble_eq_true rfl) dX5_percentInCommon_3) (fun H locs hP hD hS => ?_)
  refine lv_istore (lv' := [(4, .int (zI ((popc (((a) ||| (b))) : Nat) : Int))), (0, .long (a)), (2, .long (b))]) hx hb dX5_percentInCommon_6 hl (by decide) rfl (fun ls hl => ?_)
  refine lv_iload hx hb dX5_percentInCommon_8 (lv_at hl 0 rfl) ?_
  refine zc0_ne (tgt := 15) hx hb ((popc (((a) ||| (b))) : Nat) : Int) (zI_toInt (by omega)) dX5_percentInCommon_10 (by decide) (fun c10 => ?_) (fun c10 => ?_)
  · skip
    refine zr_bipush hx hb dX5_percentInCommon_15 (by decide) ?_
    refine lv_lload_n hx hb dX5_percentInCommon_17 rfl (lv_at hl 1 rfl) ?_
    refine lv_lload_n hx hb dX5_percentInCommon_18 rfl (lv_at hl 2 rfl) ?_
    refine lv_land hx hb dX5_percentInCommon_19 ?_
    refine zdet_I ⟨rfl, rfl⟩ Z hD hS (zrunS (rest := [.int (zI (100 : Int))]) Z hP hD hS hl.1 (m_J13_bitCount_95d88 l G (ws) ((a) &&& (b))) zY_J13_bitCount_95d88 km_X5_296 rfl rfl ⟨⟨Nat.le_of_ble_eq_true rfl, Nat.le_of_ble_eq_true rfl⟩, Nat.le_of_ble_eq_true rfl, Nat.le_of_ble_eq_true rfl⟩ (Nat.le_of_ble_eq_true rfl) dX5_percentInCommon_20) (fun H locs hP hD hS => ?_)
    refine zr_imul hx hb dX5_percentInCommon_23 ?_
    refine lv_iload hx hb dX5_percentInCommon_24 (lv_at hl 0 rfl) ?_
    refine zr_idiv hx hb (by omega) dX5_percentInCommon_26 ?_
    exact zret_I () Z hr hP hD hS (congrArg zI (by unfold like; exact (Int.natCast_ediv _ _).symm)) rfl ⟨Nat.le_refl _, Nat.le_refl _⟩ hQ dX5_percentInCommon_27
  · skip
    refine zr_iconst hx hb dX5_percentInCommon_13 ?_
    exact zret_I () Z hr hP hD hS (by
        have h9 : popc (a ||| b) = 0 := by omega
        unfold like; rw [h9, Nat.div_zero]; rfl) rfl ⟨Nat.le_refl _, Nat.le_refl _⟩ hQ dX5_percentInCommon_14
abbrev r_X1_mostAlike : Room := { frames := 4, cells := 0, slots := 0, locals := 86 }
set_option maxHeartbeats 4000000 in
set_option maxRecDepth 100000 in
theorem m_X1_mostAlike (l : Launch) (G : ZG) (q : Nat → Nat) (σ : St) (κ : KC) (t : Int64) (sf : Int) {e_th : Int} (th : Nat) (he_th : e_th = (th : Int)) (hI : okC σ) (h1 : zR sf) (h2 : th ≤ 100) :
    MC l G yX1_mostAlike (wY yX1_mostAlike cX1_mostAlike 9 (some .int)) r_X1_mostAlike (wC G q σ κ) [.ref (q 1), .long (t), .int (zI (sf : Int)), .int (zI e_th)] (QI G (fun r9 (_ : Unit) => r9 = (zI (bst σ t sf th (σ.1 4) : Int))) (fun _ => wC G q σ κ)) := by
  subst he_th
  refine MC.mk (by decide +kernel) (Nat.le_of_ble_eq_true rfl) ?_
  intro p e s m av below meth c A H locs ls Q Z hr hnm hQ hP hD hS hl
  have hx := Z.1
  have hb := Z.2.1
  have hown := Z.2.2.2.1
  have hW := Z.2.2.2.2.1
  have hl : lv_has ls 9 [(0, .ref (q 1)), (1, .long (t)), (3, .int (zI (sf : Int))), (4, .int (zI ((th : Nat) : Int)))] := hl
  obtain ⟨hn, hru, hrv, hdv, hsr, hmn, ht1, ht2, hwn, hv1, hv2, hmj, htm, hse, htg, hrt, hac, hk1, hk2, hkd, hmm, hmv, hord, hpo, hlo⟩ := id hI
  refine zr_iconst hx hb dX1_mostAlike_0 ?_
  refine lv_istore (lv' := [(5, .int (zI (-1 : Int))), (0, .ref (q 1)), (1, .long (t)), (3, .int (zI (sf : Int))), (4, .int (zI ((th : Nat) : Int)))]) hx hb dX1_mostAlike_1 hl (by decide) rfl (fun ls hl => ?_)
  refine lv_iload hx hb dX1_mostAlike_3 (lv_at hl 4 rfl) ?_
  refine zr_iconst hx hb dX1_mostAlike_5 ?_
  refine zr_isub hx hb dX1_mostAlike_6 ?_
  refine lv_istore (lv' := [(6, .int (zI (((th : Nat) : Int) - (1 : Int)))), (5, .int (zI (-1 : Int))), (0, .ref (q 1)), (1, .long (t)), (3, .int (zI (sf : Int))), (4, .int (zI ((th : Nat) : Int)))]) hx hb dX1_mostAlike_7 hl (by decide) rfl (fun ls hl => ?_)
  refine zr_iconst hx hb dX1_mostAlike_9 ?_
  refine lv_istore (lv' := [(7, .int (zI (0 : Int))), (6, .int (zI (((th : Nat) : Int) - (1 : Int)))), (5, .int (zI (-1 : Int))), (0, .ref (q 1)), (1, .long (t)), (3, .int (zI (sf : Int))), (4, .int (zI ((th : Nat) : Int)))]) hx hb dX1_mostAlike_10 hl (by decide) rfl (fun ls hl => ?_)
  suffices LP12 : ∀ (f9 : Nat) (k : Nat), σ.1 4 < k + f9 → (k ≤ σ.1 4) → ∀ (H : Heap) (locs : List Loc) (ls : Array Slot), va_P G.1 vwCl (wC G q σ κ) H → va_D A (wC G q σ κ) → va_S A s.heap H locs → lv_has ls 9 [(5, .int (zI (bst σ t sf th k : Int))), (6, .int (zI (tbt σ t sf th k : Int))), (7, .int (zI ((k : Nat) : Int))), (0, .ref (q 1)), (1, .long (t)), (3, .int (zI (sf : Int))), (4, .int (zI ((th : Nat) : Int)))] → W p l e r_X1_mostAlike s m av below meth c H locs 0 0 Q (F0 m 12 ls []) from LP12 (σ.1 4 + 1) (0) (by omega) (by omega) _ _ _ hP hD hS (lv_sub hl [2, 1, 0, 3, 4, 5, 6] (by simp [lv_pick, bst, tbt]))
  intro f9
  induction f9 with
  | zero => intro k hf9 hk; exfalso; omega
  | succ f9 ih12 =>
    intro k hf9 hk H locs ls hP hD hS hl
    have hb9 := bst_in σ t sf th k
    have ht9 : -1 ≤ tbt σ t sf th k ∧ tbt σ t sf th k ≤ 6400 := by
      have := like_le t (lat σ (bst σ t sf th k).toNat)
      unfold tbt; split <;> omega
    refine lv_iload hx hb dX1_mostAlike_12 (lv_at hl 2 rfl) ?_
    refine lv_aload_n hx hb dX1_mostAlike_14 rfl (lv_at hl 3 rfl) ?_
    refine gC_1_0 Z hP kf_X1_9 dX1_mostAlike_15 ?_
    refine zc_ge (tgt := 65) hx hb ((k : Nat) : Int) ((σ.1 4 : Nat) : Int) (zI_toInt (by omega)) (zI_toInt (by omega)) dX1_mostAlike_18 (by decide) (fun c18 => ?_) (fun c18 => ?_)
    · skip
      refine lv_iload hx hb dX1_mostAlike_65 (lv_at hl 0 rfl) ?_
      exact zret_I () Z hr hP hD hS (by
          have h9 : k = σ.1 4 := by omega
          rw [h9]) rfl ⟨Nat.le_refl _, Nat.le_refl _⟩ hQ dX1_mostAlike_67
    · skip
      refine lv_lload_n hx hb dX1_mostAlike_21 rfl (lv_at hl 4 rfl) ?_
      refine lv_aload_n hx hb dX1_mostAlike_22 rfl (lv_at hl 3 rfl) ?_
      refine lv_iload hx hb dX1_mostAlike_23 (lv_at hl 2 rfl) ?_
      refine zdet_L ⟨rfl, rfl⟩ Z hD hS (zrunV (rest := [.long (t)]) Z hP hD hS hl.1 (m_X1_latestTitle l G q σ κ (k) rfl (by omega) (hv1 _ (by omega)) (hv2 _)) zY_X1_latestTitle km_X1_60 (q0 := 1) rfl rfl rfl rfl ⟨⟨Nat.le_of_ble_eq_true rfl, Nat.le_of_ble_eq_true rfl⟩, Nat.le_of_ble_eq_true rfl, Nat.le_of_ble_eq_true rfl⟩ (Nat.le_of_ble_eq_true rfl) dX1_mostAlike_25) (fun H locs hP hD hS => ?_)
      refine zdet_I ⟨rfl, rfl⟩ Z hD hS (zrunSN (rest := []) Z hP hD hS hl.1 (m_X5_percentInCommon l G (wC G q σ κ) (t) (lat σ k)) zY_X5_percentInCommon (by decide +kernel : (RX1, 64, yX5_percentInCommon, RX5) ∈ xNest) rfl rfl ⟨⟨Nat.le_of_ble_eq_true rfl, Nat.le_of_ble_eq_true rfl⟩, Nat.le_of_ble_eq_true rfl, Nat.le_of_ble_eq_true rfl⟩ (Nat.le_of_ble_eq_true rfl) dX1_mostAlike_28) (fun H locs hP hD hS => ?_)
      have hlk := like_le t (lat σ k)
      have hs9 := hse k
      refine lv_istore (lv' := [(8, .int (zI ((like ((t)) ((lat σ k)) : Nat) : Int))), (5, .int (zI (bst σ t sf th k : Int))), (6, .int (zI (tbt σ t sf th k : Int))), (7, .int (zI ((k : Nat) : Int))), (0, .ref (q 1)), (1, .long (t)), (3, .int (zI (sf : Int))), (4, .int (zI ((th : Nat) : Int)))]) hx hb dX1_mostAlike_31 hl (by decide) rfl (fun ls hl => ?_)
      refine lv_aload_n hx hb dX1_mostAlike_33 rfl (lv_at hl 4 rfl) ?_
      refine gC_1_1 Z hP kf_X1_15 dX1_mostAlike_34 ?_
      refine lv_iload hx hb dX1_mostAlike_37 (lv_at hl 3 rfl) ?_
      refine ldN Z hP 8 (σ.2.1 0) rfl (k) rfl (by omega) (by decide) dX1_mostAlike_39 ?_
      refine lv_iload_n hx hb dX1_mostAlike_40 rfl (lv_at hl 6 rfl) ?_
      refine zc_lt (tgt := 59) hx hb (((σ.2.1 0) (k) : Nat) : Int) (sf : Int) (zI_toInt (by omega)) (zI_toInt (by omega)) dX1_mostAlike_41 (by decide) (fun c41 => ?_) (fun c41 => ?_)
      · skip
        refine zr_iinc (lv' := [(7, .int (zI (((k : Nat) : Int) + (1 : Int)))), (8, .int (zI ((like ((t)) ((lat σ k)) : Nat) : Int))), (5, .int (zI (bst σ t sf th k : Int))), (6, .int (zI (tbt σ t sf th k : Int))), (0, .ref (q 1)), (1, .long (t)), (3, .int (zI (sf : Int))), (4, .int (zI ((th : Nat) : Int)))]) hx hb 3 dX1_mostAlike_59 hl rfl (by decide) rfl (fun ls hl => ?_)
        refine lv_goto (tgt := 12) hx hb dX1_mostAlike_62 (by decide) ?_
        have h9 := bst_no (σ := σ) (t := t) (sf := sf) (th := th) (k := k) (by omega)
        exact ih12 (k + 1) (by omega) (by omega) _ _ _ hP hD hS (lv_sub hl [2, 3, 0, 4, 5, 6, 7] (by rw [h9.1, h9.2]; rfl))
      · skip
        refine lv_iload hx hb dX1_mostAlike_44 (lv_at hl 0 rfl) ?_
        refine lv_iload hx hb dX1_mostAlike_46 (lv_at hl 2 rfl) ?_
        refine zc_le (tgt := 59) hx hb ((like ((t)) ((lat σ k)) : Nat) : Int) (tbt σ t sf th k : Int) (zI_toInt (by omega)) (zI_toInt (by omega)) dX1_mostAlike_48 (by decide) (fun c48 => ?_) (fun c48 => ?_)
        · skip
          refine zr_iinc (lv' := [(7, .int (zI (((k : Nat) : Int) + (1 : Int)))), (8, .int (zI ((like ((t)) ((lat σ k)) : Nat) : Int))), (5, .int (zI (bst σ t sf th k : Int))), (6, .int (zI (tbt σ t sf th k : Int))), (0, .ref (q 1)), (1, .long (t)), (3, .int (zI (sf : Int))), (4, .int (zI ((th : Nat) : Int)))]) hx hb 3 dX1_mostAlike_59 hl rfl (by decide) rfl (fun ls hl => ?_)
          refine lv_goto (tgt := 12) hx hb dX1_mostAlike_62 (by decide) ?_
          have h9 := bst_no (σ := σ) (t := t) (sf := sf) (th := th) (k := k) (by omega)
          exact ih12 (k + 1) (by omega) (by omega) _ _ _ hP hD hS (lv_sub hl [2, 3, 0, 4, 5, 6, 7] (by rw [h9.1, h9.2]; rfl))
        · skip
          refine lv_iload hx hb dX1_mostAlike_51 (lv_at hl 3 rfl) ?_
          refine lv_istore (lv' := [(5, .int (zI ((k : Nat) : Int))), (8, .int (zI ((like ((t)) ((lat σ k)) : Nat) : Int))), (6, .int (zI (tbt σ t sf th k : Int))), (7, .int (zI ((k : Nat) : Int))), (0, .ref (q 1)), (1, .long (t)), (3, .int (zI (sf : Int))), (4, .int (zI ((th : Nat) : Int)))]) hx hb dX1_mostAlike_53 hl (by decide) rfl (fun ls hl => ?_)
          refine lv_iload hx hb dX1_mostAlike_55 (lv_at hl 1 rfl) ?_
          refine lv_istore (lv' := [(6, .int (zI ((like ((t)) ((lat σ k)) : Nat) : Int))), (5, .int (zI ((k : Nat) : Int))), (8, .int (zI ((like ((t)) ((lat σ k)) : Nat) : Int))), (7, .int (zI ((k : Nat) : Int))), (0, .ref (q 1)), (1, .long (t)), (3, .int (zI (sf : Int))), (4, .int (zI ((th : Nat) : Int)))]) hx hb dX1_mostAlike_57 hl (by decide) rfl (fun ls hl => ?_)
          refine zr_iinc (lv' := [(7, .int (zI (((k : Nat) : Int) + (1 : Int)))), (6, .int (zI ((like ((t)) ((lat σ k)) : Nat) : Int))), (5, .int (zI ((k : Nat) : Int))), (8, .int (zI ((like ((t)) ((lat σ k)) : Nat) : Int))), (0, .ref (q 1)), (1, .long (t)), (3, .int (zI (sf : Int))), (4, .int (zI ((th : Nat) : Int)))]) hx hb 3 dX1_mostAlike_59 hl rfl (by decide) rfl (fun ls hl => ?_)
          refine lv_goto (tgt := 12) hx hb dX1_mostAlike_62 (by decide) ?_
          have h9 := bst_yes (σ := σ) (t := t) (sf := sf) (th := th) (k := k) (by omega) (by omega)
          exact ih12 (k + 1) (by omega) (by omega) _ _ _ hP hD hS (lv_sub hl [2, 1, 0, 4, 5, 6, 7] (by rw [h9.1, h9.2]; rfl))
abbrev r_X1_keepInOrder : Room := { frames := 1, cells := 0, slots := 0, locals := 22 }
set_option maxHeartbeats 4000000 in
set_option maxRecDepth 100000 in
theorem m_X1_keepInOrder (l : Launch) (G : ZG) (q : Nat → Nat) (σ : St) (κ : KC) {e_i : Int} (i : Nat) (he_i : e_i = (i : Int)) (h1 : i < 30) (h2 : σ.1 4 < 30) (h3 : ∀ y9, σ.2.1 1 y9 < 1000000) (h4 : ∀ y9, y9 < σ.1 4 → σ.2.1 10 y9 < 30) :
    MC l G yX1_keepInOrder (wY yX1_keepInOrder cX1_keepInOrder 3 none) r_X1_keepInOrder (wC G q σ κ) [.ref (q 1), .int (zI e_i)] (QV G (fun (_ : Unit) => True) (fun _ => wC G q (sA σ 10 (insO (isAh σ i) i (σ.1 4) (σ.2.1 10))) κ)) := by
  subst he_i
  refine MC.mk (by decide +kernel) (Nat.le_of_ble_eq_true rfl) ?_
  intro p e s m av below meth c A H locs ls Q Z hr hnm hQ hP hD hS hl
  have hx := Z.1
  have hb := Z.2.1
  have hown := Z.2.2.2.1
  have hW := Z.2.2.2.2.1
  have hl : lv_has ls 3 [(0, .ref (q 1)), (1, .int (zI ((i : Nat) : Int)))] := hl
  refine lv_aload_n hx hb dX1_keepInOrder_0 rfl (lv_at hl 0 rfl) ?_
  refine gC_1_0 Z hP kf_X1_9 dX1_keepInOrder_1 ?_
  refine lv_istore_n (lv' := [(2, .int (zI ((σ.1 4 : Nat) : Int))), (0, .ref (q 1)), (1, .int (zI ((i : Nat) : Int)))]) hx hb dX1_keepInOrder_4 rfl hl (by decide) rfl (fun ls hl => ?_)
  suffices LP5 : ∀ (f9 : Nat) (pl : Nat) (o9 : Nat → Nat), σ.1 4 < (σ.1 4 - pl) + f9 → (pl ≤ σ.1 4) → (∀ y9, y9 < pl → o9 y9 < 30) → (insO (isAh σ i) i pl o9 = insO (isAh σ i) i (σ.1 4) (σ.2.1 10)) → ∀ (H : Heap) (locs : List Loc) (ls : Array Slot), va_P G.1 vwCl (wC G q (sA σ 10 o9) κ) H → va_D A (wC G q (sA σ 10 o9) κ) → va_S A s.heap H locs → lv_has ls 3 [(2, .int (zI ((pl : Nat) : Int))), (0, .ref (q 1)), (1, .int (zI ((i : Nat) : Int)))] → W p l e r_X1_keepInOrder s m av below meth c H locs 0 0 Q (F0 m 5 ls []) from LP5 (σ.1 4 + 1) (σ.1 4) (σ.2.1 10) (by omega) (Nat.le_refl _) h4 rfl _ _ _ hP hD hS (lv_sub hl [0, 1, 2] rfl)
  intro f9
  induction f9 with
  | zero => intro pl o9 hf9 hk ho hi; exfalso; omega
  | succ f9 ih5 =>
    intro pl o9 hf9 hk ho hi H locs ls hP hD hS hl
    refine lv_iload_n hx hb dX1_keepInOrder_5 rfl (lv_at hl 0 rfl) ?_
    refine zc0_le (tgt := 45) hx hb ((pl : Nat) : Int) (zI_toInt (by omega)) dX1_keepInOrder_6 (by decide) (fun c6 => ?_) (fun c6 => ?_)
    · skip
      refine lv_aload_n hx hb dX1_keepInOrder_45 rfl (lv_at hl 1 rfl) ?_
      refine gC_1_7 Z hP kf_X1_35 dX1_keepInOrder_46 ?_
      refine lv_iload_n hx hb dX1_keepInOrder_49 rfl (lv_at hl 0 rfl) ?_
      refine lv_iload_n hx hb dX1_keepInOrder_50 rfl (lv_at hl 2 rfl) ?_
      refine stN (ws1 := wC G q (sA (sA σ 10 o9) 10 (va_up (o9) (pl) (i))) κ) Z hP hD hS 14 (o9) rfl (pl) rfl (by omega) (by decide) (i) rfl rfl dX1_keepInOrder_51 (fun H locs hP hD hS => ?_)
      exact zret_V () Z hr hP hD hS trivial (by
          have h9 : insO (isAh σ i) i pl o9 = va_up o9 pl i := by
            obtain rfl : pl = 0 := by omega
            rfl
          rw [← hi, h9]; rfl) ⟨Nat.le_refl _, Nat.le_refl _⟩ hQ dX1_keepInOrder_52
    · skip
      refine lv_aload_n hx hb dX1_keepInOrder_9 rfl (lv_at hl 1 rfl) ?_
      refine lv_iload_n hx hb dX1_keepInOrder_10 rfl (lv_at hl 2 rfl) ?_
      refine lv_aload_n hx hb dX1_keepInOrder_11 rfl (lv_at hl 1 rfl) ?_
      refine gC_1_7 Z hP kf_X1_35 dX1_keepInOrder_12 ?_
      refine lv_iload_n hx hb dX1_keepInOrder_15 rfl (lv_at hl 0 rfl) ?_
      refine zr_iconst hx hb dX1_keepInOrder_16 ?_
      refine zr_isub hx hb dX1_keepInOrder_17 ?_
      refine ldN Z hP 14 (o9) rfl (pl - 1) (by omega) (by omega) (by decide) dX1_keepInOrder_18 ?_
      refine zdet_I ⟨rfl, rfl⟩ Z hD hS (zrunV (rest := []) Z hP hD hS hl.1 (m_X1_isAhead l G q (sA σ 10 o9) κ (i) rfl ((o9) (pl - 1)) rfl h1 (ho _ (by omega)) (h3 _) (h3 _)) zY_X1_isAhead km_X1_72 (q0 := 1) rfl rfl rfl rfl ⟨⟨Nat.le_of_ble_eq_true rfl, Nat.le_of_ble_eq_true rfl⟩, Nat.le_of_ble_eq_true rfl, Nat.le_of_ble_eq_true rfl⟩ (Nat.le_of_ble_eq_true rfl) dX1_keepInOrder_19) (fun H locs hP hD hS => ?_)
      refine zb_eq (tgt := 45) hx hb dX1_keepInOrder_22 (by decide) (fun c22 => ?_) (fun c22 => ?_)
      · skip
        refine lv_aload_n hx hb dX1_keepInOrder_45 rfl (lv_at hl 1 rfl) ?_
        refine gC_1_7 Z hP kf_X1_35 dX1_keepInOrder_46 ?_
        refine lv_iload_n hx hb dX1_keepInOrder_49 rfl (lv_at hl 0 rfl) ?_
        refine lv_iload_n hx hb dX1_keepInOrder_50 rfl (lv_at hl 2 rfl) ?_
        refine stN (ws1 := wC G q (sA (sA σ 10 o9) 10 (va_up (o9) (pl) (i))) κ) Z hP hD hS 14 (o9) rfl (pl) rfl (by omega) (by decide) (i) rfl rfl dX1_keepInOrder_51 (fun H locs hP hD hS => ?_)
        exact zret_V () Z hr hP hD hS trivial (by
            have h9 : insO (isAh σ i) i pl o9 = va_up o9 pl i := by
              obtain ⟨pp, rfl⟩ : ∃ pp, pl = pp + 1 := ⟨pl - 1, by omega⟩
              rw [insO]; exact if_neg (by rw [show isAh σ i (o9 pp) = false from c22]; decide)
            rw [← hi, h9]; rfl) ⟨Nat.le_refl _, Nat.le_refl _⟩ hQ dX1_keepInOrder_52
      · skip
        refine lv_aload_n hx hb dX1_keepInOrder_25 rfl (lv_at hl 1 rfl) ?_
        refine gC_1_7 Z hP kf_X1_35 dX1_keepInOrder_26 ?_
        refine lv_iload_n hx hb dX1_keepInOrder_29 rfl (lv_at hl 0 rfl) ?_
        refine lv_aload_n hx hb dX1_keepInOrder_30 rfl (lv_at hl 1 rfl) ?_
        refine gC_1_7 Z hP kf_X1_35 dX1_keepInOrder_31 ?_
        refine lv_iload_n hx hb dX1_keepInOrder_34 rfl (lv_at hl 0 rfl) ?_
        refine zr_iconst hx hb dX1_keepInOrder_35 ?_
        refine zr_isub hx hb dX1_keepInOrder_36 ?_
        refine ldN Z hP 14 (o9) rfl (pl - 1) (by omega) (by omega) (by decide) dX1_keepInOrder_37 ?_
        refine stN (ws1 := wC G q (sA (sA σ 10 o9) 10 (va_up (o9) (pl) ((o9) (pl - 1)))) κ) Z hP hD hS 14 (o9) rfl (pl) rfl (by omega) (by decide) ((o9) (pl - 1)) rfl rfl dX1_keepInOrder_38 (fun H locs hP hD hS => ?_)
        refine zr_iinc (lv' := [(2, .int (zI (((pl : Nat) : Int) + (-1 : Int)))), (0, .ref (q 1)), (1, .int (zI ((i : Nat) : Int)))]) hx hb 0 dX1_keepInOrder_39 hl rfl (by decide) rfl (fun ls hl => ?_)
        refine lv_goto (tgt := 5) hx hb dX1_keepInOrder_42 (by decide) ?_
        have hw9 : wC G q (sA (sA σ 10 o9) 10 (va_up (o9) (pl) ((o9) (pl - 1)))) κ = wC G q (sA σ 10 (va_up o9 pl (o9 (pl - 1)))) κ := rfl
        rw [hw9] at hP hD
        exact ih5 (pl - 1) (va_up o9 pl (o9 (pl - 1))) (by omega) (by omega) (fun y9 hy => by rw [va_up_ne _ _ (by omega)]; exact ho y9 (by omega)) (by
            obtain ⟨pp, rfl⟩ : ∃ pp, pl = pp + 1 := ⟨pl - 1, by omega⟩
            rw [← hi]
            conv => rhs; rw [insO]
            rw [if_pos (show isAh σ i (o9 pp) = true from c22)]; rfl) _ _ _ hP hD hS (lv_sub hl [0, 1, 2] (by
            have h9 : ((pl : Nat) : Int) + (-1) = ((pl - 1 : Nat) : Int) := by omega
            simp [lv_pick, h9]))
abbrev r_X1_append : Room := { frames := 2, cells := 0, slots := 0, locals := 44 }
set_option maxHeartbeats 4000000 in
set_option maxRecDepth 100000 in
theorem m_X1_append (l : Launch) (G : ZG) (q : Nat → Nat) (σ : St) (κ : KC) (t : Int64) {e_mn : Int} (mn : Nat) (he_mn : e_mn = (mn : Int)) {e_tm : Int} (tm : Nat) (he_tm : e_tm = (tm : Int)) (h2 : σ.1 4 < 30) (h3 : ∀ y9, σ.2.1 1 y9 < 1000000) (h4 : ∀ y9, y9 < σ.1 4 → σ.2.1 10 y9 < 30) (h5 : mn < 1000000) (h6 : tm < 1000000) :
    MC l G yX1_append (wY yX1_append cX1_append 6 (some .int)) r_X1_append (wC G q σ κ) [.ref (q 1), .long (t), .int (zI e_mn), .int (zI e_tm)] (QI G (fun r9 (_ : Unit) => r9 = (zI ((σ.1 4 : Nat) : Int))) (fun _ => wC G q (app σ t mn tm) κ)) := by
  subst he_mn
  subst he_tm
  refine MC.mk (by decide +kernel) (Nat.le_of_ble_eq_true rfl) ?_
  intro p e s m av below meth c A H locs ls Q Z hr hnm hQ hP hD hS hl
  have hx := Z.1
  have hb := Z.2.1
  have hown := Z.2.2.2.1
  have hW := Z.2.2.2.2.1
  have hl : lv_has ls 6 [(0, .ref (q 1)), (1, .long (t)), (3, .int (zI ((mn : Nat) : Int))), (4, .int (zI ((tm : Nat) : Int)))] := hl
  refine lv_aload_n hx hb dX1_append_0 rfl (lv_at hl 0 rfl) ?_
  refine gC_1_0 Z hP kf_X1_9 dX1_append_1 ?_
  refine zr_bipush hx hb dX1_append_4 (by decide) ?_
  refine zc_lt (tgt := 11) hx hb ((σ.1 4 : Nat) : Int) (30 : Int) (zI_toInt (by omega)) (zI_toInt (by decide)) dX1_append_6 (by decide) (fun c6 => ?_) (fun c6 => by exfalso; omega)
  refine lv_aload_n hx hb dX1_append_11 rfl (lv_at hl 0 rfl) ?_
  refine gC_1_0 Z hP kf_X1_9 dX1_append_12 ?_
  refine lv_istore (lv' := [(5, .int (zI ((σ.1 4 : Nat) : Int))), (0, .ref (q 1)), (1, .long (t)), (3, .int (zI ((mn : Nat) : Int))), (4, .int (zI ((tm : Nat) : Int)))]) hx hb dX1_append_15 hl (by decide) rfl (fun ls hl => ?_)
  refine lv_aload_n hx hb dX1_append_17 rfl (lv_at hl 1 rfl) ?_
  refine gC_1_1 Z hP kf_X1_15 dX1_append_18 ?_
  refine lv_iload hx hb dX1_append_21 (lv_at hl 0 rfl) ?_
  refine lv_iload_n hx hb dX1_append_23 rfl (lv_at hl 3 rfl) ?_
  refine stN (ws1 := wC G q (sA σ 0 (va_up (σ.2.1 0) (σ.1 4) (mn))) κ) Z hP hD hS 8 (σ.2.1 0) rfl (σ.1 4) rfl (by omega) (by decide) (mn) rfl rfl dX1_append_24 (fun H locs hP hD hS => ?_)
  refine lv_aload_n hx hb dX1_append_25 rfl (lv_at hl 1 rfl) ?_
  refine gC_1_2 Z hP kf_X1_19 dX1_append_26 ?_
  refine lv_iload hx hb dX1_append_29 (lv_at hl 0 rfl) ?_
  refine lv_iload hx hb dX1_append_31 (lv_at hl 4 rfl) ?_
  refine stN (ws1 := wC G q (sA (sA σ 0 (va_up (σ.2.1 0) (σ.1 4) (mn))) 1 (va_up (σ.2.1 1) (σ.1 4) (tm))) κ) Z hP hD hS 9 (σ.2.1 1) rfl (σ.1 4) rfl (by omega) (by decide) (tm) rfl rfl dX1_append_33 (fun H locs hP hD hS => ?_)
  refine lv_aload_n hx hb dX1_append_34 rfl (lv_at hl 1 rfl) ?_
  refine gC_1_6 Z hP kf_X1_31 dX1_append_35 ?_
  refine lv_iload hx hb dX1_append_38 (lv_at hl 0 rfl) ?_
  refine zr_iconst hx hb dX1_append_40 ?_
  refine zdet_I ⟨rfl, rfl⟩ Z hD hS (zrunS (rest := [.ref (q 13)]) Z hP hD hS hl.1 (m_X1_placeOfTitle l G (wC G q (sA (sA σ 0 (va_up (σ.2.1 0) (σ.1 4) (mn))) 1 (va_up (σ.2.1 1) (σ.1 4) (tm))) κ) (σ.1 4) rfl (0) (by omega) (by omega) (by omega)) zY_X1_placeOfTitle km_X1_47 rfl rfl ⟨⟨Nat.le_of_ble_eq_true rfl, Nat.le_of_ble_eq_true rfl⟩, Nat.le_of_ble_eq_true rfl, Nat.le_of_ble_eq_true rfl⟩ (Nat.le_of_ble_eq_true rfl) dX1_append_41) (fun H locs hP hD hS => ?_)
  refine zr_top (w := .int (zI ((4 * (σ.1 4) + 0 % 4 : Nat) : Int))) rfl ?_
  refine lv_lload_n hx hb dX1_append_44 rfl (lv_at hl 2 rfl) ?_
  refine stL (ws1 := wC G q (sL (sA (sA σ 0 (va_up (σ.2.1 0) (σ.1 4) (mn))) 1 (va_up (σ.2.1 1) (σ.1 4) (tm))) 0 (va_up (σ.2.2.2 0) (4 * (σ.1 4) + 0 % 4) (t))) κ) Z hP hD hS 13 (σ.2.2.2 0) rfl (4 * (σ.1 4) + 0 % 4) rfl (by omega) (by decide) rfl dX1_append_45 (fun H locs hP hD hS => ?_)
  refine lv_aload_n hx hb dX1_append_46 rfl (lv_at hl 1 rfl) ?_
  refine gC_1_4 Z hP kf_X1_25 dX1_append_47 ?_
  refine lv_iload hx hb dX1_append_50 (lv_at hl 0 rfl) ?_
  refine zr_iconst hx hb dX1_append_52 ?_
  refine stN (ws1 := wC G q (sA (sL (sA (sA σ 0 (va_up (σ.2.1 0) (σ.1 4) (mn))) 1 (va_up (σ.2.1 1) (σ.1 4) (tm))) 0 (va_up (σ.2.2.2 0) (4 * (σ.1 4) + 0 % 4) (t))) 2 (va_up (σ.2.1 2) (σ.1 4) (1))) κ) Z hP hD hS 11 (σ.2.1 2) rfl (σ.1 4) rfl (by omega) (by decide) (1) (by omega) rfl dX1_append_53 (fun H locs hP hD hS => ?_)
  refine lv_aload_n hx hb dX1_append_54 rfl (lv_at hl 1 rfl) ?_
  refine lv_iload hx hb dX1_append_55 (lv_at hl 0 rfl) ?_
  refine zdet_V ⟨rfl, rfl⟩ Z hD hS (zrunV (rest := []) Z hP hD hS hl.1 (m_X1_keepInOrder l G q (sA (sL (sA (sA σ 0 (va_up (σ.2.1 0) (σ.1 4) (mn))) 1 (va_up (σ.2.1 1) (σ.1 4) (tm))) 0 (va_up (σ.2.2.2 0) (4 * (σ.1 4) + 0 % 4) (t))) 2 (va_up (σ.2.1 2) (σ.1 4) (1))) κ (σ.1 4) rfl h2 h2 (fun y9 => by show va_up (σ.2.1 1) (σ.1 4) tm y9 < 1000000; unfold va_up; split; exact h6; exact h3 y9) h4) zY_X1_keepInOrder km_X1_68 (q0 := 1) rfl rfl rfl rfl ⟨⟨Nat.le_of_ble_eq_true rfl, Nat.le_of_ble_eq_true rfl⟩, Nat.le_of_ble_eq_true rfl, Nat.le_of_ble_eq_true rfl⟩ (Nat.le_of_ble_eq_true rfl) dX1_append_57) (fun H locs hP hD hS => ?_)
  refine lv_aload_n hx hb dX1_append_60 rfl (lv_at hl 1 rfl) ?_
  refine lv_dup hx hb dX1_append_61 rfl ?_
  refine gC_1_0 Z hP kf_X1_9 dX1_append_62 ?_
  refine zr_top (w := .int (zI ((σ.1 4 : Nat) : Int))) rfl ?_
  refine zr_iconst hx hb dX1_append_65 ?_
  refine zr_iadd hx hb dX1_append_66 ?_
  refine pC_1_0 Z hP hD hS ((σ.1 4 + 1)) (by omega) kf_X1_9 dX1_append_67 (fun H locs hP hD hS => ?_)
  refine lv_iload hx hb dX1_append_70 (lv_at hl 0 rfl) ?_
  exact zret_I () Z hr hP hD hS rfl rfl ⟨Nat.le_refl _, Nat.le_refl _⟩ hQ dX1_append_72
abbrev r_X1_append_full : Room := { frames := 2, cells := 0, slots := 0, locals := 44 }
set_option maxHeartbeats 4000000 in
set_option maxRecDepth 100000 in
theorem m_X1_append_full (l : Launch) (G : ZG) (q : Nat → Nat) (σ : St) (κ : KC) (t : Int64) (mn : Int) (tm : Int) (h2 : σ.1 4 = 30) :
    MC l G yX1_append (wY yX1_append cX1_append 6 (some .int)) r_X1_append_full (wC G q σ κ) [.ref (q 1), .long (t), .int (zI (mn : Int)), .int (zI (tm : Int))] (QI G (fun r9 (_ : Unit) => r9 = (zI (-1 : Int))) (fun _ => wC G q σ κ)) := by
  refine MC.mk (by decide +kernel) (Nat.le_of_ble_eq_true rfl) ?_
  intro p e s m av below meth c A H locs ls Q Z hr hnm hQ hP hD hS hl
  have hx := Z.1
  have hb := Z.2.1
  have hown := Z.2.2.2.1
  have hW := Z.2.2.2.2.1
  have hl : lv_has ls 6 [(0, .ref (q 1)), (1, .long (t)), (3, .int (zI (mn : Int))), (4, .int (zI (tm : Int)))] := hl
  refine lv_aload_n hx hb dX1_append_0 rfl (lv_at hl 0 rfl) ?_
  refine gC_1_0 Z hP kf_X1_9 dX1_append_1 ?_
  refine zr_bipush hx hb dX1_append_4 (by decide) ?_
  refine zc_lt (tgt := 11) hx hb ((σ.1 4 : Nat) : Int) (30 : Int) (zI_toInt (by omega)) (zI_toInt (by decide)) dX1_append_6 (by decide) (fun c6 => by exfalso; omega) (fun c6 => ?_)
  refine zr_iconst hx hb dX1_append_9 ?_
  exact zret_I () Z hr hP hD hS rfl rfl ⟨Nat.le_refl _, Nat.le_refl _⟩ hQ dX1_append_10
abbrev r_X1_renew : Room := { frames := 4, cells := 0, slots := 0, locals := 86 }
set_option maxHeartbeats 4000000 in
set_option maxRecDepth 100000 in
theorem m_X1_renew (l : Launch) (G : ZG) (q : Nat → Nat) (σ : St) (κ : KC) {e_i : Int} (i : Nat) (he_i : e_i = (i : Int)) (t : Int64) {e_th : Int} (th : Nat) (he_th : e_th = (th : Int)) (hI : okC σ) (h1 : i < σ.1 4) (h2 : th ≤ 100) :
    MC l G yX1_renew (wY yX1_renew cX1_renew 8 none) r_X1_renew (wC G q σ κ) [.ref (q 1), .int (zI e_i), .long (t), .int (zI e_th)] (QV G (fun (_ : Unit) => True) (fun _ => wC G q (rnw σ i t th) κ)) := by
  subst he_i
  subst he_th
  refine MC.mk (by decide +kernel) (Nat.le_of_ble_eq_true rfl) ?_
  intro p e s m av below meth c A H locs ls Q Z hr hnm hQ hP hD hS hl
  have hx := Z.1
  have hb := Z.2.1
  have hown := Z.2.2.2.1
  have hW := Z.2.2.2.2.1
  have hl : lv_has ls 8 [(0, .ref (q 1)), (1, .int (zI ((i : Nat) : Int))), (2, .long (t)), (4, .int (zI ((th : Nat) : Int)))] := hl
  obtain ⟨hn, hru, hrv, hdv, hsr, hmn, ht1, ht2, hwn, hv1, hv2, hmj, htm, hse, htg, hrt, hac, hk1, hk2, hkd, hmm, hmv, hord, hpo, hlo⟩ := id hI
  refine lv_aload_n hx hb dX1_renew_0 rfl (lv_at hl 0 rfl) ?_
  refine lv_iload_n hx hb dX1_renew_1 rfl (lv_at hl 1 rfl) ?_
  refine zdet_L ⟨rfl, rfl⟩ Z hD hS (zrunV (rest := []) Z hP hD hS hl.1 (m_X1_latestTitle l G q σ κ (i) rfl (by omega) (hv1 _ h1) (hv2 _)) zY_X1_latestTitle km_X1_60 (q0 := 1) rfl rfl rfl rfl ⟨⟨Nat.le_of_ble_eq_true rfl, Nat.le_of_ble_eq_true rfl⟩, Nat.le_of_ble_eq_true rfl, Nat.le_of_ble_eq_true rfl⟩ (Nat.le_of_ble_eq_true rfl) dX1_renew_2) (fun H locs hP hD hS => ?_)
  refine lv_lstore (lv' := [(5, .long (lat σ i)), (0, .ref (q 1)), (1, .int (zI ((i : Nat) : Int))), (2, .long (t)), (4, .int (zI ((th : Nat) : Int)))]) hx hb dX1_renew_5 hl (by decide) rfl (fun ls hl => ?_)
  refine lv_lload_n hx hb dX1_renew_7 rfl (lv_at hl 3 rfl) ?_
  refine lv_lload hx hb dX1_renew_8 (lv_at hl 0 rfl) ?_
  refine zl_ne (tgt := 15) hx hb dX1_renew_10 dX1_renew_11 (by decide) (fun c10 => ?_) (fun c10 => ?_)
  · skip
    refine lv_aload_n hx hb dX1_renew_15 rfl (lv_at hl 1 rfl) ?_
    have hv9 := hv2 i
    refine gC_1_4 Z hP kf_X1_25 dX1_renew_16 ?_
    refine lv_iload_n hx hb dX1_renew_19 rfl (lv_at hl 2 rfl) ?_
    refine ldN Z hP 11 (σ.2.1 2) rfl (i) rfl (by omega) (by decide) dX1_renew_20 ?_
    refine lv_istore (lv' := [(7, .int (zI (((σ.2.1 2) (i) : Nat) : Int))), (5, .long (lat σ i)), (0, .ref (q 1)), (1, .int (zI ((i : Nat) : Int))), (2, .long (t)), (4, .int (zI ((th : Nat) : Int)))]) hx hb dX1_renew_21 hl (by decide) rfl (fun ls hl => ?_)
    refine lv_aload_n hx hb dX1_renew_23 rfl (lv_at hl 2 rfl) ?_
    refine gC_1_6 Z hP kf_X1_31 dX1_renew_24 ?_
    refine lv_iload_n hx hb dX1_renew_27 rfl (lv_at hl 3 rfl) ?_
    refine lv_iload hx hb dX1_renew_28 (lv_at hl 0 rfl) ?_
    refine zdet_I ⟨rfl, rfl⟩ Z hD hS (zrunS (rest := [.ref (q 13)]) Z hP hD hS hl.1 (m_X1_placeOfTitle l G (wC G q σ κ) (i) rfl ((σ.2.1 2) (i)) rfl (by omega) (hv2 _)) zY_X1_placeOfTitle km_X1_47 rfl rfl ⟨⟨Nat.le_of_ble_eq_true rfl, Nat.le_of_ble_eq_true rfl⟩, Nat.le_of_ble_eq_true rfl, Nat.le_of_ble_eq_true rfl⟩ (Nat.le_of_ble_eq_true rfl) dX1_renew_30) (fun H locs hP hD hS => ?_)
    refine lv_lload_n hx hb dX1_renew_33 rfl (lv_at hl 4 rfl) ?_
    refine stL (ws1 := wC G q (sL σ 0 (va_up (σ.2.2.2 0) (4 * i + ((σ.2.1 2) (i)) % 4) (t))) κ) Z hP hD hS 13 (σ.2.2.2 0) rfl (4 * i + ((σ.2.1 2) (i)) % 4) rfl (by omega) (by decide) rfl dX1_renew_34 (fun H locs hP hD hS => ?_)
    refine lv_aload_n hx hb dX1_renew_35 rfl (lv_at hl 2 rfl) ?_
    refine gC_1_4 Z hP kf_X1_25 dX1_renew_36 ?_
    refine lv_iload_n hx hb dX1_renew_39 rfl (lv_at hl 3 rfl) ?_
    refine lv_iload hx hb dX1_renew_40 (lv_at hl 0 rfl) ?_
    refine zr_iconst hx hb dX1_renew_42 ?_
    refine zr_iadd hx hb dX1_renew_43 ?_
    refine stN (ws1 := wC G q (sA (sL σ 0 (va_up (σ.2.2.2 0) (4 * i + ((σ.2.1 2) (i)) % 4) (t))) 2 (va_up (σ.2.1 2) (i) (((σ.2.1 2) (i) + 1)))) κ) Z hP hD hS 11 (σ.2.1 2) rfl (i) rfl (by omega) (by decide) (((σ.2.1 2) (i) + 1)) (by omega) rfl dX1_renew_44 (fun H locs hP hD hS => ?_)
    refine lv_lload_n hx hb dX1_renew_45 rfl (lv_at hl 4 rfl) ?_
    refine lv_lload hx hb dX1_renew_46 (lv_at hl 1 rfl) ?_
    refine zdet_I ⟨rfl, rfl⟩ Z hD hS (zrunSN (rest := []) Z hP hD hS hl.1 (m_X5_percentInCommon l G (wC G q (sA (sL σ 0 (va_up (σ.2.2.2 0) (4 * i + ((σ.2.1 2) (i)) % 4) (t))) 2 (va_up (σ.2.1 2) (i) (((σ.2.1 2) (i) + 1)))) κ) (t) (lat σ i)) zY_X5_percentInCommon (by decide +kernel : (RX1, 64, yX5_percentInCommon, RX5) ∈ xNest) rfl rfl ⟨⟨Nat.le_of_ble_eq_true rfl, Nat.le_of_ble_eq_true rfl⟩, Nat.le_of_ble_eq_true rfl, Nat.le_of_ble_eq_true rfl⟩ (Nat.le_of_ble_eq_true rfl) dX1_renew_48) (fun H locs hP hD hS => ?_)
    refine zr_top (w := .int (zI ((like ((t)) ((lat σ i)) : Nat) : Int))) rfl ?_
    have hlk := like_le t (lat σ i)
    refine lv_iload hx hb dX1_renew_51 (lv_at hl 5 rfl) ?_
    refine zc_ge (tgt := 64) hx hb ((like ((t)) ((lat σ i)) : Nat) : Int) ((th : Nat) : Int) (zI_toInt (by omega)) (zI_toInt (by omega)) dX1_renew_53 (by decide) (fun c53 => ?_) (fun c53 => ?_)
    · skip
      exact zret_V () Z hr hP hD hS trivial (by rw [rnw, if_neg c10, if_pos (by omega)]) ⟨Nat.le_refl _, Nat.le_refl _⟩ hQ dX1_renew_64
    · skip
      refine lv_aload_n hx hb dX1_renew_56 rfl (lv_at hl 2 rfl) ?_
      refine gC_1_5 Z hP kf_X1_28 dX1_renew_57 ?_
      refine lv_iload_n hx hb dX1_renew_60 rfl (lv_at hl 3 rfl) ?_
      refine lv_iload hx hb dX1_renew_61 (lv_at hl 0 rfl) ?_
      refine stN (ws1 := wC G q (sA (sA (sL σ 0 (va_up (σ.2.2.2 0) (4 * i + ((σ.2.1 2) (i)) % 4) (t))) 2 (va_up (σ.2.1 2) (i) (((σ.2.1 2) (i) + 1)))) 3 (va_up (σ.2.1 3) (i) ((σ.2.1 2) (i)))) κ) Z hP hD hS 12 (σ.2.1 3) rfl (i) rfl (by omega) (by decide) ((σ.2.1 2) (i)) rfl rfl dX1_renew_63 (fun H locs hP hD hS => ?_)
      exact zret_V () Z hr hP hD hS trivial (by rw [rnw, if_neg c10, if_neg (by omega)]) ⟨Nat.le_refl _, Nat.le_refl _⟩ hQ dX1_renew_64
  · skip
    exact zret_V () Z hr hP hD hS trivial (by rw [rnw, if_pos c10]) ⟨Nat.le_refl _, Nat.le_refl _⟩ hQ dX1_renew_14
abbrev r_X1_claimPair : Room := { frames := 1, cells := 0, slots := 0, locals := 22 }
set_option maxHeartbeats 4000000 in
set_option maxRecDepth 100000 in
theorem m_X1_claimPair (l : Launch) (G : ZG) (q : Nat → Nat) (σ : St) (κ : KC) {e_i : Int} (i : Nat) (he_i : e_i = (i : Int)) {e_sr : Int} (sr : Nat) (he_sr : e_sr = (sr : Int)) (b : Int) (h1 : sr < 6) (h2 : zR b) (h3 : b < 1000) (h4 : -1 ≤ b) (h5 : ∀ y9, σ.2.1 11 y9 < 1000000) (h6 : i < 30) :
    MC l G yX1_claimPair (wY yX1_claimPair cX1_claimPair 4 none) r_X1_claimPair (wC G q σ κ) [.ref (q 1), .int (zI e_i), .int (zI e_sr), .int (zI (b : Int))] (QV G (fun (_ : Unit) => True) (fun _ => wC G q (clP σ i ((sr : Nat) : Int) b) κ)) := by
  subst he_i
  subst he_sr
  refine MC.mk (by decide +kernel) (Nat.le_of_ble_eq_true rfl) ?_
  intro p e s m av below meth c A H locs ls Q Z hr hnm hQ hP hD hS hl
  have hx := Z.1
  have hb := Z.2.1
  have hown := Z.2.2.2.1
  have hW := Z.2.2.2.2.1
  have hl : lv_has ls 4 [(0, .ref (q 1)), (1, .int (zI ((i : Nat) : Int))), (2, .int (zI ((sr : Nat) : Int))), (3, .int (zI (b : Int)))] := hl
  refine lv_iload_n hx hb dX1_claimPair_0 rfl (lv_at hl 3 rfl) ?_
  refine zr_iconst hx hb dX1_claimPair_1 ?_
  refine zc_eq (tgt := 30) hx hb (b : Int) (-1 : Int) (zI_toInt (by omega)) (zI_toInt (by decide)) dX1_claimPair_2 (by decide) (fun c2 => ?_) (fun c2 => ?_)
  · skip
    exact zret_V () Z hr hP hD hS trivial (by rw [clP, if_neg (by omega)]) ⟨Nat.le_refl _, Nat.le_refl _⟩ hQ dX1_claimPair_30
  · skip
    refine lv_aload_n hx hb dX1_claimPair_5 rfl (lv_at hl 0 rfl) ?_
    refine lv_iload_n hx hb dX1_claimPair_6 rfl (lv_at hl 2 rfl) ?_
    refine lv_iload_n hx hb dX1_claimPair_7 rfl (lv_at hl 3 rfl) ?_
    refine zdet_I ⟨rfl, rfl⟩ Z hD hS (zrunV (rest := []) Z hP hD hS hl.1 (m_X1_ownerOfPair l G q σ κ ((sr : Nat) : Int) (b : Int) (by omega) h2) zY_X1_ownerOfPair km_X1_76 (q0 := 1) rfl rfl rfl rfl ⟨⟨Nat.le_of_ble_eq_true rfl, Nat.le_of_ble_eq_true rfl⟩, Nat.le_of_ble_eq_true rfl, Nat.le_of_ble_eq_true rfl⟩ (Nat.le_of_ble_eq_true rfl) dX1_claimPair_8) (fun H locs hP hD hS => ?_)
    have ho9 : zR (own σ ((sr : Nat) : Int) b) := by
      have := h5 (1000 * ((sr : Nat) : Int).toNat + b.toNat)
      unfold own; split <;> omega
    refine zr_iconst hx hb dX1_claimPair_11 ?_
    refine zc_ne (tgt := 30) hx hb (own σ ((sr : Nat) : Int) (b : Int) : Int) (-1 : Int) (zI_toInt (by omega)) (zI_toInt (by decide)) dX1_claimPair_12 (by decide) (fun c12 => ?_) (fun c12 => ?_)
    · skip
      exact zret_V () Z hr hP hD hS trivial (by rw [clP, if_neg (by omega)]) ⟨Nat.le_refl _, Nat.le_refl _⟩ hQ dX1_claimPair_30
    · skip
      refine lv_aload_n hx hb dX1_claimPair_15 rfl (lv_at hl 0 rfl) ?_
      refine gC_1_9 Z hP kf_X1_41 dX1_claimPair_16 ?_
      refine lv_iload_n hx hb dX1_claimPair_19 rfl (lv_at hl 2 rfl) ?_
      refine zr_sipush hx hb dX1_claimPair_20 (by decide) ?_
      refine zr_imul hx hb dX1_claimPair_23 ?_
      refine lv_iload_n hx hb dX1_claimPair_24 rfl (lv_at hl 3 rfl) ?_
      refine zr_iadd hx hb dX1_claimPair_25 ?_
      refine lv_iload_n hx hb dX1_claimPair_26 rfl (lv_at hl 1 rfl) ?_
      refine zr_iconst hx hb dX1_claimPair_27 ?_
      refine zr_iadd hx hb dX1_claimPair_28 ?_
      refine stN (ws1 := wC G q (sA σ 11 (va_up (σ.2.1 11) (1000 * ((sr : Nat) : Int).toNat + b.toNat) ((i + 1)))) κ) Z hP hD hS 16 (σ.2.1 11) rfl (1000 * ((sr : Nat) : Int).toNat + b.toNat) (by omega) (by omega) (by decide) ((i + 1)) (by omega) rfl dX1_claimPair_29 (fun H locs hP hD hS => ?_)
      exact zret_V () Z hr hP hD hS trivial (by rw [clP, if_pos ⟨by omega, by omega⟩]) ⟨Nat.le_refl _, Nat.le_refl _⟩ hQ dX1_claimPair_30
abbrev r_X1_claimLink : Room := { frames := 1, cells := 0, slots := 0, locals := 21 }
set_option maxHeartbeats 4000000 in
set_option maxRecDepth 100000 in
theorem m_X1_claimLink (l : Launch) (G : ZG) (q : Nat → Nat) (σ : St) (κ : KC) {e_i : Int} (i : Nat) (he_i : e_i = (i : Int)) (b : Int) (h2 : zR b) (h3 : b < 1000) (h4 : -1 ≤ b) (h5 : ∀ y9, σ.2.1 12 y9 < 1000000) (h6 : i < 30) :
    MC l G yX1_claimLink (wY yX1_claimLink cX1_claimLink 3 none) r_X1_claimLink (wC G q σ κ) [.ref (q 1), .int (zI e_i), .int (zI (b : Int))] (QV G (fun (_ : Unit) => True) (fun _ => wC G q (clL σ i b) κ)) := by
  subst he_i
  refine MC.mk (by decide +kernel) (Nat.le_of_ble_eq_true rfl) ?_
  intro p e s m av below meth c A H locs ls Q Z hr hnm hQ hP hD hS hl
  have hx := Z.1
  have hb := Z.2.1
  have hown := Z.2.2.2.1
  have hW := Z.2.2.2.2.1
  have hl : lv_has ls 3 [(0, .ref (q 1)), (1, .int (zI ((i : Nat) : Int))), (2, .int (zI (b : Int)))] := hl
  refine lv_iload_n hx hb dX1_claimLink_0 rfl (lv_at hl 2 rfl) ?_
  refine zr_iconst hx hb dX1_claimLink_1 ?_
  refine zc_eq (tgt := 23) hx hb (b : Int) (-1 : Int) (zI_toInt (by omega)) (zI_toInt (by decide)) dX1_claimLink_2 (by decide) (fun c2 => ?_) (fun c2 => ?_)
  · skip
    exact zret_V () Z hr hP hD hS trivial (by rw [clL, if_neg (by omega)]) ⟨Nat.le_refl _, Nat.le_refl _⟩ hQ dX1_claimLink_23
  · skip
    refine lv_aload_n hx hb dX1_claimLink_5 rfl (lv_at hl 0 rfl) ?_
    refine lv_iload_n hx hb dX1_claimLink_6 rfl (lv_at hl 2 rfl) ?_
    refine zdet_I ⟨rfl, rfl⟩ Z hD hS (zrunV (rest := []) Z hP hD hS hl.1 (m_X1_ownerOfLink l G q σ κ (b : Int) h2) zY_X1_ownerOfLink km_X1_79 (q0 := 1) rfl rfl rfl rfl ⟨⟨Nat.le_of_ble_eq_true rfl, Nat.le_of_ble_eq_true rfl⟩, Nat.le_of_ble_eq_true rfl, Nat.le_of_ble_eq_true rfl⟩ (Nat.le_of_ble_eq_true rfl) dX1_claimLink_7) (fun H locs hP hD hS => ?_)
    have ho9 : zR (ownL σ b) := by
      have := h5 b.toNat
      unfold ownL; split <;> omega
    refine zr_iconst hx hb dX1_claimLink_10 ?_
    refine zc_ne (tgt := 23) hx hb (ownL σ (b : Int) : Int) (-1 : Int) (zI_toInt (by omega)) (zI_toInt (by decide)) dX1_claimLink_11 (by decide) (fun c11 => ?_) (fun c11 => ?_)
    · skip
      exact zret_V () Z hr hP hD hS trivial (by rw [clL, if_neg (by omega)]) ⟨Nat.le_refl _, Nat.le_refl _⟩ hQ dX1_claimLink_23
    · skip
      refine lv_aload_n hx hb dX1_claimLink_14 rfl (lv_at hl 0 rfl) ?_
      refine gC_1_10 Z hP kf_X1_44 dX1_claimLink_15 ?_
      refine lv_iload_n hx hb dX1_claimLink_18 rfl (lv_at hl 2 rfl) ?_
      refine lv_iload_n hx hb dX1_claimLink_19 rfl (lv_at hl 1 rfl) ?_
      refine zr_iconst hx hb dX1_claimLink_20 ?_
      refine zr_iadd hx hb dX1_claimLink_21 ?_
      refine stN (ws1 := wC G q (sA σ 12 (va_up (σ.2.1 12) (b.toNat) ((i + 1)))) κ) Z hP hD hS 17 (σ.2.1 12) rfl (b.toNat) (by omega) (by omega) (by decide) ((i + 1)) (by omega) rfl dX1_claimLink_22 (fun H locs hP hD hS => ?_)
      exact zret_V () Z hr hP hD hS trivial (by rw [clL, if_pos ⟨by omega, by omega⟩]) ⟨Nat.le_refl _, Nat.le_refl _⟩ hQ dX1_claimLink_23
abbrev r_X1_orderAnew : Room := { frames := 1, cells := 0, slots := 0, locals := 22 }
set_option maxHeartbeats 4000000 in
set_option maxRecDepth 100000 in
theorem m_X1_orderAnew (l : Launch) (G : ZG) (q : Nat → Nat) (σ : St) (κ : KC)  (hI : okC σ) :
    MC l G yX1_orderAnew (wY yX1_orderAnew cX1_orderAnew 4 (some (.array .int))) r_X1_orderAnew (wC G q σ κ) [.ref (q 1)] (QR G (fun (_ : Unit) => True) (q 15) (fun _ => wC G q σ (κ.1, κ.2.1, anw1 (isAh σ) (σ.1 4) (κ.2.2) (σ.1 4)))) := by
  refine MC.mk (by decide +kernel) (Nat.le_of_ble_eq_true rfl) ?_
  intro p e s m av below meth c A H locs ls Q Z hr hnm hQ hP hD hS hl
  have hx := Z.1
  have hb := Z.2.1
  have hown := Z.2.2.2.1
  have hW := Z.2.2.2.2.1
  have hl : lv_has ls 4 [(0, .ref (q 1))] := hl
  obtain ⟨hn, hru, hrv, hdv, hsr, hmn, ht1, ht2, hwn, hv1, hv2, hmj, htm, hse, htg, hrt, hac, hk1, hk2, hkd, hmm, hmv, hord, hpo, hlo⟩ := id hI
  refine zr_iconst hx hb dX1_orderAnew_0 ?_
  refine lv_istore_n (lv' := [(1, .int (zI (0 : Int))), (0, .ref (q 1))]) hx hb dX1_orderAnew_1 rfl hl (by decide) rfl (fun ls hl => ?_)
  suffices LP2 : ∀ (f9 : Nat) (k : Nat), σ.1 4 < k + f9 → (k ≤ σ.1 4) → ∀ (H : Heap) (locs : List Loc) (ls : Array Slot), va_P G.1 vwCl (wC G q σ (κ.1, κ.2.1, anw0 κ.2.2 k)) H → va_D A (wC G q σ (κ.1, κ.2.1, anw0 κ.2.2 k)) → va_S A s.heap H locs → lv_has ls 4 [(1, .int (zI ((k : Nat) : Int))), (0, .ref (q 1))] → W p l e r_X1_orderAnew s m av below meth c H locs 0 0 Q (F0 m 2 ls []) from LP2 (σ.1 4 + 1) (0) (by omega) (by omega) _ _ _ hP hD hS (lv_sub hl [0, 1] rfl)
  intro f9
  induction f9 with
  | zero => intro k hf9 hk; exfalso; omega
  | succ f9 ih2 =>
    intro k hf9 hk H locs ls hP hD hS hl
    refine lv_iload_n hx hb dX1_orderAnew_2 rfl (lv_at hl 0 rfl) ?_
    refine lv_aload_n hx hb dX1_orderAnew_3 rfl (lv_at hl 1 rfl) ?_
    refine gC_1_0 Z hP kf_X1_9 dX1_orderAnew_4 ?_
    refine zr_top (w := .int (zI ((σ.1 4 : Nat) : Int))) rfl ?_
    refine zc_ge (tgt := 23) hx hb ((k : Nat) : Int) ((σ.1 4 : Nat) : Int) (zI_toInt (by omega)) (zI_toInt (by omega)) dX1_orderAnew_7 (by decide) (fun c7 => ?_) (fun c7 => ?_)
    · skip
      refine zr_iconst hx hb dX1_orderAnew_23 ?_
      refine lv_istore_n (lv' := [(1, .int (zI (0 : Int))), (0, .ref (q 1))]) hx hb dX1_orderAnew_24 rfl hl (by decide) rfl (fun ls hl => ?_)
      suffices LP25 : ∀ (f9 : Nat) (k : Nat), σ.1 4 < k + f9 → (k ≤ σ.1 4) → ∀ (H : Heap) (locs : List Loc) (ls : Array Slot), va_P G.1 vwCl (wC G q σ (κ.1, κ.2.1, anw1 (isAh σ) (σ.1 4) κ.2.2 k)) H → va_D A (wC G q σ (κ.1, κ.2.1, anw1 (isAh σ) (σ.1 4) κ.2.2 k)) → va_S A s.heap H locs → lv_has ls 4 [(1, .int (zI ((k : Nat) : Int))), (0, .ref (q 1))] → W p l e r_X1_orderAnew s m av below meth c H locs 0 0 Q (F0 m 25 ls []) from LP25 (σ.1 4 + 1) (0) (by omega) (Nat.zero_le _) _ _ _ ((show wC G q σ (κ.1, κ.2.1, anw0 κ.2.2 k) = wC G q σ (κ.1, κ.2.1, anw1 (isAh σ) (σ.1 4) κ.2.2 0) from by rw [show k = σ.1 4 from by omega]; rfl) ▸ hP) ((show wC G q σ (κ.1, κ.2.1, anw0 κ.2.2 k) = wC G q σ (κ.1, κ.2.1, anw1 (isAh σ) (σ.1 4) κ.2.2 0) from by rw [show k = σ.1 4 from by omega]; rfl) ▸ hD) hS (lv_sub hl [0, 1] rfl)
      intro f9
      induction f9 with
      | zero => intro k hf9 hk; exfalso; omega
      | succ f9 ih25 =>
        intro k hf9 hk H locs ls hP hD hS hl
        have hx9 := anw1_lt (isAh σ) (σ.1 4) κ.2.2 k hk
        refine lv_iload_n hx hb dX1_orderAnew_25 rfl (lv_at hl 0 rfl) ?_
        refine lv_aload_n hx hb dX1_orderAnew_26 rfl (lv_at hl 1 rfl) ?_
        refine gC_1_0 Z hP kf_X1_9 dX1_orderAnew_27 ?_
        refine zr_top (w := .int (zI ((σ.1 4 : Nat) : Int))) rfl ?_
        refine zc_ge (tgt := 106) hx hb ((k : Nat) : Int) ((σ.1 4 : Nat) : Int) (zI_toInt (by omega)) (zI_toInt (by omega)) dX1_orderAnew_30 (by decide) (fun c30 => ?_) (fun c30 => ?_)
        · skip
          refine lv_aload_n hx hb dX1_orderAnew_106 rfl (lv_at hl 1 rfl) ?_
          refine gC_1_8 Z hP kf_X1_38 dX1_orderAnew_107 ?_
          exact zret_R () Z hr hP hD hS trivial (by rw [show k = σ.1 4 from by omega]) ⟨Nat.le_refl _, Nat.le_refl _⟩ hQ dX1_orderAnew_110
        · skip
          refine lv_iload_n hx hb dX1_orderAnew_33 rfl (lv_at hl 0 rfl) ?_
          refine lv_istore_n (lv' := [(2, .int (zI ((k : Nat) : Int))), (1, .int (zI ((k : Nat) : Int))), (0, .ref (q 1))]) hx hb dX1_orderAnew_34 rfl hl (by decide) rfl (fun ls hl => ?_)
          refine lv_iload_n hx hb dX1_orderAnew_35 rfl (lv_at hl 1 rfl) ?_
          refine zr_iconst hx hb dX1_orderAnew_36 ?_
          refine zr_iadd hx hb dX1_orderAnew_37 ?_
          refine lv_istore_n (lv' := [(3, .int (zI (((k : Nat) : Int) + (1 : Int)))), (2, .int (zI ((k : Nat) : Int))), (1, .int (zI ((k : Nat) : Int))), (0, .ref (q 1))]) hx hb dX1_orderAnew_38 rfl hl (by decide) rfl (fun ls hl => ?_)
          suffices LP39 : ∀ (f9 : Nat) (j : Nat), (σ.1 4 - 1 - k) < j + f9 → (j ≤ σ.1 4 - 1 - k) → ∀ (H : Heap) (locs : List Loc) (ls : Array Slot), va_P G.1 vwCl (wC G q σ (κ.1, κ.2.1, anw1 (isAh σ) (σ.1 4) κ.2.2 k)) H → va_D A (wC G q σ (κ.1, κ.2.1, anw1 (isAh σ) (σ.1 4) κ.2.2 k)) → va_S A s.heap H locs → lv_has ls 4 [(3, .int (zI ((k + 1 + j : Nat) : Int))), (2, .int (zI ((anwF (isAh σ) (anw1 (isAh σ) (σ.1 4) κ.2.2 k) k j : Nat) : Int))), (1, .int (zI ((k : Nat) : Int))), (0, .ref (q 1))] → W p l e r_X1_orderAnew s m av below meth c H locs 0 0 Q (F0 m 39 ls []) from LP39 ((σ.1 4 - 1 - k) + 1) (0) (by omega) (by omega) _ _ _ hP hD hS (lv_sub hl [0, 1, 2, 3] rfl)
          intro f9
          induction f9 with
          | zero => intro j hf9 hj; exfalso; omega
          | succ f9 ih39 =>
            intro j hf9 hj H locs ls hP hD hS hl
            have hf9 := anwF_in (isAh σ) (anw1 (isAh σ) (σ.1 4) κ.2.2 k) k j
            refine lv_iload_n hx hb dX1_orderAnew_39 rfl (lv_at hl 0 rfl) ?_
            refine lv_aload_n hx hb dX1_orderAnew_40 rfl (lv_at hl 3 rfl) ?_
            refine gC_1_0 Z hP kf_X1_9 dX1_orderAnew_41 ?_
            refine zr_top (w := .int (zI ((σ.1 4 : Nat) : Int))) rfl ?_
            refine zc_ge (tgt := 74) hx hb ((k + 1 + j : Nat) : Int) ((σ.1 4 : Nat) : Int) (zI_toInt (by omega)) (zI_toInt (by omega)) dX1_orderAnew_44 (by decide) (fun c44 => ?_) (fun c44 => ?_)
            · skip
              refine lv_aload_n hx hb dX1_orderAnew_74 rfl (lv_at hl 3 rfl) ?_
              refine gC_1_8 Z hP kf_X1_38 dX1_orderAnew_75 ?_
              refine lv_iload_n hx hb dX1_orderAnew_78 rfl (lv_at hl 1 rfl) ?_
              refine ldN Z hP 15 (anw1 (isAh σ) (σ.1 4) κ.2.2 k) rfl (anwF (isAh σ) (anw1 (isAh σ) (σ.1 4) κ.2.2 k) k j) rfl (by omega) (by decide) dX1_orderAnew_79 ?_
              refine lv_istore_n (lv' := [(3, .int (zI (((anw1 (isAh σ) (σ.1 4) κ.2.2 k) (anwF (isAh σ) (anw1 (isAh σ) (σ.1 4) κ.2.2 k) k j) : Nat) : Int))), (2, .int (zI ((anwF (isAh σ) (anw1 (isAh σ) (σ.1 4) κ.2.2 k) k j : Nat) : Int))), (1, .int (zI ((k : Nat) : Int))), (0, .ref (q 1))]) hx hb dX1_orderAnew_80 rfl hl (by decide) rfl (fun ls hl => ?_)
              refine lv_aload_n hx hb dX1_orderAnew_81 rfl (lv_at hl 3 rfl) ?_
              refine gC_1_8 Z hP kf_X1_38 dX1_orderAnew_82 ?_
              refine lv_iload_n hx hb dX1_orderAnew_85 rfl (lv_at hl 1 rfl) ?_
              refine lv_aload_n hx hb dX1_orderAnew_86 rfl (lv_at hl 3 rfl) ?_
              refine gC_1_8 Z hP kf_X1_38 dX1_orderAnew_87 ?_
              refine lv_iload_n hx hb dX1_orderAnew_90 rfl (lv_at hl 2 rfl) ?_
              refine ldN Z hP 15 (anw1 (isAh σ) (σ.1 4) κ.2.2 k) rfl (k) rfl (by omega) (by decide) dX1_orderAnew_91 ?_
              refine stN (ws1 := wC G q σ (κ.1, κ.2.1, va_up (anw1 (isAh σ) (σ.1 4) κ.2.2 k) (anwF (isAh σ) (anw1 (isAh σ) (σ.1 4) κ.2.2 k) k j) ((anw1 (isAh σ) (σ.1 4) κ.2.2 k) (k)))) Z hP hD hS 15 (anw1 (isAh σ) (σ.1 4) κ.2.2 k) rfl (anwF (isAh σ) (anw1 (isAh σ) (σ.1 4) κ.2.2 k) k j) rfl (by omega) (by decide) ((anw1 (isAh σ) (σ.1 4) κ.2.2 k) (k)) rfl rfl dX1_orderAnew_92 (fun H locs hP hD hS => ?_)
              refine lv_aload_n hx hb dX1_orderAnew_93 rfl (lv_at hl 3 rfl) ?_
              refine gC_1_8 Z hP kf_X1_38 dX1_orderAnew_94 ?_
              refine lv_iload_n hx hb dX1_orderAnew_97 rfl (lv_at hl 2 rfl) ?_
              refine lv_iload_n hx hb dX1_orderAnew_98 rfl (lv_at hl 0 rfl) ?_
              refine stN (ws1 := wC G q σ (κ.1, κ.2.1, va_up (va_up (anw1 (isAh σ) (σ.1 4) κ.2.2 k) (anwF (isAh σ) (anw1 (isAh σ) (σ.1 4) κ.2.2 k) k j) ((anw1 (isAh σ) (σ.1 4) κ.2.2 k) (k))) (k) ((anw1 (isAh σ) (σ.1 4) κ.2.2 k) (anwF (isAh σ) (anw1 (isAh σ) (σ.1 4) κ.2.2 k) k j)))) Z hP hD hS 15 (va_up (anw1 (isAh σ) (σ.1 4) κ.2.2 k) (anwF (isAh σ) (anw1 (isAh σ) (σ.1 4) κ.2.2 k) k j) ((anw1 (isAh σ) (σ.1 4) κ.2.2 k) (k))) rfl (k) rfl (by omega) (by decide) ((anw1 (isAh σ) (σ.1 4) κ.2.2 k) (anwF (isAh σ) (anw1 (isAh σ) (σ.1 4) κ.2.2 k) k j)) rfl rfl dX1_orderAnew_99 (fun H locs hP hD hS => ?_)
              refine zr_iinc (lv' := [(1, .int (zI (((k : Nat) : Int) + (1 : Int)))), (3, .int (zI (((anw1 (isAh σ) (σ.1 4) κ.2.2 k) (anwF (isAh σ) (anw1 (isAh σ) (σ.1 4) κ.2.2 k) k j) : Nat) : Int))), (2, .int (zI ((anwF (isAh σ) (anw1 (isAh σ) (σ.1 4) κ.2.2 k) k j : Nat) : Int))), (0, .ref (q 1))]) hx hb 2 dX1_orderAnew_100 hl rfl (by decide) rfl (fun ls hl => ?_)
              refine lv_goto (tgt := 25) hx hb dX1_orderAnew_103 (by decide) ?_
              have hw9 : wC G q σ (κ.1, κ.2.1, va_up (va_up (anw1 (isAh σ) (σ.1 4) κ.2.2 k) (anwF (isAh σ) (anw1 (isAh σ) (σ.1 4) κ.2.2 k) k j) ((anw1 (isAh σ) (σ.1 4) κ.2.2 k) (k))) (k) ((anw1 (isAh σ) (σ.1 4) κ.2.2 k) (anwF (isAh σ) (anw1 (isAh σ) (σ.1 4) κ.2.2 k) k j))) = wC G q σ (κ.1, κ.2.1, anw1 (isAh σ) (σ.1 4) κ.2.2 (k + 1)) := (by rw [show j = σ.1 4 - 1 - k from by omega]; rfl)
              rw [hw9] at hP hD
              exact ih25 (k + 1) (by omega) (by omega) _ _ _ hP hD hS (lv_sub hl [0, 3] rfl)
            · skip
              refine lv_aload_n hx hb dX1_orderAnew_47 rfl (lv_at hl 3 rfl) ?_
              refine lv_aload_n hx hb dX1_orderAnew_48 rfl (lv_at hl 3 rfl) ?_
              refine gC_1_8 Z hP kf_X1_38 dX1_orderAnew_49 ?_
              refine lv_iload_n hx hb dX1_orderAnew_52 rfl (lv_at hl 0 rfl) ?_
              refine ldN Z hP 15 (anw1 (isAh σ) (σ.1 4) κ.2.2 k) rfl (k + 1 + j) rfl (by omega) (by decide) dX1_orderAnew_53 ?_
              refine lv_aload_n hx hb dX1_orderAnew_54 rfl (lv_at hl 3 rfl) ?_
              refine gC_1_8 Z hP kf_X1_38 dX1_orderAnew_55 ?_
              refine lv_iload_n hx hb dX1_orderAnew_58 rfl (lv_at hl 1 rfl) ?_
              refine ldN Z hP 15 (anw1 (isAh σ) (σ.1 4) κ.2.2 k) rfl (anwF (isAh σ) (anw1 (isAh σ) (σ.1 4) κ.2.2 k) k j) rfl (by omega) (by decide) dX1_orderAnew_59 ?_
              refine zdet_I ⟨rfl, rfl⟩ Z hD hS (zrunV (rest := []) Z hP hD hS hl.1 (m_X1_isAhead l G q σ (κ.1, κ.2.1, anw1 (isAh σ) (σ.1 4) κ.2.2 k) ((anw1 (isAh σ) (σ.1 4) κ.2.2 k) (k + 1 + j)) rfl ((anw1 (isAh σ) (σ.1 4) κ.2.2 k) (anwF (isAh σ) (anw1 (isAh σ) (σ.1 4) κ.2.2 k) k j)) rfl (by have := hx9 (k + 1 + j) (by omega); omega) (by have := hx9 _ (show anwF (isAh σ) (anw1 (isAh σ) (σ.1 4) κ.2.2 k) k j < σ.1 4 by omega); omega) (htm _) (htm _)) zY_X1_isAhead km_X1_72 (q0 := 1) rfl rfl rfl rfl ⟨⟨Nat.le_of_ble_eq_true rfl, Nat.le_of_ble_eq_true rfl⟩, Nat.le_of_ble_eq_true rfl, Nat.le_of_ble_eq_true rfl⟩ (Nat.le_of_ble_eq_true rfl) dX1_orderAnew_60) (fun H locs hP hD hS => ?_)
              refine zb_eq (tgt := 68) hx hb dX1_orderAnew_63 (by decide) (fun c63 => ?_) (fun c63 => ?_)
              · skip
                refine zr_iinc (lv' := [(3, .int (zI (((k + 1 + j : Nat) : Int) + (1 : Int)))), (2, .int (zI ((anwF (isAh σ) (anw1 (isAh σ) (σ.1 4) κ.2.2 k) k j : Nat) : Int))), (1, .int (zI ((k : Nat) : Int))), (0, .ref (q 1))]) hx hb 0 dX1_orderAnew_68 hl rfl (by decide) rfl (fun ls hl => ?_)
                refine lv_goto (tgt := 39) hx hb dX1_orderAnew_71 (by decide) ?_
                have h9 : anwF (isAh σ) (anw1 (isAh σ) (σ.1 4) κ.2.2 k) k (j + 1) = anwF (isAh σ) (anw1 (isAh σ) (σ.1 4) κ.2.2 k) k j := by rw [anwF, c63]; rfl
                exact ih39 (j + 1) (by omega) (by omega) _ _ _ hP hD hS (lv_sub hl [0, 1, 2, 3] (by rw [h9]; rfl))
              · skip
                refine lv_iload_n hx hb dX1_orderAnew_66 rfl (lv_at hl 0 rfl) ?_
                refine lv_istore_n (lv' := [(2, .int (zI ((k + 1 + j : Nat) : Int))), (3, .int (zI ((k + 1 + j : Nat) : Int))), (1, .int (zI ((k : Nat) : Int))), (0, .ref (q 1))]) hx hb dX1_orderAnew_67 rfl hl (by decide) rfl (fun ls hl => ?_)
                refine zr_iinc (lv' := [(3, .int (zI (((k + 1 + j : Nat) : Int) + (1 : Int)))), (2, .int (zI ((k + 1 + j : Nat) : Int))), (1, .int (zI ((k : Nat) : Int))), (0, .ref (q 1))]) hx hb 1 dX1_orderAnew_68 hl rfl (by decide) rfl (fun ls hl => ?_)
                refine lv_goto (tgt := 39) hx hb dX1_orderAnew_71 (by decide) ?_
                have h9 : anwF (isAh σ) (anw1 (isAh σ) (σ.1 4) κ.2.2 k) k (j + 1) = k + 1 + j := by rw [anwF, c63]; rfl
                exact ih39 (j + 1) (by omega) (by omega) _ _ _ hP hD hS (lv_sub hl [0, 1, 2, 3] (by rw [h9]; rfl))
    · skip
      refine lv_aload_n hx hb dX1_orderAnew_10 rfl (lv_at hl 1 rfl) ?_
      refine gC_1_8 Z hP kf_X1_38 dX1_orderAnew_11 ?_
      refine lv_iload_n hx hb dX1_orderAnew_14 rfl (lv_at hl 0 rfl) ?_
      refine lv_iload_n hx hb dX1_orderAnew_15 rfl (lv_at hl 0 rfl) ?_
      refine stN (ws1 := wC G q σ (κ.1, κ.2.1, va_up (anw0 κ.2.2 k) (k) (k))) Z hP hD hS 15 (anw0 κ.2.2 k) rfl (k) rfl (by omega) (by decide) (k) rfl rfl dX1_orderAnew_16 (fun H locs hP hD hS => ?_)
      refine zr_iinc (lv' := [(1, .int (zI (((k : Nat) : Int) + (1 : Int)))), (0, .ref (q 1))]) hx hb 0 dX1_orderAnew_17 hl rfl (by decide) rfl (fun ls hl => ?_)
      refine lv_goto (tgt := 2) hx hb dX1_orderAnew_20 (by decide) ?_
      have hw9 : wC G q σ (κ.1, κ.2.1, va_up (anw0 κ.2.2 k) (k) (k)) = wC G q σ (κ.1, κ.2.1, anw0 κ.2.2 (k + 1)) := rfl
      rw [hw9] at hP hD
      exact ih2 (k + 1) (by omega) (by omega) _ _ _ hP hD hS (lv_sub hl [0, 1] rfl)
abbrev r_X0_append : Room := { frames := 0, cells := 0, slots := 0, locals := 0 }
set_option maxHeartbeats 4000000 in
set_option maxRecDepth 100000 in
theorem m_X0_append (l : Launch) (G : ZG) (q : Nat → Nat) (σ : St) (κ : KC)  (h1 : σ.1 7 < 4) :
    MC l G yX0_append (wY yX0_append cX0_append 1 (some .int)) r_X0_append (wC G q σ κ) [.ref (q 4)] (QI G (fun r9 (_ : Unit) => r9 = (zI ((σ.1 7 : Nat) : Int))) (fun _ => wC G q (sN σ 7 (σ.1 7 + 1)) κ)) := by
  refine MC.mk (by decide +kernel) (Nat.le_of_ble_eq_true rfl) ?_
  intro p e s m av below meth c A H locs ls Q Z hr hnm hQ hP hD hS hl
  have hx := Z.1
  have hb := Z.2.1
  have hown := Z.2.2.2.1
  have hW := Z.2.2.2.2.1
  have hl : lv_has ls 1 [(0, .ref (q 4))] := hl
  refine lv_aload_n hx hb dX0_append_0 rfl (lv_at hl 0 rfl) ?_
  refine gC_4_0 Z hP kf_X0_9 dX0_append_1 ?_
  refine zr_iconst hx hb dX0_append_4 ?_
  refine zc_lt (tgt := 10) hx hb ((σ.1 7 : Nat) : Int) (4 : Int) (zI_toInt (by omega)) (zI_toInt (by decide)) dX0_append_5 (by decide) (fun c5 => ?_) (fun c5 => by exfalso; omega)
  refine lv_aload_n hx hb dX0_append_10 rfl (lv_at hl 0 rfl) ?_
  refine lv_dup hx hb dX0_append_11 rfl ?_
  refine gC_4_0 Z hP kf_X0_9 dX0_append_12 ?_
  refine zr_iconst hx hb dX0_append_15 ?_
  refine zr_iadd hx hb dX0_append_16 ?_
  refine pC_4_0 Z hP hD hS ((σ.1 7 + 1)) (by omega) kf_X0_9 dX0_append_17 (fun H locs hP hD hS => ?_)
  refine lv_aload_n hx hb dX0_append_20 rfl (lv_at hl 0 rfl) ?_
  refine gC_4_0 Z hP kf_X0_9 dX0_append_21 ?_
  refine zr_top (w := .int (zI (((σ.1 7 + 1) : Nat) : Int))) rfl ?_
  refine zr_iconst hx hb dX0_append_24 ?_
  refine zr_isub hx hb dX0_append_25 ?_
  exact zret_I () Z hr hP hD hS (congrArg zI (by show ((σ.1 7 + 1 : Nat) : Int) - 1 = _; omega)) rfl ⟨Nat.le_refl _, Nat.le_refl _⟩ hQ dX0_append_26
abbrev r_X0_append_full : Room := { frames := 0, cells := 0, slots := 0, locals := 0 }
set_option maxHeartbeats 4000000 in
set_option maxRecDepth 100000 in
theorem m_X0_append_full (l : Launch) (G : ZG) (q : Nat → Nat) (σ : St) (κ : KC)  (h1 : σ.1 7 = 4) :
    MC l G yX0_append (wY yX0_append cX0_append 1 (some .int)) r_X0_append_full (wC G q σ κ) [.ref (q 4)] (QI G (fun r9 (_ : Unit) => r9 = (zI (-1 : Int))) (fun _ => wC G q σ κ)) := by
  refine MC.mk (by decide +kernel) (Nat.le_of_ble_eq_true rfl) ?_
  intro p e s m av below meth c A H locs ls Q Z hr hnm hQ hP hD hS hl
  have hx := Z.1
  have hb := Z.2.1
  have hown := Z.2.2.2.1
  have hW := Z.2.2.2.2.1
  have hl : lv_has ls 1 [(0, .ref (q 4))] := hl
  refine lv_aload_n hx hb dX0_append_0 rfl (lv_at hl 0 rfl) ?_
  refine gC_4_0 Z hP kf_X0_9 dX0_append_1 ?_
  refine zr_iconst hx hb dX0_append_4 ?_
  refine zc_lt (tgt := 10) hx hb ((σ.1 7 : Nat) : Int) (4 : Int) (zI_toInt (by omega)) (zI_toInt (by decide)) dX0_append_5 (by decide) (fun c5 => by exfalso; omega) (fun c5 => ?_)
  refine zr_iconst hx hb dX0_append_8 ?_
  exact zret_I () Z hr hP hD hS rfl rfl ⟨Nat.le_refl _, Nat.le_refl _⟩ hQ dX0_append_9
abbrev r_X0_learn : Room := { frames := 0, cells := 0, slots := 0, locals := 0 }
set_option maxHeartbeats 4000000 in
set_option maxRecDepth 100000 in
theorem m_X0_learn (l : Launch) (G : ZG) (q : Nat → Nat) (σ : St) (κ : KC) {e_d : Int} (d : Nat) (he_d : e_d = (d : Int)) {e_i : Int} (i : Nat) (he_i : e_i = (i : Int)) {e_vr : Int} (vr : Nat) (he_vr : e_vr = (vr : Int)) {e_mj : Int} (mj : Nat) (he_mj : e_mj = (mj : Int)) (h1 : d < 4) (h2 : i < 30) :
    MC l G yX0_learn (wY yX0_learn cX0_learn 5 none) r_X0_learn (wC G q σ κ) [.ref (q 4), .int (zI e_d), .int (zI e_i), .int (zI e_vr), .int (zI e_mj)] (QV G (fun (_ : Unit) => True) (fun _ => wC G q (lrn σ d i vr mj) κ)) := by
  subst he_d
  subst he_i
  subst he_vr
  subst he_mj
  refine MC.mk (by decide +kernel) (Nat.le_of_ble_eq_true rfl) ?_
  intro p e s m av below meth c A H locs ls Q Z hr hnm hQ hP hD hS hl
  have hx := Z.1
  have hb := Z.2.1
  have hown := Z.2.2.2.1
  have hW := Z.2.2.2.2.1
  have hl : lv_has ls 5 [(0, .ref (q 4)), (1, .int (zI ((d : Nat) : Int))), (2, .int (zI ((i : Nat) : Int))), (3, .int (zI ((vr : Nat) : Int))), (4, .int (zI ((mj : Nat) : Int)))] := hl
  refine lv_aload_n hx hb dX0_learn_0 rfl (lv_at hl 0 rfl) ?_
  refine gC_4_1 Z hP kf_X0_15 dX0_learn_1 ?_
  refine lv_iload_n hx hb dX0_learn_4 rfl (lv_at hl 1 rfl) ?_
  refine zr_bipush hx hb dX0_learn_5 (by decide) ?_
  refine zr_imul hx hb dX0_learn_7 ?_
  refine lv_iload_n hx hb dX0_learn_8 rfl (lv_at hl 2 rfl) ?_
  refine zr_iadd hx hb dX0_learn_9 ?_
  refine lv_iload_n hx hb dX0_learn_10 rfl (lv_at hl 3 rfl) ?_
  refine stN (ws1 := wC G q (sA σ 4 (va_up (σ.2.1 4) (30 * d + i) (vr))) κ) Z hP hD hS 25 (σ.2.1 4) rfl (30 * d + i) (by omega) (by omega) (by decide) (vr) rfl rfl dX0_learn_11 (fun H locs hP hD hS => ?_)
  refine lv_aload_n hx hb dX0_learn_12 rfl (lv_at hl 0 rfl) ?_
  refine gC_4_2 Z hP kf_X0_19 dX0_learn_13 ?_
  refine lv_iload_n hx hb dX0_learn_16 rfl (lv_at hl 1 rfl) ?_
  refine zr_bipush hx hb dX0_learn_17 (by decide) ?_
  refine zr_imul hx hb dX0_learn_19 ?_
  refine lv_iload_n hx hb dX0_learn_20 rfl (lv_at hl 2 rfl) ?_
  refine zr_iadd hx hb dX0_learn_21 ?_
  refine lv_iload hx hb dX0_learn_22 (lv_at hl 4 rfl) ?_
  refine stN (ws1 := wC G q (sA (sA σ 4 (va_up (σ.2.1 4) (30 * d + i) (vr))) 5 (va_up (σ.2.1 5) (30 * d + i) (mj))) κ) Z hP hD hS 26 (σ.2.1 5) rfl (30 * d + i) (by omega) (by omega) (by decide) (mj) rfl rfl dX0_learn_24 (fun H locs hP hD hS => ?_)
  exact zret_V () Z hr hP hD hS trivial rfl ⟨Nat.le_refl _, Nat.le_refl _⟩ hQ dX0_learn_25
abbrev r_X2_put : Room := { frames := 0, cells := 0, slots := 0, locals := 0 }
set_option maxHeartbeats 4000000 in
set_option maxRecDepth 100000 in
theorem m_X2_put (l : Launch) (G : ZG) (q : Nat → Nat) (σ : St) (κ : KC) {e_h : Int} (h : Nat) (he_h : e_h = (h : Int)) {e_i : Int} (i : Nat) (he_i : e_i = (i : Int)) (b : Bool) {e_mn : Int} (mn : Nat) (he_mn : e_mn = (mn : Int)) {e_vr : Int} (vr : Nat) (he_vr : e_vr = (vr : Int)) (h1 : h < 5) (h2 : i < 30) :
    MC l G yX2_put (wY yX2_put cX2_put 7 none) r_X2_put (wC G q σ κ) [.ref (q 5), .int (zI e_h), .int (zI e_i), .int (tB (b)), .int (zI e_mn), .int (zI e_vr)] (QV G (fun (_ : Unit) => True) (fun _ => wC G q (putM σ h i (if b then 2 else 1) mn vr) κ)) := by
  subst he_h
  subst he_i
  subst he_mn
  subst he_vr
  refine MC.mk (by decide +kernel) (Nat.le_of_ble_eq_true rfl) ?_
  intro p e s m av below meth c A H locs ls Q Z hr hnm hQ hP hD hS hl
  have hx := Z.1
  have hb := Z.2.1
  have hown := Z.2.2.2.1
  have hW := Z.2.2.2.2.1
  have hl : lv_has ls 7 [(0, .ref (q 5)), (1, .int (zI ((h : Nat) : Int))), (2, .int (zI ((i : Nat) : Int))), (3, .int (tB (b))), (4, .int (zI ((mn : Nat) : Int))), (5, .int (zI ((vr : Nat) : Int)))] := hl
  refine lv_iload_n hx hb dX2_put_0 rfl (lv_at hl 1 rfl) ?_
  refine zr_bipush hx hb dX2_put_1 (by decide) ?_
  refine zr_imul hx hb dX2_put_3 ?_
  refine lv_iload_n hx hb dX2_put_4 rfl (lv_at hl 2 rfl) ?_
  refine zr_iadd hx hb dX2_put_5 ?_
  refine lv_istore (lv' := [(6, .int (zI ((((h : Nat) : Int) * (30 : Int)) + ((i : Nat) : Int)))), (0, .ref (q 5)), (1, .int (zI ((h : Nat) : Int))), (2, .int (zI ((i : Nat) : Int))), (3, .int (tB (b))), (4, .int (zI ((mn : Nat) : Int))), (5, .int (zI ((vr : Nat) : Int)))]) hx hb dX2_put_6 hl (by decide) rfl (fun ls hl => ?_)
  refine lv_aload_n hx hb dX2_put_8 rfl (lv_at hl 1 rfl) ?_
  refine gC_5_0 Z hP kf_X2_9 dX2_put_9 ?_
  refine lv_iload hx hb dX2_put_12 (lv_at hl 0 rfl) ?_
  refine lv_iload_n hx hb dX2_put_14 rfl (lv_at hl 4 rfl) ?_
  refine zb_eq (tgt := 22) hx hb dX2_put_15 (by decide) (fun c15 => ?_) (fun c15 => ?_)
  · skip
    refine zr_iconst hx hb dX2_put_22 ?_
    refine stN (ws1 := wC G q (sA σ 6 (va_up (σ.2.1 6) (30 * h + i) (1))) κ) Z hP hD hS 27 (σ.2.1 6) rfl (30 * h + i) (by omega) (by omega) (by decide) (1) (by omega) rfl dX2_put_23 (fun H locs hP hD hS => ?_)
    refine lv_aload_n hx hb dX2_put_24 rfl (lv_at hl 1 rfl) ?_
    refine gC_5_1 Z hP kf_X2_15 dX2_put_25 ?_
    refine lv_iload hx hb dX2_put_28 (lv_at hl 0 rfl) ?_
    refine lv_iload hx hb dX2_put_30 (lv_at hl 5 rfl) ?_
    refine stN (ws1 := wC G q (sA (sA σ 6 (va_up (σ.2.1 6) (30 * h + i) (1))) 7 (va_up (σ.2.1 7) (30 * h + i) (mn))) κ) Z hP hD hS 28 (σ.2.1 7) rfl (30 * h + i) (by omega) (by omega) (by decide) (mn) rfl rfl dX2_put_32 (fun H locs hP hD hS => ?_)
    refine lv_aload_n hx hb dX2_put_33 rfl (lv_at hl 1 rfl) ?_
    refine gC_5_2 Z hP kf_X2_18 dX2_put_34 ?_
    refine lv_iload hx hb dX2_put_37 (lv_at hl 0 rfl) ?_
    refine lv_iload hx hb dX2_put_39 (lv_at hl 6 rfl) ?_
    refine stN (ws1 := wC G q (sA (sA (sA σ 6 (va_up (σ.2.1 6) (30 * h + i) (1))) 7 (va_up (σ.2.1 7) (30 * h + i) (mn))) 8 (va_up (σ.2.1 8) (30 * h + i) (vr))) κ) Z hP hD hS 29 (σ.2.1 8) rfl (30 * h + i) (by omega) (by omega) (by decide) (vr) rfl rfl dX2_put_41 (fun H locs hP hD hS => ?_)
    exact zret_V () Z hr hP hD hS trivial (by rw [c15]; rfl) ⟨Nat.le_refl _, Nat.le_refl _⟩ hQ dX2_put_42
  · skip
    refine zr_iconst hx hb dX2_put_18 ?_
    refine lv_goto (tgt := 23) hx hb dX2_put_19 (by decide) ?_
    refine stN (ws1 := wC G q (sA σ 6 (va_up (σ.2.1 6) (30 * h + i) (2))) κ) Z hP hD hS 27 (σ.2.1 6) rfl (30 * h + i) (by omega) (by omega) (by decide) (2) (by omega) rfl dX2_put_23 (fun H locs hP hD hS => ?_)
    refine lv_aload_n hx hb dX2_put_24 rfl (lv_at hl 1 rfl) ?_
    refine gC_5_1 Z hP kf_X2_15 dX2_put_25 ?_
    refine lv_iload hx hb dX2_put_28 (lv_at hl 0 rfl) ?_
    refine lv_iload hx hb dX2_put_30 (lv_at hl 5 rfl) ?_
    refine stN (ws1 := wC G q (sA (sA σ 6 (va_up (σ.2.1 6) (30 * h + i) (2))) 7 (va_up (σ.2.1 7) (30 * h + i) (mn))) κ) Z hP hD hS 28 (σ.2.1 7) rfl (30 * h + i) (by omega) (by omega) (by decide) (mn) rfl rfl dX2_put_32 (fun H locs hP hD hS => ?_)
    refine lv_aload_n hx hb dX2_put_33 rfl (lv_at hl 1 rfl) ?_
    refine gC_5_2 Z hP kf_X2_18 dX2_put_34 ?_
    refine lv_iload hx hb dX2_put_37 (lv_at hl 0 rfl) ?_
    refine lv_iload hx hb dX2_put_39 (lv_at hl 6 rfl) ?_
    refine stN (ws1 := wC G q (sA (sA (sA σ 6 (va_up (σ.2.1 6) (30 * h + i) (2))) 7 (va_up (σ.2.1 7) (30 * h + i) (mn))) 8 (va_up (σ.2.1 8) (30 * h + i) (vr))) κ) Z hP hD hS 29 (σ.2.1 8) rfl (30 * h + i) (by omega) (by omega) (by decide) (vr) rfl rfl dX2_put_41 (fun H locs hP hD hS => ?_)
    exact zret_V () Z hr hP hD hS trivial (by rw [c15]; rfl) ⟨Nat.le_refl _, Nat.le_refl _⟩ hQ dX2_put_42
abbrev r_X2_copy : Room := { frames := 0, cells := 0, slots := 0, locals := 0 }
set_option maxHeartbeats 4000000 in
set_option maxRecDepth 100000 in
theorem m_X2_copy (l : Launch) (G : ZG) (q : Nat → Nat) (σ : St) (κ : KC) {e_f : Int} (f : Nat) (he_f : e_f = (f : Int)) {e_t : Int} (t : Nat) (he_t : e_t = (t : Int)) {e_i : Int} (i : Nat) (he_i : e_i = (i : Int)) (h1 : f < 5) (h2 : t < 5) (h3 : i < 30) :
    MC l G yX2_copy (wY yX2_copy cX2_copy 6 none) r_X2_copy (wC G q σ κ) [.ref (q 5), .int (zI e_f), .int (zI e_t), .int (zI e_i)] (QV G (fun (_ : Unit) => True) (fun _ => wC G q (cpM σ f t i) κ)) := by
  subst he_f
  subst he_t
  subst he_i
  refine MC.mk (by decide +kernel) (Nat.le_of_ble_eq_true rfl) ?_
  intro p e s m av below meth c A H locs ls Q Z hr hnm hQ hP hD hS hl
  have hx := Z.1
  have hb := Z.2.1
  have hown := Z.2.2.2.1
  have hW := Z.2.2.2.2.1
  have hl : lv_has ls 6 [(0, .ref (q 5)), (1, .int (zI ((f : Nat) : Int))), (2, .int (zI ((t : Nat) : Int))), (3, .int (zI ((i : Nat) : Int)))] := hl
  refine lv_iload_n hx hb dX2_copy_0 rfl (lv_at hl 1 rfl) ?_
  refine zr_bipush hx hb dX2_copy_1 (by decide) ?_
  refine zr_imul hx hb dX2_copy_3 ?_
  refine lv_iload_n hx hb dX2_copy_4 rfl (lv_at hl 3 rfl) ?_
  refine zr_iadd hx hb dX2_copy_5 ?_
  refine lv_istore (lv' := [(4, .int (zI ((((f : Nat) : Int) * (30 : Int)) + ((i : Nat) : Int)))), (0, .ref (q 5)), (1, .int (zI ((f : Nat) : Int))), (2, .int (zI ((t : Nat) : Int))), (3, .int (zI ((i : Nat) : Int)))]) hx hb dX2_copy_6 hl (by decide) rfl (fun ls hl => ?_)
  refine lv_iload_n hx hb dX2_copy_8 rfl (lv_at hl 3 rfl) ?_
  refine zr_bipush hx hb dX2_copy_9 (by decide) ?_
  refine zr_imul hx hb dX2_copy_11 ?_
  refine lv_iload_n hx hb dX2_copy_12 rfl (lv_at hl 4 rfl) ?_
  refine zr_iadd hx hb dX2_copy_13 ?_
  refine lv_istore (lv' := [(5, .int (zI ((((t : Nat) : Int) * (30 : Int)) + ((i : Nat) : Int)))), (4, .int (zI ((((f : Nat) : Int) * (30 : Int)) + ((i : Nat) : Int)))), (0, .ref (q 5)), (1, .int (zI ((f : Nat) : Int))), (2, .int (zI ((t : Nat) : Int))), (3, .int (zI ((i : Nat) : Int)))]) hx hb dX2_copy_14 hl (by decide) rfl (fun ls hl => ?_)
  refine lv_aload_n hx hb dX2_copy_16 rfl (lv_at hl 2 rfl) ?_
  refine gC_5_0 Z hP kf_X2_9 dX2_copy_17 ?_
  refine lv_iload hx hb dX2_copy_20 (lv_at hl 0 rfl) ?_
  refine lv_aload_n hx hb dX2_copy_22 rfl (lv_at hl 2 rfl) ?_
  refine gC_5_0 Z hP kf_X2_9 dX2_copy_23 ?_
  refine lv_iload hx hb dX2_copy_26 (lv_at hl 1 rfl) ?_
  refine ldN Z hP 27 (σ.2.1 6) rfl (30 * f + i) (by omega) (by omega) (by decide) dX2_copy_28 ?_
  refine stN (ws1 := wC G q (sA σ 6 (va_up (σ.2.1 6) (30 * t + i) ((σ.2.1 6) (30 * f + i)))) κ) Z hP hD hS 27 (σ.2.1 6) rfl (30 * t + i) (by omega) (by omega) (by decide) ((σ.2.1 6) (30 * f + i)) rfl rfl dX2_copy_29 (fun H locs hP hD hS => ?_)
  refine lv_aload_n hx hb dX2_copy_30 rfl (lv_at hl 2 rfl) ?_
  refine gC_5_1 Z hP kf_X2_15 dX2_copy_31 ?_
  refine lv_iload hx hb dX2_copy_34 (lv_at hl 0 rfl) ?_
  refine lv_aload_n hx hb dX2_copy_36 rfl (lv_at hl 2 rfl) ?_
  refine gC_5_1 Z hP kf_X2_15 dX2_copy_37 ?_
  refine lv_iload hx hb dX2_copy_40 (lv_at hl 1 rfl) ?_
  refine ldN Z hP 28 (σ.2.1 7) rfl (30 * f + i) (by omega) (by omega) (by decide) dX2_copy_42 ?_
  refine stN (ws1 := wC G q (sA (sA σ 6 (va_up (σ.2.1 6) (30 * t + i) ((σ.2.1 6) (30 * f + i)))) 7 (va_up (σ.2.1 7) (30 * t + i) ((σ.2.1 7) (30 * f + i)))) κ) Z hP hD hS 28 (σ.2.1 7) rfl (30 * t + i) (by omega) (by omega) (by decide) ((σ.2.1 7) (30 * f + i)) rfl rfl dX2_copy_43 (fun H locs hP hD hS => ?_)
  refine lv_aload_n hx hb dX2_copy_44 rfl (lv_at hl 2 rfl) ?_
  refine gC_5_2 Z hP kf_X2_18 dX2_copy_45 ?_
  refine lv_iload hx hb dX2_copy_48 (lv_at hl 0 rfl) ?_
  refine lv_aload_n hx hb dX2_copy_50 rfl (lv_at hl 2 rfl) ?_
  refine gC_5_2 Z hP kf_X2_18 dX2_copy_51 ?_
  refine lv_iload hx hb dX2_copy_54 (lv_at hl 1 rfl) ?_
  refine ldN Z hP 29 (σ.2.1 8) rfl (30 * f + i) (by omega) (by omega) (by decide) dX2_copy_56 ?_
  refine stN (ws1 := wC G q (sA (sA (sA σ 6 (va_up (σ.2.1 6) (30 * t + i) ((σ.2.1 6) (30 * f + i)))) 7 (va_up (σ.2.1 7) (30 * t + i) ((σ.2.1 7) (30 * f + i)))) 8 (va_up (σ.2.1 8) (30 * t + i) ((σ.2.1 8) (30 * f + i)))) κ) Z hP hD hS 29 (σ.2.1 8) rfl (30 * t + i) (by omega) (by omega) (by decide) ((σ.2.1 8) (30 * f + i)) rfl rfl dX2_copy_57 (fun H locs hP hD hS => ?_)
  exact zret_V () Z hr hP hD hS trivial rfl ⟨Nat.le_refl _, Nat.le_refl _⟩ hQ dX2_copy_58
abbrev r_X2_saysRead : Room := { frames := 0, cells := 0, slots := 0, locals := 0 }
set_option maxHeartbeats 4000000 in
set_option maxRecDepth 100000 in
theorem m_X2_saysRead (l : Launch) (G : ZG) (q : Nat → Nat) (σ : St) (κ : KC) {e_h : Int} (h : Nat) (he_h : e_h = (h : Int)) {e_i : Int} (i : Nat) (he_i : e_i = (i : Int)) {e_mj : Int} (mj : Nat) (he_mj : e_mj = (mj : Int)) (h1 : h < 5) (h2 : i < 30) (h3 : σ.2.1 6 (30 * h + i) < 1000000) (h4 : σ.2.1 8 (30 * h + i) < 1000000) (h5 : mj < 1000000) :
    MC l G yX2_saysRead (wY yX2_saysRead cX2_saysRead 5 (some .boolean)) r_X2_saysRead (wC G q σ κ) [.ref (q 5), .int (zI e_h), .int (zI e_i), .int (zI e_mj)] (QI G (fun r9 (_ : Unit) => r9 = (tB (rdBy σ h i mj))) (fun _ => wC G q σ κ)) := by
  subst he_h
  subst he_i
  subst he_mj
  refine MC.mk (by decide +kernel) (Nat.le_of_ble_eq_true rfl) ?_
  intro p e s m av below meth c A H locs ls Q Z hr hnm hQ hP hD hS hl
  have hx := Z.1
  have hb := Z.2.1
  have hown := Z.2.2.2.1
  have hW := Z.2.2.2.2.1
  have hl : lv_has ls 5 [(0, .ref (q 5)), (1, .int (zI ((h : Nat) : Int))), (2, .int (zI ((i : Nat) : Int))), (3, .int (zI ((mj : Nat) : Int)))] := hl
  refine lv_iload_n hx hb dX2_saysRead_0 rfl (lv_at hl 1 rfl) ?_
  refine zr_bipush hx hb dX2_saysRead_1 (by decide) ?_
  refine zr_imul hx hb dX2_saysRead_3 ?_
  refine lv_iload_n hx hb dX2_saysRead_4 rfl (lv_at hl 2 rfl) ?_
  refine zr_iadd hx hb dX2_saysRead_5 ?_
  refine lv_istore (lv' := [(4, .int (zI ((((h : Nat) : Int) * (30 : Int)) + ((i : Nat) : Int)))), (0, .ref (q 5)), (1, .int (zI ((h : Nat) : Int))), (2, .int (zI ((i : Nat) : Int))), (3, .int (zI ((mj : Nat) : Int)))]) hx hb dX2_saysRead_6 hl (by decide) rfl (fun ls hl => ?_)
  refine lv_aload_n hx hb dX2_saysRead_8 rfl (lv_at hl 1 rfl) ?_
  refine gC_5_0 Z hP kf_X2_9 dX2_saysRead_9 ?_
  refine lv_iload hx hb dX2_saysRead_12 (lv_at hl 0 rfl) ?_
  refine ldN Z hP 27 (σ.2.1 6) rfl (30 * h + i) (by omega) (by omega) (by decide) dX2_saysRead_14 ?_
  refine zr_iconst hx hb dX2_saysRead_15 ?_
  refine zc_ne (tgt := 34) hx hb (((σ.2.1 6) (30 * h + i) : Nat) : Int) (2 : Int) (zI_toInt (by omega)) (zI_toInt (by decide)) dX2_saysRead_16 (by decide) (fun c16 => ?_) (fun c16 => ?_)
  · skip
    refine zr_iconst hx hb dX2_saysRead_34 ?_
    exact zret_B () Z hr (by decide +kernel) hP hD hS (tB_0 (by unfold rdBy; simp; omega)) rfl ⟨Nat.le_refl _, Nat.le_refl _⟩ hQ dX2_saysRead_35
  · skip
    refine lv_aload_n hx hb dX2_saysRead_19 rfl (lv_at hl 1 rfl) ?_
    refine gC_5_2 Z hP kf_X2_18 dX2_saysRead_20 ?_
    refine lv_iload hx hb dX2_saysRead_23 (lv_at hl 0 rfl) ?_
    refine ldN Z hP 29 (σ.2.1 8) rfl (30 * h + i) (by omega) (by omega) (by decide) dX2_saysRead_25 ?_
    refine lv_iload_n hx hb dX2_saysRead_26 rfl (lv_at hl 4 rfl) ?_
    refine zc_lt (tgt := 34) hx hb (((σ.2.1 8) (30 * h + i) : Nat) : Int) ((mj : Nat) : Int) (zI_toInt (by omega)) (zI_toInt (by omega)) dX2_saysRead_27 (by decide) (fun c27 => ?_) (fun c27 => ?_)
    · skip
      refine zr_iconst hx hb dX2_saysRead_34 ?_
      exact zret_B () Z hr (by decide +kernel) hP hD hS (tB_0 (by unfold rdBy; simp; omega)) rfl ⟨Nat.le_refl _, Nat.le_refl _⟩ hQ dX2_saysRead_35
    · skip
      refine zr_iconst hx hb dX2_saysRead_30 ?_
      refine lv_goto (tgt := 35) hx hb dX2_saysRead_31 (by decide) ?_
      exact zret_B () Z hr (by decide +kernel) hP hD hS (tB_1 (by unfold rdBy; simp; omega)) rfl ⟨Nat.le_refl _, Nat.le_refl _⟩ hQ dX2_saysRead_35
abbrev r_X2_beats : Room := { frames := 0, cells := 0, slots := 0, locals := 0 }
set_option maxHeartbeats 4000000 in
set_option maxRecDepth 100000 in
theorem m_X2_beats (l : Launch) (G : ZG) (q : Nat → Nat) (σ : St) (κ : KC) {e_h : Int} (h : Nat) (he_h : e_h = (h : Int)) {e_o : Int} (o : Nat) (he_o : e_o = (o : Int)) {e_i : Int} (i : Nat) (he_i : e_i = (i : Int)) (h1 : h < 5) (h2 : o < 5) (h3 : i < 30) (h4 : ∀ y9, σ.2.1 6 y9 ≤ 2) (h5 : ∀ y9, σ.2.1 7 y9 < 1000000) (h6 : ∀ y9, σ.2.1 8 y9 < 1000000) :
    MC l G yX2_beats (wY yX2_beats cX2_beats 6 (some .boolean)) r_X2_beats (wC G q σ κ) [.ref (q 5), .int (zI e_h), .int (zI e_o), .int (zI e_i)] (QI G (fun r9 (_ : Unit) => r9 = (tB (bts σ h o i))) (fun _ => wC G q σ κ)) := by
  subst he_h
  subst he_o
  subst he_i
  refine MC.mk (by decide +kernel) (Nat.le_of_ble_eq_true rfl) ?_
  intro p e s m av below meth c A H locs ls Q Z hr hnm hQ hP hD hS hl
  have hx := Z.1
  have hb := Z.2.1
  have hown := Z.2.2.2.1
  have hW := Z.2.2.2.2.1
  have hl : lv_has ls 6 [(0, .ref (q 5)), (1, .int (zI ((h : Nat) : Int))), (2, .int (zI ((o : Nat) : Int))), (3, .int (zI ((i : Nat) : Int)))] := hl
  have k1 := h4 (30 * h + i)
  have k2 := h4 (30 * o + i)
  have k3 := h5 (30 * h + i)
  have k4 := h5 (30 * o + i)
  have k5 := h6 (30 * h + i)
  have k6 := h6 (30 * o + i)
  refine lv_iload_n hx hb dX2_beats_0 rfl (lv_at hl 1 rfl) ?_
  refine zr_bipush hx hb dX2_beats_1 (by decide) ?_
  refine zr_imul hx hb dX2_beats_3 ?_
  refine lv_iload_n hx hb dX2_beats_4 rfl (lv_at hl 3 rfl) ?_
  refine zr_iadd hx hb dX2_beats_5 ?_
  refine lv_istore (lv' := [(4, .int (zI ((((h : Nat) : Int) * (30 : Int)) + ((i : Nat) : Int)))), (0, .ref (q 5)), (1, .int (zI ((h : Nat) : Int))), (2, .int (zI ((o : Nat) : Int))), (3, .int (zI ((i : Nat) : Int)))]) hx hb dX2_beats_6 hl (by decide) rfl (fun ls hl => ?_)
  refine lv_iload_n hx hb dX2_beats_8 rfl (lv_at hl 3 rfl) ?_
  refine zr_bipush hx hb dX2_beats_9 (by decide) ?_
  refine zr_imul hx hb dX2_beats_11 ?_
  refine lv_iload_n hx hb dX2_beats_12 rfl (lv_at hl 4 rfl) ?_
  refine zr_iadd hx hb dX2_beats_13 ?_
  refine lv_istore (lv' := [(5, .int (zI ((((o : Nat) : Int) * (30 : Int)) + ((i : Nat) : Int)))), (4, .int (zI ((((h : Nat) : Int) * (30 : Int)) + ((i : Nat) : Int)))), (0, .ref (q 5)), (1, .int (zI ((h : Nat) : Int))), (2, .int (zI ((o : Nat) : Int))), (3, .int (zI ((i : Nat) : Int)))]) hx hb dX2_beats_14 hl (by decide) rfl (fun ls hl => ?_)
  refine lv_aload_n hx hb dX2_beats_16 rfl (lv_at hl 2 rfl) ?_
  refine gC_5_0 Z hP kf_X2_9 dX2_beats_17 ?_
  refine lv_iload hx hb dX2_beats_20 (lv_at hl 1 rfl) ?_
  refine ldN Z hP 27 (σ.2.1 6) rfl (30 * h + i) (by omega) (by omega) (by decide) dX2_beats_22 ?_
  refine zc0_eq (tgt := 36) hx hb (((σ.2.1 6) (30 * h + i) : Nat) : Int) (zI_toInt (by omega)) dX2_beats_23 (by decide) (fun c23 => ?_) (fun c23 => ?_)
  · skip
    refine lv_aload_n hx hb dX2_beats_36 rfl (lv_at hl 2 rfl) ?_
    refine gC_5_0 Z hP kf_X2_9 dX2_beats_37 ?_
    refine lv_iload hx hb dX2_beats_40 (lv_at hl 1 rfl) ?_
    refine ldN Z hP 27 (σ.2.1 6) rfl (30 * h + i) (by omega) (by omega) (by decide) dX2_beats_42 ?_
    refine zc0_eq (tgt := 50) hx hb (((σ.2.1 6) (30 * h + i) : Nat) : Int) (zI_toInt (by omega)) dX2_beats_43 (by decide) (fun c43 => ?_) (fun c43 => ?_)
    · skip
      refine zr_iconst hx hb dX2_beats_50 ?_
      exact zret_B () Z hr (by decide +kernel) hP hD hS (tB_0 (by unfold bts; rw [if_pos (by omega)]; simp; omega)) rfl ⟨Nat.le_refl _, Nat.le_refl _⟩ hQ dX2_beats_51
    · skip
      refine zr_iconst hx hb dX2_beats_46 ?_
      refine lv_goto (tgt := 51) hx hb dX2_beats_47 (by decide) ?_
      exact zret_B () Z hr (by decide +kernel) hP hD hS (tB_1 (by unfold bts; rw [if_pos (by omega)]; simp; omega)) rfl ⟨Nat.le_refl _, Nat.le_refl _⟩ hQ dX2_beats_51
  · skip
    refine lv_aload_n hx hb dX2_beats_26 rfl (lv_at hl 2 rfl) ?_
    refine gC_5_0 Z hP kf_X2_9 dX2_beats_27 ?_
    refine lv_iload hx hb dX2_beats_30 (lv_at hl 0 rfl) ?_
    refine ldN Z hP 27 (σ.2.1 6) rfl (30 * o + i) (by omega) (by omega) (by decide) dX2_beats_32 ?_
    refine zc0_ne (tgt := 52) hx hb (((σ.2.1 6) (30 * o + i) : Nat) : Int) (zI_toInt (by omega)) dX2_beats_33 (by decide) (fun c33 => ?_) (fun c33 => ?_)
    · skip
      refine lv_aload_n hx hb dX2_beats_52 rfl (lv_at hl 2 rfl) ?_
      refine gC_5_1 Z hP kf_X2_15 dX2_beats_53 ?_
      refine lv_iload hx hb dX2_beats_56 (lv_at hl 1 rfl) ?_
      refine ldN Z hP 28 (σ.2.1 7) rfl (30 * h + i) (by omega) (by omega) (by decide) dX2_beats_58 ?_
      refine lv_aload_n hx hb dX2_beats_59 rfl (lv_at hl 2 rfl) ?_
      refine gC_5_1 Z hP kf_X2_15 dX2_beats_60 ?_
      refine lv_iload hx hb dX2_beats_63 (lv_at hl 0 rfl) ?_
      refine ldN Z hP 28 (σ.2.1 7) rfl (30 * o + i) (by omega) (by omega) (by decide) dX2_beats_65 ?_
      refine zc_eq (tgt := 92) hx hb (((σ.2.1 7) (30 * h + i) : Nat) : Int) (((σ.2.1 7) (30 * o + i) : Nat) : Int) (zI_toInt (by omega)) (zI_toInt (by omega)) dX2_beats_66 (by decide) (fun c66 => ?_) (fun c66 => ?_)
      · skip
        refine lv_aload_n hx hb dX2_beats_92 rfl (lv_at hl 2 rfl) ?_
        refine gC_5_0 Z hP kf_X2_9 dX2_beats_93 ?_
        refine lv_iload hx hb dX2_beats_96 (lv_at hl 1 rfl) ?_
        refine ldN Z hP 27 (σ.2.1 6) rfl (30 * h + i) (by omega) (by omega) (by decide) dX2_beats_98 ?_
        refine lv_aload_n hx hb dX2_beats_99 rfl (lv_at hl 2 rfl) ?_
        refine gC_5_0 Z hP kf_X2_9 dX2_beats_100 ?_
        refine lv_iload hx hb dX2_beats_103 (lv_at hl 0 rfl) ?_
        refine ldN Z hP 27 (σ.2.1 6) rfl (30 * o + i) (by omega) (by omega) (by decide) dX2_beats_105 ?_
        refine zc_eq (tgt := 126) hx hb (((σ.2.1 6) (30 * h + i) : Nat) : Int) (((σ.2.1 6) (30 * o + i) : Nat) : Int) (zI_toInt (by omega)) (zI_toInt (by omega)) dX2_beats_106 (by decide) (fun c106 => ?_) (fun c106 => ?_)
        · skip
          refine lv_aload_n hx hb dX2_beats_126 rfl (lv_at hl 2 rfl) ?_
          refine gC_5_2 Z hP kf_X2_18 dX2_beats_127 ?_
          refine lv_iload hx hb dX2_beats_130 (lv_at hl 1 rfl) ?_
          refine ldN Z hP 29 (σ.2.1 8) rfl (30 * h + i) (by omega) (by omega) (by decide) dX2_beats_132 ?_
          refine lv_aload_n hx hb dX2_beats_133 rfl (lv_at hl 2 rfl) ?_
          refine gC_5_2 Z hP kf_X2_18 dX2_beats_134 ?_
          refine lv_iload hx hb dX2_beats_137 (lv_at hl 0 rfl) ?_
          refine ldN Z hP 29 (σ.2.1 8) rfl (30 * o + i) (by omega) (by omega) (by decide) dX2_beats_139 ?_
          refine zc_lt (tgt := 147) hx hb (((σ.2.1 8) (30 * h + i) : Nat) : Int) (((σ.2.1 8) (30 * o + i) : Nat) : Int) (zI_toInt (by omega)) (zI_toInt (by omega)) dX2_beats_140 (by decide) (fun c140 => ?_) (fun c140 => ?_)
          · skip
            refine zr_iconst hx hb dX2_beats_147 ?_
            exact zret_B () Z hr (by decide +kernel) hP hD hS (tB_0 (by unfold bts; rw [if_neg (by omega)]; rw [if_neg (by omega)]; rw [if_neg (by omega)]; simp; omega)) rfl ⟨Nat.le_refl _, Nat.le_refl _⟩ hQ dX2_beats_148
          · skip
            refine zr_iconst hx hb dX2_beats_143 ?_
            refine lv_goto (tgt := 148) hx hb dX2_beats_144 (by decide) ?_
            exact zret_B () Z hr (by decide +kernel) hP hD hS (tB_1 (by unfold bts; rw [if_neg (by omega)]; rw [if_neg (by omega)]; rw [if_neg (by omega)]; simp; omega)) rfl ⟨Nat.le_refl _, Nat.le_refl _⟩ hQ dX2_beats_148
        · skip
          refine lv_aload_n hx hb dX2_beats_109 rfl (lv_at hl 2 rfl) ?_
          refine gC_5_0 Z hP kf_X2_9 dX2_beats_110 ?_
          refine lv_iload hx hb dX2_beats_113 (lv_at hl 1 rfl) ?_
          refine ldN Z hP 27 (σ.2.1 6) rfl (30 * h + i) (by omega) (by omega) (by decide) dX2_beats_115 ?_
          refine zr_iconst hx hb dX2_beats_116 ?_
          refine zc_ne (tgt := 124) hx hb (((σ.2.1 6) (30 * h + i) : Nat) : Int) (2 : Int) (zI_toInt (by omega)) (zI_toInt (by decide)) dX2_beats_117 (by decide) (fun c117 => ?_) (fun c117 => ?_)
          · skip
            refine zr_iconst hx hb dX2_beats_124 ?_
            exact zret_B () Z hr (by decide +kernel) hP hD hS (tB_0 (by unfold bts; rw [if_neg (by omega)]; rw [if_neg (by omega)]; rw [if_pos (by omega)]; simp; omega)) rfl ⟨Nat.le_refl _, Nat.le_refl _⟩ hQ dX2_beats_125
          · skip
            refine zr_iconst hx hb dX2_beats_120 ?_
            refine lv_goto (tgt := 125) hx hb dX2_beats_121 (by decide) ?_
            exact zret_B () Z hr (by decide +kernel) hP hD hS (tB_1 (by unfold bts; rw [if_neg (by omega)]; rw [if_neg (by omega)]; rw [if_pos (by omega)]; simp; omega)) rfl ⟨Nat.le_refl _, Nat.le_refl _⟩ hQ dX2_beats_125
      · skip
        refine lv_aload_n hx hb dX2_beats_69 rfl (lv_at hl 2 rfl) ?_
        refine gC_5_1 Z hP kf_X2_15 dX2_beats_70 ?_
        refine lv_iload hx hb dX2_beats_73 (lv_at hl 1 rfl) ?_
        refine ldN Z hP 28 (σ.2.1 7) rfl (30 * h + i) (by omega) (by omega) (by decide) dX2_beats_75 ?_
        refine lv_aload_n hx hb dX2_beats_76 rfl (lv_at hl 2 rfl) ?_
        refine gC_5_1 Z hP kf_X2_15 dX2_beats_77 ?_
        refine lv_iload hx hb dX2_beats_80 (lv_at hl 0 rfl) ?_
        refine ldN Z hP 28 (σ.2.1 7) rfl (30 * o + i) (by omega) (by omega) (by decide) dX2_beats_82 ?_
        refine zc_le (tgt := 90) hx hb (((σ.2.1 7) (30 * h + i) : Nat) : Int) (((σ.2.1 7) (30 * o + i) : Nat) : Int) (zI_toInt (by omega)) (zI_toInt (by omega)) dX2_beats_83 (by decide) (fun c83 => ?_) (fun c83 => ?_)
        · skip
          refine zr_iconst hx hb dX2_beats_90 ?_
          exact zret_B () Z hr (by decide +kernel) hP hD hS (tB_0 (by unfold bts; rw [if_neg (by omega)]; rw [if_pos (by omega)]; simp; omega)) rfl ⟨Nat.le_refl _, Nat.le_refl _⟩ hQ dX2_beats_91
        · skip
          refine zr_iconst hx hb dX2_beats_86 ?_
          refine lv_goto (tgt := 91) hx hb dX2_beats_87 (by decide) ?_
          exact zret_B () Z hr (by decide +kernel) hP hD hS (tB_1 (by unfold bts; rw [if_neg (by omega)]; rw [if_pos (by omega)]; simp; omega)) rfl ⟨Nat.le_refl _, Nat.le_refl _⟩ hQ dX2_beats_91
    · skip
      refine lv_aload_n hx hb dX2_beats_36 rfl (lv_at hl 2 rfl) ?_
      refine gC_5_0 Z hP kf_X2_9 dX2_beats_37 ?_
      refine lv_iload hx hb dX2_beats_40 (lv_at hl 1 rfl) ?_
      refine ldN Z hP 27 (σ.2.1 6) rfl (30 * h + i) (by omega) (by omega) (by decide) dX2_beats_42 ?_
      refine zc0_eq (tgt := 50) hx hb (((σ.2.1 6) (30 * h + i) : Nat) : Int) (zI_toInt (by omega)) dX2_beats_43 (by decide) (fun c43 => ?_) (fun c43 => ?_)
      · skip
        refine zr_iconst hx hb dX2_beats_50 ?_
        exact zret_B () Z hr (by decide +kernel) hP hD hS (tB_0 (by unfold bts; rw [if_pos (by omega)]; simp; omega)) rfl ⟨Nat.le_refl _, Nat.le_refl _⟩ hQ dX2_beats_51
      · skip
        refine zr_iconst hx hb dX2_beats_46 ?_
        refine lv_goto (tgt := 51) hx hb dX2_beats_47 (by decide) ?_
        exact zret_B () Z hr (by decide +kernel) hP hD hS (tB_1 (by unfold bts; rw [if_pos (by omega)]; simp; omega)) rfl ⟨Nat.le_refl _, Nat.le_refl _⟩ hQ dX2_beats_51
