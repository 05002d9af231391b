abbrev r_X4_append : Room := { frames := 0, cells := 0, slots := 0, locals := 0 }
set_option maxHeartbeats 4000000 in
set_option maxRecDepth 100000 in
theorem m_X4_append (l : Launch) (G : ZG) (q : Nat → Nat) (σ : St) (κ : KC) (al : Int64) (an : Int64) (sr : Int32) {e_tg : Int} (tg : Nat) (he_tg : e_tg = (tg : Int) - 1) {e_ac : Int} (ac : Nat) (he_ac : e_ac = (ac : Int)) (h1 : σ.1 5 < 6) (h2 : ac < 10) :
    MC l G yX4_append (wY yX4_append cX4_append 8 (some .int)) r_X4_append (wC G q σ κ) [.ref (q 2), .long (al), .long (an), .int (sr), .int (zI e_tg), .int (zI e_ac)] (QI G (fun r9 (_ : Unit) => r9 = (zI ((σ.1 5 : Nat) : Int))) (fun _ => wC G q (addR σ al an sr tg ac) κ)) := by
  subst he_tg
  subst he_ac
  refine MC.mk (by decide +kernel) (Nat.le_of_ble_eq_true rfl) ?_
  intro p e s m av below meth c A H locs ls Q Z hr hnm hQ hP hD hS hl
  have hx := Z.1
  have hb := Z.2.1
  have hown := Z.2.2.2.1
  have hW := Z.2.2.2.2.1
  have hl : lv_has ls 8 [(0, .ref (q 2)), (1, .long (al)), (3, .long (an)), (5, .int (sr)), (6, .int (zI (((tg : Nat) : Int) - (1 : Int)))), (7, .int (zI ((ac : Nat) : Int)))] := hl
  refine lv_aload_n hx hb dX4_append_0 rfl (lv_at hl 0 rfl) ?_
  refine gC_2_0 Z hP kf_X4_9 dX4_append_1 ?_
  refine zr_bipush hx hb dX4_append_4 (by decide) ?_
  refine zc_lt (tgt := 11) hx hb ((σ.1 5 : Nat) : Int) (6 : Int) (zI_toInt (by omega)) (zI_toInt (by decide)) dX4_append_6 (by decide) (fun c6 => ?_) (fun c6 => by exfalso; omega)
  refine lv_aload_n hx hb dX4_append_11 rfl (lv_at hl 0 rfl) ?_
  refine gC_2_1 Z hP kf_X4_15 dX4_append_12 ?_
  refine lv_aload_n hx hb dX4_append_15 rfl (lv_at hl 0 rfl) ?_
  refine gC_2_0 Z hP kf_X4_9 dX4_append_16 ?_
  refine lv_lload_n hx hb dX4_append_19 rfl (lv_at hl 1 rfl) ?_
  refine stL (ws1 := wC G q (sL σ 1 (va_up (σ.2.2.2 1) (σ.1 5) (al))) κ) Z hP hD hS 18 (σ.2.2.2 1) rfl (σ.1 5) rfl (by omega) (by decide) rfl dX4_append_20 (fun H locs hP hD hS => ?_)
  refine lv_aload_n hx hb dX4_append_21 rfl (lv_at hl 0 rfl) ?_
  refine gC_2_2 Z hP kf_X4_19 dX4_append_22 ?_
  refine lv_aload_n hx hb dX4_append_25 rfl (lv_at hl 0 rfl) ?_
  refine gC_2_0 Z hP kf_X4_9 dX4_append_26 ?_
  refine zr_top (w := .int (zI ((σ.1 5 : Nat) : Int))) rfl ?_
  refine lv_lload_n hx hb dX4_append_29 rfl (lv_at hl 2 rfl) ?_
  refine stL (ws1 := wC G q (sL (sL σ 1 (va_up (σ.2.2.2 1) (σ.1 5) (al))) 2 (va_up (σ.2.2.2 2) (σ.1 5) (an))) κ) Z hP hD hS 19 (σ.2.2.2 2) rfl (σ.1 5) rfl (by omega) (by decide) rfl dX4_append_30 (fun H locs hP hD hS => ?_)
  refine lv_aload_n hx hb dX4_append_31 rfl (lv_at hl 0 rfl) ?_
  refine gC_2_3 Z hP kf_X4_22 dX4_append_32 ?_
  refine lv_aload_n hx hb dX4_append_35 rfl (lv_at hl 0 rfl) ?_
  refine gC_2_0 Z hP kf_X4_9 dX4_append_36 ?_
  refine zr_top (w := .int (zI ((σ.1 5 : Nat) : Int))) rfl ?_
  refine lv_iload hx hb dX4_append_39 (lv_at hl 3 rfl) ?_
  refine stI (ws1 := wC G q (sI (sL (sL σ 1 (va_up (σ.2.2.2 1) (σ.1 5) (al))) 2 (va_up (σ.2.2.2 2) (σ.1 5) (an))) 1 (va_up (σ.2.2.1 1) (σ.1 5) (sr))) κ) Z hP hD hS 20 (σ.2.2.1 1) rfl (σ.1 5) rfl (by omega) (by decide) rfl dX4_append_41 (fun H locs hP hD hS => ?_)
  refine lv_aload_n hx hb dX4_append_42 rfl (lv_at hl 0 rfl) ?_
  refine gC_2_4 Z hP kf_X4_26 dX4_append_43 ?_
  refine lv_aload_n hx hb dX4_append_46 rfl (lv_at hl 0 rfl) ?_
  refine gC_2_0 Z hP kf_X4_9 dX4_append_47 ?_
  refine zr_top (w := .int (zI ((σ.1 5 : Nat) : Int))) rfl ?_
  refine lv_iload hx hb dX4_append_50 (lv_at hl 4 rfl) ?_
  refine stM (ws1 := wC G q (sA (sI (sL (sL σ 1 (va_up (σ.2.2.2 1) (σ.1 5) (al))) 2 (va_up (σ.2.2.2 2) (σ.1 5) (an))) 1 (va_up (σ.2.2.1 1) (σ.1 5) (sr))) 18 (va_up (σ.2.1 18) (σ.1 5) (tg))) κ) Z hP hD hS 21 (σ.2.1 18) rfl (σ.1 5) rfl (by omega) (by decide) (tg) rfl rfl dX4_append_52 (fun H locs hP hD hS => ?_)
  refine lv_aload_n hx hb dX4_append_53 rfl (lv_at hl 0 rfl) ?_
  refine gC_2_5 Z hP kf_X4_29 dX4_append_54 ?_
  refine lv_aload_n hx hb dX4_append_57 rfl (lv_at hl 0 rfl) ?_
  refine gC_2_0 Z hP kf_X4_9 dX4_append_58 ?_
  refine zr_top (w := .int (zI ((σ.1 5 : Nat) : Int))) rfl ?_
  refine lv_iload hx hb dX4_append_61 (lv_at hl 5 rfl) ?_
  refine stN (ws1 := wC G q (sA (sA (sI (sL (sL σ 1 (va_up (σ.2.2.2 1) (σ.1 5) (al))) 2 (va_up (σ.2.2.2 2) (σ.1 5) (an))) 1 (va_up (σ.2.2.1 1) (σ.1 5) (sr))) 18 (va_up (σ.2.1 18) (σ.1 5) (tg))) 9 (va_up (σ.2.1 9) (σ.1 5) (ac))) κ) Z hP hD hS 22 (σ.2.1 9) rfl (σ.1 5) rfl (by omega) (by decide) (ac) rfl rfl dX4_append_63 (fun H locs hP hD hS => ?_)
  refine lv_aload_n hx hb dX4_append_64 rfl (lv_at hl 0 rfl) ?_
  refine lv_dup hx hb dX4_append_65 rfl ?_
  refine gC_2_0 Z hP kf_X4_9 dX4_append_66 ?_
  refine zr_top (w := .int (zI ((σ.1 5 : Nat) : Int))) rfl ?_
  refine zr_iconst hx hb dX4_append_69 ?_
  refine zr_iadd hx hb dX4_append_70 ?_
  refine pC_2_0 Z hP hD hS ((σ.1 5 + 1)) (by omega) kf_X4_9 dX4_append_71 (fun H locs hP hD hS => ?_)
  refine lv_aload_n hx hb dX4_append_74 rfl (lv_at hl 0 rfl) ?_
  refine gC_2_0 Z hP kf_X4_9 dX4_append_75 ?_
  refine zr_top (w := .int (zI (((σ.1 5 + 1) : Nat) : Int))) rfl ?_
  refine zr_iconst hx hb dX4_append_78 ?_
  refine zr_isub hx hb dX4_append_79 ?_
  exact zret_I () Z hr hP hD hS (congrArg zI (by show ((σ.1 5 + 1 : Nat) : Int) - 1 = _; omega)) rfl ⟨Nat.le_refl _, Nat.le_refl _⟩ hQ dX4_append_80
abbrev r_X4_append_full : Room := { frames := 0, cells := 0, slots := 0, locals := 0 }
set_option maxHeartbeats 4000000 in
set_option maxRecDepth 100000 in
theorem m_X4_append_full (l : Launch) (G : ZG) (q : Nat → Nat) (σ : St) (κ : KC) (al : Int64) (an : Int64) (sr : Int32) (tg : Int) (ac : Int) (h1 : σ.1 5 = 6) :
    MC l G yX4_append (wY yX4_append cX4_append 8 (some .int)) r_X4_append_full (wC G q σ κ) [.ref (q 2), .long (al), .long (an), .int (sr), .int (zI (tg : Int)), .int (zI (ac : Int))] (QI G (fun r9 (_ : Unit) => r9 = (zI (-1 : Int))) (fun _ => wC G q σ κ)) := by
  refine MC.mk (by decide +kernel) (Nat.le_of_ble_eq_true rfl) ?_
  intro p e s m av below meth c A H locs ls Q Z hr hnm hQ hP hD hS hl
  have hx := Z.1
  have hb := Z.2.1
  have hown := Z.2.2.2.1
  have hW := Z.2.2.2.2.1
  have hl : lv_has ls 8 [(0, .ref (q 2)), (1, .long (al)), (3, .long (an)), (5, .int (sr)), (6, .int (zI (tg : Int))), (7, .int (zI (ac : Int)))] := hl
  refine lv_aload_n hx hb dX4_append_0 rfl (lv_at hl 0 rfl) ?_
  refine gC_2_0 Z hP kf_X4_9 dX4_append_1 ?_
  refine zr_bipush hx hb dX4_append_4 (by decide) ?_
  refine zc_lt (tgt := 11) hx hb ((σ.1 5 : Nat) : Int) (6 : Int) (zI_toInt (by omega)) (zI_toInt (by decide)) dX4_append_6 (by decide) (fun c6 => by exfalso; omega) (fun c6 => ?_)
  refine zr_iconst hx hb dX4_append_9 ?_
  exact zret_I () Z hr hP hD hS rfl rfl ⟨Nat.le_refl _, Nat.le_refl _⟩ hQ dX4_append_10
abbrev r_X3_append : Room := { frames := 0, cells := 0, slots := 0, locals := 0 }
set_option maxHeartbeats 4000000 in
set_option maxRecDepth 100000 in
theorem m_X3_append (l : Launch) (G : ZG) (q : Nat → Nat) (σ : St) (κ : KC) (sr : Int32) {e_tg : Int} (tg : Nat) (he_tg : e_tg = (tg : Int) - 1) (h1 : σ.1 6 < 4) :
    MC l G yX3_append (wY yX3_append cX3_append 3 (some .int)) r_X3_append (wC G q σ κ) [.ref (q 3), .int (sr), .int (zI e_tg)] (QI G (fun r9 (_ : Unit) => r9 = (zI ((σ.1 6 : Nat) : Int))) (fun _ => wC G q (addV σ sr tg) κ)) := by
  subst he_tg
  refine MC.mk (by decide +kernel) (Nat.le_of_ble_eq_true rfl) ?_
  intro p e s m av below meth c A H locs ls Q Z hr hnm hQ hP hD hS hl
  have hx := Z.1
  have hb := Z.2.1
  have hown := Z.2.2.2.1
  have hW := Z.2.2.2.2.1
  have hl : lv_has ls 3 [(0, .ref (q 3)), (1, .int (sr)), (2, .int (zI (((tg : Nat) : Int) - (1 : Int))))] := hl
  refine lv_aload_n hx hb dX3_append_0 rfl (lv_at hl 0 rfl) ?_
  refine gC_3_0 Z hP kf_X3_9 dX3_append_1 ?_
  refine zr_iconst hx hb dX3_append_4 ?_
  refine zc_lt (tgt := 10) hx hb ((σ.1 6 : Nat) : Int) (4 : Int) (zI_toInt (by omega)) (zI_toInt (by decide)) dX3_append_5 (by decide) (fun c5 => ?_) (fun c5 => by exfalso; omega)
  refine lv_aload_n hx hb dX3_append_10 rfl (lv_at hl 0 rfl) ?_
  refine gC_3_1 Z hP kf_X3_15 dX3_append_11 ?_
  refine lv_aload_n hx hb dX3_append_14 rfl (lv_at hl 0 rfl) ?_
  refine gC_3_0 Z hP kf_X3_9 dX3_append_15 ?_
  refine lv_iload_n hx hb dX3_append_18 rfl (lv_at hl 1 rfl) ?_
  refine stI (ws1 := wC G q (sI σ 2 (va_up (σ.2.2.1 2) (σ.1 6) (sr))) κ) Z hP hD hS 23 (σ.2.2.1 2) rfl (σ.1 6) rfl (by omega) (by decide) rfl dX3_append_19 (fun H locs hP hD hS => ?_)
  refine lv_aload_n hx hb dX3_append_20 rfl (lv_at hl 0 rfl) ?_
  refine gC_3_2 Z hP kf_X3_19 dX3_append_21 ?_
  refine lv_aload_n hx hb dX3_append_24 rfl (lv_at hl 0 rfl) ?_
  refine gC_3_0 Z hP kf_X3_9 dX3_append_25 ?_
  refine zr_top (w := .int (zI ((σ.1 6 : Nat) : Int))) rfl ?_
  refine lv_iload_n hx hb dX3_append_28 rfl (lv_at hl 2 rfl) ?_
  refine stM (ws1 := wC G q (sA (sI σ 2 (va_up (σ.2.2.1 2) (σ.1 6) (sr))) 19 (va_up (σ.2.1 19) (σ.1 6) (tg))) κ) Z hP hD hS 24 (σ.2.1 19) rfl (σ.1 6) rfl (by omega) (by decide) (tg) rfl rfl dX3_append_29 (fun H locs hP hD hS => ?_)
  refine lv_aload_n hx hb dX3_append_30 rfl (lv_at hl 0 rfl) ?_
  refine lv_dup hx hb dX3_append_31 rfl ?_
  refine gC_3_0 Z hP kf_X3_9 dX3_append_32 ?_
  refine zr_top (w := .int (zI ((σ.1 6 : Nat) : Int))) rfl ?_
  refine zr_iconst hx hb dX3_append_35 ?_
  refine zr_iadd hx hb dX3_append_36 ?_
  refine pC_3_0 Z hP hD hS ((σ.1 6 + 1)) (by omega) kf_X3_9 dX3_append_37 (fun H locs hP hD hS => ?_)
  refine lv_aload_n hx hb dX3_append_40 rfl (lv_at hl 0 rfl) ?_
  refine gC_3_0 Z hP kf_X3_9 dX3_append_41 ?_
  refine zr_top (w := .int (zI (((σ.1 6 + 1) : Nat) : Int))) rfl ?_
  refine zr_iconst hx hb dX3_append_44 ?_
  refine zr_isub hx hb dX3_append_45 ?_
  exact zret_I () Z hr hP hD hS (congrArg zI (by show ((σ.1 6 + 1 : Nat) : Int) - 1 = _; omega)) rfl ⟨Nat.le_refl _, Nat.le_refl _⟩ hQ dX3_append_46
abbrev r_X3_append_full : Room := { frames := 0, cells := 0, slots := 0, locals := 0 }
set_option maxHeartbeats 4000000 in
set_option maxRecDepth 100000 in
theorem m_X3_append_full (l : Launch) (G : ZG) (q : Nat → Nat) (σ : St) (κ : KC) (sr : Int32) (tg : Int) (h1 : σ.1 6 = 4) :
    MC l G yX3_append (wY yX3_append cX3_append 3 (some .int)) r_X3_append_full (wC G q σ κ) [.ref (q 3), .int (sr), .int (zI (tg : Int))] (QI G (fun r9 (_ : Unit) => r9 = (zI (-1 : Int))) (fun _ => wC G q σ κ)) := by
  refine MC.mk (by decide +kernel) (Nat.le_of_ble_eq_true rfl) ?_
  intro p e s m av below meth c A H locs ls Q Z hr hnm hQ hP hD hS hl
  have hx := Z.1
  have hb := Z.2.1
  have hown := Z.2.2.2.1
  have hW := Z.2.2.2.2.1
  have hl : lv_has ls 3 [(0, .ref (q 3)), (1, .int (sr)), (2, .int (zI (tg : Int)))] := hl
  refine lv_aload_n hx hb dX3_append_0 rfl (lv_at hl 0 rfl) ?_
  refine gC_3_0 Z hP kf_X3_9 dX3_append_1 ?_
  refine zr_iconst hx hb dX3_append_4 ?_
  refine zc_lt (tgt := 10) hx hb ((σ.1 6 : Nat) : Int) (4 : Int) (zI_toInt (by omega)) (zI_toInt (by decide)) dX3_append_5 (by decide) (fun c5 => by exfalso; omega) (fun c5 => ?_)
  refine zr_iconst hx hb dX3_append_8 ?_
  exact zret_I () Z hr hP hD hS rfl rfl ⟨Nat.le_refl _, Nat.le_refl _⟩ hQ dX3_append_9
abbrev r_X4_remove : Room := { frames := 0, cells := 0, slots := 0, locals := 0 }
set_option maxHeartbeats 4000000 in
set_option maxRecDepth 100000 in
theorem m_X4_remove (l : Launch) (G : ZG) (q : Nat → Nat) (σ : St) (κ : KC) {e_r : Int} (r : Nat) (he_r : e_r = (r : Int)) (h1 : σ.1 5 ≤ 6) (h2 : r < σ.1 5) :
    MC l G yX4_remove (wY yX4_remove cX4_remove 3 none) r_X4_remove (wC G q σ κ) [.ref (q 2), .int (zI e_r)] (QV G (fun (_ : Unit) => True) (fun _ => wC G q (drp σ r (σ.1 5 - 1 - r)) κ)) := by
  subst he_r
  refine MC.mk (by decide +kernel) (Nat.le_of_ble_eq_true rfl) ?_
  intro p e s m av below meth c A H locs ls Q Z hr hnm hQ hP hD hS hl
  have hx := Z.1
  have hb := Z.2.1
  have hown := Z.2.2.2.1
  have hW := Z.2.2.2.2.1
  have hl : lv_has ls 3 [(0, .ref (q 2)), (1, .int (zI ((r : Nat) : Int)))] := hl
  refine lv_iload_n hx hb dX4_remove_0 rfl (lv_at hl 1 rfl) ?_
  refine lv_istore_n (lv' := [(2, .int (zI ((r : Nat) : Int))), (0, .ref (q 2)), (1, .int (zI ((r : Nat) : Int)))]) hx hb dX4_remove_1 rfl hl (by decide) rfl (fun ls hl => ?_)
  suffices LP2 : ∀ (f9 : Nat) (k : Nat), (σ.1 5 - 1 - r) < k + f9 → (k ≤ σ.1 5 - 1 - r) → ∀ (H : Heap) (locs : List Loc) (ls : Array Slot), va_P G.1 vwCl (wC G q (sA (sA (sI (sL (sL σ 1 (mvd (σ.2.2.2 1) r (k))) 2 (mvd (σ.2.2.2 2) r (k))) 1 (mvd (σ.2.2.1 1) r (k))) 18 (mvd (σ.2.1 18) r (k))) 9 (mvd (σ.2.1 9) r (k))) κ) H → va_D A (wC G q (sA (sA (sI (sL (sL σ 1 (mvd (σ.2.2.2 1) r (k))) 2 (mvd (σ.2.2.2 2) r (k))) 1 (mvd (σ.2.2.1 1) r (k))) 18 (mvd (σ.2.1 18) r (k))) 9 (mvd (σ.2.1 9) r (k))) κ) → va_S A s.heap H locs → lv_has ls 3 [(2, .int (zI ((r + k : Nat) : Int))), (0, .ref (q 2)), (1, .int (zI ((r : Nat) : Int)))] → W p l e r_X4_remove s m av below meth c H locs 0 0 Q (F0 m 2 ls []) from LP2 ((σ.1 5 - 1 - r) + 1) (0) (by omega) (by omega) _ _ _ hP hD hS (lv_sub hl [0, 1, 2] rfl)
  intro f9
  induction f9 with
  | zero => intro k hf9 hk; exfalso; omega
  | succ f9 ih2 =>
    intro k hf9 hk H locs ls hP hD hS hl
    refine lv_iload_n hx hb dX4_remove_2 rfl (lv_at hl 0 rfl) ?_
    refine lv_aload_n hx hb dX4_remove_3 rfl (lv_at hl 1 rfl) ?_
    refine gC_2_0 Z hP kf_X4_9 dX4_remove_4 ?_
    refine zr_top (w := .int (zI ((σ.1 5 : Nat) : Int))) rfl ?_
    refine zr_iconst hx hb dX4_remove_7 ?_
    refine zr_isub hx hb dX4_remove_8 ?_
    refine zc_ge (tgt := 88) hx hb ((r + k : Nat) : Int) (((σ.1 5 : Nat) : Int) - (1 : Int)) (zI_toInt (by omega)) (zI_toInt (by omega)) dX4_remove_9 (by decide) (fun c9 => ?_) (fun c9 => ?_)
    · skip
      refine lv_aload_n hx hb dX4_remove_88 rfl (lv_at hl 1 rfl) ?_
      refine lv_dup hx hb dX4_remove_89 rfl ?_
      refine gC_2_0 Z hP kf_X4_9 dX4_remove_90 ?_
      refine zr_top (w := .int (zI ((σ.1 5 : Nat) : Int))) rfl ?_
      refine zr_iconst hx hb dX4_remove_93 ?_
      refine zr_isub hx hb dX4_remove_94 ?_
      refine pC_2_0 Z hP hD hS (σ.1 5 - 1) (by omega) kf_X4_9 dX4_remove_95 (fun H locs hP hD hS => ?_)
      exact zret_V () Z hr hP hD hS trivial (by rw [show k = σ.1 5 - 1 - r from by omega]; rfl) ⟨Nat.le_refl _, Nat.le_refl _⟩ hQ dX4_remove_98
    · skip
      refine lv_aload_n hx hb dX4_remove_12 rfl (lv_at hl 1 rfl) ?_
      refine gC_2_1 Z hP kf_X4_15 dX4_remove_13 ?_
      refine lv_iload_n hx hb dX4_remove_16 rfl (lv_at hl 0 rfl) ?_
      refine lv_aload_n hx hb dX4_remove_17 rfl (lv_at hl 1 rfl) ?_
      refine gC_2_1 Z hP kf_X4_15 dX4_remove_18 ?_
      refine lv_iload_n hx hb dX4_remove_21 rfl (lv_at hl 0 rfl) ?_
      refine zr_iconst hx hb dX4_remove_22 ?_
      refine zr_iadd hx hb dX4_remove_23 ?_
      refine ldL Z hP 18 (mvd (σ.2.2.2 1) r k) rfl ((r + k + 1)) (by omega) (by omega) (by decide) dX4_remove_24 ?_
      refine stL (ws1 := wC G q (sL (sA (sA (sI (sL (sL σ 1 (mvd (σ.2.2.2 1) r (k))) 2 (mvd (σ.2.2.2 2) r (k))) 1 (mvd (σ.2.2.1 1) r (k))) 18 (mvd (σ.2.1 18) r (k))) 9 (mvd (σ.2.1 9) r (k))) 1 (va_up (mvd (σ.2.2.2 1) r k) (r + k) ((mvd (σ.2.2.2 1) r k) ((r + k + 1))))) κ) Z hP hD hS 18 (mvd (σ.2.2.2 1) r k) rfl (r + k) rfl (by omega) (by decide) rfl dX4_remove_25 (fun H locs hP hD hS => ?_)
      refine lv_aload_n hx hb dX4_remove_26 rfl (lv_at hl 1 rfl) ?_
      refine gC_2_2 Z hP kf_X4_19 dX4_remove_27 ?_
      refine lv_iload_n hx hb dX4_remove_30 rfl (lv_at hl 0 rfl) ?_
      refine lv_aload_n hx hb dX4_remove_31 rfl (lv_at hl 1 rfl) ?_
      refine gC_2_2 Z hP kf_X4_19 dX4_remove_32 ?_
      refine lv_iload_n hx hb dX4_remove_35 rfl (lv_at hl 0 rfl) ?_
      refine zr_iconst hx hb dX4_remove_36 ?_
      refine zr_iadd hx hb dX4_remove_37 ?_
      refine ldL Z hP 19 (mvd (σ.2.2.2 2) r k) rfl ((r + k + 1)) (by omega) (by omega) (by decide) dX4_remove_38 ?_
      refine stL (ws1 := wC G q (sL (sL (sA (sA (sI (sL (sL σ 1 (mvd (σ.2.2.2 1) r (k))) 2 (mvd (σ.2.2.2 2) r (k))) 1 (mvd (σ.2.2.1 1) r (k))) 18 (mvd (σ.2.1 18) r (k))) 9 (mvd (σ.2.1 9) r (k))) 1 (va_up (mvd (σ.2.2.2 1) r k) (r + k) ((mvd (σ.2.2.2 1) r k) ((r + k + 1))))) 2 (va_up (mvd (σ.2.2.2 2) r k) (r + k) ((mvd (σ.2.2.2 2) r k) ((r + k + 1))))) κ) Z hP hD hS 19 (mvd (σ.2.2.2 2) r k) rfl (r + k) rfl (by omega) (by decide) rfl dX4_remove_39 (fun H locs hP hD hS => ?_)
      refine lv_aload_n hx hb dX4_remove_40 rfl (lv_at hl 1 rfl) ?_
      refine gC_2_3 Z hP kf_X4_22 dX4_remove_41 ?_
      refine lv_iload_n hx hb dX4_remove_44 rfl (lv_at hl 0 rfl) ?_
      refine lv_aload_n hx hb dX4_remove_45 rfl (lv_at hl 1 rfl) ?_
      refine gC_2_3 Z hP kf_X4_22 dX4_remove_46 ?_
      refine lv_iload_n hx hb dX4_remove_49 rfl (lv_at hl 0 rfl) ?_
      refine zr_iconst hx hb dX4_remove_50 ?_
      refine zr_iadd hx hb dX4_remove_51 ?_
      refine ldI Z hP 20 (mvd (σ.2.2.1 1) r k) rfl ((r + k + 1)) (by omega) (by omega) (by decide) dX4_remove_52 ?_
      refine stI (ws1 := wC G q (sI (sL (sL (sA (sA (sI (sL (sL σ 1 (mvd (σ.2.2.2 1) r (k))) 2 (mvd (σ.2.2.2 2) r (k))) 1 (mvd (σ.2.2.1 1) r (k))) 18 (mvd (σ.2.1 18) r (k))) 9 (mvd (σ.2.1 9) r (k))) 1 (va_up (mvd (σ.2.2.2 1) r k) (r + k) ((mvd (σ.2.2.2 1) r k) ((r + k + 1))))) 2 (va_up (mvd (σ.2.2.2 2) r k) (r + k) ((mvd (σ.2.2.2 2) r k) ((r + k + 1))))) 1 (va_up (mvd (σ.2.2.1 1) r k) (r + k) ((mvd (σ.2.2.1 1) r k) ((r + k + 1))))) κ) Z hP hD hS 20 (mvd (σ.2.2.1 1) r k) rfl (r + k) rfl (by omega) (by decide) rfl dX4_remove_53 (fun H locs hP hD hS => ?_)
      refine lv_aload_n hx hb dX4_remove_54 rfl (lv_at hl 1 rfl) ?_
      refine gC_2_4 Z hP kf_X4_26 dX4_remove_55 ?_
      refine lv_iload_n hx hb dX4_remove_58 rfl (lv_at hl 0 rfl) ?_
      refine lv_aload_n hx hb dX4_remove_59 rfl (lv_at hl 1 rfl) ?_
      refine gC_2_4 Z hP kf_X4_26 dX4_remove_60 ?_
      refine lv_iload_n hx hb dX4_remove_63 rfl (lv_at hl 0 rfl) ?_
      refine zr_iconst hx hb dX4_remove_64 ?_
      refine zr_iadd hx hb dX4_remove_65 ?_
      refine ldM Z hP 21 (mvd (σ.2.1 18) r k) rfl ((r + k + 1)) (by omega) (by omega) (by decide) dX4_remove_66 ?_
      refine stM (ws1 := wC G q (sA (sI (sL (sL (sA (sA (sI (sL (sL σ 1 (mvd (σ.2.2.2 1) r (k))) 2 (mvd (σ.2.2.2 2) r (k))) 1 (mvd (σ.2.2.1 1) r (k))) 18 (mvd (σ.2.1 18) r (k))) 9 (mvd (σ.2.1 9) r (k))) 1 (va_up (mvd (σ.2.2.2 1) r k) (r + k) ((mvd (σ.2.2.2 1) r k) ((r + k + 1))))) 2 (va_up (mvd (σ.2.2.2 2) r k) (r + k) ((mvd (σ.2.2.2 2) r k) ((r + k + 1))))) 1 (va_up (mvd (σ.2.2.1 1) r k) (r + k) ((mvd (σ.2.2.1 1) r k) ((r + k + 1))))) 18 (va_up (mvd (σ.2.1 18) r k) (r + k) ((mvd (σ.2.1 18) r k) ((r + k + 1))))) κ) Z hP hD hS 21 (mvd (σ.2.1 18) r k) rfl (r + k) rfl (by omega) (by decide) ((mvd (σ.2.1 18) r k) ((r + k + 1))) rfl rfl dX4_remove_67 (fun H locs hP hD hS => ?_)
      refine lv_aload_n hx hb dX4_remove_68 rfl (lv_at hl 1 rfl) ?_
      refine gC_2_5 Z hP kf_X4_29 dX4_remove_69 ?_
      refine lv_iload_n hx hb dX4_remove_72 rfl (lv_at hl 0 rfl) ?_
      refine lv_aload_n hx hb dX4_remove_73 rfl (lv_at hl 1 rfl) ?_
      refine gC_2_5 Z hP kf_X4_29 dX4_remove_74 ?_
      refine lv_iload_n hx hb dX4_remove_77 rfl (lv_at hl 0 rfl) ?_
      refine zr_iconst hx hb dX4_remove_78 ?_
      refine zr_iadd hx hb dX4_remove_79 ?_
      refine ldN Z hP 22 (mvd (σ.2.1 9) r k) rfl ((r + k + 1)) (by omega) (by omega) (by decide) dX4_remove_80 ?_
      refine stN (ws1 := wC G q (sA (sA (sI (sL (sL (sA (sA (sI (sL (sL σ 1 (mvd (σ.2.2.2 1) r (k))) 2 (mvd (σ.2.2.2 2) r (k))) 1 (mvd (σ.2.2.1 1) r (k))) 18 (mvd (σ.2.1 18) r (k))) 9 (mvd (σ.2.1 9) r (k))) 1 (va_up (mvd (σ.2.2.2 1) r k) (r + k) ((mvd (σ.2.2.2 1) r k) ((r + k + 1))))) 2 (va_up (mvd (σ.2.2.2 2) r k) (r + k) ((mvd (σ.2.2.2 2) r k) ((r + k + 1))))) 1 (va_up (mvd (σ.2.2.1 1) r k) (r + k) ((mvd (σ.2.2.1 1) r k) ((r + k + 1))))) 18 (va_up (mvd (σ.2.1 18) r k) (r + k) ((mvd (σ.2.1 18) r k) ((r + k + 1))))) 9 (va_up (mvd (σ.2.1 9) r k) (r + k) ((mvd (σ.2.1 9) r k) ((r + k + 1))))) κ) Z hP hD hS 22 (mvd (σ.2.1 9) r k) rfl (r + k) rfl (by omega) (by decide) ((mvd (σ.2.1 9) r k) ((r + k + 1))) rfl rfl dX4_remove_81 (fun H locs hP hD hS => ?_)
      refine zr_iinc (lv' := [(2, .int (zI (((r + k : Nat) : Int) + (1 : Int)))), (0, .ref (q 2)), (1, .int (zI ((r : Nat) : Int)))]) hx hb 0 dX4_remove_82 hl rfl (by decide) rfl (fun ls hl => ?_)
      refine lv_goto (tgt := 2) hx hb dX4_remove_85 (by decide) ?_
      have hw9 : wC G q (sA (sA (sI (sL (sL (sA (sA (sI (sL (sL σ 1 (mvd (σ.2.2.2 1) r (k))) 2 (mvd (σ.2.2.2 2) r (k))) 1 (mvd (σ.2.2.1 1) r (k))) 18 (mvd (σ.2.1 18) r (k))) 9 (mvd (σ.2.1 9) r (k))) 1 (va_up (mvd (σ.2.2.2 1) r k) (r + k) ((mvd (σ.2.2.2 1) r k) ((r + k + 1))))) 2 (va_up (mvd (σ.2.2.2 2) r k) (r + k) ((mvd (σ.2.2.2 2) r k) ((r + k + 1))))) 1 (va_up (mvd (σ.2.2.1 1) r k) (r + k) ((mvd (σ.2.2.1 1) r k) ((r + k + 1))))) 18 (va_up (mvd (σ.2.1 18) r k) (r + k) ((mvd (σ.2.1 18) r k) ((r + k + 1))))) 9 (va_up (mvd (σ.2.1 9) r k) (r + k) ((mvd (σ.2.1 9) r k) ((r + k + 1))))) κ = wC G q (sA (sA (sI (sL (sL σ 1 (mvd (σ.2.2.2 1) r (k + 1))) 2 (mvd (σ.2.2.2 2) r (k + 1))) 1 (mvd (σ.2.2.1 1) r (k + 1))) 18 (mvd (σ.2.1 18) r (k + 1))) 9 (mvd (σ.2.1 9) r (k + 1))) κ := rfl
      rw [hw9] at hP hD
      exact ih2 (k + 1) (by omega) (by omega) _ _ _ hP hD hS (lv_sub hl [0, 1, 2] rfl)
abbrev r_X5_isReadByReader : Room := { frames := 1, cells := 0, slots := 0, locals := 24 }
set_option maxHeartbeats 4000000 in
set_option maxRecDepth 100000 in
theorem m_X5_isReadByReader (l : Launch) (G : ZG) (q : Nat → Nat) (σ : St) (κ : KC) {e_i : Int} (i : Nat) (he_i : e_i = (i : Int)) (hI : okC σ) (h1 : i < σ.1 4) :
    MC l G yX5_isReadByReader (wY yX5_isReadByReader cX5_isReadByReader 2 (some .boolean)) r_X5_isReadByReader (wC G q σ κ) [.ref (q 0), .int (zI e_i)] (QI G (fun r9 (_ : Unit) => r9 = (tB (rdR σ i))) (fun _ => wC G q σ κ)) := by
  subst he_i
  refine MC.mk (by decide +kernel) (Nat.le_of_ble_eq_true rfl) ?_
  intro p e s m av below meth c A H locs ls Q Z hr hnm hQ hP hD hS hl
  have hx := Z.1
  have hb := Z.2.1
  have hown := Z.2.2.2.1
  have hW := Z.2.2.2.2.1
  have hl : lv_has ls 2 [(0, .ref (q 0)), (1, .int (zI ((i : Nat) : Int)))] := hl
  obtain ⟨hn, hru, hrv, hdv, hsr, hmn, ht1, ht2, hwn, hv1, hv2, hmj, htm, hse, htg, hrt, hac, hk1, hk2, hkd, hmm, hmv, hord, hpo, hlo⟩ := id hI
  refine lv_aload_n hx hb dX5_isReadByReader_0 rfl (lv_at hl 0 rfl) ?_
  refine gC_0_8 Z hP kf_X5_53 dX5_isReadByReader_1 ?_
  refine zr_iconst hx hb dX5_isReadByReader_4 ?_
  refine lv_iload_n hx hb dX5_isReadByReader_5 rfl (lv_at hl 1 rfl) ?_
  refine lv_aload_n hx hb dX5_isReadByReader_6 rfl (lv_at hl 0 rfl) ?_
  refine gC_0_4 Z hP kf_X5_25 dX5_isReadByReader_7 ?_
  refine lv_iload_n hx hb dX5_isReadByReader_10 rfl (lv_at hl 1 rfl) ?_
  refine zdet_I ⟨rfl, rfl⟩ Z hD hS (zrunV (rest := [.int (zI ((i : Nat) : Int)), .int (zI (4 : Int)), .ref (q 5)]) Z hP hD hS hl.1 (m_X1_major l G q σ κ (i) rfl (by omega)) zY_X1_major km_X5_167 (q0 := 1) rfl rfl rfl rfl ⟨⟨Nat.le_of_ble_eq_true rfl, Nat.le_of_ble_eq_true rfl⟩, Nat.le_of_ble_eq_true rfl, Nat.le_of_ble_eq_true rfl⟩ (Nat.le_of_ble_eq_true rfl) dX5_isReadByReader_11) (fun H locs hP hD hS => ?_)
  refine zdet_I ⟨rfl, rfl⟩ Z hD hS (zrunV (rest := []) Z hP hD hS hl.1 (m_X2_saysRead l G q σ κ (4) (by omega) (i) rfl ((σ.2.1 3) i) rfl (by omega) (by omega) (by have := hkd (30 * 4 + i); omega) (hmv _) (hmj _)) zY_X2_saysRead km_X5_310 (q0 := 5) rfl rfl rfl rfl ⟨⟨Nat.le_of_ble_eq_true rfl, Nat.le_of_ble_eq_true rfl⟩, Nat.le_of_ble_eq_true rfl, Nat.le_of_ble_eq_true rfl⟩ (Nat.le_of_ble_eq_true rfl) dX5_isReadByReader_14) (fun H locs hP hD hS => ?_)
  exact zret_B () Z hr (tB_n _) hP hD hS rfl rfl ⟨Nat.le_refl _, Nat.le_refl _⟩ hQ dX5_isReadByReader_17
abbrev r_X5_isReadByDevice : Room := { frames := 1, cells := 0, slots := 0, locals := 24 }
set_option maxHeartbeats 4000000 in
set_option maxRecDepth 100000 in
theorem m_X5_isReadByDevice (l : Launch) (G : ZG) (q : Nat → Nat) (σ : St) (κ : KC) {e_d : Int} (d : Nat) (he_d : e_d = (d : Int)) {e_i : Int} (i : Nat) (he_i : e_i = (i : Int)) (hI : okC σ) (h1 : i < 30) (h2 : d < 4) :
    MC l G yX5_isReadByDevice (wY yX5_isReadByDevice cX5_isReadByDevice 3 (some .boolean)) r_X5_isReadByDevice (wC G q σ κ) [.ref (q 0), .int (zI e_d), .int (zI e_i)] (QI G (fun r9 (_ : Unit) => r9 = (tB (rdD σ d i))) (fun _ => wC G q σ κ)) := by
  subst he_d
  subst he_i
  refine MC.mk (by decide +kernel) (Nat.le_of_ble_eq_true rfl) ?_
  intro p e s m av below meth c A H locs ls Q Z hr hnm hQ hP hD hS hl
  have hx := Z.1
  have hb := Z.2.1
  have hown := Z.2.2.2.1
  have hW := Z.2.2.2.2.1
  have hl : lv_has ls 3 [(0, .ref (q 0)), (1, .int (zI ((d : Nat) : Int))), (2, .int (zI ((i : Nat) : Int)))] := hl
  obtain ⟨hn, hru, hrv, hdv, hsr, hmn, ht1, ht2, hwn, hv1, hv2, hmj, htm, hse, htg, hrt, hac, hk1, hk2, hkd, hmm, hmv, hord, hpo, hlo⟩ := id hI
  refine lv_aload_n hx hb dX5_isReadByDevice_0 rfl (lv_at hl 0 rfl) ?_
  refine gC_0_8 Z hP kf_X5_53 dX5_isReadByDevice_1 ?_
  refine lv_iload_n hx hb dX5_isReadByDevice_4 rfl (lv_at hl 1 rfl) ?_
  refine lv_iload_n hx hb dX5_isReadByDevice_5 rfl (lv_at hl 2 rfl) ?_
  refine lv_aload_n hx hb dX5_isReadByDevice_6 rfl (lv_at hl 0 rfl) ?_
  refine gC_0_7 Z hP kf_X5_46 dX5_isReadByDevice_7 ?_
  refine lv_iload_n hx hb dX5_isReadByDevice_10 rfl (lv_at hl 1 rfl) ?_
  refine lv_iload_n hx hb dX5_isReadByDevice_11 rfl (lv_at hl 2 rfl) ?_
  refine zdet_I ⟨rfl, rfl⟩ Z hD hS (zrunV (rest := [.int (zI ((i : Nat) : Int)), .int (zI ((d : Nat) : Int)), .ref (q 5)]) Z hP hD hS hl.1 (m_X0_major l G q σ κ (d) rfl (i) rfl (by omega) (by omega)) zY_X0_major km_X5_313 (q0 := 4) rfl rfl rfl rfl ⟨⟨Nat.le_of_ble_eq_true rfl, Nat.le_of_ble_eq_true rfl⟩, Nat.le_of_ble_eq_true rfl, Nat.le_of_ble_eq_true rfl⟩ (Nat.le_of_ble_eq_true rfl) dX5_isReadByDevice_12) (fun H locs hP hD hS => ?_)
  refine zdet_I ⟨rfl, rfl⟩ Z hD hS (zrunV (rest := []) Z hP hD hS hl.1 (m_X2_saysRead l G q σ κ (d) rfl (i) rfl ((σ.2.1 5) (30 * d + i)) rfl (by omega) (by omega) (by have := hkd (30 * d + i); omega) (hmv _) (hk2 _)) zY_X2_saysRead km_X5_310 (q0 := 5) rfl rfl rfl rfl ⟨⟨Nat.le_of_ble_eq_true rfl, Nat.le_of_ble_eq_true rfl⟩, Nat.le_of_ble_eq_true rfl, Nat.le_of_ble_eq_true rfl⟩ (Nat.le_of_ble_eq_true rfl) dX5_isReadByDevice_15) (fun H locs hP hD hS => ?_)
  exact zret_B () Z hr (tB_n _) hP hD hS rfl rfl ⟨Nat.le_refl _, Nat.le_refl _⟩ hQ dX5_isReadByDevice_18
abbrev r_X5_markKnown : Room := { frames := 2, cells := 0, slots := 0, locals := 46 }
set_option maxHeartbeats 4000000 in
set_option maxRecDepth 100000 in
theorem m_X5_markKnown (l : Launch) (G : ZG) (q : Nat → Nat) (σ : St) (κ : KC) {e_d : Int} (d : Nat) (he_d : e_d = (d : Int)) {e_i : Int} (i : Nat) (he_i : e_i = (i : Int)) (b : Bool) (hI : okC σ) (h1 : i < 30) (h2 : d < 4) (h3 : 0 < σ.2.1 4 (30 * d + i)) :
    MC l G yX5_markKnown (wY yX5_markKnown cX5_markKnown 5 (some .boolean)) r_X5_markKnown (wC G q σ κ) [.ref (q 0), .int (zI e_d), .int (zI e_i), .int (tB (b))] (QI G (fun r9 (_ : Unit) => r9 = (tB (rdD σ d i))) (fun _ => wC G q (mkS σ d i b) κ)) := by
  subst he_d
  subst he_i
  refine MC.mk (by decide +kernel) (Nat.le_of_ble_eq_true rfl) ?_
  intro p e s m av below meth c A H locs ls Q Z hr hnm hQ hP hD hS hl
  have hx := Z.1
  have hb := Z.2.1
  have hown := Z.2.2.2.1
  have hW := Z.2.2.2.2.1
  have hl : lv_has ls 5 [(0, .ref (q 0)), (1, .int (zI ((d : Nat) : Int))), (2, .int (zI ((i : Nat) : Int))), (3, .int (tB (b)))] := hl
  obtain ⟨hn, hru, hrv, hdv, hsr, hmn, ht1, ht2, hwn, hv1, hv2, hmj, htm, hse, htg, hrt, hac, hk1, hk2, hkd, hmm, hmv, hord, hpo, hlo⟩ := id hI
  refine lv_aload_n hx hb dX5_markKnown_0 rfl (lv_at hl 0 rfl) ?_
  refine lv_iload_n hx hb dX5_markKnown_1 rfl (lv_at hl 1 rfl) ?_
  refine lv_iload_n hx hb dX5_markKnown_2 rfl (lv_at hl 2 rfl) ?_
  refine zdet_I ⟨rfl, rfl⟩ Z hD hS (zrunV (rest := []) Z hP hD hS hl.1 (m_X5_isReadByDevice l G q σ κ (d) rfl (i) rfl hI (by omega) (by omega)) zY_X5_isReadByDevice km_X5_273 (q0 := 0) rfl rfl rfl rfl ⟨⟨Nat.le_of_ble_eq_true rfl, Nat.le_of_ble_eq_true rfl⟩, Nat.le_of_ble_eq_true rfl, Nat.le_of_ble_eq_true rfl⟩ (Nat.le_of_ble_eq_true rfl) dX5_markKnown_3) (fun H locs hP hD hS => ?_)
  refine lv_istore (lv' := [(4, .int (tB (rdD σ d i))), (0, .ref (q 0)), (1, .int (zI ((d : Nat) : Int))), (2, .int (zI ((i : Nat) : Int))), (3, .int (tB (b)))]) hx hb dX5_markKnown_6 hl (by decide) rfl (fun ls hl => ?_)
  refine lv_aload_n hx hb dX5_markKnown_8 rfl (lv_at hl 1 rfl) ?_
  refine gC_0_8 Z hP kf_X5_53 dX5_markKnown_9 ?_
  refine lv_iload_n hx hb dX5_markKnown_12 rfl (lv_at hl 2 rfl) ?_
  refine lv_iload_n hx hb dX5_markKnown_13 rfl (lv_at hl 3 rfl) ?_
  refine lv_iload_n hx hb dX5_markKnown_14 rfl (lv_at hl 4 rfl) ?_
  refine lv_aload_n hx hb dX5_markKnown_15 rfl (lv_at hl 1 rfl) ?_
  refine gC_0_0 Z hP kf_X5_9 dX5_markKnown_16 ?_
  refine lv_aload_n hx hb dX5_markKnown_19 rfl (lv_at hl 1 rfl) ?_
  refine gC_0_7 Z hP kf_X5_46 dX5_markKnown_20 ?_
  refine lv_iload_n hx hb dX5_markKnown_23 rfl (lv_at hl 2 rfl) ?_
  refine lv_iload_n hx hb dX5_markKnown_24 rfl (lv_at hl 3 rfl) ?_
  refine zdet_I ⟨rfl, rfl⟩ Z hD hS (zrunV (rest := [.int (zI ((σ.1 0 : Nat) : Int)), .int (tB (b)), .int (zI ((i : Nat) : Int)), .int (zI ((d : Nat) : Int)), .ref (q 5)]) Z hP hD hS hl.1 (m_X0_versionCount l G q σ κ (d) rfl (i) rfl (by omega) (by omega)) zY_X0_versionCount km_X5_276 (q0 := 4) rfl rfl rfl rfl ⟨⟨Nat.le_of_ble_eq_true rfl, Nat.le_of_ble_eq_true rfl⟩, Nat.le_of_ble_eq_true rfl, Nat.le_of_ble_eq_true rfl⟩ (Nat.le_of_ble_eq_true rfl) dX5_markKnown_25) (fun H locs hP hD hS => ?_)
  refine zr_iconst hx hb dX5_markKnown_28 ?_
  refine zr_isub hx hb dX5_markKnown_29 ?_
  refine zdet_V ⟨rfl, rfl⟩ Z hD hS (zrunV (rest := []) Z hP hD hS hl.1 (m_X2_put l G q σ κ (d) rfl (i) rfl (b) (σ.1 0) rfl ((σ.2.1 4 (30 * d + i) - 1)) (by omega) (by omega) (by omega)) zY_X2_put km_X5_315 (q0 := 5) rfl rfl rfl rfl ⟨⟨Nat.le_of_ble_eq_true rfl, Nat.le_of_ble_eq_true rfl⟩, Nat.le_of_ble_eq_true rfl, Nat.le_of_ble_eq_true rfl⟩ (Nat.le_of_ble_eq_true rfl) dX5_markKnown_30) (fun H locs hP hD hS => ?_)
  refine lv_iload hx hb dX5_markKnown_33 (lv_at hl 0 rfl) ?_
  exact zret_B () Z hr (tB_n _) hP hD hS rfl rfl ⟨Nat.le_refl _, Nat.le_refl _⟩ hQ dX5_markKnown_35
abbrev r_X5_bringUpToDate : Room := { frames := 1, cells := 0, slots := 0, locals := 25 }
set_option maxHeartbeats 4000000 in
set_option maxRecDepth 100000 in
theorem m_X5_bringUpToDate (l : Launch) (G : ZG) (q : Nat → Nat) (σ : St) (κ : KC) {e_d : Int} (d : Nat) (he_d : e_d = (d : Int)) {e_i : Int} (i : Nat) (he_i : e_i = (i : Int)) (h1 : i < 30) (h2 : d < 4) :
    MC l G yX5_bringUpToDate (wY yX5_bringUpToDate cX5_bringUpToDate 3 none) r_X5_bringUpToDate (wC G q σ κ) [.ref (q 0), .int (zI e_d), .int (zI e_i)] (QV G (fun (_ : Unit) => True) (fun _ => wC G q (bup σ d i) κ)) := by
  subst he_d
  subst he_i
  refine MC.mk (by decide +kernel) (Nat.le_of_ble_eq_true rfl) ?_
  intro p e s m av below meth c A H locs ls Q Z hr hnm hQ hP hD hS hl
  have hx := Z.1
  have hb := Z.2.1
  have hown := Z.2.2.2.1
  have hW := Z.2.2.2.2.1
  have hl : lv_has ls 3 [(0, .ref (q 0)), (1, .int (zI ((d : Nat) : Int))), (2, .int (zI ((i : Nat) : Int)))] := hl
  refine lv_aload_n hx hb dX5_bringUpToDate_0 rfl (lv_at hl 0 rfl) ?_
  refine gC_0_8 Z hP kf_X5_53 dX5_bringUpToDate_1 ?_
  refine zr_iconst hx hb dX5_bringUpToDate_4 ?_
  refine lv_iload_n hx hb dX5_bringUpToDate_5 rfl (lv_at hl 1 rfl) ?_
  refine lv_iload_n hx hb dX5_bringUpToDate_6 rfl (lv_at hl 2 rfl) ?_
  refine zdet_V ⟨rfl, rfl⟩ Z hD hS (zrunV (rest := []) Z hP hD hS hl.1 (m_X2_copy l G q σ κ (4) (by omega) (d) rfl (i) rfl (by omega) (by omega) (by omega)) zY_X2_copy km_X5_270 (q0 := 5) rfl rfl rfl rfl ⟨⟨Nat.le_of_ble_eq_true rfl, Nat.le_of_ble_eq_true rfl⟩, Nat.le_of_ble_eq_true rfl, Nat.le_of_ble_eq_true rfl⟩ (Nat.le_of_ble_eq_true rfl) dX5_bringUpToDate_7) (fun H locs hP hD hS => ?_)
  refine lv_aload_n hx hb dX5_bringUpToDate_10 rfl (lv_at hl 0 rfl) ?_
  refine gC_0_7 Z hP kf_X5_46 dX5_bringUpToDate_11 ?_
  refine lv_iload_n hx hb dX5_bringUpToDate_14 rfl (lv_at hl 1 rfl) ?_
  refine lv_iload_n hx hb dX5_bringUpToDate_15 rfl (lv_at hl 2 rfl) ?_
  refine lv_aload_n hx hb dX5_bringUpToDate_16 rfl (lv_at hl 0 rfl) ?_
  refine gC_0_4 Z hP kf_X5_25 dX5_bringUpToDate_17 ?_
  refine lv_iload_n hx hb dX5_bringUpToDate_20 rfl (lv_at hl 2 rfl) ?_
  refine zdet_I ⟨rfl, rfl⟩ Z hD hS (zrunV (rest := [.int (zI ((i : Nat) : Int)), .int (zI ((d : Nat) : Int)), .ref (q 4)]) Z hP hD hS hl.1 (m_X1_versionCount l G q (cpM σ 4 d i) κ (i) rfl (by omega)) zY_X1_versionCount km_X5_164 (q0 := 1) rfl rfl rfl rfl ⟨⟨Nat.le_of_ble_eq_true rfl, Nat.le_of_ble_eq_true rfl⟩, Nat.le_of_ble_eq_true rfl, Nat.le_of_ble_eq_true rfl⟩ (Nat.le_of_ble_eq_true rfl) dX5_bringUpToDate_21) (fun H locs hP hD hS => ?_)
  refine lv_aload_n hx hb dX5_bringUpToDate_24 rfl (lv_at hl 0 rfl) ?_
  refine gC_0_4 Z hP kf_X5_25 dX5_bringUpToDate_25 ?_
  refine lv_iload_n hx hb dX5_bringUpToDate_28 rfl (lv_at hl 2 rfl) ?_
  refine zdet_I ⟨rfl, rfl⟩ Z hD hS (zrunV (rest := [.int (zI (((((cpM σ 4 d i)).2.1 2) i : Nat) : Int)), .int (zI ((i : Nat) : Int)), .int (zI ((d : Nat) : Int)), .ref (q 4)]) Z hP hD hS hl.1 (m_X1_major l G q (cpM σ 4 d i) κ (i) rfl (by omega)) zY_X1_major km_X5_167 (q0 := 1) rfl rfl rfl rfl ⟨⟨Nat.le_of_ble_eq_true rfl, Nat.le_of_ble_eq_true rfl⟩, Nat.le_of_ble_eq_true rfl, Nat.le_of_ble_eq_true rfl⟩ (Nat.le_of_ble_eq_true rfl) dX5_bringUpToDate_29) (fun H locs hP hD hS => ?_)
  refine zdet_V ⟨rfl, rfl⟩ Z hD hS (zrunV (rest := []) Z hP hD hS hl.1 (m_X0_learn l G q (cpM σ 4 d i) κ (d) rfl (i) rfl ((((cpM σ 4 d i)).2.1 2) i) rfl ((((cpM σ 4 d i)).2.1 3) i) rfl (by omega) (by omega)) zY_X0_learn km_X5_319 (q0 := 4) rfl rfl rfl rfl ⟨⟨Nat.le_of_ble_eq_true rfl, Nat.le_of_ble_eq_true rfl⟩, Nat.le_of_ble_eq_true rfl, Nat.le_of_ble_eq_true rfl⟩ (Nat.le_of_ble_eq_true rfl) dX5_bringUpToDate_32) (fun H locs hP hD hS => ?_)
  exact zret_V () Z hr hP hD hS trivial rfl ⟨Nat.le_refl _, Nat.le_refl _⟩ hQ dX5_bringUpToDate_35
abbrev r_X5_countUnread : Room := { frames := 2, cells := 0, slots := 0, locals := 45 }
set_option maxHeartbeats 4000000 in
set_option maxRecDepth 100000 in
theorem m_X5_countUnread (l : Launch) (G : ZG) (q : Nat → Nat) (σ : St) (κ : KC) {e_sz : Int} (sz : Nat) (he_sz : e_sz = (sz : Int)) (hI : okC σ) (h1 : sz ≤ 30) (h2 : ∀ y9, y9 < sz → κ.1 y9 < σ.1 4) :
    MC l G yX5_countUnread (wY yX5_countUnread cX5_countUnread 4 (some .int)) r_X5_countUnread (wC G q σ κ) [.ref (q 0), .int (zI e_sz)] (QI G (fun r9 (_ : Unit) => r9 = (zI ((cnt (fun y9 => !rdR σ ((κ.1) y9)) sz : Nat) : Int))) (fun _ => wC G q σ κ)) := by
  subst he_sz
  refine MC.mk (by decide +kernel) (Nat.le_of_ble_eq_true rfl) ?_
  intro p e s m av below meth c A H locs ls Q Z hr hnm hQ hP hD hS hl
  have hx := Z.1
  have hb := Z.2.1
  have hown := Z.2.2.2.1
  have hW := Z.2.2.2.2.1
  have hl : lv_has ls 4 [(0, .ref (q 0)), (1, .int (zI ((sz : Nat) : Int)))] := hl
  obtain ⟨hn, hru, hrv, hdv, hsr, hmn, ht1, ht2, hwn, hv1, hv2, hmj, htm, hse, htg, hrt, hac, hk1, hk2, hkd, hmm, hmv, hord, hpo, hlo⟩ := id hI
  refine zr_iconst hx hb dX5_countUnread_0 ?_
  refine lv_istore_n (lv' := [(2, .int (zI (0 : Int))), (0, .ref (q 0)), (1, .int (zI ((sz : Nat) : Int)))]) hx hb dX5_countUnread_1 rfl hl (by decide) rfl (fun ls hl => ?_)
  refine zr_iconst hx hb dX5_countUnread_2 ?_
  refine lv_istore_n (lv' := [(3, .int (zI (0 : Int))), (2, .int (zI (0 : Int))), (0, .ref (q 0)), (1, .int (zI ((sz : Nat) : Int)))]) hx hb dX5_countUnread_3 rfl hl (by decide) rfl (fun ls hl => ?_)
  suffices LP4 : ∀ (f9 : Nat) (k : Nat), sz < k + f9 → (k ≤ sz) → ∀ (H : Heap) (locs : List Loc) (ls : Array Slot), va_P G.1 vwCl (wC G q σ κ) H → va_D A (wC G q σ κ) → va_S A s.heap H locs → lv_has ls 4 [(2, .int (zI ((cnt (fun y9 => !rdR σ ((κ.1) y9)) k : Nat) : Int))), (3, .int (zI ((k : Nat) : Int))), (0, .ref (q 0)), (1, .int (zI ((sz : Nat) : Int)))] → W p l e r_X5_countUnread s m av below meth c H locs 0 0 Q (F0 m 4 ls []) from LP4 (sz + 1) (0) (by omega) (by omega) _ _ _ hP hD hS (lv_sub hl [1, 0, 2, 3] rfl)
  intro f9
  induction f9 with
  | zero => intro k hf9 hk; exfalso; omega
  | succ f9 ih4 =>
    intro k hf9 hk H locs ls hP hD hS hl
    have hc9 := cnt_le (fun y9 => !rdR σ (κ.1 y9)) k
    refine lv_iload_n hx hb dX5_countUnread_4 rfl (lv_at hl 1 rfl) ?_
    refine lv_iload_n hx hb dX5_countUnread_5 rfl (lv_at hl 3 rfl) ?_
    refine zc_ge (tgt := 31) hx hb ((k : Nat) : Int) ((sz : Nat) : Int) (zI_toInt (by omega)) (zI_toInt (by omega)) dX5_countUnread_6 (by decide) (fun c6 => ?_) (fun c6 => ?_)
    · skip
      refine lv_iload_n hx hb dX5_countUnread_31 rfl (lv_at hl 0 rfl) ?_
      exact zret_I () Z hr hP hD hS (by
          have h9 : k = sz := by omega
          rw [h9]) rfl ⟨Nat.le_refl _, Nat.le_refl _⟩ hQ dX5_countUnread_32
    · skip
      refine lv_aload_n hx hb dX5_countUnread_9 rfl (lv_at hl 2 rfl) ?_
      refine lv_aload_n hx hb dX5_countUnread_10 rfl (lv_at hl 2 rfl) ?_
      refine gC_0_9 Z hP kf_X5_57 dX5_countUnread_11 ?_
      refine lv_iload_n hx hb dX5_countUnread_14 rfl (lv_at hl 1 rfl) ?_
      refine ldN Z hP 6 (κ.1) rfl (k) rfl (by omega) (by decide) dX5_countUnread_15 ?_
      refine zdet_I ⟨rfl, rfl⟩ Z hD hS (zrunV (rest := []) Z hP hD hS hl.1 (m_X5_isReadByReader l G q σ κ (κ.1 (k)) rfl hI (h2 _ (by omega))) zY_X5_isReadByReader km_X5_236 (q0 := 0) rfl rfl rfl rfl ⟨⟨Nat.le_of_ble_eq_true rfl, Nat.le_of_ble_eq_true rfl⟩, Nat.le_of_ble_eq_true rfl, Nat.le_of_ble_eq_true rfl⟩ (Nat.le_of_ble_eq_true rfl) dX5_countUnread_16) (fun H locs hP hD hS => ?_)
      refine zb_ne (tgt := 25) hx hb dX5_countUnread_19 (by decide) (fun c19 => ?_) (fun c19 => ?_)
      · skip
        refine zr_iinc (lv' := [(3, .int (zI (((k : Nat) : Int) + (1 : Int)))), (2, .int (zI ((cnt (fun y9 => !rdR σ ((κ.1) y9)) k : Nat) : Int))), (0, .ref (q 0)), (1, .int (zI ((sz : Nat) : Int)))]) hx hb 1 dX5_countUnread_25 hl rfl (by decide) rfl (fun ls hl => ?_)
        refine lv_goto (tgt := 4) hx hb dX5_countUnread_28 (by decide) ?_
        have h9 : cnt (fun y9 => !rdR σ (κ.1 y9)) (k + 1) = cnt (fun y9 => !rdR σ (κ.1 y9)) k := cnt_no (p := fun y9 => !rdR σ (κ.1 y9)) (show (!rdR σ (κ.1 k)) = false from by rw [c19]; rfl)
        exact ih4 (k + 1) (by omega) (by omega) _ _ _ hP hD hS (lv_sub hl [1, 0, 2, 3] (by rw [h9]; rfl))
      · skip
        refine zr_iinc (lv' := [(2, .int (zI (((cnt (fun y9 => !rdR σ ((κ.1) y9)) k : Nat) : Int) + (1 : Int)))), (3, .int (zI ((k : Nat) : Int))), (0, .ref (q 0)), (1, .int (zI ((sz : Nat) : Int)))]) hx hb 0 dX5_countUnread_22 hl rfl (by decide) rfl (fun ls hl => ?_)
        refine zr_iinc (lv' := [(3, .int (zI (((k : Nat) : Int) + (1 : Int)))), (2, .int (zI (((cnt (fun y9 => !rdR σ ((κ.1) y9)) k : Nat) : Int) + (1 : Int)))), (0, .ref (q 0)), (1, .int (zI ((sz : Nat) : Int)))]) hx hb 1 dX5_countUnread_25 hl rfl (by decide) rfl (fun ls hl => ?_)
        refine lv_goto (tgt := 4) hx hb dX5_countUnread_28 (by decide) ?_
        have h9 : cnt (fun y9 => !rdR σ (κ.1 y9)) (k + 1) = cnt (fun y9 => !rdR σ (κ.1 y9)) k + 1 := cnt_yes (p := fun y9 => !rdR σ (κ.1 y9)) (show (!rdR σ (κ.1 k)) = true from by rw [c19]; rfl)
        exact ih4 (k + 1) (by omega) (by omega) _ _ _ hP hD hS (lv_sub hl [1, 0, 2, 3] (by rw [h9]; rfl))
abbrev r_X5_timeFrom : Room := { frames := 0, cells := 0, slots := 0, locals := 0 }
set_option maxHeartbeats 4000000 in
set_option maxRecDepth 100000 in
theorem m_X5_timeFrom (l : Launch) (G : ZG) (q : Nat → Nat) (σ : St) (κ : KC) (td : Int) (hI : okC σ) (h1 : zR td) (h2 : -1 ≤ td) :
    MC l G yX5_timeFrom (wY yX5_timeFrom cX5_timeFrom 2 (some .int)) r_X5_timeFrom (wC G q σ κ) [.ref (q 0), .int (zI (td : Int))] (QI G (fun r9 (_ : Unit) => r9 = (zI ((tmF σ td : Nat) : Int))) (fun _ => wC G q σ κ)) := by
  refine MC.mk (by decide +kernel) (Nat.le_of_ble_eq_true rfl) ?_
  intro p e s m av below meth c A H locs ls Q Z hr hnm hQ hP hD hS hl
  have hx := Z.1
  have hb := Z.2.1
  have hown := Z.2.2.2.1
  have hW := Z.2.2.2.2.1
  have hl : lv_has ls 2 [(0, .ref (q 0)), (1, .int (zI (td : Int)))] := hl
  obtain ⟨hn, hru, hrv, hdv, hsr, hmn, ht1, ht2, hwn, hv1, hv2, hmj, htm, hse, htg, hrt, hac, hk1, hk2, hkd, hmm, hmv, hord, hpo, hlo⟩ := id hI
  refine lv_iload_n hx hb dX5_timeFrom_0 rfl (lv_at hl 1 rfl) ?_
  refine zr_iconst hx hb dX5_timeFrom_1 ?_
  refine zc_eq (tgt := 25) hx hb (td : Int) (-1 : Int) (zI_toInt (by omega)) (zI_toInt (by decide)) dX5_timeFrom_2 (by decide) (fun c2 => ?_) (fun c2 => ?_)
  · skip
    refine lv_aload_n hx hb dX5_timeFrom_25 rfl (lv_at hl 0 rfl) ?_
    refine gC_0_0 Z hP kf_X5_9 dX5_timeFrom_26 ?_
    exact zret_I () Z hr hP hD hS (congrArg zI (by unfold tmF; rw [if_pos (by omega)])) rfl ⟨Nat.le_refl _, Nat.le_refl _⟩ hQ dX5_timeFrom_29
  · skip
    refine lv_iload_n hx hb dX5_timeFrom_5 rfl (lv_at hl 1 rfl) ?_
    refine lv_aload_n hx hb dX5_timeFrom_6 rfl (lv_at hl 0 rfl) ?_
    refine gC_0_0 Z hP kf_X5_9 dX5_timeFrom_7 ?_
    refine zc_gt (tgt := 25) hx hb (td : Int) ((σ.1 0 : Nat) : Int) (zI_toInt (by omega)) (zI_toInt (by omega)) dX5_timeFrom_10 (by decide) (fun c10 => ?_) (fun c10 => ?_)
    · skip
      refine lv_aload_n hx hb dX5_timeFrom_25 rfl (lv_at hl 0 rfl) ?_
      refine gC_0_0 Z hP kf_X5_9 dX5_timeFrom_26 ?_
      exact zret_I () Z hr hP hD hS (congrArg zI (by unfold tmF; rw [if_pos (by omega)])) rfl ⟨Nat.le_refl _, Nat.le_refl _⟩ hQ dX5_timeFrom_29
    · skip
      refine lv_aload_n hx hb dX5_timeFrom_13 rfl (lv_at hl 0 rfl) ?_
      refine gC_0_0 Z hP kf_X5_9 dX5_timeFrom_14 ?_
      refine lv_iload_n hx hb dX5_timeFrom_17 rfl (lv_at hl 1 rfl) ?_
      refine zr_isub hx hb dX5_timeFrom_18 ?_
      refine zr_sipush hx hb dX5_timeFrom_19 (by decide) ?_
      refine zc_le (tgt := 30) hx hb (((σ.1 0 : Nat) : Int) - (td : Int)) (1440 : Int) (zI_toInt (by omega)) (zI_toInt (by decide)) dX5_timeFrom_22 (by decide) (fun c22 => ?_) (fun c22 => ?_)
      · skip
        refine lv_iload_n hx hb dX5_timeFrom_30 rfl (lv_at hl 1 rfl) ?_
        exact zret_I () Z hr hP hD hS (congrArg zI (by unfold tmF; rw [if_neg (by omega)]; omega)) rfl ⟨Nat.le_refl _, Nat.le_refl _⟩ hQ dX5_timeFrom_31
      · skip
        refine lv_aload_n hx hb dX5_timeFrom_25 rfl (lv_at hl 0 rfl) ?_
        refine gC_0_0 Z hP kf_X5_9 dX5_timeFrom_26 ?_
        exact zret_I () Z hr hP hD hS (congrArg zI (by unfold tmF; rw [if_pos (by omega)])) rfl ⟨Nat.le_refl _, Nat.le_refl _⟩ hQ dX5_timeFrom_29
abbrev r_X5_findFetched : Room := { frames := 5, cells := 0, slots := 0, locals := 114 }
set_option maxHeartbeats 4000000 in
set_option maxRecDepth 100000 in
theorem m_X5_findFetched (l : Launch) (G : ZG) (q : Nat → Nat) (σ : St) (κ : KC) {e_sr : Int} (sr : Nat) (he_sr : e_sr = (sr : Int)) (idn : Int) (lk : Int) (t : Int64) (hI : okC σ) (h1 : sr < 6) (h2 : zR idn) (h3 : zR lk) :
    MC l G yX5_findFetched (wY yX5_findFetched cX5_findFetched 7 (some .int)) r_X5_findFetched (wC G q σ κ) [.ref (q 0), .int (zI e_sr), .int (zI (idn : Int)), .int (zI (lk : Int)), .long (t)] (QI G (fun r9 (_ : Unit) => r9 = (zI (fnd σ ((sr : Nat) : Int) idn lk t : Int))) (fun _ => wC G q σ κ)) := by
  subst he_sr
  refine MC.mk (by decide +kernel) (Nat.le_of_ble_eq_true rfl) ?_
  intro p e s m av below meth c A H locs ls Q Z hr hnm hQ hP hD hS hl
  have hx := Z.1
  have hb := Z.2.1
  have hown := Z.2.2.2.1
  have hW := Z.2.2.2.2.1
  have hl : lv_has ls 7 [(0, .ref (q 0)), (1, .int (zI ((sr : Nat) : Int))), (2, .int (zI (idn : Int))), (3, .int (zI (lk : Int))), (4, .long (t))] := hl
  obtain ⟨hn, hru, hrv, hdv, hsr, hmn, ht1, ht2, hwn, hv1, hv2, hmj, htm, hse, htg, hrt, hac, hk1, hk2, hkd, hmm, hmv, hord, hpo, hlo⟩ := id hI
  have ho9 : zR (own σ ((sr : Nat) : Int) idn) := by
    have := hpo (1000 * ((sr : Nat) : Int).toNat + idn.toNat)
    unfold own; split <;> omega
  have ho8 : zR (ownL σ lk) := by
    have := hlo lk.toNat
    unfold ownL; split <;> omega
  have ho7 := bst_in σ t (((σ.1 0 : Nat) : Int) - ((σ.1 2 : Nat) : Int)) (σ.1 1) (σ.1 4)
  refine lv_aload_n hx hb dX5_findFetched_0 rfl (lv_at hl 0 rfl) ?_
  refine gC_0_4 Z hP kf_X5_25 dX5_findFetched_1 ?_
  refine lv_iload_n hx hb dX5_findFetched_4 rfl (lv_at hl 1 rfl) ?_
  refine lv_iload_n hx hb dX5_findFetched_5 rfl (lv_at hl 2 rfl) ?_
  refine zdet_I ⟨rfl, rfl⟩ Z hD hS (zrunV (rest := []) Z hP hD hS hl.1 (m_X1_ownerOfPair l G q σ κ ((sr : Nat) : Int) (idn : Int) (by omega) h2) zY_X1_ownerOfPair km_X5_136 (q0 := 1) rfl rfl rfl rfl ⟨⟨Nat.le_of_ble_eq_true rfl, Nat.le_of_ble_eq_true rfl⟩, Nat.le_of_ble_eq_true rfl, Nat.le_of_ble_eq_true rfl⟩ (Nat.le_of_ble_eq_true rfl) dX5_findFetched_6) (fun H locs hP hD hS => ?_)
  refine lv_istore (lv' := [(6, .int (zI (own σ ((sr : Nat) : Int) (idn : Int) : Int))), (0, .ref (q 0)), (1, .int (zI ((sr : Nat) : Int))), (2, .int (zI (idn : Int))), (3, .int (zI (lk : Int))), (4, .long (t))]) hx hb dX5_findFetched_9 hl (by decide) rfl (fun ls hl => ?_)
  refine lv_iload hx hb dX5_findFetched_11 (lv_at hl 0 rfl) ?_
  refine zr_iconst hx hb dX5_findFetched_13 ?_
  refine zc_ne (tgt := 27) hx hb (own σ ((sr : Nat) : Int) (idn : Int) : Int) (-1 : Int) (zI_toInt (by omega)) (zI_toInt (by decide)) dX5_findFetched_14 (by decide) (fun c14 => ?_) (fun c14 => ?_)
  · skip
    refine lv_iload hx hb dX5_findFetched_27 (lv_at hl 0 rfl) ?_
    refine zr_iconst hx hb dX5_findFetched_29 ?_
    refine zc_ne (tgt := 57) hx hb (own σ ((sr : Nat) : Int) (idn : Int) : Int) (-1 : Int) (zI_toInt (by omega)) (zI_toInt (by decide)) dX5_findFetched_30 (by decide) (fun c30 => ?_) (fun c30 => absurd c30 c14)
    refine lv_iload hx hb dX5_findFetched_57 (lv_at hl 0 rfl) ?_
    exact zret_I () Z hr hP hD hS (congrArg zI (by unfold fnd; rw [if_pos (by omega)])) rfl ⟨Nat.le_refl _, Nat.le_refl _⟩ hQ dX5_findFetched_59
  · skip
    refine lv_aload_n hx hb dX5_findFetched_17 rfl (lv_at hl 1 rfl) ?_
    refine gC_0_4 Z hP kf_X5_25 dX5_findFetched_18 ?_
    refine lv_iload_n hx hb dX5_findFetched_21 rfl (lv_at hl 4 rfl) ?_
    refine zdet_I ⟨rfl, rfl⟩ Z hD hS (zrunV (rest := []) Z hP hD hS hl.1 (m_X1_ownerOfLink l G q σ κ (lk : Int) h3) zY_X1_ownerOfLink km_X5_145 (q0 := 1) rfl rfl rfl rfl ⟨⟨Nat.le_of_ble_eq_true rfl, Nat.le_of_ble_eq_true rfl⟩, Nat.le_of_ble_eq_true rfl, Nat.le_of_ble_eq_true rfl⟩ (Nat.le_of_ble_eq_true rfl) dX5_findFetched_22) (fun H locs hP hD hS => ?_)
    refine lv_istore (lv' := [(6, .int (zI (ownL σ (lk : Int) : Int))), (0, .ref (q 0)), (1, .int (zI ((sr : Nat) : Int))), (2, .int (zI (idn : Int))), (3, .int (zI (lk : Int))), (4, .long (t))]) hx hb dX5_findFetched_25 hl (by decide) rfl (fun ls hl => ?_)
    refine lv_iload hx hb dX5_findFetched_27 (lv_at hl 0 rfl) ?_
    refine zr_iconst hx hb dX5_findFetched_29 ?_
    refine zc_ne (tgt := 57) hx hb (ownL σ (lk : Int) : Int) (-1 : Int) (zI_toInt (by omega)) (zI_toInt (by decide)) dX5_findFetched_30 (by decide) (fun c30 => ?_) (fun c30 => ?_)
    · skip
      refine lv_iload hx hb dX5_findFetched_57 (lv_at hl 0 rfl) ?_
      exact zret_I () Z hr hP hD hS (congrArg zI (by unfold fnd; rw [if_neg (by omega), if_pos (by omega)])) rfl ⟨Nat.le_refl _, Nat.le_refl _⟩ hQ dX5_findFetched_59
    · skip
      refine lv_aload_n hx hb dX5_findFetched_33 rfl (lv_at hl 1 rfl) ?_
      refine gC_0_4 Z hP kf_X5_25 dX5_findFetched_34 ?_
      refine lv_lload hx hb dX5_findFetched_37 (lv_at hl 5 rfl) ?_
      refine lv_aload_n hx hb dX5_findFetched_39 rfl (lv_at hl 1 rfl) ?_
      refine gC_0_0 Z hP kf_X5_9 dX5_findFetched_40 ?_
      refine lv_aload_n hx hb dX5_findFetched_43 rfl (lv_at hl 1 rfl) ?_
      refine gC_0_2 Z hP kf_X5_16 dX5_findFetched_44 ?_
      refine zr_isub hx hb dX5_findFetched_47 ?_
      refine lv_aload_n hx hb dX5_findFetched_48 rfl (lv_at hl 1 rfl) ?_
      refine gC_0_1 Z hP kf_X5_13 dX5_findFetched_49 ?_
      refine zdet_I ⟨rfl, rfl⟩ Z hD hS (zrunV (rest := []) Z hP hD hS hl.1 (m_X1_mostAlike l G q σ κ (t) (((σ.1 0 : Nat) : Int) - ((σ.1 2 : Nat) : Int)) (σ.1 1) rfl hI (by omega) ht2) zY_X1_mostAlike km_X5_302 (q0 := 1) rfl rfl rfl rfl ⟨⟨Nat.le_of_ble_eq_true rfl, Nat.le_of_ble_eq_true rfl⟩, Nat.le_of_ble_eq_true rfl, Nat.le_of_ble_eq_true rfl⟩ (Nat.le_of_ble_eq_true rfl) dX5_findFetched_52) (fun H locs hP hD hS => ?_)
      refine lv_istore (lv' := [(6, .int (zI (bst σ (t) (((σ.1 0 : Nat) : Int) - ((σ.1 2 : Nat) : Int)) (σ.1 1) (σ.1 4) : Int))), (0, .ref (q 0)), (1, .int (zI ((sr : Nat) : Int))), (2, .int (zI (idn : Int))), (3, .int (zI (lk : Int))), (4, .long (t))]) hx hb dX5_findFetched_55 hl (by decide) rfl (fun ls hl => ?_)
      refine lv_iload hx hb dX5_findFetched_57 (lv_at hl 0 rfl) ?_
      exact zret_I () Z hr hP hD hS (congrArg zI (by unfold fnd; rw [if_neg (by omega), if_neg (by omega)])) rfl ⟨Nat.le_refl _, Nat.le_refl _⟩ hQ dX5_findFetched_59
abbrev r_X5_requireItem : Room := { frames := 1, cells := 0, slots := 0, locals := 20 }
set_option maxHeartbeats 4000000 in
set_option maxRecDepth 100000 in
theorem m_X5_requireItem (l : Launch) (G : ZG) (q : Nat → Nat) (σ : St) (κ : KC) {e_i : Int} (i : Nat) (he_i : e_i = (i : Int)) (h1 : i < σ.1 4) (h2 : σ.1 4 ≤ 30) :
    MC l G yX5_requireItem (wY yX5_requireItem cX5_requireItem 2 none) r_X5_requireItem (wC G q σ κ) [.ref (q 0), .int (zI e_i)] (QV G (fun (_ : Unit) => True) (fun _ => wC G q σ κ)) := by
  subst he_i
  refine MC.mk (by decide +kernel) (Nat.le_of_ble_eq_true rfl) ?_
  intro p e s m av below meth c A H locs ls Q Z hr hnm hQ hP hD hS hl
  have hx := Z.1
  have hb := Z.2.1
  have hown := Z.2.2.2.1
  have hW := Z.2.2.2.2.1
  have hl : lv_has ls 2 [(0, .ref (q 0)), (1, .int (zI ((i : Nat) : Int)))] := hl
  refine lv_iload_n hx hb dX5_requireItem_0 rfl (lv_at hl 1 rfl) ?_
  refine zc0_lt (tgt := 15) hx hb ((i : Nat) : Int) (zI_toInt (by omega)) dX5_requireItem_1 (by decide) (fun c1 => by exfalso; omega) (fun c1 => ?_)
  refine lv_iload_n hx hb dX5_requireItem_4 rfl (lv_at hl 1 rfl) ?_
  refine lv_aload_n hx hb dX5_requireItem_5 rfl (lv_at hl 0 rfl) ?_
  refine gC_0_4 Z hP kf_X5_25 dX5_requireItem_6 ?_
  refine zdet_I ⟨rfl, rfl⟩ Z hD hS (zrunV (rest := [.int (zI ((i : Nat) : Int))]) Z hP hD hS hl.1 (m_X1_size l G q σ κ) zY_X1_size km_X5_132 (q0 := 1) rfl rfl rfl rfl ⟨⟨Nat.le_of_ble_eq_true rfl, Nat.le_of_ble_eq_true rfl⟩, Nat.le_of_ble_eq_true rfl, Nat.le_of_ble_eq_true rfl⟩ (Nat.le_of_ble_eq_true rfl) dX5_requireItem_9) (fun H locs hP hD hS => ?_)
  refine zc_lt (tgt := 26) hx hb ((i : Nat) : Int) ((σ.1 4 : Nat) : Int) (zI_toInt (by omega)) (zI_toInt (by omega)) dX5_requireItem_12 (by decide) (fun c12 => ?_) (fun c12 => by exfalso; omega)
  exact zret_V () Z hr hP hD hS trivial rfl ⟨Nat.le_refl _, Nat.le_refl _⟩ hQ dX5_requireItem_26
abbrev r_X5_requireItem_x : Room := { frames := 6, cells := 1, slots := 6, locals := 100 }
set_option maxHeartbeats 4000000 in
set_option maxRecDepth 100000 in
theorem m_X5_requireItem_x (l : Launch) (G : ZG) (hst : l.stackTraces = false) (q : Nat → Nat) (σ : St) (κ : KC) (i : Int) (h1 : zR i) (h2 : i < 0 ∨ ((σ.1 4 : Nat) : Int) ≤ i) (h3 : σ.1 4 ≤ 30) :
    MX l G yX5_requireItem (wY yX5_requireItem cX5_requireItem 2 none) r_X5_requireItem_x (wC G q σ κ) [.ref (q 0), .int (zI (i : Int))] (S := Unit) "java/lang/IndexOutOfBoundsException" (fun _ => wC G q σ κ) := by
  refine MX.mk (by decide +kernel) (Nat.le_of_ble_eq_true rfl) ?_
  intro p e s m av below meth c A H locs ls Q Z ht hQ hP hD hS hl
  have hx := Z.1
  have hb := Z.2.1
  have hown := Z.2.2.2.1
  have hW := Z.2.2.2.2.1
  have hl : lv_has ls 2 [(0, .ref (q 0)), (1, .int (zI (i : Int)))] := hl
  refine lv_iload_n hx hb dX5_requireItem_0 rfl (lv_at hl 1 rfl) ?_
  refine zc0_lt (tgt := 15) hx hb (i : Int) (zI_toInt (by omega)) dX5_requireItem_1 (by decide) (fun c1 => ?_) (fun c1 => ?_)
  · skip
    exact thw_IOB (()) "there is no such item" hst Z ht hP hD hS hl.1 rfl (by decide +kernel) ⟨Nat.le_of_ble_eq_true rfl, Nat.le_of_ble_eq_true rfl, Nat.le_of_ble_eq_true rfl, Nat.le_of_ble_eq_true rfl⟩ hQ dX5_requireItem_15 dX5_requireItem_18 dX5_requireItem_19 dX5_requireItem_22 dX5_requireItem_25
  · skip
    refine lv_iload_n hx hb dX5_requireItem_4 rfl (lv_at hl 1 rfl) ?_
    refine lv_aload_n hx hb dX5_requireItem_5 rfl (lv_at hl 0 rfl) ?_
    refine gC_0_4 Z hP kf_X5_25 dX5_requireItem_6 ?_
    refine zdet_I ⟨rfl, rfl⟩ Z hD hS (zrunV (rest := [.int (zI (i : Int))]) Z hP hD hS hl.1 (m_X1_size l G q σ κ) zY_X1_size km_X5_132 (q0 := 1) rfl rfl rfl rfl ⟨⟨Nat.le_of_ble_eq_true rfl, Nat.le_of_ble_eq_true rfl⟩, Nat.le_of_ble_eq_true rfl, Nat.le_of_ble_eq_true rfl⟩ (Nat.le_of_ble_eq_true rfl) dX5_requireItem_9) (fun H locs hP hD hS => ?_)
    refine zc_lt (tgt := 26) hx hb (i : Int) ((σ.1 4 : Nat) : Int) (zI_toInt (by omega)) (zI_toInt (by omega)) dX5_requireItem_12 (by decide) (fun c12 => by exfalso; omega) (fun c12 => ?_)
    exact thw_IOB (()) "there is no such item" hst Z ht hP hD hS hl.1 rfl (by decide +kernel) ⟨Nat.le_of_ble_eq_true rfl, Nat.le_of_ble_eq_true rfl, Nat.le_of_ble_eq_true rfl, Nat.le_of_ble_eq_true rfl⟩ hQ dX5_requireItem_15 dX5_requireItem_18 dX5_requireItem_19 dX5_requireItem_22 dX5_requireItem_25
abbrev r_X5_requireRule : Room := { frames := 1, cells := 0, slots := 0, locals := 20 }
set_option maxHeartbeats 4000000 in
set_option maxRecDepth 100000 in
theorem m_X5_requireRule (l : Launch) (G : ZG) (q : Nat → Nat) (σ : St) (κ : KC) {e_i : Int} (i : Nat) (he_i : e_i = (i : Int)) (h1 : i < σ.1 5) (h2 : σ.1 5 ≤ 30) :
    MC l G yX5_requireRule (wY yX5_requireRule cX5_requireRule 2 none) r_X5_requireRule (wC G q σ κ) [.ref (q 0), .int (zI e_i)] (QV G (fun (_ : Unit) => True) (fun _ => wC G q σ κ)) := by
  subst he_i
  refine MC.mk (by decide +kernel) (Nat.le_of_ble_eq_true rfl) ?_
  intro p e s m av below meth c A H locs ls Q Z hr hnm hQ hP hD hS hl
  have hx := Z.1
  have hb := Z.2.1
  have hown := Z.2.2.2.1
  have hW := Z.2.2.2.2.1
  have hl : lv_has ls 2 [(0, .ref (q 0)), (1, .int (zI ((i : Nat) : Int)))] := hl
  refine lv_iload_n hx hb dX5_requireRule_0 rfl (lv_at hl 1 rfl) ?_
  refine zc0_lt (tgt := 15) hx hb ((i : Nat) : Int) (zI_toInt (by omega)) dX5_requireRule_1 (by decide) (fun c1 => by exfalso; omega) (fun c1 => ?_)
  refine lv_iload_n hx hb dX5_requireRule_4 rfl (lv_at hl 1 rfl) ?_
  refine lv_aload_n hx hb dX5_requireRule_5 rfl (lv_at hl 0 rfl) ?_
  refine gC_0_5 Z hP kf_X5_32 dX5_requireRule_6 ?_
  refine zdet_I ⟨rfl, rfl⟩ Z hD hS (zrunV (rest := [.int (zI ((i : Nat) : Int))]) Z hP hD hS hl.1 (m_X4_size l G q σ κ) zY_X4_size km_X5_192 (q0 := 2) rfl rfl rfl rfl ⟨⟨Nat.le_of_ble_eq_true rfl, Nat.le_of_ble_eq_true rfl⟩, Nat.le_of_ble_eq_true rfl, Nat.le_of_ble_eq_true rfl⟩ (Nat.le_of_ble_eq_true rfl) dX5_requireRule_9) (fun H locs hP hD hS => ?_)
  refine zc_lt (tgt := 26) hx hb ((i : Nat) : Int) ((σ.1 5 : Nat) : Int) (zI_toInt (by omega)) (zI_toInt (by omega)) dX5_requireRule_12 (by decide) (fun c12 => ?_) (fun c12 => by exfalso; omega)
  exact zret_V () Z hr hP hD hS trivial rfl ⟨Nat.le_refl _, Nat.le_refl _⟩ hQ dX5_requireRule_26
abbrev r_X5_requireRule_x : Room := { frames := 6, cells := 1, slots := 6, locals := 100 }
set_option maxHeartbeats 4000000 in
set_option maxRecDepth 100000 in
theorem m_X5_requireRule_x (l : Launch) (G : ZG) (hst : l.stackTraces = false) (q : Nat → Nat) (σ : St) (κ : KC) (i : Int) (h1 : zR i) (h2 : i < 0 ∨ ((σ.1 5 : Nat) : Int) ≤ i) (h3 : σ.1 5 ≤ 30) :
    MX l G yX5_requireRule (wY yX5_requireRule cX5_requireRule 2 none) r_X5_requireRule_x (wC G q σ κ) [.ref (q 0), .int (zI (i : Int))] (S := Unit) "java/lang/IndexOutOfBoundsException" (fun _ => wC G q σ κ) := by
  refine MX.mk (by decide +kernel) (Nat.le_of_ble_eq_true rfl) ?_
  intro p e s m av below meth c A H locs ls Q Z ht hQ hP hD hS hl
  have hx := Z.1
  have hb := Z.2.1
  have hown := Z.2.2.2.1
  have hW := Z.2.2.2.2.1
  have hl : lv_has ls 2 [(0, .ref (q 0)), (1, .int (zI (i : Int)))] := hl
  refine lv_iload_n hx hb dX5_requireRule_0 rfl (lv_at hl 1 rfl) ?_
  refine zc0_lt (tgt := 15) hx hb (i : Int) (zI_toInt (by omega)) dX5_requireRule_1 (by decide) (fun c1 => ?_) (fun c1 => ?_)
  · skip
    exact thw_IOB (()) "there is no such rule" hst Z ht hP hD hS hl.1 rfl (by decide +kernel) ⟨Nat.le_of_ble_eq_true rfl, Nat.le_of_ble_eq_true rfl, Nat.le_of_ble_eq_true rfl, Nat.le_of_ble_eq_true rfl⟩ hQ dX5_requireRule_15 dX5_requireRule_18 dX5_requireRule_19 dX5_requireRule_22 dX5_requireRule_25
  · skip
    refine lv_iload_n hx hb dX5_requireRule_4 rfl (lv_at hl 1 rfl) ?_
    refine lv_aload_n hx hb dX5_requireRule_5 rfl (lv_at hl 0 rfl) ?_
    refine gC_0_5 Z hP kf_X5_32 dX5_requireRule_6 ?_
    refine zdet_I ⟨rfl, rfl⟩ Z hD hS (zrunV (rest := [.int (zI (i : Int))]) Z hP hD hS hl.1 (m_X4_size l G q σ κ) zY_X4_size km_X5_192 (q0 := 2) rfl rfl rfl rfl ⟨⟨Nat.le_of_ble_eq_true rfl, Nat.le_of_ble_eq_true rfl⟩, Nat.le_of_ble_eq_true rfl, Nat.le_of_ble_eq_true rfl⟩ (Nat.le_of_ble_eq_true rfl) dX5_requireRule_9) (fun H locs hP hD hS => ?_)
    refine zc_lt (tgt := 26) hx hb (i : Int) ((σ.1 5 : Nat) : Int) (zI_toInt (by omega)) (zI_toInt (by omega)) dX5_requireRule_12 (by decide) (fun c12 => by exfalso; omega) (fun c12 => ?_)
    exact thw_IOB (()) "there is no such rule" hst Z ht hP hD hS hl.1 rfl (by decide +kernel) ⟨Nat.le_of_ble_eq_true rfl, Nat.le_of_ble_eq_true rfl, Nat.le_of_ble_eq_true rfl, Nat.le_of_ble_eq_true rfl⟩ hQ dX5_requireRule_15 dX5_requireRule_18 dX5_requireRule_19 dX5_requireRule_22 dX5_requireRule_25
abbrev r_X5_requireRiver : Room := { frames := 1, cells := 0, slots := 0, locals := 20 }
set_option maxHeartbeats 4000000 in
set_option maxRecDepth 100000 in
theorem m_X5_requireRiver (l : Launch) (G : ZG) (q : Nat → Nat) (σ : St) (κ : KC) {e_i : Int} (i : Nat) (he_i : e_i = (i : Int)) (h1 : i < σ.1 6) (h2 : σ.1 6 ≤ 30) :
    MC l G yX5_requireRiver (wY yX5_requireRiver cX5_requireRiver 2 none) r_X5_requireRiver (wC G q σ κ) [.ref (q 0), .int (zI e_i)] (QV G (fun (_ : Unit) => True) (fun _ => wC G q σ κ)) := by
  subst he_i
  refine MC.mk (by decide +kernel) (Nat.le_of_ble_eq_true rfl) ?_
  intro p e s m av below meth c A H locs ls Q Z hr hnm hQ hP hD hS hl
  have hx := Z.1
  have hb := Z.2.1
  have hown := Z.2.2.2.1
  have hW := Z.2.2.2.2.1
  have hl : lv_has ls 2 [(0, .ref (q 0)), (1, .int (zI ((i : Nat) : Int)))] := hl
  refine lv_iload_n hx hb dX5_requireRiver_0 rfl (lv_at hl 1 rfl) ?_
  refine zc0_lt (tgt := 15) hx hb ((i : Nat) : Int) (zI_toInt (by omega)) dX5_requireRiver_1 (by decide) (fun c1 => by exfalso; omega) (fun c1 => ?_)
  refine lv_iload_n hx hb dX5_requireRiver_4 rfl (lv_at hl 1 rfl) ?_
  refine lv_aload_n hx hb dX5_requireRiver_5 rfl (lv_at hl 0 rfl) ?_
  refine gC_0_6 Z hP kf_X5_39 dX5_requireRiver_6 ?_
  refine zdet_I ⟨rfl, rfl⟩ Z hD hS (zrunV (rest := [.int (zI ((i : Nat) : Int))]) Z hP hD hS hl.1 (m_X3_size l G q σ κ) zY_X3_size km_X5_280 (q0 := 3) rfl rfl rfl rfl ⟨⟨Nat.le_of_ble_eq_true rfl, Nat.le_of_ble_eq_true rfl⟩, Nat.le_of_ble_eq_true rfl, Nat.le_of_ble_eq_true rfl⟩ (Nat.le_of_ble_eq_true rfl) dX5_requireRiver_9) (fun H locs hP hD hS => ?_)
  refine zc_lt (tgt := 26) hx hb ((i : Nat) : Int) ((σ.1 6 : Nat) : Int) (zI_toInt (by omega)) (zI_toInt (by omega)) dX5_requireRiver_12 (by decide) (fun c12 => ?_) (fun c12 => by exfalso; omega)
  exact zret_V () Z hr hP hD hS trivial rfl ⟨Nat.le_refl _, Nat.le_refl _⟩ hQ dX5_requireRiver_26
abbrev r_X5_requireRiver_x : Room := { frames := 6, cells := 1, slots := 6, locals := 100 }
set_option maxHeartbeats 4000000 in
set_option maxRecDepth 100000 in
theorem m_X5_requireRiver_x (l : Launch) (G : ZG) (hst : l.stackTraces = false) (q : Nat → Nat) (σ : St) (κ : KC) (i : Int) (h1 : zR i) (h2 : i < 0 ∨ ((σ.1 6 : Nat) : Int) ≤ i) (h3 : σ.1 6 ≤ 30) :
    MX l G yX5_requireRiver (wY yX5_requireRiver cX5_requireRiver 2 none) r_X5_requireRiver_x (wC G q σ κ) [.ref (q 0), .int (zI (i : Int))] (S := Unit) "java/lang/IndexOutOfBoundsException" (fun _ => wC G q σ κ) := by
  refine MX.mk (by decide +kernel) (Nat.le_of_ble_eq_true rfl) ?_
  intro p e s m av below meth c A H locs ls Q Z ht hQ hP hD hS hl
  have hx := Z.1
  have hb := Z.2.1
  have hown := Z.2.2.2.1
  have hW := Z.2.2.2.2.1
  have hl : lv_has ls 2 [(0, .ref (q 0)), (1, .int (zI (i : Int)))] := hl
  refine lv_iload_n hx hb dX5_requireRiver_0 rfl (lv_at hl 1 rfl) ?_
  refine zc0_lt (tgt := 15) hx hb (i : Int) (zI_toInt (by omega)) dX5_requireRiver_1 (by decide) (fun c1 => ?_) (fun c1 => ?_)
  · skip
    exact thw_IOB (()) "there is no such river" hst Z ht hP hD hS hl.1 rfl (by decide +kernel) ⟨Nat.le_of_ble_eq_true rfl, Nat.le_of_ble_eq_true rfl, Nat.le_of_ble_eq_true rfl, Nat.le_of_ble_eq_true rfl⟩ hQ dX5_requireRiver_15 dX5_requireRiver_18 dX5_requireRiver_19 dX5_requireRiver_22 dX5_requireRiver_25
  · skip
    refine lv_iload_n hx hb dX5_requireRiver_4 rfl (lv_at hl 1 rfl) ?_
    refine lv_aload_n hx hb dX5_requireRiver_5 rfl (lv_at hl 0 rfl) ?_
    refine gC_0_6 Z hP kf_X5_39 dX5_requireRiver_6 ?_
    refine zdet_I ⟨rfl, rfl⟩ Z hD hS (zrunV (rest := [.int (zI (i : Int))]) Z hP hD hS hl.1 (m_X3_size l G q σ κ) zY_X3_size km_X5_280 (q0 := 3) rfl rfl rfl rfl ⟨⟨Nat.le_of_ble_eq_true rfl, Nat.le_of_ble_eq_true rfl⟩, Nat.le_of_ble_eq_true rfl, Nat.le_of_ble_eq_true rfl⟩ (Nat.le_of_ble_eq_true rfl) dX5_requireRiver_9) (fun H locs hP hD hS => ?_)
    refine zc_lt (tgt := 26) hx hb (i : Int) ((σ.1 6 : Nat) : Int) (zI_toInt (by omega)) (zI_toInt (by omega)) dX5_requireRiver_12 (by decide) (fun c12 => by exfalso; omega) (fun c12 => ?_)
    exact thw_IOB (()) "there is no such river" hst Z ht hP hD hS hl.1 rfl (by decide +kernel) ⟨Nat.le_of_ble_eq_true rfl, Nat.le_of_ble_eq_true rfl, Nat.le_of_ble_eq_true rfl, Nat.le_of_ble_eq_true rfl⟩ hQ dX5_requireRiver_15 dX5_requireRiver_18 dX5_requireRiver_19 dX5_requireRiver_22 dX5_requireRiver_25
abbrev r_X5_requireDevice : Room := { frames := 1, cells := 0, slots := 0, locals := 20 }
set_option maxHeartbeats 4000000 in
set_option maxRecDepth 100000 in
theorem m_X5_requireDevice (l : Launch) (G : ZG) (q : Nat → Nat) (σ : St) (κ : KC) {e_i : Int} (i : Nat) (he_i : e_i = (i : Int)) (h1 : i < σ.1 7) (h2 : σ.1 7 ≤ 30) :
    MC l G yX5_requireDevice (wY yX5_requireDevice cX5_requireDevice 2 none) r_X5_requireDevice (wC G q σ κ) [.ref (q 0), .int (zI e_i)] (QV G (fun (_ : Unit) => True) (fun _ => wC G q σ κ)) := by
  subst he_i
  refine MC.mk (by decide +kernel) (Nat.le_of_ble_eq_true rfl) ?_
  intro p e s m av below meth c A H locs ls Q Z hr hnm hQ hP hD hS hl
  have hx := Z.1
  have hb := Z.2.1
  have hown := Z.2.2.2.1
  have hW := Z.2.2.2.2.1
  have hl : lv_has ls 2 [(0, .ref (q 0)), (1, .int (zI ((i : Nat) : Int)))] := hl
  refine lv_iload_n hx hb dX5_requireDevice_0 rfl (lv_at hl 1 rfl) ?_
  refine zc0_lt (tgt := 15) hx hb ((i : Nat) : Int) (zI_toInt (by omega)) dX5_requireDevice_1 (by decide) (fun c1 => by exfalso; omega) (fun c1 => ?_)
  refine lv_iload_n hx hb dX5_requireDevice_4 rfl (lv_at hl 1 rfl) ?_
  refine lv_aload_n hx hb dX5_requireDevice_5 rfl (lv_at hl 0 rfl) ?_
  refine gC_0_7 Z hP kf_X5_46 dX5_requireDevice_6 ?_
  refine zdet_I ⟨rfl, rfl⟩ Z hD hS (zrunV (rest := [.int (zI ((i : Nat) : Int))]) Z hP hD hS hl.1 (m_X0_size l G q σ κ) zY_X0_size km_X5_291 (q0 := 4) rfl rfl rfl rfl ⟨⟨Nat.le_of_ble_eq_true rfl, Nat.le_of_ble_eq_true rfl⟩, Nat.le_of_ble_eq_true rfl, Nat.le_of_ble_eq_true rfl⟩ (Nat.le_of_ble_eq_true rfl) dX5_requireDevice_9) (fun H locs hP hD hS => ?_)
  refine zc_lt (tgt := 26) hx hb ((i : Nat) : Int) ((σ.1 7 : Nat) : Int) (zI_toInt (by omega)) (zI_toInt (by omega)) dX5_requireDevice_12 (by decide) (fun c12 => ?_) (fun c12 => by exfalso; omega)
  exact zret_V () Z hr hP hD hS trivial rfl ⟨Nat.le_refl _, Nat.le_refl _⟩ hQ dX5_requireDevice_26
abbrev r_X5_requireDevice_x : Room := { frames := 6, cells := 1, slots := 6, locals := 100 }
set_option maxHeartbeats 4000000 in
set_option maxRecDepth 100000 in
theorem m_X5_requireDevice_x (l : Launch) (G : ZG) (hst : l.stackTraces = false) (q : Nat → Nat) (σ : St) (κ : KC) (i : Int) (h1 : zR i) (h2 : i < 0 ∨ ((σ.1 7 : Nat) : Int) ≤ i) (h3 : σ.1 7 ≤ 30) :
    MX l G yX5_requireDevice (wY yX5_requireDevice cX5_requireDevice 2 none) r_X5_requireDevice_x (wC G q σ κ) [.ref (q 0), .int (zI (i : Int))] (S := Unit) "java/lang/IndexOutOfBoundsException" (fun _ => wC G q σ κ) := by
  refine MX.mk (by decide +kernel) (Nat.le_of_ble_eq_true rfl) ?_
  intro p e s m av below meth c A H locs ls Q Z ht hQ hP hD hS hl
  have hx := Z.1
  have hb := Z.2.1
  have hown := Z.2.2.2.1
  have hW := Z.2.2.2.2.1
  have hl : lv_has ls 2 [(0, .ref (q 0)), (1, .int (zI (i : Int)))] := hl
  refine lv_iload_n hx hb dX5_requireDevice_0 rfl (lv_at hl 1 rfl) ?_
  refine zc0_lt (tgt := 15) hx hb (i : Int) (zI_toInt (by omega)) dX5_requireDevice_1 (by decide) (fun c1 => ?_) (fun c1 => ?_)
  · skip
    exact thw_IOB (()) "there is no such device" hst Z ht hP hD hS hl.1 rfl (by decide +kernel) ⟨Nat.le_of_ble_eq_true rfl, Nat.le_of_ble_eq_true rfl, Nat.le_of_ble_eq_true rfl, Nat.le_of_ble_eq_true rfl⟩ hQ dX5_requireDevice_15 dX5_requireDevice_18 dX5_requireDevice_19 dX5_requireDevice_22 dX5_requireDevice_25
  · skip
    refine lv_iload_n hx hb dX5_requireDevice_4 rfl (lv_at hl 1 rfl) ?_
    refine lv_aload_n hx hb dX5_requireDevice_5 rfl (lv_at hl 0 rfl) ?_
    refine gC_0_7 Z hP kf_X5_46 dX5_requireDevice_6 ?_
    refine zdet_I ⟨rfl, rfl⟩ Z hD hS (zrunV (rest := [.int (zI (i : Int))]) Z hP hD hS hl.1 (m_X0_size l G q σ κ) zY_X0_size km_X5_291 (q0 := 4) rfl rfl rfl rfl ⟨⟨Nat.le_of_ble_eq_true rfl, Nat.le_of_ble_eq_true rfl⟩, Nat.le_of_ble_eq_true rfl, Nat.le_of_ble_eq_true rfl⟩ (Nat.le_of_ble_eq_true rfl) dX5_requireDevice_9) (fun H locs hP hD hS => ?_)
    refine zc_lt (tgt := 26) hx hb (i : Int) ((σ.1 7 : Nat) : Int) (zI_toInt (by omega)) (zI_toInt (by omega)) dX5_requireDevice_12 (by decide) (fun c12 => by exfalso; omega) (fun c12 => ?_)
    exact thw_IOB (()) "there is no such device" hst Z ht hP hD hS hl.1 rfl (by decide +kernel) ⟨Nat.le_of_ble_eq_true rfl, Nat.le_of_ble_eq_true rfl, Nat.le_of_ble_eq_true rfl, Nat.le_of_ble_eq_true rfl⟩ hQ dX5_requireDevice_15 dX5_requireDevice_18 dX5_requireDevice_19 dX5_requireDevice_22 dX5_requireDevice_25
abbrev r_X5_requireKnown : Room := { frames := 2, cells := 0, slots := 0, locals := 44 }
set_option maxHeartbeats 4000000 in
set_option maxRecDepth 100000 in
theorem m_X5_requireKnown (l : Launch) (G : ZG) (q : Nat → Nat) (σ : St) (κ : KC) {e_d : Int} (d : Nat) (he_d : e_d = (d : Int)) {e_i : Int} (i : Nat) (he_i : e_i = (i : Int)) (h1 : d < 4) (h2 : i < 30) (h3 : 0 < σ.2.1 4 (30 * d + i)) (h4 : σ.2.1 4 (30 * d + i) < 1000000) :
    MC l G yX5_requireKnown (wY yX5_requireKnown cX5_requireKnown 3 none) r_X5_requireKnown (wC G q σ κ) [.ref (q 0), .int (zI e_d), .int (zI e_i)] (QV G (fun (_ : Unit) => True) (fun _ => wC G q σ κ)) := by
  subst he_d
  subst he_i
  refine MC.mk (by decide +kernel) (Nat.le_of_ble_eq_true rfl) ?_
  intro p e s m av below meth c A H locs ls Q Z hr hnm hQ hP hD hS hl
  have hx := Z.1
  have hb := Z.2.1
  have hown := Z.2.2.2.1
  have hW := Z.2.2.2.2.1
  have hl : lv_has ls 3 [(0, .ref (q 0)), (1, .int (zI ((d : Nat) : Int))), (2, .int (zI ((i : Nat) : Int)))] := hl
  refine lv_aload_n hx hb dX5_requireKnown_0 rfl (lv_at hl 0 rfl) ?_
  refine gC_0_7 Z hP kf_X5_46 dX5_requireKnown_1 ?_
  refine lv_iload_n hx hb dX5_requireKnown_4 rfl (lv_at hl 1 rfl) ?_
  refine lv_iload_n hx hb dX5_requireKnown_5 rfl (lv_at hl 2 rfl) ?_
  refine zdet_I ⟨rfl, rfl⟩ Z hD hS (zrunV (rest := []) Z hP hD hS hl.1 (m_X0_knows l G q σ κ (d) rfl (i) rfl (by omega) (by omega) (by omega)) zY_X0_knows km_X5_263 (q0 := 4) rfl rfl rfl rfl ⟨⟨Nat.le_of_ble_eq_true rfl, Nat.le_of_ble_eq_true rfl⟩, Nat.le_of_ble_eq_true rfl, Nat.le_of_ble_eq_true rfl⟩ (Nat.le_of_ble_eq_true rfl) dX5_requireKnown_6) (fun H locs hP hD hS => ?_)
  refine zb_ne (tgt := 23) hx hb dX5_requireKnown_9 (by decide) (fun c9 => ?_) (fun c9 => by exfalso; have := of_decide_eq_false c9; omega)
  exact zret_V () Z hr hP hD hS trivial rfl ⟨Nat.le_refl _, Nat.le_refl _⟩ hQ dX5_requireKnown_23
abbrev r_X5_requireKnown_x : Room := { frames := 6, cells := 1, slots := 6, locals := 100 }
set_option maxHeartbeats 4000000 in
set_option maxRecDepth 100000 in
theorem m_X5_requireKnown_x (l : Launch) (G : ZG) (hst : l.stackTraces = false) (q : Nat → Nat) (σ : St) (κ : KC) {e_d : Int} (d : Nat) (he_d : e_d = (d : Int)) {e_i : Int} (i : Nat) (he_i : e_i = (i : Int)) (h1 : d < 4) (h2 : i < 30) (h3 : σ.2.1 4 (30 * d + i) = 0) :
    MX l G yX5_requireKnown (wY yX5_requireKnown cX5_requireKnown 3 none) r_X5_requireKnown_x (wC G q σ κ) [.ref (q 0), .int (zI e_d), .int (zI e_i)] (S := Unit) "java/lang/IllegalStateException" (fun _ => wC G q σ κ) := by
  subst he_d
  subst he_i
  refine MX.mk (by decide +kernel) (Nat.le_of_ble_eq_true rfl) ?_
  intro p e s m av below meth c A H locs ls Q Z ht hQ hP hD hS hl
  have hx := Z.1
  have hb := Z.2.1
  have hown := Z.2.2.2.1
  have hW := Z.2.2.2.2.1
  have hl : lv_has ls 3 [(0, .ref (q 0)), (1, .int (zI ((d : Nat) : Int))), (2, .int (zI ((i : Nat) : Int)))] := hl
  refine lv_aload_n hx hb dX5_requireKnown_0 rfl (lv_at hl 0 rfl) ?_
  refine gC_0_7 Z hP kf_X5_46 dX5_requireKnown_1 ?_
  refine lv_iload_n hx hb dX5_requireKnown_4 rfl (lv_at hl 1 rfl) ?_
  refine lv_iload_n hx hb dX5_requireKnown_5 rfl (lv_at hl 2 rfl) ?_
  refine zdet_I ⟨rfl, rfl⟩ Z hD hS (zrunV (rest := []) Z hP hD hS hl.1 (m_X0_knows l G q σ κ (d) rfl (i) rfl (by omega) (by omega) (by omega)) zY_X0_knows km_X5_263 (q0 := 4) rfl rfl rfl rfl ⟨⟨Nat.le_of_ble_eq_true rfl, Nat.le_of_ble_eq_true rfl⟩, Nat.le_of_ble_eq_true rfl, Nat.le_of_ble_eq_true rfl⟩ (Nat.le_of_ble_eq_true rfl) dX5_requireKnown_6) (fun H locs hP hD hS => ?_)
  refine zb_ne (tgt := 23) hx hb dX5_requireKnown_9 (by decide) (fun c9 => by exfalso; have := of_decide_eq_true c9; omega) (fun c9 => ?_)
  exact thw_ISE (()) "the device does not know the item" hst Z ht hP hD hS hl.1 rfl (by decide +kernel) ⟨Nat.le_of_ble_eq_true rfl, Nat.le_of_ble_eq_true rfl, Nat.le_of_ble_eq_true rfl, Nat.le_of_ble_eq_true rfl⟩ hQ dX5_requireKnown_12 dX5_requireKnown_15 dX5_requireKnown_16 dX5_requireKnown_19 dX5_requireKnown_22
abbrev r_X5_shownAt_k : Room := { frames := 6, cells := 0, slots := 0, locals := 133 }
set_option maxHeartbeats 4000000 in
set_option maxRecDepth 100000 in
theorem m_X5_shownAt_k (l : Launch) (G : ZG) (q : Nat → Nat) (σ : St) (κ : KC) {e_rv : Int} (rv : Nat) (he_rv : e_rv = (rv : Int)) {e_rk : Int} (rk : Nat) (he_rk : e_rk = (rk : Int)) (hI : okC σ) (h1 : rv < σ.1 6) (h3 : rk < (gth (shw σ rv) (σ.2.1 10) (κ.1) (σ.1 4)).1) :
    MC l G yX5_shownAt (wY yX5_shownAt cX5_shownAt 5 (some .int)) r_X5_shownAt_k (wC G q σ κ) [.ref (q 0), .int (zI e_rv), .int (zI e_rk), .ref (q 14)] (QI G (fun r9 (_ : Unit) => r9 = (zI (((gth (shw σ rv) (σ.2.1 10) (κ.1) (σ.1 4)).2 rk : Nat) : Int))) (fun _ => wC G q σ ((gth (shw σ rv) (σ.2.1 10) (κ.1) (σ.1 4)).2, κ.2.1, κ.2.2))) := by
  subst he_rv
  subst he_rk
  refine MC.mk (by decide +kernel) (Nat.le_of_ble_eq_true rfl) ?_
  intro p e s m av below meth c A H locs ls Q Z hr hnm hQ hP hD hS hl
  have hx := Z.1
  have hb := Z.2.1
  have hown := Z.2.2.2.1
  have hW := Z.2.2.2.2.1
  have hl : lv_has ls 5 [(0, .ref (q 0)), (1, .int (zI ((rv : Nat) : Int))), (2, .int (zI ((rk : Nat) : Int))), (3, .ref (q 14))] := hl
  obtain ⟨hn, hru, hrv, hdv, hsr, hmn, ht1, ht2, hwn, hv1, hv2, hmj, htm, hse, htg, hrt, hac, hk1, hk2, hkd, hmm, hmv, hord, hpo, hlo⟩ := id hI
  have hg9 := gth_le (shw σ rv) (σ.2.1 10) κ.1 (σ.1 4)
  have hg8 := gth_el (p := shw σ rv) (o := σ.2.1 10) (r0 := κ.1) (B := σ.1 4) (σ.1 4) hord
  refine lv_aload_n hx hb dX5_shownAt_0 rfl (lv_at hl 0 rfl) ?_
  refine lv_iload_n hx hb dX5_shownAt_1 rfl (lv_at hl 1 rfl) ?_
  refine lv_aload_n hx hb dX5_shownAt_2 rfl (lv_at hl 3 rfl) ?_
  refine lv_aload_n hx hb dX5_shownAt_3 rfl (lv_at hl 0 rfl) ?_
  refine gC_0_9 Z hP kf_X5_57 dX5_shownAt_4 ?_
  refine zdet_I ⟨rfl, rfl⟩ Z hD hS (zrunV (rest := []) Z hP hD hS hl.1 (m_X5_gather_kk l G q σ κ (rv) rfl hI (by omega)) zY_X5_gather km_X5_220 (q0 := 0) rfl rfl rfl rfl ⟨⟨Nat.le_of_ble_eq_true rfl, Nat.le_of_ble_eq_true rfl⟩, Nat.le_of_ble_eq_true rfl, Nat.le_of_ble_eq_true rfl⟩ (Nat.le_of_ble_eq_true rfl) dX5_shownAt_7) (fun H locs hP hD hS => ?_)
  refine lv_istore (lv' := [(4, .int (zI (((gth (shw σ rv) (σ.2.1 10) (κ.1) (σ.1 4)).1 : Nat) : Int))), (0, .ref (q 0)), (1, .int (zI ((rv : Nat) : Int))), (2, .int (zI ((rk : Nat) : Int))), (3, .ref (q 14))]) hx hb dX5_shownAt_10 hl (by decide) rfl (fun ls hl => ?_)
  refine lv_iload_n hx hb dX5_shownAt_12 rfl (lv_at hl 3 rfl) ?_
  refine zc0_lt (tgt := 22) hx hb ((rk : Nat) : Int) (zI_toInt (by omega)) dX5_shownAt_13 (by decide) (fun c13 => by exfalso; omega) (fun c13 => ?_)
  refine lv_iload_n hx hb dX5_shownAt_16 rfl (lv_at hl 3 rfl) ?_
  refine lv_iload hx hb dX5_shownAt_17 (lv_at hl 0 rfl) ?_
  refine zc_lt (tgt := 33) hx hb ((rk : Nat) : Int) (((gth (shw σ rv) (σ.2.1 10) (κ.1) (σ.1 4)).1 : Nat) : Int) (zI_toInt (by omega)) (zI_toInt (by omega)) dX5_shownAt_19 (by decide) (fun c19 => ?_) (fun c19 => by exfalso; omega)
  refine lv_aload_n hx hb dX5_shownAt_33 rfl (lv_at hl 1 rfl) ?_
  refine gC_0_9 Z hP kf_X5_57 dX5_shownAt_34 ?_
  refine lv_iload_n hx hb dX5_shownAt_37 rfl (lv_at hl 3 rfl) ?_
  refine ldN Z hP 6 ((gth (shw σ rv) (σ.2.1 10) (κ.1) (σ.1 4)).2) rfl (rk) rfl (by omega) (by decide) dX5_shownAt_38 ?_
  exact zret_I () Z hr hP hD hS rfl rfl ⟨Nat.le_refl _, Nat.le_refl _⟩ hQ dX5_shownAt_39
abbrev r_X5_shownAt_k_x : Room := { frames := 6, cells := 1, slots := 6, locals := 133 }
set_option maxHeartbeats 4000000 in
set_option maxRecDepth 100000 in
theorem m_X5_shownAt_k_x (l : Launch) (G : ZG) (hst : l.stackTraces = false) (q : Nat → Nat) (σ : St) (κ : KC) {e_rv : Int} (rv : Nat) (he_rv : e_rv = (rv : Int)) (rk : Int) (hI : okC σ) (h1 : rv < σ.1 6) (h3 : zR rk) (h4 : rk < 0 ∨ ((((gth (shw σ rv) (σ.2.1 10) (κ.1) (σ.1 4)).1 : Nat)) : Int) ≤ rk) :
    MX l G yX5_shownAt (wY yX5_shownAt cX5_shownAt 5 (some .int)) r_X5_shownAt_k_x (wC G q σ κ) [.ref (q 0), .int (zI e_rv), .int (zI (rk : Int)), .ref (q 14)] (S := KC) "java/util/NoSuchElementException" (fun u => wC G q σ u) := by
  subst he_rv
  refine MX.mk (by decide +kernel) (Nat.le_of_ble_eq_true rfl) ?_
  intro p e s m av below meth c A H locs ls Q Z ht hQ hP hD hS hl
  have hx := Z.1
  have hb := Z.2.1
  have hown := Z.2.2.2.1
  have hW := Z.2.2.2.2.1
  have hl : lv_has ls 5 [(0, .ref (q 0)), (1, .int (zI ((rv : Nat) : Int))), (2, .int (zI (rk : Int))), (3, .ref (q 14))] := hl
  obtain ⟨hn, hru, hrv, hdv, hsr, hmn, ht1, ht2, hwn, hv1, hv2, hmj, htm, hse, htg, hrt, hac, hk1, hk2, hkd, hmm, hmv, hord, hpo, hlo⟩ := id hI
  have hg9 := gth_le (shw σ rv) (σ.2.1 10) κ.1 (σ.1 4)
  have hg8 := gth_el (p := shw σ rv) (o := σ.2.1 10) (r0 := κ.1) (B := σ.1 4) (σ.1 4) hord
  refine lv_aload_n hx hb dX5_shownAt_0 rfl (lv_at hl 0 rfl) ?_
  refine lv_iload_n hx hb dX5_shownAt_1 rfl (lv_at hl 1 rfl) ?_
  refine lv_aload_n hx hb dX5_shownAt_2 rfl (lv_at hl 3 rfl) ?_
  refine lv_aload_n hx hb dX5_shownAt_3 rfl (lv_at hl 0 rfl) ?_
  refine gC_0_9 Z hP kf_X5_57 dX5_shownAt_4 ?_
  refine zdet_I ⟨rfl, rfl⟩ Z hD hS (zrunV (rest := []) Z hP hD hS hl.1 (m_X5_gather_kk l G q σ κ (rv) rfl hI (by omega)) zY_X5_gather km_X5_220 (q0 := 0) rfl rfl rfl rfl ⟨⟨Nat.le_of_ble_eq_true rfl, Nat.le_of_ble_eq_true rfl⟩, Nat.le_of_ble_eq_true rfl, Nat.le_of_ble_eq_true rfl⟩ (Nat.le_of_ble_eq_true rfl) dX5_shownAt_7) (fun H locs hP hD hS => ?_)
  refine lv_istore (lv' := [(4, .int (zI (((gth (shw σ rv) (σ.2.1 10) (κ.1) (σ.1 4)).1 : Nat) : Int))), (0, .ref (q 0)), (1, .int (zI ((rv : Nat) : Int))), (2, .int (zI (rk : Int))), (3, .ref (q 14))]) hx hb dX5_shownAt_10 hl (by decide) rfl (fun ls hl => ?_)
  refine lv_iload_n hx hb dX5_shownAt_12 rfl (lv_at hl 3 rfl) ?_
  refine zc0_lt (tgt := 22) hx hb (rk : Int) (zI_toInt (by omega)) dX5_shownAt_13 (by decide) (fun c13 => ?_) (fun c13 => ?_)
  · skip
    exact thw_NSE (((gth (shw σ rv) (σ.2.1 10) (κ.1) (σ.1 4)).2, κ.2.1, κ.2.2)) "there is no such rank" hst Z ht hP hD hS hl.1 rfl (by decide +kernel) ⟨Nat.le_of_ble_eq_true rfl, Nat.le_of_ble_eq_true rfl, Nat.le_of_ble_eq_true rfl, Nat.le_of_ble_eq_true rfl⟩ hQ dX5_shownAt_22 dX5_shownAt_25 dX5_shownAt_26 dX5_shownAt_29 dX5_shownAt_32
  · skip
    refine lv_iload_n hx hb dX5_shownAt_16 rfl (lv_at hl 3 rfl) ?_
    refine lv_iload hx hb dX5_shownAt_17 (lv_at hl 0 rfl) ?_
    refine zc_lt (tgt := 33) hx hb (rk : Int) (((gth (shw σ rv) (σ.2.1 10) (κ.1) (σ.1 4)).1 : Nat) : Int) (zI_toInt (by omega)) (zI_toInt (by omega)) dX5_shownAt_19 (by decide) (fun c19 => by exfalso; omega) (fun c19 => ?_)
    exact thw_NSE (((gth (shw σ rv) (σ.2.1 10) (κ.1) (σ.1 4)).2, κ.2.1, κ.2.2)) "there is no such rank" hst Z ht hP hD hS hl.1 rfl (by decide +kernel) ⟨Nat.le_of_ble_eq_true rfl, Nat.le_of_ble_eq_true rfl, Nat.le_of_ble_eq_true rfl, Nat.le_of_ble_eq_true rfl⟩ hQ dX5_shownAt_22 dX5_shownAt_25 dX5_shownAt_26 dX5_shownAt_29 dX5_shownAt_32
abbrev r_X5_shownAt_a : Room := { frames := 6, cells := 0, slots := 0, locals := 133 }
set_option maxHeartbeats 4000000 in
set_option maxRecDepth 100000 in
theorem m_X5_shownAt_a (l : Launch) (G : ZG) (q : Nat → Nat) (σ : St) (κ : KC) {e_rv : Int} (rv : Nat) (he_rv : e_rv = (rv : Int)) {e_rk : Int} (rk : Nat) (he_rk : e_rk = (rk : Int)) (hI : okC σ) (h1 : rv < σ.1 6) (h2 : ∀ y9, y9 < σ.1 4 → κ.2.2 y9 < σ.1 4) (h3 : rk < (gth (shw σ rv) (κ.2.2) (κ.1) (σ.1 4)).1) :
    MC l G yX5_shownAt (wY yX5_shownAt cX5_shownAt 5 (some .int)) r_X5_shownAt_a (wC G q σ κ) [.ref (q 0), .int (zI e_rv), .int (zI e_rk), .ref (q 15)] (QI G (fun r9 (_ : Unit) => r9 = (zI (((gth (shw σ rv) (κ.2.2) (κ.1) (σ.1 4)).2 rk : Nat) : Int))) (fun _ => wC G q σ ((gth (shw σ rv) (κ.2.2) (κ.1) (σ.1 4)).2, κ.2.1, κ.2.2))) := by
  subst he_rv
  subst he_rk
  refine MC.mk (by decide +kernel) (Nat.le_of_ble_eq_true rfl) ?_
  intro p e s m av below meth c A H locs ls Q Z hr hnm hQ hP hD hS hl
  have hx := Z.1
  have hb := Z.2.1
  have hown := Z.2.2.2.1
  have hW := Z.2.2.2.2.1
  have hl : lv_has ls 5 [(0, .ref (q 0)), (1, .int (zI ((rv : Nat) : Int))), (2, .int (zI ((rk : Nat) : Int))), (3, .ref (q 15))] := hl
  obtain ⟨hn, hru, hrv, hdv, hsr, hmn, ht1, ht2, hwn, hv1, hv2, hmj, htm, hse, htg, hrt, hac, hk1, hk2, hkd, hmm, hmv, hord, hpo, hlo⟩ := id hI
  have hg9 := gth_le (shw σ rv) (κ.2.2) κ.1 (σ.1 4)
  have hg8 := gth_el (p := shw σ rv) (o := κ.2.2) (r0 := κ.1) (B := σ.1 4) (σ.1 4) h2
  refine lv_aload_n hx hb dX5_shownAt_0 rfl (lv_at hl 0 rfl) ?_
  refine lv_iload_n hx hb dX5_shownAt_1 rfl (lv_at hl 1 rfl) ?_
  refine lv_aload_n hx hb dX5_shownAt_2 rfl (lv_at hl 3 rfl) ?_
  refine lv_aload_n hx hb dX5_shownAt_3 rfl (lv_at hl 0 rfl) ?_
  refine gC_0_9 Z hP kf_X5_57 dX5_shownAt_4 ?_
  refine zdet_I ⟨rfl, rfl⟩ Z hD hS (zrunV (rest := []) Z hP hD hS hl.1 (m_X5_gather_ak l G q σ κ (rv) rfl hI (by omega) h2) zY_X5_gather km_X5_220 (q0 := 0) rfl rfl rfl rfl ⟨⟨Nat.le_of_ble_eq_true rfl, Nat.le_of_ble_eq_true rfl⟩, Nat.le_of_ble_eq_true rfl, Nat.le_of_ble_eq_true rfl⟩ (Nat.le_of_ble_eq_true rfl) dX5_shownAt_7) (fun H locs hP hD hS => ?_)
  refine lv_istore (lv' := [(4, .int (zI (((gth (shw σ rv) (κ.2.2) (κ.1) (σ.1 4)).1 : Nat) : Int))), (0, .ref (q 0)), (1, .int (zI ((rv : Nat) : Int))), (2, .int (zI ((rk : Nat) : Int))), (3, .ref (q 15))]) hx hb dX5_shownAt_10 hl (by decide) rfl (fun ls hl => ?_)
  refine lv_iload_n hx hb dX5_shownAt_12 rfl (lv_at hl 3 rfl) ?_
  refine zc0_lt (tgt := 22) hx hb ((rk : Nat) : Int) (zI_toInt (by omega)) dX5_shownAt_13 (by decide) (fun c13 => by exfalso; omega) (fun c13 => ?_)
  refine lv_iload_n hx hb dX5_shownAt_16 rfl (lv_at hl 3 rfl) ?_
  refine lv_iload hx hb dX5_shownAt_17 (lv_at hl 0 rfl) ?_
  refine zc_lt (tgt := 33) hx hb ((rk : Nat) : Int) (((gth (shw σ rv) (κ.2.2) (κ.1) (σ.1 4)).1 : Nat) : Int) (zI_toInt (by omega)) (zI_toInt (by omega)) dX5_shownAt_19 (by decide) (fun c19 => ?_) (fun c19 => by exfalso; omega)
  refine lv_aload_n hx hb dX5_shownAt_33 rfl (lv_at hl 1 rfl) ?_
  refine gC_0_9 Z hP kf_X5_57 dX5_shownAt_34 ?_
  refine lv_iload_n hx hb dX5_shownAt_37 rfl (lv_at hl 3 rfl) ?_
  refine ldN Z hP 6 ((gth (shw σ rv) (κ.2.2) (κ.1) (σ.1 4)).2) rfl (rk) rfl (by omega) (by decide) dX5_shownAt_38 ?_
  exact zret_I () Z hr hP hD hS rfl rfl ⟨Nat.le_refl _, Nat.le_refl _⟩ hQ dX5_shownAt_39
abbrev r_X5_shownAt_a_x : Room := { frames := 6, cells := 1, slots := 6, locals := 133 }
set_option maxHeartbeats 4000000 in
set_option maxRecDepth 100000 in
theorem m_X5_shownAt_a_x (l : Launch) (G : ZG) (hst : l.stackTraces = false) (q : Nat → Nat) (σ : St) (κ : KC) {e_rv : Int} (rv : Nat) (he_rv : e_rv = (rv : Int)) (rk : Int) (hI : okC σ) (h1 : rv < σ.1 6) (h2 : ∀ y9, y9 < σ.1 4 → κ.2.2 y9 < σ.1 4) (h3 : zR rk) (h4 : rk < 0 ∨ ((((gth (shw σ rv) (κ.2.2) (κ.1) (σ.1 4)).1 : Nat)) : Int) ≤ rk) :
    MX l G yX5_shownAt (wY yX5_shownAt cX5_shownAt 5 (some .int)) r_X5_shownAt_a_x (wC G q σ κ) [.ref (q 0), .int (zI e_rv), .int (zI (rk : Int)), .ref (q 15)] (S := KC) "java/util/NoSuchElementException" (fun u => wC G q σ u) := by
  subst he_rv
  refine MX.mk (by decide +kernel) (Nat.le_of_ble_eq_true rfl) ?_
  intro p e s m av below meth c A H locs ls Q Z ht hQ hP hD hS hl
  have hx := Z.1
  have hb := Z.2.1
  have hown := Z.2.2.2.1
  have hW := Z.2.2.2.2.1
  have hl : lv_has ls 5 [(0, .ref (q 0)), (1, .int (zI ((rv : Nat) : Int))), (2, .int (zI (rk : Int))), (3, .ref (q 15))] := hl
  obtain ⟨hn, hru, hrv, hdv, hsr, hmn, ht1, ht2, hwn, hv1, hv2, hmj, htm, hse, htg, hrt, hac, hk1, hk2, hkd, hmm, hmv, hord, hpo, hlo⟩ := id hI
  have hg9 := gth_le (shw σ rv) (κ.2.2) κ.1 (σ.1 4)
  have hg8 := gth_el (p := shw σ rv) (o := κ.2.2) (r0 := κ.1) (B := σ.1 4) (σ.1 4) h2
  refine lv_aload_n hx hb dX5_shownAt_0 rfl (lv_at hl 0 rfl) ?_
  refine lv_iload_n hx hb dX5_shownAt_1 rfl (lv_at hl 1 rfl) ?_
  refine lv_aload_n hx hb dX5_shownAt_2 rfl (lv_at hl 3 rfl) ?_
  refine lv_aload_n hx hb dX5_shownAt_3 rfl (lv_at hl 0 rfl) ?_
  refine gC_0_9 Z hP kf_X5_57 dX5_shownAt_4 ?_
  refine zdet_I ⟨rfl, rfl⟩ Z hD hS (zrunV (rest := []) Z hP hD hS hl.1 (m_X5_gather_ak l G q σ κ (rv) rfl hI (by omega) h2) zY_X5_gather km_X5_220 (q0 := 0) rfl rfl rfl rfl ⟨⟨Nat.le_of_ble_eq_true rfl, Nat.le_of_ble_eq_true rfl⟩, Nat.le_of_ble_eq_true rfl, Nat.le_of_ble_eq_true rfl⟩ (Nat.le_of_ble_eq_true rfl) dX5_shownAt_7) (fun H locs hP hD hS => ?_)
  refine lv_istore (lv' := [(4, .int (zI (((gth (shw σ rv) (κ.2.2) (κ.1) (σ.1 4)).1 : Nat) : Int))), (0, .ref (q 0)), (1, .int (zI ((rv : Nat) : Int))), (2, .int (zI (rk : Int))), (3, .ref (q 15))]) hx hb dX5_shownAt_10 hl (by decide) rfl (fun ls hl => ?_)
  refine lv_iload_n hx hb dX5_shownAt_12 rfl (lv_at hl 3 rfl) ?_
  refine zc0_lt (tgt := 22) hx hb (rk : Int) (zI_toInt (by omega)) dX5_shownAt_13 (by decide) (fun c13 => ?_) (fun c13 => ?_)
  · skip
    exact thw_NSE (((gth (shw σ rv) (κ.2.2) (κ.1) (σ.1 4)).2, κ.2.1, κ.2.2)) "there is no such rank" hst Z ht hP hD hS hl.1 rfl (by decide +kernel) ⟨Nat.le_of_ble_eq_true rfl, Nat.le_of_ble_eq_true rfl, Nat.le_of_ble_eq_true rfl, Nat.le_of_ble_eq_true rfl⟩ hQ dX5_shownAt_22 dX5_shownAt_25 dX5_shownAt_26 dX5_shownAt_29 dX5_shownAt_32
  · skip
    refine lv_iload_n hx hb dX5_shownAt_16 rfl (lv_at hl 3 rfl) ?_
    refine lv_iload hx hb dX5_shownAt_17 (lv_at hl 0 rfl) ?_
    refine zc_lt (tgt := 33) hx hb (rk : Int) (((gth (shw σ rv) (κ.2.2) (κ.1) (σ.1 4)).1 : Nat) : Int) (zI_toInt (by omega)) (zI_toInt (by omega)) dX5_shownAt_19 (by decide) (fun c19 => by exfalso; omega) (fun c19 => ?_)
    exact thw_NSE (((gth (shw σ rv) (κ.2.2) (κ.1) (σ.1 4)).2, κ.2.1, κ.2.2)) "there is no such rank" hst Z ht hP hD hS hl.1 rfl (by decide +kernel) ⟨Nat.le_of_ble_eq_true rfl, Nat.le_of_ble_eq_true rfl, Nat.le_of_ble_eq_true rfl, Nat.le_of_ble_eq_true rfl⟩ hQ dX5_shownAt_22 dX5_shownAt_25 dX5_shownAt_26 dX5_shownAt_29 dX5_shownAt_32
