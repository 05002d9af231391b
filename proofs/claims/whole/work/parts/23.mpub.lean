section ZPure8
theorem cnt_mono {p r : Nat → Bool} (h : ∀ k, p k = true → r k = true) : ∀ n, cnt p n ≤ cnt r n
  | 0 => Nat.le_refl _
  | n + 1 => by
    have ih := cnt_mono h n
    unfold cnt
    cases hp : p n with
    | false => simp; omega
    | true => rw [h n hp]; simp; omega
def advM (σ : St) : St := sN (lrN (cpN σ (σ.1 7) (σ.1 4)) (σ.1 7) (σ.1 4)) 7 (σ.1 7 + 1)
def sysM (σ : St) (d : Nat) : St := lrN (sySM σ d (σ.1 4)) d (σ.1 4)
end ZPure8
abbrev r_X6_pass : Room := { frames := 1, cells := 0, slots := 0, locals := 22 }
set_option maxHeartbeats 4000000 in
set_option maxRecDepth 100000 in
theorem m_X6_pass (l : Launch) (G : ZG) (q : Nat → Nat) (σ : St) (κ : KM) {e_a : Int} (a : Nat) (he_a : e_a = (a : Int)) (hI : okM σ) (h1 : 1 ≤ a) (h2 : a ≤ 2000) (h3 : σ.1 0 + a ≤ 99999) :
    MC l G yX6_pass (wY yX6_pass cX6_pass 2 (some .int)) r_X6_pass (wM G q σ κ) [.ref (q 0), .int (zI e_a)] (QI G (fun r9 (_ : Unit) => r9 = (zI ((σ.1 0 + a : Nat) : Int))) (fun _ => wM G q (sN σ 0 (σ.1 0 + a)) ((0 : Int), κ.2.1, κ.2.2.1, κ.2.2.2))) := by
  subst he_a
  refine MC.mk (by decide +kernel) (Nat.le_of_ble_eq_true rfl) ?_
  intro p e s m av below meth c A H locs ls Q Z hr hnm hQ hP hD hS hl
  have hx := Z.1
  have hb := Z.2.1
  have hown := Z.2.2.2.1
  have hW := Z.2.2.2.2.1
  have hl : lv_has ls 2 [(0, .ref (q 0)), (1, .int (zI ((a : Nat) : Int)))] := hl
  obtain ⟨hn, hru, hrv, hdv, hsr, hmn, ht1, ht2, hwn, hv1, hv2, hmj, htm, hse, htg, hrt, hac, hk1, hk2, hkd, hmm, hmv, hpp, hpl, hp3, hp4, hp6, hp5, hp7, hnz⟩ := id hI
  refine lv_aload_n hx hb dX6_pass_0 rfl (lv_at hl 0 rfl) ?_
  refine lv_iload_n hx hb dX6_pass_1 rfl (lv_at hl 1 rfl) ?_
  refine zr_iconst hx hb dX6_pass_2 ?_
  refine zr_sipush hx hb dX6_pass_3 (by decide) ?_
  refine zdet_I ⟨rfl, rfl⟩ Z hD hS (zrunS (rest := [.ref (q 0)]) Z hP hD hS hl.1 (m_X6_in l G (wM G q σ κ) ((a : Nat) : Int) (1 : Int) (2000 : Int) (by omega) (by omega) (by omega)) zY_X6_in km_X6_128 rfl rfl ⟨⟨Nat.le_of_ble_eq_true rfl, Nat.le_of_ble_eq_true rfl⟩, Nat.le_of_ble_eq_true rfl, Nat.le_of_ble_eq_true rfl⟩ (Nat.le_of_ble_eq_true rfl) dX6_pass_6) (fun H locs hP hD hS => ?_)
  refine zb_ne (tgt := 16) hx hb dX6_pass_9 (by decide) (fun c9 => ?_) (fun c9 => by exfalso; have h9 := of_decide_eq_false c9; omega)
  refine lv_aload_n hx hb dX6_pass_16 rfl (lv_at hl 0 rfl) ?_
  refine gM_0_24 Z hP kf_X6_84 dX6_pass_17 ?_
  refine lv_iload_n hx hb dX6_pass_20 rfl (lv_at hl 1 rfl) ?_
  refine zr_iadd hx hb dX6_pass_21 ?_
  refine zr_ldc hx hb 99999 (by decide) hown (hW _ kk_X6_132) dX6_pass_22 ?_
  refine zc_le (tgt := 31) hx hb (((σ.1 0 : Nat) : Int) + ((a : Nat) : Int)) (99999 : Int) (zI_toInt (by omega)) (zI_toInt (by decide)) dX6_pass_24 (by decide) (fun c24 => ?_) (fun c24 => by exfalso; omega)
  refine zr_iconst hx hb dX6_pass_31 ?_
  refine pM_0_23 Z hP hD hS kf_X6_80 dX6_pass_32 (fun H locs hP hD hS => ?_)
  refine lv_aload_n hx hb dX6_pass_35 rfl (lv_at hl 0 rfl) ?_
  refine gM_0_23 Z hP kf_X6_80 dX6_pass_36 ?_
  refine zr_top (w := .int (zI (0 : Int))) rfl ?_
  refine zc0_le (tgt := 44) hx hb (0 : Int) (zI_toInt (by decide)) dX6_pass_39 (by decide) (fun c39 => ?_) (fun c39 => by exfalso; omega)
  refine lv_aload_n hx hb dX6_pass_44 rfl (lv_at hl 0 rfl) ?_
  refine lv_dup hx hb dX6_pass_45 rfl ?_
  refine gM_0_24 Z hP kf_X6_84 dX6_pass_46 ?_
  refine zr_top (w := .int (zI ((σ.1 0 : Nat) : Int))) rfl ?_
  refine lv_iload_n hx hb dX6_pass_49 rfl (lv_at hl 1 rfl) ?_
  refine zr_iadd hx hb dX6_pass_50 ?_
  refine pM_0_24 Z hP hD hS (σ.1 0 + a) (by omega) kf_X6_84 dX6_pass_51 (fun H locs hP hD hS => ?_)
  refine lv_aload_n hx hb dX6_pass_54 rfl (lv_at hl 0 rfl) ?_
  refine gM_0_24 Z hP kf_X6_84 dX6_pass_55 ?_
  refine zr_top (w := .int (zI ((σ.1 0 + a : Nat) : Int))) rfl ?_
  exact zret_I () Z hr hP hD hS rfl rfl ⟨Nat.le_refl _, Nat.le_refl _⟩ hQ dX6_pass_58
abbrev r_X6_pass_t1 : Room := { frames := 1, cells := 0, slots := 0, locals := 22 }
set_option maxHeartbeats 4000000 in
set_option maxRecDepth 100000 in
theorem m_X6_pass_t1 (l : Launch) (G : ZG) (q : Nat → Nat) (σ : St) (κ : KM) (a : Int) (hI : okM σ) (h1 : zR a) (h2 : a < 1 ∨ 2000 < a) :
    MC l G yX6_pass (wY yX6_pass cX6_pass 2 (some .int)) r_X6_pass_t1 (wM G q σ κ) [.ref (q 0), .int (zI (a : Int))] (QI G (fun r9 (_ : Unit) => r9 = (zI (0 : Int))) (fun _ => wM G q σ ((1 : Int), κ.2.1, κ.2.2.1, κ.2.2.2))) := by
  refine MC.mk (by decide +kernel) (Nat.le_of_ble_eq_true rfl) ?_
  intro p e s m av below meth c A H locs ls Q Z hr hnm hQ hP hD hS hl
  have hx := Z.1
  have hb := Z.2.1
  have hown := Z.2.2.2.1
  have hW := Z.2.2.2.2.1
  have hl : lv_has ls 2 [(0, .ref (q 0)), (1, .int (zI (a : Int)))] := hl
  obtain ⟨hn, hru, hrv, hdv, hsr, hmn, ht1, ht2, hwn, hv1, hv2, hmj, htm, hse, htg, hrt, hac, hk1, hk2, hkd, hmm, hmv, hpp, hpl, hp3, hp4, hp6, hp5, hp7, hnz⟩ := id hI
  refine lv_aload_n hx hb dX6_pass_0 rfl (lv_at hl 0 rfl) ?_
  refine lv_iload_n hx hb dX6_pass_1 rfl (lv_at hl 1 rfl) ?_
  refine zr_iconst hx hb dX6_pass_2 ?_
  refine zr_sipush hx hb dX6_pass_3 (by decide) ?_
  refine zdet_I ⟨rfl, rfl⟩ Z hD hS (zrunS (rest := [.ref (q 0)]) Z hP hD hS hl.1 (m_X6_in l G (wM G q σ κ) (a : Int) (1 : Int) (2000 : Int) (by omega) (by omega) (by omega)) zY_X6_in km_X6_128 rfl rfl ⟨⟨Nat.le_of_ble_eq_true rfl, Nat.le_of_ble_eq_true rfl⟩, Nat.le_of_ble_eq_true rfl, Nat.le_of_ble_eq_true rfl⟩ (Nat.le_of_ble_eq_true rfl) dX6_pass_6) (fun H locs hP hD hS => ?_)
  refine zb_ne (tgt := 16) hx hb dX6_pass_9 (by decide) (fun c9 => by exfalso; have h9 := of_decide_eq_true c9; omega) (fun c9 => ?_)
  refine zr_iconst hx hb dX6_pass_12 ?_
  refine lv_goto (tgt := 32) hx hb dX6_pass_13 (by decide) ?_
  refine pM_0_23 Z hP hD hS kf_X6_80 dX6_pass_32 (fun H locs hP hD hS => ?_)
  refine lv_aload_n hx hb dX6_pass_35 rfl (lv_at hl 0 rfl) ?_
  refine gM_0_23 Z hP kf_X6_80 dX6_pass_36 ?_
  refine zr_top (w := .int (zI (1 : Int))) rfl ?_
  refine zc0_le (tgt := 44) hx hb (1 : Int) (zI_toInt (by decide)) dX6_pass_39 (by decide) (fun c39 => by exfalso; omega) (fun c39 => ?_)
  refine zr_iconst hx hb dX6_pass_42 ?_
  exact zret_I () Z hr hP hD hS rfl rfl ⟨Nat.le_refl _, Nat.le_refl _⟩ hQ dX6_pass_43
abbrev r_X6_pass_t2 : Room := { frames := 1, cells := 0, slots := 0, locals := 22 }
set_option maxHeartbeats 4000000 in
set_option maxRecDepth 100000 in
theorem m_X6_pass_t2 (l : Launch) (G : ZG) (q : Nat → Nat) (σ : St) (κ : KM) {e_a : Int} (a : Nat) (he_a : e_a = (a : Int)) (hI : okM σ) (h1 : 1 ≤ a) (h2 : a ≤ 2000) (h3 : 99999 < σ.1 0 + a) :
    MC l G yX6_pass (wY yX6_pass cX6_pass 2 (some .int)) r_X6_pass_t2 (wM G q σ κ) [.ref (q 0), .int (zI e_a)] (QI G (fun r9 (_ : Unit) => r9 = (zI (0 : Int))) (fun _ => wM G q σ ((2 : Int), κ.2.1, κ.2.2.1, κ.2.2.2))) := by
  subst he_a
  refine MC.mk (by decide +kernel) (Nat.le_of_ble_eq_true rfl) ?_
  intro p e s m av below meth c A H locs ls Q Z hr hnm hQ hP hD hS hl
  have hx := Z.1
  have hb := Z.2.1
  have hown := Z.2.2.2.1
  have hW := Z.2.2.2.2.1
  have hl : lv_has ls 2 [(0, .ref (q 0)), (1, .int (zI ((a : Nat) : Int)))] := hl
  obtain ⟨hn, hru, hrv, hdv, hsr, hmn, ht1, ht2, hwn, hv1, hv2, hmj, htm, hse, htg, hrt, hac, hk1, hk2, hkd, hmm, hmv, hpp, hpl, hp3, hp4, hp6, hp5, hp7, hnz⟩ := id hI
  refine lv_aload_n hx hb dX6_pass_0 rfl (lv_at hl 0 rfl) ?_
  refine lv_iload_n hx hb dX6_pass_1 rfl (lv_at hl 1 rfl) ?_
  refine zr_iconst hx hb dX6_pass_2 ?_
  refine zr_sipush hx hb dX6_pass_3 (by decide) ?_
  refine zdet_I ⟨rfl, rfl⟩ Z hD hS (zrunS (rest := [.ref (q 0)]) Z hP hD hS hl.1 (m_X6_in l G (wM G q σ κ) ((a : Nat) : Int) (1 : Int) (2000 : Int) (by omega) (by omega) (by omega)) zY_X6_in km_X6_128 rfl rfl ⟨⟨Nat.le_of_ble_eq_true rfl, Nat.le_of_ble_eq_true rfl⟩, Nat.le_of_ble_eq_true rfl, Nat.le_of_ble_eq_true rfl⟩ (Nat.le_of_ble_eq_true rfl) dX6_pass_6) (fun H locs hP hD hS => ?_)
  refine zb_ne (tgt := 16) hx hb dX6_pass_9 (by decide) (fun c9 => ?_) (fun c9 => by exfalso; have h9 := of_decide_eq_false c9; omega)
  refine lv_aload_n hx hb dX6_pass_16 rfl (lv_at hl 0 rfl) ?_
  refine gM_0_24 Z hP kf_X6_84 dX6_pass_17 ?_
  refine lv_iload_n hx hb dX6_pass_20 rfl (lv_at hl 1 rfl) ?_
  refine zr_iadd hx hb dX6_pass_21 ?_
  refine zr_ldc hx hb 99999 (by decide) hown (hW _ kk_X6_132) dX6_pass_22 ?_
  refine zc_le (tgt := 31) hx hb (((σ.1 0 : Nat) : Int) + ((a : Nat) : Int)) (99999 : Int) (zI_toInt (by omega)) (zI_toInt (by decide)) dX6_pass_24 (by decide) (fun c24 => by exfalso; omega) (fun c24 => ?_)
  refine zr_iconst hx hb dX6_pass_27 ?_
  refine lv_goto (tgt := 32) hx hb dX6_pass_28 (by decide) ?_
  refine pM_0_23 Z hP hD hS kf_X6_80 dX6_pass_32 (fun H locs hP hD hS => ?_)
  refine lv_aload_n hx hb dX6_pass_35 rfl (lv_at hl 0 rfl) ?_
  refine gM_0_23 Z hP kf_X6_80 dX6_pass_36 ?_
  refine zr_top (w := .int (zI (2 : Int))) rfl ?_
  refine zc0_le (tgt := 44) hx hb (2 : Int) (zI_toInt (by decide)) dX6_pass_39 (by decide) (fun c39 => by exfalso; omega) (fun c39 => ?_)
  refine zr_iconst hx hb dX6_pass_42 ?_
  exact zret_I () Z hr hP hD hS rfl rfl ⟨Nat.le_refl _, Nat.le_refl _⟩ hQ dX6_pass_43
abbrev r_X6_now : Room := { frames := 1, cells := 0, slots := 0, locals := 21 }
set_option maxHeartbeats 4000000 in
set_option maxRecDepth 100000 in
theorem m_X6_now (l : Launch) (G : ZG) (q : Nat → Nat) (σ : St) (κ : KM)  :
    MC l G yX6_now (wY yX6_now cX6_now 1 (some .int)) r_X6_now (wM G q σ κ) [.ref (q 0)] (QI G (fun r9 (_ : Unit) => r9 = (zI ((σ.1 0 : Nat) : Int))) (fun _ => wM G q σ ((0 : Int), κ.2.1, κ.2.2.1, κ.2.2.2))) := by
  refine MC.mk (by decide +kernel) (Nat.le_of_ble_eq_true rfl) ?_
  intro p e s m av below meth c A H locs ls Q Z hr hnm hQ hP hD hS hl
  have hx := Z.1
  have hb := Z.2.1
  have hown := Z.2.2.2.1
  have hW := Z.2.2.2.2.1
  have hl : lv_has ls 1 [(0, .ref (q 0))] := hl
  refine lv_aload_n hx hb dX6_now_0 rfl (lv_at hl 0 rfl) ?_
  refine lv_aload_n hx hb dX6_now_1 rfl (lv_at hl 0 rfl) ?_
  refine gM_0_24 Z hP kf_X6_84 dX6_now_2 ?_
  refine zdet_I ⟨rfl, rfl⟩ Z hD hS (zrunV (rest := []) Z hP hD hS hl.1 (m_X6_plain l G q σ κ ((σ.1 0 : Nat) : Int)) zY_X6_plain km_X6_133 (q0 := 0) rfl rfl rfl rfl ⟨⟨Nat.le_of_ble_eq_true rfl, Nat.le_of_ble_eq_true rfl⟩, Nat.le_of_ble_eq_true rfl, Nat.le_of_ble_eq_true rfl⟩ (Nat.le_of_ble_eq_true rfl) dX6_now_5) (fun H locs hP hD hS => ?_)
  exact zret_I () Z hr hP hD hS rfl rfl ⟨Nat.le_refl _, Nat.le_refl _⟩ hQ dX6_now_8
abbrev r_X6_items : Room := { frames := 1, cells := 0, slots := 0, locals := 21 }
set_option maxHeartbeats 4000000 in
set_option maxRecDepth 100000 in
theorem m_X6_items (l : Launch) (G : ZG) (q : Nat → Nat) (σ : St) (κ : KM)  :
    MC l G yX6_items (wY yX6_items cX6_items 1 (some .int)) r_X6_items (wM G q σ κ) [.ref (q 0)] (QI G (fun r9 (_ : Unit) => r9 = (zI ((σ.1 4 : Nat) : Int))) (fun _ => wM G q σ ((0 : Int), κ.2.1, κ.2.2.1, κ.2.2.2))) := by
  refine MC.mk (by decide +kernel) (Nat.le_of_ble_eq_true rfl) ?_
  intro p e s m av below meth c A H locs ls Q Z hr hnm hQ hP hD hS hl
  have hx := Z.1
  have hb := Z.2.1
  have hown := Z.2.2.2.1
  have hW := Z.2.2.2.2.1
  have hl : lv_has ls 1 [(0, .ref (q 0))] := hl
  refine lv_aload_n hx hb dX6_items_0 rfl (lv_at hl 0 rfl) ?_
  refine lv_aload_n hx hb dX6_items_1 rfl (lv_at hl 0 rfl) ?_
  refine gM_0_28 Z hP kf_X6_96 dX6_items_2 ?_
  refine zdet_I ⟨rfl, rfl⟩ Z hD hS (zrunV (rest := []) Z hP hD hS hl.1 (m_X6_plain l G q σ κ ((σ.1 4 : Nat) : Int)) zY_X6_plain km_X6_133 (q0 := 0) rfl rfl rfl rfl ⟨⟨Nat.le_of_ble_eq_true rfl, Nat.le_of_ble_eq_true rfl⟩, Nat.le_of_ble_eq_true rfl, Nat.le_of_ble_eq_true rfl⟩ (Nat.le_of_ble_eq_true rfl) dX6_items_5) (fun H locs hP hD hS => ?_)
  exact zret_I () Z hr hP hD hS rfl rfl ⟨Nat.le_refl _, Nat.le_refl _⟩ hQ dX6_items_8
abbrev r_X6_setThreshold : Room := { frames := 1, cells := 0, slots := 0, locals := 22 }
set_option maxHeartbeats 4000000 in
set_option maxRecDepth 100000 in
theorem m_X6_setThreshold (l : Launch) (G : ZG) (q : Nat → Nat) (σ : St) (κ : KM) {e_a : Int} (a : Nat) (he_a : e_a = (a : Int)) (h1 : 1 ≤ a) (h2 : a ≤ 100) :
    MC l G yX6_setThreshold (wY yX6_setThreshold cX6_setThreshold 3 (some .int)) r_X6_setThreshold (wM G q σ κ) [.ref (q 0), .int (zI e_a)] (QI G (fun r9 (_ : Unit) => r9 = (zI ((σ.1 1 : Nat) : Int))) (fun _ => wM G q (sN σ 1 (a)) ((0 : Int), κ.2.1, κ.2.2.1, κ.2.2.2))) := by
  subst he_a
  refine MC.mk (by decide +kernel) (Nat.le_of_ble_eq_true rfl) ?_
  intro p e s m av below meth c A H locs ls Q Z hr hnm hQ hP hD hS hl
  have hx := Z.1
  have hb := Z.2.1
  have hown := Z.2.2.2.1
  have hW := Z.2.2.2.2.1
  have hl : lv_has ls 3 [(0, .ref (q 0)), (1, .int (zI ((a : Nat) : Int)))] := hl
  refine lv_aload_n hx hb dX6_setThreshold_0 rfl (lv_at hl 0 rfl) ?_
  refine lv_iload_n hx hb dX6_setThreshold_1 rfl (lv_at hl 1 rfl) ?_
  refine zr_iconst hx hb dX6_setThreshold_2 ?_
  refine zr_bipush hx hb dX6_setThreshold_3 (by decide) ?_
  refine zdet_I ⟨rfl, rfl⟩ Z hD hS (zrunS (rest := [.ref (q 0)]) Z hP hD hS hl.1 (m_X6_in l G (wM G q σ κ) ((a : Nat) : Int) (1 : Int) (100 : Int) (by omega) (by omega) (by omega)) zY_X6_in km_X6_128 rfl rfl ⟨⟨Nat.le_of_ble_eq_true rfl, Nat.le_of_ble_eq_true rfl⟩, Nat.le_of_ble_eq_true rfl, Nat.le_of_ble_eq_true rfl⟩ (Nat.le_of_ble_eq_true rfl) dX6_setThreshold_5) (fun H locs hP hD hS => ?_)
  refine zdet_I ⟨rfl, rfl⟩ Z hD hS (zrunV (rest := []) Z hP hD hS hl.1 (m_X6_checked l G q σ κ (decide ((1 : Int) ≤ ((a : Nat) : Int) ∧ ((a : Nat) : Int) ≤ (100 : Int))) (decide_eq_true (by omega))) zY_X6_checked km_X6_137 (q0 := 0) rfl rfl rfl rfl ⟨⟨Nat.le_of_ble_eq_true rfl, Nat.le_of_ble_eq_true rfl⟩, Nat.le_of_ble_eq_true rfl, Nat.le_of_ble_eq_true rfl⟩ (Nat.le_of_ble_eq_true rfl) dX6_setThreshold_8) (fun H locs hP hD hS => ?_)
  refine zc0_le (tgt := 16) hx hb (0 : Int) (zI_toInt (by decide)) dX6_setThreshold_11 (by decide) (fun c11 => ?_) (fun c11 => by exfalso; omega)
  refine lv_aload_n hx hb dX6_setThreshold_16 rfl (lv_at hl 0 rfl) ?_
  refine gM_0_25 Z hP kf_X6_87 dX6_setThreshold_17 ?_
  refine zr_top (w := .int (zI ((σ.1 1 : Nat) : Int))) rfl ?_
  refine lv_istore_n (lv' := [(2, .int (zI ((σ.1 1 : Nat) : Int))), (0, .ref (q 0)), (1, .int (zI ((a : Nat) : Int)))]) hx hb dX6_setThreshold_20 rfl hl (by decide) rfl (fun ls hl => ?_)
  refine lv_aload_n hx hb dX6_setThreshold_21 rfl (lv_at hl 1 rfl) ?_
  refine lv_iload_n hx hb dX6_setThreshold_22 rfl (lv_at hl 2 rfl) ?_
  refine pM_0_25 Z hP hD hS (a) rfl kf_X6_87 dX6_setThreshold_23 (fun H locs hP hD hS => ?_)
  refine lv_iload_n hx hb dX6_setThreshold_26 rfl (lv_at hl 0 rfl) ?_
  exact zret_I () Z hr hP hD hS rfl rfl ⟨Nat.le_refl _, Nat.le_refl _⟩ hQ dX6_setThreshold_27
abbrev r_X6_setThreshold_t1 : Room := { frames := 1, cells := 0, slots := 0, locals := 22 }
set_option maxHeartbeats 4000000 in
set_option maxRecDepth 100000 in
theorem m_X6_setThreshold_t1 (l : Launch) (G : ZG) (q : Nat → Nat) (σ : St) (κ : KM) (a : Int) (h1 : zR a) (h2 : a < 1 ∨ 100 < a) :
    MC l G yX6_setThreshold (wY yX6_setThreshold cX6_setThreshold 3 (some .int)) r_X6_setThreshold_t1 (wM G q σ κ) [.ref (q 0), .int (zI (a : Int))] (QI G (fun r9 (_ : Unit) => r9 = (zI (0 : Int))) (fun _ => wM G q σ ((1 : Int), κ.2.1, κ.2.2.1, κ.2.2.2))) := by
  refine MC.mk (by decide +kernel) (Nat.le_of_ble_eq_true rfl) ?_
  intro p e s m av below meth c A H locs ls Q Z hr hnm hQ hP hD hS hl
  have hx := Z.1
  have hb := Z.2.1
  have hown := Z.2.2.2.1
  have hW := Z.2.2.2.2.1
  have hl : lv_has ls 3 [(0, .ref (q 0)), (1, .int (zI (a : Int)))] := hl
  refine lv_aload_n hx hb dX6_setThreshold_0 rfl (lv_at hl 0 rfl) ?_
  refine lv_iload_n hx hb dX6_setThreshold_1 rfl (lv_at hl 1 rfl) ?_
  refine zr_iconst hx hb dX6_setThreshold_2 ?_
  refine zr_bipush hx hb dX6_setThreshold_3 (by decide) ?_
  refine zdet_I ⟨rfl, rfl⟩ Z hD hS (zrunS (rest := [.ref (q 0)]) Z hP hD hS hl.1 (m_X6_in l G (wM G q σ κ) (a : Int) (1 : Int) (100 : Int) (by omega) (by omega) (by omega)) zY_X6_in km_X6_128 rfl rfl ⟨⟨Nat.le_of_ble_eq_true rfl, Nat.le_of_ble_eq_true rfl⟩, Nat.le_of_ble_eq_true rfl, Nat.le_of_ble_eq_true rfl⟩ (Nat.le_of_ble_eq_true rfl) dX6_setThreshold_5) (fun H locs hP hD hS => ?_)
  refine zdet_I ⟨rfl, rfl⟩ Z hD hS (zrunV (rest := []) Z hP hD hS hl.1 (m_X6_checked_n l G q σ κ (decide ((1 : Int) ≤ (a : Int) ∧ (a : Int) ≤ (100 : Int))) (decide_eq_false (by omega))) zY_X6_checked km_X6_137 (q0 := 0) rfl rfl rfl rfl ⟨⟨Nat.le_of_ble_eq_true rfl, Nat.le_of_ble_eq_true rfl⟩, Nat.le_of_ble_eq_true rfl, Nat.le_of_ble_eq_true rfl⟩ (Nat.le_of_ble_eq_true rfl) dX6_setThreshold_8) (fun H locs hP hD hS => ?_)
  refine zc0_le (tgt := 16) hx hb (1 : Int) (zI_toInt (by decide)) dX6_setThreshold_11 (by decide) (fun c11 => by exfalso; omega) (fun c11 => ?_)
  refine zr_iconst hx hb dX6_setThreshold_14 ?_
  exact zret_I () Z hr hP hD hS rfl rfl ⟨Nat.le_refl _, Nat.le_refl _⟩ hQ dX6_setThreshold_15
abbrev r_X6_setWindow : Room := { frames := 1, cells := 0, slots := 0, locals := 22 }
set_option maxHeartbeats 4000000 in
set_option maxRecDepth 100000 in
theorem m_X6_setWindow (l : Launch) (G : ZG) (q : Nat → Nat) (σ : St) (κ : KM) {e_a : Int} (a : Nat) (he_a : e_a = (a : Int)) (h1 : 0 ≤ a) (h2 : a ≤ 1440) :
    MC l G yX6_setWindow (wY yX6_setWindow cX6_setWindow 3 (some .int)) r_X6_setWindow (wM G q σ κ) [.ref (q 0), .int (zI e_a)] (QI G (fun r9 (_ : Unit) => r9 = (zI ((σ.1 2 : Nat) : Int))) (fun _ => wM G q (sN σ 2 (a)) ((0 : Int), κ.2.1, κ.2.2.1, κ.2.2.2))) := by
  subst he_a
  refine MC.mk (by decide +kernel) (Nat.le_of_ble_eq_true rfl) ?_
  intro p e s m av below meth c A H locs ls Q Z hr hnm hQ hP hD hS hl
  have hx := Z.1
  have hb := Z.2.1
  have hown := Z.2.2.2.1
  have hW := Z.2.2.2.2.1
  have hl : lv_has ls 3 [(0, .ref (q 0)), (1, .int (zI ((a : Nat) : Int)))] := hl
  refine lv_aload_n hx hb dX6_setWindow_0 rfl (lv_at hl 0 rfl) ?_
  refine lv_iload_n hx hb dX6_setWindow_1 rfl (lv_at hl 1 rfl) ?_
  refine zr_iconst hx hb dX6_setWindow_2 ?_
  refine zr_sipush hx hb dX6_setWindow_3 (by decide) ?_
  refine zdet_I ⟨rfl, rfl⟩ Z hD hS (zrunS (rest := [.ref (q 0)]) Z hP hD hS hl.1 (m_X6_in l G (wM G q σ κ) ((a : Nat) : Int) (0 : Int) (1440 : Int) (by omega) (by omega) (by omega)) zY_X6_in km_X6_128 rfl rfl ⟨⟨Nat.le_of_ble_eq_true rfl, Nat.le_of_ble_eq_true rfl⟩, Nat.le_of_ble_eq_true rfl, Nat.le_of_ble_eq_true rfl⟩ (Nat.le_of_ble_eq_true rfl) dX6_setWindow_6) (fun H locs hP hD hS => ?_)
  refine zdet_I ⟨rfl, rfl⟩ Z hD hS (zrunV (rest := []) Z hP hD hS hl.1 (m_X6_checked l G q σ κ (decide ((0 : Int) ≤ ((a : Nat) : Int) ∧ ((a : Nat) : Int) ≤ (1440 : Int))) (decide_eq_true (by omega))) zY_X6_checked km_X6_137 (q0 := 0) rfl rfl rfl rfl ⟨⟨Nat.le_of_ble_eq_true rfl, Nat.le_of_ble_eq_true rfl⟩, Nat.le_of_ble_eq_true rfl, Nat.le_of_ble_eq_true rfl⟩ (Nat.le_of_ble_eq_true rfl) dX6_setWindow_9) (fun H locs hP hD hS => ?_)
  refine zc0_le (tgt := 17) hx hb (0 : Int) (zI_toInt (by decide)) dX6_setWindow_12 (by decide) (fun c12 => ?_) (fun c12 => by exfalso; omega)
  refine lv_aload_n hx hb dX6_setWindow_17 rfl (lv_at hl 0 rfl) ?_
  refine gM_0_26 Z hP kf_X6_90 dX6_setWindow_18 ?_
  refine zr_top (w := .int (zI ((σ.1 2 : Nat) : Int))) rfl ?_
  refine lv_istore_n (lv' := [(2, .int (zI ((σ.1 2 : Nat) : Int))), (0, .ref (q 0)), (1, .int (zI ((a : Nat) : Int)))]) hx hb dX6_setWindow_21 rfl hl (by decide) rfl (fun ls hl => ?_)
  refine lv_aload_n hx hb dX6_setWindow_22 rfl (lv_at hl 1 rfl) ?_
  refine lv_iload_n hx hb dX6_setWindow_23 rfl (lv_at hl 2 rfl) ?_
  refine pM_0_26 Z hP hD hS (a) rfl kf_X6_90 dX6_setWindow_24 (fun H locs hP hD hS => ?_)
  refine lv_iload_n hx hb dX6_setWindow_27 rfl (lv_at hl 0 rfl) ?_
  exact zret_I () Z hr hP hD hS rfl rfl ⟨Nat.le_refl _, Nat.le_refl _⟩ hQ dX6_setWindow_28
abbrev r_X6_setWindow_t1 : Room := { frames := 1, cells := 0, slots := 0, locals := 22 }
set_option maxHeartbeats 4000000 in
set_option maxRecDepth 100000 in
theorem m_X6_setWindow_t1 (l : Launch) (G : ZG) (q : Nat → Nat) (σ : St) (κ : KM) (a : Int) (h1 : zR a) (h2 : a < 0 ∨ 1440 < a) :
    MC l G yX6_setWindow (wY yX6_setWindow cX6_setWindow 3 (some .int)) r_X6_setWindow_t1 (wM G q σ κ) [.ref (q 0), .int (zI (a : Int))] (QI G (fun r9 (_ : Unit) => r9 = (zI (0 : Int))) (fun _ => wM G q σ ((1 : Int), κ.2.1, κ.2.2.1, κ.2.2.2))) := by
  refine MC.mk (by decide +kernel) (Nat.le_of_ble_eq_true rfl) ?_
  intro p e s m av below meth c A H locs ls Q Z hr hnm hQ hP hD hS hl
  have hx := Z.1
  have hb := Z.2.1
  have hown := Z.2.2.2.1
  have hW := Z.2.2.2.2.1
  have hl : lv_has ls 3 [(0, .ref (q 0)), (1, .int (zI (a : Int)))] := hl
  refine lv_aload_n hx hb dX6_setWindow_0 rfl (lv_at hl 0 rfl) ?_
  refine lv_iload_n hx hb dX6_setWindow_1 rfl (lv_at hl 1 rfl) ?_
  refine zr_iconst hx hb dX6_setWindow_2 ?_
  refine zr_sipush hx hb dX6_setWindow_3 (by decide) ?_
  refine zdet_I ⟨rfl, rfl⟩ Z hD hS (zrunS (rest := [.ref (q 0)]) Z hP hD hS hl.1 (m_X6_in l G (wM G q σ κ) (a : Int) (0 : Int) (1440 : Int) (by omega) (by omega) (by omega)) zY_X6_in km_X6_128 rfl rfl ⟨⟨Nat.le_of_ble_eq_true rfl, Nat.le_of_ble_eq_true rfl⟩, Nat.le_of_ble_eq_true rfl, Nat.le_of_ble_eq_true rfl⟩ (Nat.le_of_ble_eq_true rfl) dX6_setWindow_6) (fun H locs hP hD hS => ?_)
  refine zdet_I ⟨rfl, rfl⟩ Z hD hS (zrunV (rest := []) Z hP hD hS hl.1 (m_X6_checked_n l G q σ κ (decide ((0 : Int) ≤ (a : Int) ∧ (a : Int) ≤ (1440 : Int))) (decide_eq_false (by omega))) zY_X6_checked km_X6_137 (q0 := 0) rfl rfl rfl rfl ⟨⟨Nat.le_of_ble_eq_true rfl, Nat.le_of_ble_eq_true rfl⟩, Nat.le_of_ble_eq_true rfl, Nat.le_of_ble_eq_true rfl⟩ (Nat.le_of_ble_eq_true rfl) dX6_setWindow_9) (fun H locs hP hD hS => ?_)
  refine zc0_le (tgt := 17) hx hb (1 : Int) (zI_toInt (by decide)) dX6_setWindow_12 (by decide) (fun c12 => by exfalso; omega) (fun c12 => ?_)
  refine zr_iconst hx hb dX6_setWindow_15 ?_
  exact zret_I () Z hr hP hD hS rfl rfl ⟨Nat.le_refl _, Nat.le_refl _⟩ hQ dX6_setWindow_16
abbrev r_X6_likeness : Room := { frames := 2, cells := 0, slots := 0, locals := 46 }
set_option maxHeartbeats 4000000 in
set_option maxRecDepth 100000 in
theorem m_X6_likeness (l : Launch) (G : ZG) (q : Nat → Nat) (σ : St) (κ : KM) (a : Int64) (b : Int64) (h1 : ¬ a = 0) (h2 : ¬ b = 0) :
    MC l G yX6_likeness (wY yX6_likeness cX6_likeness 5 (some .int)) r_X6_likeness (wM G q σ κ) [.ref (q 0), .long (a), .long (b)] (QI G (fun r9 (_ : Unit) => r9 = (zI ((like a b : Nat) : Int))) (fun _ => wM G q σ ((0 : Int), κ.2.1, κ.2.2.1, κ.2.2.2))) := by
  refine MC.mk (by decide +kernel) (Nat.le_of_ble_eq_true rfl) ?_
  intro p e s m av below meth c A H locs ls Q Z hr hnm hQ hP hD hS hl
  have hx := Z.1
  have hb := Z.2.1
  have hown := Z.2.2.2.1
  have hW := Z.2.2.2.2.1
  have hl : lv_has ls 5 [(0, .ref (q 0)), (1, .long (a)), (3, .long (b))] := hl
  refine lv_aload_n hx hb dX6_likeness_0 rfl (lv_at hl 0 rfl) ?_
  refine lv_lload_n hx hb dX6_likeness_1 rfl (lv_at hl 1 rfl) ?_
  refine lv_lconst (v := 0) hx hb dX6_likeness_2 (by decide) ?_
  refine zl_eq (tgt := 17) hx hb dX6_likeness_3 dX6_likeness_4 (by decide) (fun c3 => absurd c3 h1) (fun c3 => ?_)
  refine lv_lload_n hx hb dX6_likeness_7 rfl (lv_at hl 2 rfl) ?_
  refine lv_lconst (v := 0) hx hb dX6_likeness_8 (by decide) ?_
  refine zl_eq (tgt := 17) hx hb dX6_likeness_9 dX6_likeness_10 (by decide) (fun c9 => absurd c9 h2) (fun c9 => ?_)
  refine zr_iconst hx hb dX6_likeness_13 ?_
  refine lv_goto (tgt := 18) hx hb dX6_likeness_14 (by decide) ?_
  refine zr_top (w := .int (tB (true))) (congrArg Value.int (tB_1 rfl)) ?_
  refine zdet_I ⟨rfl, rfl⟩ Z hD hS (zrunV (rest := []) Z hP hD hS hl.1 (m_X6_checked l G q σ κ (true) rfl) zY_X6_checked km_X6_137 (q0 := 0) rfl rfl rfl rfl ⟨⟨Nat.le_of_ble_eq_true rfl, Nat.le_of_ble_eq_true rfl⟩, Nat.le_of_ble_eq_true rfl, Nat.le_of_ble_eq_true rfl⟩ (Nat.le_of_ble_eq_true rfl) dX6_likeness_18) (fun H locs hP hD hS => ?_)
  refine zc0_le (tgt := 28) hx hb (0 : Int) (zI_toInt (by decide)) dX6_likeness_21 (by decide) (fun c21 => ?_) (fun c21 => by exfalso; omega)
  refine lv_lload_n hx hb dX6_likeness_28 rfl (lv_at hl 1 rfl) ?_
  refine lv_lload_n hx hb dX6_likeness_29 rfl (lv_at hl 2 rfl) ?_
  refine zdet_I ⟨rfl, rfl⟩ Z hD hS (zrunS (rest := []) Z hP hD hS hl.1 (m_X6_likenessOf l G (wM G q σ ((0 : Int), κ.2.1, κ.2.2.1, κ.2.2.2)) (a) (b) (Or.inl h1)) zY_X6_likenessOf km_X6_141 rfl rfl ⟨⟨Nat.le_of_ble_eq_true rfl, Nat.le_of_ble_eq_true rfl⟩, Nat.le_of_ble_eq_true rfl, Nat.le_of_ble_eq_true rfl⟩ (Nat.le_of_ble_eq_true rfl) dX6_likeness_30) (fun H locs hP hD hS => ?_)
  refine zr_top (w := .int (zI ((like ((a)) ((b)) : Nat) : Int))) rfl ?_
  exact zret_I () Z hr hP hD hS rfl rfl ⟨Nat.le_refl _, Nat.le_refl _⟩ hQ dX6_likeness_33
abbrev r_X6_likeness_t1 : Room := { frames := 2, cells := 0, slots := 0, locals := 46 }
set_option maxHeartbeats 4000000 in
set_option maxRecDepth 100000 in
theorem m_X6_likeness_t1 (l : Launch) (G : ZG) (q : Nat → Nat) (σ : St) (κ : KM) (a : Int64) (b : Int64) (h1 : a = 0 ∨ b = 0) :
    MC l G yX6_likeness (wY yX6_likeness cX6_likeness 5 (some .int)) r_X6_likeness_t1 (wM G q σ κ) [.ref (q 0), .long (a), .long (b)] (QI G (fun r9 (_ : Unit) => r9 = (zI (0 : Int))) (fun _ => wM G q σ ((1 : Int), κ.2.1, κ.2.2.1, κ.2.2.2))) := by
  refine MC.mk (by decide +kernel) (Nat.le_of_ble_eq_true rfl) ?_
  intro p e s m av below meth c A H locs ls Q Z hr hnm hQ hP hD hS hl
  have hx := Z.1
  have hb := Z.2.1
  have hown := Z.2.2.2.1
  have hW := Z.2.2.2.2.1
  have hl : lv_has ls 5 [(0, .ref (q 0)), (1, .long (a)), (3, .long (b))] := hl
  refine lv_aload_n hx hb dX6_likeness_0 rfl (lv_at hl 0 rfl) ?_
  refine lv_lload_n hx hb dX6_likeness_1 rfl (lv_at hl 1 rfl) ?_
  refine lv_lconst (v := 0) hx hb dX6_likeness_2 (by decide) ?_
  refine zl_eq (tgt := 17) hx hb dX6_likeness_3 dX6_likeness_4 (by decide) (fun c3 => ?_) (fun c3 => ?_)
  · skip
    refine zr_iconst hx hb dX6_likeness_17 ?_
    refine zr_top (w := .int (tB (false))) (congrArg Value.int (tB_0 rfl)) ?_
    refine zdet_I ⟨rfl, rfl⟩ Z hD hS (zrunV (rest := []) Z hP hD hS hl.1 (m_X6_checked_n l G q σ κ (false) rfl) zY_X6_checked km_X6_137 (q0 := 0) rfl rfl rfl rfl ⟨⟨Nat.le_of_ble_eq_true rfl, Nat.le_of_ble_eq_true rfl⟩, Nat.le_of_ble_eq_true rfl, Nat.le_of_ble_eq_true rfl⟩ (Nat.le_of_ble_eq_true rfl) dX6_likeness_18) (fun H locs hP hD hS => ?_)
    refine zc0_le (tgt := 28) hx hb (1 : Int) (zI_toInt (by decide)) dX6_likeness_21 (by decide) (fun c21 => by exfalso; omega) (fun c21 => ?_)
    refine zr_iconst hx hb dX6_likeness_24 ?_
    refine lv_goto (tgt := 33) hx hb dX6_likeness_25 (by decide) ?_
    exact zret_I () Z hr hP hD hS rfl rfl ⟨Nat.le_refl _, Nat.le_refl _⟩ hQ dX6_likeness_33
  · skip
    refine lv_lload_n hx hb dX6_likeness_7 rfl (lv_at hl 2 rfl) ?_
    refine lv_lconst (v := 0) hx hb dX6_likeness_8 (by decide) ?_
    refine zl_eq (tgt := 17) hx hb dX6_likeness_9 dX6_likeness_10 (by decide) (fun c9 => ?_) (fun c9 => by exfalso; rcases h1 with h | h; exact c3 h; exact c9 h)
    refine zr_iconst hx hb dX6_likeness_17 ?_
    refine zr_top (w := .int (tB (false))) (congrArg Value.int (tB_0 rfl)) ?_
    refine zdet_I ⟨rfl, rfl⟩ Z hD hS (zrunV (rest := []) Z hP hD hS hl.1 (m_X6_checked_n l G q σ κ (false) rfl) zY_X6_checked km_X6_137 (q0 := 0) rfl rfl rfl rfl ⟨⟨Nat.le_of_ble_eq_true rfl, Nat.le_of_ble_eq_true rfl⟩, Nat.le_of_ble_eq_true rfl, Nat.le_of_ble_eq_true rfl⟩ (Nat.le_of_ble_eq_true rfl) dX6_likeness_18) (fun H locs hP hD hS => ?_)
    refine zc0_le (tgt := 28) hx hb (1 : Int) (zI_toInt (by decide)) dX6_likeness_21 (by decide) (fun c21 => by exfalso; omega) (fun c21 => ?_)
    refine zr_iconst hx hb dX6_likeness_24 ?_
    refine lv_goto (tgt := 33) hx hb dX6_likeness_25 (by decide) ?_
    exact zret_I () Z hr hP hD hS rfl rfl ⟨Nat.le_refl _, Nat.le_refl _⟩ hQ dX6_likeness_33
abbrev r_X6_addSource : Room := { frames := 1, cells := 0, slots := 0, locals := 21 }
set_option maxHeartbeats 4000000 in
set_option maxRecDepth 100000 in
theorem m_X6_addSource (l : Launch) (G : ZG) (q : Nat → Nat) (σ : St) (κ : KM)  (h1 : σ.1 3 < 6) :
    MC l G yX6_addSource (wY yX6_addSource cX6_addSource 1 (some .int)) r_X6_addSource (wM G q σ κ) [.ref (q 0)] (QI G (fun r9 (_ : Unit) => r9 = (zI ((σ.1 3 : Nat) : Int))) (fun _ => wM G q (sN σ 3 (σ.1 3 + 1)) ((0 : Int), κ.2.1, κ.2.2.1, κ.2.2.2))) := by
  refine MC.mk (by decide +kernel) (Nat.le_of_ble_eq_true rfl) ?_
  intro p e s m av below meth c A H locs ls Q Z hr hnm hQ hP hD hS hl
  have hx := Z.1
  have hb := Z.2.1
  have hown := Z.2.2.2.1
  have hW := Z.2.2.2.2.1
  have hl : lv_has ls 1 [(0, .ref (q 0))] := hl
  refine lv_aload_n hx hb dX6_addSource_0 rfl (lv_at hl 0 rfl) ?_
  refine lv_aload_n hx hb dX6_addSource_1 rfl (lv_at hl 0 rfl) ?_
  refine gM_0_27 Z hP kf_X6_93 dX6_addSource_2 ?_
  refine zr_bipush hx hb dX6_addSource_5 (by decide) ?_
  refine zc_ge (tgt := 14) hx hb ((σ.1 3 : Nat) : Int) (6 : Int) (zI_toInt (by omega)) (zI_toInt (by decide)) dX6_addSource_7 (by decide) (fun c7 => by exfalso; omega) (fun c7 => ?_)
  refine zr_iconst hx hb dX6_addSource_10 ?_
  refine lv_goto (tgt := 15) hx hb dX6_addSource_11 (by decide) ?_
  refine zr_top (w := .int (tB (true))) (congrArg Value.int (tB_1 rfl)) ?_
  refine zdet_I ⟨rfl, rfl⟩ Z hD hS (zrunV (rest := []) Z hP hD hS hl.1 (m_X6_checked l G q σ κ (true) rfl) zY_X6_checked km_X6_137 (q0 := 0) rfl rfl rfl rfl ⟨⟨Nat.le_of_ble_eq_true rfl, Nat.le_of_ble_eq_true rfl⟩, Nat.le_of_ble_eq_true rfl, Nat.le_of_ble_eq_true rfl⟩ (Nat.le_of_ble_eq_true rfl) dX6_addSource_15) (fun H locs hP hD hS => ?_)
  refine zc0_le (tgt := 23) hx hb (0 : Int) (zI_toInt (by decide)) dX6_addSource_18 (by decide) (fun c18 => ?_) (fun c18 => by exfalso; omega)
  refine lv_aload_n hx hb dX6_addSource_23 rfl (lv_at hl 0 rfl) ?_
  refine lv_dup hx hb dX6_addSource_24 rfl ?_
  refine gM_0_27 Z hP kf_X6_93 dX6_addSource_25 ?_
  refine zr_top (w := .int (zI ((σ.1 3 : Nat) : Int))) rfl ?_
  refine zr_iconst hx hb dX6_addSource_28 ?_
  refine zr_iadd hx hb dX6_addSource_29 ?_
  refine pM_0_27 Z hP hD hS ((σ.1 3 + 1)) (by omega) kf_X6_93 dX6_addSource_30 (fun H locs hP hD hS => ?_)
  refine lv_aload_n hx hb dX6_addSource_33 rfl (lv_at hl 0 rfl) ?_
  refine gM_0_27 Z hP kf_X6_93 dX6_addSource_34 ?_
  refine zr_top (w := .int (zI (((σ.1 3 + 1) : Nat) : Int))) rfl ?_
  refine zr_iconst hx hb dX6_addSource_37 ?_
  refine zr_isub hx hb dX6_addSource_38 ?_
  exact zret_I () Z hr hP hD hS (congrArg zI (by show ((σ.1 3 + 1 : Nat) : Int) - 1 = _; omega)) rfl ⟨Nat.le_refl _, Nat.le_refl _⟩ hQ dX6_addSource_39
abbrev r_X6_addSource_t1 : Room := { frames := 1, cells := 0, slots := 0, locals := 21 }
set_option maxHeartbeats 4000000 in
set_option maxRecDepth 100000 in
theorem m_X6_addSource_t1 (l : Launch) (G : ZG) (q : Nat → Nat) (σ : St) (κ : KM)  (h1 : σ.1 3 = 6) :
    MC l G yX6_addSource (wY yX6_addSource cX6_addSource 1 (some .int)) r_X6_addSource_t1 (wM G q σ κ) [.ref (q 0)] (QI G (fun r9 (_ : Unit) => r9 = (zI (0 : Int))) (fun _ => wM G q σ ((1 : Int), κ.2.1, κ.2.2.1, κ.2.2.2))) := by
  refine MC.mk (by decide +kernel) (Nat.le_of_ble_eq_true rfl) ?_
  intro p e s m av below meth c A H locs ls Q Z hr hnm hQ hP hD hS hl
  have hx := Z.1
  have hb := Z.2.1
  have hown := Z.2.2.2.1
  have hW := Z.2.2.2.2.1
  have hl : lv_has ls 1 [(0, .ref (q 0))] := hl
  refine lv_aload_n hx hb dX6_addSource_0 rfl (lv_at hl 0 rfl) ?_
  refine lv_aload_n hx hb dX6_addSource_1 rfl (lv_at hl 0 rfl) ?_
  refine gM_0_27 Z hP kf_X6_93 dX6_addSource_2 ?_
  refine zr_bipush hx hb dX6_addSource_5 (by decide) ?_
  refine zc_ge (tgt := 14) hx hb ((σ.1 3 : Nat) : Int) (6 : Int) (zI_toInt (by omega)) (zI_toInt (by decide)) dX6_addSource_7 (by decide) (fun c7 => ?_) (fun c7 => by exfalso; omega)
  refine zr_iconst hx hb dX6_addSource_14 ?_
  refine zr_top (w := .int (tB (false))) (congrArg Value.int (tB_0 rfl)) ?_
  refine zdet_I ⟨rfl, rfl⟩ Z hD hS (zrunV (rest := []) Z hP hD hS hl.1 (m_X6_checked_n l G q σ κ (false) rfl) zY_X6_checked km_X6_137 (q0 := 0) rfl rfl rfl rfl ⟨⟨Nat.le_of_ble_eq_true rfl, Nat.le_of_ble_eq_true rfl⟩, Nat.le_of_ble_eq_true rfl, Nat.le_of_ble_eq_true rfl⟩ (Nat.le_of_ble_eq_true rfl) dX6_addSource_15) (fun H locs hP hD hS => ?_)
  refine zc0_le (tgt := 23) hx hb (1 : Int) (zI_toInt (by decide)) dX6_addSource_18 (by decide) (fun c18 => by exfalso; omega) (fun c18 => ?_)
  refine zr_iconst hx hb dX6_addSource_21 ?_
  exact zret_I () Z hr hP hD hS rfl rfl ⟨Nat.le_refl _, Nat.le_refl _⟩ hQ dX6_addSource_22
abbrev r_X6_withIdentifier : Room := { frames := 1, cells := 0, slots := 0, locals := 23 }
set_option maxHeartbeats 4000000 in
set_option maxRecDepth 100000 in
theorem m_X6_withIdentifier (l : Launch) (G : ZG) (q : Nat → Nat) (σ : St) (κ : KM) (a : Int) (b : Int) (hI : okM σ) (h1 : zR a) (h2 : zR b) (h3 : pat σ a b ≠ -1) :
    MC l G yX6_withIdentifier (wY yX6_withIdentifier cX6_withIdentifier 3 (some .int)) r_X6_withIdentifier (wM G q σ κ) [.ref (q 0), .int (zI (a : Int)), .int (zI (b : Int))] (QI G (fun r9 (_ : Unit) => r9 = (zI (pat σ a b : Int))) (fun _ => wM G q σ ((0 : Int), κ.2.1, κ.2.2.1, κ.2.2.2))) := by
  refine MC.mk (by decide +kernel) (Nat.le_of_ble_eq_true rfl) ?_
  intro p e s m av below meth c A H locs ls Q Z hr hnm hQ hP hD hS hl
  have hx := Z.1
  have hb := Z.2.1
  have hown := Z.2.2.2.1
  have hW := Z.2.2.2.2.1
  have hl : lv_has ls 3 [(0, .ref (q 0)), (1, .int (zI (a : Int))), (2, .int (zI (b : Int)))] := hl
  obtain ⟨hn, hru, hrv, hdv, hsr, hmn, ht1, ht2, hwn, hv1, hv2, hmj, htm, hse, htg, hrt, hac, hk1, hk2, hkd, hmm, hmv, hpp, hpl, hp3, hp4, hp6, hp5, hp7, hnz⟩ := id hI
  have hq9 := pat_in hI a b
  refine lv_aload_n hx hb dX6_withIdentifier_0 rfl (lv_at hl 0 rfl) ?_
  refine lv_aload_n hx hb dX6_withIdentifier_1 rfl (lv_at hl 0 rfl) ?_
  refine lv_iload_n hx hb dX6_withIdentifier_2 rfl (lv_at hl 1 rfl) ?_
  refine lv_iload_n hx hb dX6_withIdentifier_3 rfl (lv_at hl 2 rfl) ?_
  refine zdet_I ⟨rfl, rfl⟩ Z hD hS (zrunV (rest := [.ref (q 0)]) Z hP hD hS hl.1 (m_X6_pairAt l G q σ κ (a : Int) (b : Int) hI (by omega) (by omega)) zY_X6_pairAt km_X6_149 (q0 := 0) rfl rfl rfl rfl ⟨⟨Nat.le_of_ble_eq_true rfl, Nat.le_of_ble_eq_true rfl⟩, Nat.le_of_ble_eq_true rfl, Nat.le_of_ble_eq_true rfl⟩ (Nat.le_of_ble_eq_true rfl) dX6_withIdentifier_4) (fun H locs hP hD hS => ?_)
  refine zc0_lt (tgt := 14) hx hb (pat σ (a : Int) (b : Int) : Int) (zI_toInt (by omega)) dX6_withIdentifier_7 (by decide) (fun c7 => by exfalso; omega) (fun c7 => ?_)
  refine zr_iconst hx hb dX6_withIdentifier_10 ?_
  refine lv_goto (tgt := 15) hx hb dX6_withIdentifier_11 (by decide) ?_
  refine zr_top (w := .int (tB (true))) (congrArg Value.int (tB_1 rfl)) ?_
  refine zdet_I ⟨rfl, rfl⟩ Z hD hS (zrunV (rest := []) Z hP hD hS hl.1 (m_X6_checked l G q σ κ (true) rfl) zY_X6_checked km_X6_137 (q0 := 0) rfl rfl rfl rfl ⟨⟨Nat.le_of_ble_eq_true rfl, Nat.le_of_ble_eq_true rfl⟩, Nat.le_of_ble_eq_true rfl, Nat.le_of_ble_eq_true rfl⟩ (Nat.le_of_ble_eq_true rfl) dX6_withIdentifier_15) (fun H locs hP hD hS => ?_)
  refine zc0_le (tgt := 25) hx hb (0 : Int) (zI_toInt (by decide)) dX6_withIdentifier_18 (by decide) (fun c18 => ?_) (fun c18 => by exfalso; omega)
  refine lv_aload_n hx hb dX6_withIdentifier_25 rfl (lv_at hl 0 rfl) ?_
  refine lv_iload_n hx hb dX6_withIdentifier_26 rfl (lv_at hl 1 rfl) ?_
  refine lv_iload_n hx hb dX6_withIdentifier_27 rfl (lv_at hl 2 rfl) ?_
  refine zdet_I ⟨rfl, rfl⟩ Z hD hS (zrunV (rest := []) Z hP hD hS hl.1 (m_X6_pairAt l G q σ ((0 : Int), κ.2.1, κ.2.2.1, κ.2.2.2) (a : Int) (b : Int) hI (by omega) (by omega)) zY_X6_pairAt km_X6_149 (q0 := 0) rfl rfl rfl rfl ⟨⟨Nat.le_of_ble_eq_true rfl, Nat.le_of_ble_eq_true rfl⟩, Nat.le_of_ble_eq_true rfl, Nat.le_of_ble_eq_true rfl⟩ (Nat.le_of_ble_eq_true rfl) dX6_withIdentifier_28) (fun H locs hP hD hS => ?_)
  refine zr_top (w := .int (zI (pat σ (a : Int) (b : Int) : Int))) rfl ?_
  exact zret_I () Z hr hP hD hS rfl rfl ⟨Nat.le_refl _, Nat.le_refl _⟩ hQ dX6_withIdentifier_31
abbrev r_X6_withIdentifier_t1 : Room := { frames := 1, cells := 0, slots := 0, locals := 23 }
set_option maxHeartbeats 4000000 in
set_option maxRecDepth 100000 in
theorem m_X6_withIdentifier_t1 (l : Launch) (G : ZG) (q : Nat → Nat) (σ : St) (κ : KM) (a : Int) (b : Int) (hI : okM σ) (h1 : zR a) (h2 : zR b) (h3 : pat σ a b = -1) :
    MC l G yX6_withIdentifier (wY yX6_withIdentifier cX6_withIdentifier 3 (some .int)) r_X6_withIdentifier_t1 (wM G q σ κ) [.ref (q 0), .int (zI (a : Int)), .int (zI (b : Int))] (QI G (fun r9 (_ : Unit) => r9 = (zI (0 : Int))) (fun _ => wM G q σ ((1 : Int), κ.2.1, κ.2.2.1, κ.2.2.2))) := by
  refine MC.mk (by decide +kernel) (Nat.le_of_ble_eq_true rfl) ?_
  intro p e s m av below meth c A H locs ls Q Z hr hnm hQ hP hD hS hl
  have hx := Z.1
  have hb := Z.2.1
  have hown := Z.2.2.2.1
  have hW := Z.2.2.2.2.1
  have hl : lv_has ls 3 [(0, .ref (q 0)), (1, .int (zI (a : Int))), (2, .int (zI (b : Int)))] := hl
  obtain ⟨hn, hru, hrv, hdv, hsr, hmn, ht1, ht2, hwn, hv1, hv2, hmj, htm, hse, htg, hrt, hac, hk1, hk2, hkd, hmm, hmv, hpp, hpl, hp3, hp4, hp6, hp5, hp7, hnz⟩ := id hI
  have hq9 := pat_in hI a b
  refine lv_aload_n hx hb dX6_withIdentifier_0 rfl (lv_at hl 0 rfl) ?_
  refine lv_aload_n hx hb dX6_withIdentifier_1 rfl (lv_at hl 0 rfl) ?_
  refine lv_iload_n hx hb dX6_withIdentifier_2 rfl (lv_at hl 1 rfl) ?_
  refine lv_iload_n hx hb dX6_withIdentifier_3 rfl (lv_at hl 2 rfl) ?_
  refine zdet_I ⟨rfl, rfl⟩ Z hD hS (zrunV (rest := [.ref (q 0)]) Z hP hD hS hl.1 (m_X6_pairAt l G q σ κ (a : Int) (b : Int) hI (by omega) (by omega)) zY_X6_pairAt km_X6_149 (q0 := 0) rfl rfl rfl rfl ⟨⟨Nat.le_of_ble_eq_true rfl, Nat.le_of_ble_eq_true rfl⟩, Nat.le_of_ble_eq_true rfl, Nat.le_of_ble_eq_true rfl⟩ (Nat.le_of_ble_eq_true rfl) dX6_withIdentifier_4) (fun H locs hP hD hS => ?_)
  refine zc0_lt (tgt := 14) hx hb (pat σ (a : Int) (b : Int) : Int) (zI_toInt (by omega)) dX6_withIdentifier_7 (by decide) (fun c7 => ?_) (fun c7 => by exfalso; omega)
  refine zr_iconst hx hb dX6_withIdentifier_14 ?_
  refine zr_top (w := .int (tB (false))) (congrArg Value.int (tB_0 rfl)) ?_
  refine zdet_I ⟨rfl, rfl⟩ Z hD hS (zrunV (rest := []) Z hP hD hS hl.1 (m_X6_checked_n l G q σ κ (false) rfl) zY_X6_checked km_X6_137 (q0 := 0) rfl rfl rfl rfl ⟨⟨Nat.le_of_ble_eq_true rfl, Nat.le_of_ble_eq_true rfl⟩, Nat.le_of_ble_eq_true rfl, Nat.le_of_ble_eq_true rfl⟩ (Nat.le_of_ble_eq_true rfl) dX6_withIdentifier_15) (fun H locs hP hD hS => ?_)
  refine zc0_le (tgt := 25) hx hb (1 : Int) (zI_toInt (by decide)) dX6_withIdentifier_18 (by decide) (fun c18 => by exfalso; omega) (fun c18 => ?_)
  refine zr_iconst hx hb dX6_withIdentifier_21 ?_
  refine lv_goto (tgt := 31) hx hb dX6_withIdentifier_22 (by decide) ?_
  exact zret_I () Z hr hP hD hS rfl rfl ⟨Nat.le_refl _, Nat.le_refl _⟩ hQ dX6_withIdentifier_31
abbrev r_X6_withLink : Room := { frames := 1, cells := 0, slots := 0, locals := 22 }
set_option maxHeartbeats 4000000 in
set_option maxRecDepth 100000 in
theorem m_X6_withLink (l : Launch) (G : ZG) (q : Nat → Nat) (σ : St) (κ : KM) (a : Int) (hI : okM σ) (h1 : zR a) (h3 : lkt σ a ≠ -1) :
    MC l G yX6_withLink (wY yX6_withLink cX6_withLink 2 (some .int)) r_X6_withLink (wM G q σ κ) [.ref (q 0), .int (zI (a : Int))] (QI G (fun r9 (_ : Unit) => r9 = (zI (lkt σ a : Int))) (fun _ => wM G q σ ((0 : Int), κ.2.1, κ.2.2.1, κ.2.2.2))) := by
  refine MC.mk (by decide +kernel) (Nat.le_of_ble_eq_true rfl) ?_
  intro p e s m av below meth c A H locs ls Q Z hr hnm hQ hP hD hS hl
  have hx := Z.1
  have hb := Z.2.1
  have hown := Z.2.2.2.1
  have hW := Z.2.2.2.2.1
  have hl : lv_has ls 2 [(0, .ref (q 0)), (1, .int (zI (a : Int)))] := hl
  obtain ⟨hn, hru, hrv, hdv, hsr, hmn, ht1, ht2, hwn, hv1, hv2, hmj, htm, hse, htg, hrt, hac, hk1, hk2, hkd, hmm, hmv, hpp, hpl, hp3, hp4, hp6, hp5, hp7, hnz⟩ := id hI
  have hq9 := lkt_in hI a
  refine lv_aload_n hx hb dX6_withLink_0 rfl (lv_at hl 0 rfl) ?_
  refine lv_aload_n hx hb dX6_withLink_1 rfl (lv_at hl 0 rfl) ?_
  refine lv_iload_n hx hb dX6_withLink_2 rfl (lv_at hl 1 rfl) ?_
  refine zdet_I ⟨rfl, rfl⟩ Z hD hS (zrunV (rest := [.ref (q 0)]) Z hP hD hS hl.1 (m_X6_linkAt l G q σ κ (a : Int) hI (by omega)) zY_X6_linkAt km_X6_153 (q0 := 0) rfl rfl rfl rfl ⟨⟨Nat.le_of_ble_eq_true rfl, Nat.le_of_ble_eq_true rfl⟩, Nat.le_of_ble_eq_true rfl, Nat.le_of_ble_eq_true rfl⟩ (Nat.le_of_ble_eq_true rfl) dX6_withLink_3) (fun H locs hP hD hS => ?_)
  refine zc0_lt (tgt := 13) hx hb (lkt σ (a : Int) : Int) (zI_toInt (by omega)) dX6_withLink_6 (by decide) (fun c6 => by exfalso; omega) (fun c6 => ?_)
  refine zr_iconst hx hb dX6_withLink_9 ?_
  refine lv_goto (tgt := 14) hx hb dX6_withLink_10 (by decide) ?_
  refine zr_top (w := .int (tB (true))) (congrArg Value.int (tB_1 rfl)) ?_
  refine zdet_I ⟨rfl, rfl⟩ Z hD hS (zrunV (rest := []) Z hP hD hS hl.1 (m_X6_checked l G q σ κ (true) rfl) zY_X6_checked km_X6_137 (q0 := 0) rfl rfl rfl rfl ⟨⟨Nat.le_of_ble_eq_true rfl, Nat.le_of_ble_eq_true rfl⟩, Nat.le_of_ble_eq_true rfl, Nat.le_of_ble_eq_true rfl⟩ (Nat.le_of_ble_eq_true rfl) dX6_withLink_14) (fun H locs hP hD hS => ?_)
  refine zc0_le (tgt := 24) hx hb (0 : Int) (zI_toInt (by decide)) dX6_withLink_17 (by decide) (fun c17 => ?_) (fun c17 => by exfalso; omega)
  refine lv_aload_n hx hb dX6_withLink_24 rfl (lv_at hl 0 rfl) ?_
  refine lv_iload_n hx hb dX6_withLink_25 rfl (lv_at hl 1 rfl) ?_
  refine zdet_I ⟨rfl, rfl⟩ Z hD hS (zrunV (rest := []) Z hP hD hS hl.1 (m_X6_linkAt l G q σ ((0 : Int), κ.2.1, κ.2.2.1, κ.2.2.2) (a : Int) hI (by omega)) zY_X6_linkAt km_X6_153 (q0 := 0) rfl rfl rfl rfl ⟨⟨Nat.le_of_ble_eq_true rfl, Nat.le_of_ble_eq_true rfl⟩, Nat.le_of_ble_eq_true rfl, Nat.le_of_ble_eq_true rfl⟩ (Nat.le_of_ble_eq_true rfl) dX6_withLink_26) (fun H locs hP hD hS => ?_)
  refine zr_top (w := .int (zI (lkt σ (a : Int) : Int))) rfl ?_
  exact zret_I () Z hr hP hD hS rfl rfl ⟨Nat.le_refl _, Nat.le_refl _⟩ hQ dX6_withLink_29
abbrev r_X6_withLink_t1 : Room := { frames := 1, cells := 0, slots := 0, locals := 22 }
set_option maxHeartbeats 4000000 in
set_option maxRecDepth 100000 in
theorem m_X6_withLink_t1 (l : Launch) (G : ZG) (q : Nat → Nat) (σ : St) (κ : KM) (a : Int) (hI : okM σ) (h1 : zR a) (h3 : lkt σ a = -1) :
    MC l G yX6_withLink (wY yX6_withLink cX6_withLink 2 (some .int)) r_X6_withLink_t1 (wM G q σ κ) [.ref (q 0), .int (zI (a : Int))] (QI G (fun r9 (_ : Unit) => r9 = (zI (0 : Int))) (fun _ => wM G q σ ((1 : Int), κ.2.1, κ.2.2.1, κ.2.2.2))) := by
  refine MC.mk (by decide +kernel) (Nat.le_of_ble_eq_true rfl) ?_
  intro p e s m av below meth c A H locs ls Q Z hr hnm hQ hP hD hS hl
  have hx := Z.1
  have hb := Z.2.1
  have hown := Z.2.2.2.1
  have hW := Z.2.2.2.2.1
  have hl : lv_has ls 2 [(0, .ref (q 0)), (1, .int (zI (a : Int)))] := hl
  obtain ⟨hn, hru, hrv, hdv, hsr, hmn, ht1, ht2, hwn, hv1, hv2, hmj, htm, hse, htg, hrt, hac, hk1, hk2, hkd, hmm, hmv, hpp, hpl, hp3, hp4, hp6, hp5, hp7, hnz⟩ := id hI
  have hq9 := lkt_in hI a
  refine lv_aload_n hx hb dX6_withLink_0 rfl (lv_at hl 0 rfl) ?_
  refine lv_aload_n hx hb dX6_withLink_1 rfl (lv_at hl 0 rfl) ?_
  refine lv_iload_n hx hb dX6_withLink_2 rfl (lv_at hl 1 rfl) ?_
  refine zdet_I ⟨rfl, rfl⟩ Z hD hS (zrunV (rest := [.ref (q 0)]) Z hP hD hS hl.1 (m_X6_linkAt l G q σ κ (a : Int) hI (by omega)) zY_X6_linkAt km_X6_153 (q0 := 0) rfl rfl rfl rfl ⟨⟨Nat.le_of_ble_eq_true rfl, Nat.le_of_ble_eq_true rfl⟩, Nat.le_of_ble_eq_true rfl, Nat.le_of_ble_eq_true rfl⟩ (Nat.le_of_ble_eq_true rfl) dX6_withLink_3) (fun H locs hP hD hS => ?_)
  refine zc0_lt (tgt := 13) hx hb (lkt σ (a : Int) : Int) (zI_toInt (by omega)) dX6_withLink_6 (by decide) (fun c6 => ?_) (fun c6 => by exfalso; omega)
  refine zr_iconst hx hb dX6_withLink_13 ?_
  refine zr_top (w := .int (tB (false))) (congrArg Value.int (tB_0 rfl)) ?_
  refine zdet_I ⟨rfl, rfl⟩ Z hD hS (zrunV (rest := []) Z hP hD hS hl.1 (m_X6_checked_n l G q σ κ (false) rfl) zY_X6_checked km_X6_137 (q0 := 0) rfl rfl rfl rfl ⟨⟨Nat.le_of_ble_eq_true rfl, Nat.le_of_ble_eq_true rfl⟩, Nat.le_of_ble_eq_true rfl, Nat.le_of_ble_eq_true rfl⟩ (Nat.le_of_ble_eq_true rfl) dX6_withLink_14) (fun H locs hP hD hS => ?_)
  refine zc0_le (tgt := 24) hx hb (1 : Int) (zI_toInt (by decide)) dX6_withLink_17 (by decide) (fun c17 => by exfalso; omega) (fun c17 => ?_)
  refine zr_iconst hx hb dX6_withLink_20 ?_
  refine lv_goto (tgt := 29) hx hb dX6_withLink_21 (by decide) ?_
  exact zret_I () Z hr hP hD hS rfl rfl ⟨Nat.le_refl _, Nat.le_refl _⟩ hQ dX6_withLink_29
abbrev r_X6_title : Room := { frames := 2, cells := 0, slots := 0, locals := 43 }
set_option maxHeartbeats 4000000 in
set_option maxRecDepth 100000 in
theorem m_X6_title (l : Launch) (G : ZG) (q : Nat → Nat) (σ : St) (κ : KM) {e_i : Int} (i : Nat) (he_i : e_i = (i : Int)) {e_b : Int} (b : Nat) (he_b : e_b = (b : Int)) (hI : okM σ) (h1 : i < σ.1 4) (h2 : b < σ.2.1 2 i) (h3 : σ.2.1 2 i ≤ b + 4) :
    MC l G yX6_title (wY yX6_title cX6_title 3 (some .long)) r_X6_title (wM G q σ κ) [.ref (q 0), .int (zI e_i), .int (zI e_b)] (QL G (fun r9 (_ : Unit) => r9 = ((σ.2.2.2 0) (4 * i + b % 4))) (fun _ => wM G q σ ((0 : Int), κ.2.1, κ.2.2.1, κ.2.2.2))) := by
  subst he_i
  subst he_b
  refine MC.mk (by decide +kernel) (Nat.le_of_ble_eq_true rfl) ?_
  intro p e s m av below meth c A H locs ls Q Z hr hnm hQ hP hD hS hl
  have hx := Z.1
  have hb := Z.2.1
  have hown := Z.2.2.2.1
  have hW := Z.2.2.2.2.1
  have hl : lv_has ls 3 [(0, .ref (q 0)), (1, .int (zI ((i : Nat) : Int))), (2, .int (zI ((b : Nat) : Int)))] := hl
  obtain ⟨hn, hru, hrv, hdv, hsr, hmn, ht1, ht2, hwn, hv1, hv2, hmj, htm, hse, htg, hrt, hac, hk1, hk2, hkd, hmm, hmv, hpp, hpl, hp3, hp4, hp6, hp5, hp7, hnz⟩ := id hI
  have hv9 := hv2 i
  refine lv_aload_n hx hb dX6_title_0 rfl (lv_at hl 0 rfl) ?_
  refine lv_aload_n hx hb dX6_title_1 rfl (lv_at hl 0 rfl) ?_
  refine lv_iload_n hx hb dX6_title_2 rfl (lv_at hl 1 rfl) ?_
  refine zdet_I ⟨rfl, rfl⟩ Z hD hS (zrunV (rest := [.ref (q 0)]) Z hP hD hS hl.1 (m_X6_isItem l G q σ κ ((i : Nat) : Int) (by omega) (by omega)) zY_X6_isItem km_X6_171 (q0 := 0) rfl rfl rfl rfl ⟨⟨Nat.le_of_ble_eq_true rfl, Nat.le_of_ble_eq_true rfl⟩, Nat.le_of_ble_eq_true rfl, Nat.le_of_ble_eq_true rfl⟩ (Nat.le_of_ble_eq_true rfl) dX6_title_3) (fun H locs hP hD hS => ?_)
  refine zb_ne (tgt := 13) hx hb dX6_title_6 (by decide) (fun c6 => ?_) (fun c6 => by exfalso; have h9 := of_decide_eq_false c6; omega)
  refine lv_iload_n hx hb dX6_title_13 rfl (lv_at hl 2 rfl) ?_
  refine zr_iconst hx hb dX6_title_14 ?_
  refine lv_aload_n hx hb dX6_title_15 rfl (lv_at hl 0 rfl) ?_
  refine gM_0_6 Z hP kf_X6_29 dX6_title_16 ?_
  refine lv_iload_n hx hb dX6_title_19 rfl (lv_at hl 1 rfl) ?_
  refine ldN Z hP 7 (σ.2.1 2) rfl (i) rfl (by omega) (by decide) dX6_title_20 ?_
  refine zr_iconst hx hb dX6_title_21 ?_
  refine zr_isub hx hb dX6_title_22 ?_
  refine zdet_I ⟨rfl, rfl⟩ Z hD hS (zrunS (rest := [.ref (q 0)]) Z hP hD hS hl.1 (m_X6_in l G (wM G q σ κ) ((b : Nat) : Int) (0 : Int) ((((σ.2.1 2) (i) : Nat) : Int) - (1 : Int)) (by omega) (by omega) (by omega)) zY_X6_in km_X6_128 rfl rfl ⟨⟨Nat.le_of_ble_eq_true rfl, Nat.le_of_ble_eq_true rfl⟩, Nat.le_of_ble_eq_true rfl, Nat.le_of_ble_eq_true rfl⟩ (Nat.le_of_ble_eq_true rfl) dX6_title_23) (fun H locs hP hD hS => ?_)
  refine zb_eq (tgt := 41) hx hb dX6_title_26 (by decide) (fun c26 => by exfalso; have h9 := of_decide_eq_false c26; omega) (fun c26 => ?_)
  refine lv_iload_n hx hb dX6_title_29 rfl (lv_at hl 2 rfl) ?_
  refine lv_aload_n hx hb dX6_title_30 rfl (lv_at hl 0 rfl) ?_
  refine gM_0_6 Z hP kf_X6_29 dX6_title_31 ?_
  refine lv_iload_n hx hb dX6_title_34 rfl (lv_at hl 1 rfl) ?_
  refine ldN Z hP 7 (σ.2.1 2) rfl (i) rfl (by omega) (by decide) dX6_title_35 ?_
  refine zr_iconst hx hb dX6_title_36 ?_
  refine zr_isub hx hb dX6_title_37 ?_
  refine zc_ge (tgt := 45) hx hb ((b : Nat) : Int) ((((σ.2.1 2) (i) : Nat) : Int) - (4 : Int)) (zI_toInt (by omega)) (zI_toInt (by omega)) dX6_title_38 (by decide) (fun c38 => ?_) (fun c38 => by exfalso; omega)
  refine zr_iconst hx hb dX6_title_45 ?_
  refine pM_0_23 Z hP hD hS kf_X6_80 dX6_title_46 (fun H locs hP hD hS => ?_)
  refine lv_aload_n hx hb dX6_title_49 rfl (lv_at hl 0 rfl) ?_
  refine gM_0_23 Z hP kf_X6_80 dX6_title_50 ?_
  refine zr_top (w := .int (zI (0 : Int))) rfl ?_
  refine zc0_le (tgt := 60) hx hb (0 : Int) (zI_toInt (by decide)) dX6_title_53 (by decide) (fun c53 => ?_) (fun c53 => by exfalso; omega)
  refine lv_aload_n hx hb dX6_title_60 rfl (lv_at hl 0 rfl) ?_
  refine gM_0_0 Z hP kf_X6_7 dX6_title_61 ?_
  refine zr_iconst hx hb dX6_title_64 ?_
  refine lv_iload_n hx hb dX6_title_65 rfl (lv_at hl 1 rfl) ?_
  refine zr_imul hx hb dX6_title_66 ?_
  refine lv_iload_n hx hb dX6_title_67 rfl (lv_at hl 2 rfl) ?_
  refine zr_iconst hx hb dX6_title_68 ?_
  refine zr_irem hx hb (by omega) dX6_title_69 ?_
  refine zr_iadd hx hb dX6_title_70 ?_
  refine ldL Z hP 1 (σ.2.2.2 0) rfl (((4 * i) + (b % 4))) (by omega) (by omega) (by decide) dX6_title_71 ?_
  exact zret_L () Z hr hP hD hS rfl rfl ⟨Nat.le_refl _, Nat.le_refl _⟩ hQ dX6_title_72
abbrev r_X6_title_t1 : Room := { frames := 2, cells := 0, slots := 0, locals := 43 }
set_option maxHeartbeats 4000000 in
set_option maxRecDepth 100000 in
theorem m_X6_title_t1 (l : Launch) (G : ZG) (q : Nat → Nat) (σ : St) (κ : KM) (i : Int) (b : Int) (hI : okM σ) (h1 : zR i) (h2 : i < 0 ∨ ((σ.1 4 : Nat) : Int) ≤ i) :
    MC l G yX6_title (wY yX6_title cX6_title 3 (some .long)) r_X6_title_t1 (wM G q σ κ) [.ref (q 0), .int (zI (i : Int)), .int (zI (b : Int))] (QL G (fun r9 (_ : Unit) => r9 = (0)) (fun _ => wM G q σ ((1 : Int), κ.2.1, κ.2.2.1, κ.2.2.2))) := by
  refine MC.mk (by decide +kernel) (Nat.le_of_ble_eq_true rfl) ?_
  intro p e s m av below meth c A H locs ls Q Z hr hnm hQ hP hD hS hl
  have hx := Z.1
  have hb := Z.2.1
  have hown := Z.2.2.2.1
  have hW := Z.2.2.2.2.1
  have hl : lv_has ls 3 [(0, .ref (q 0)), (1, .int (zI (i : Int))), (2, .int (zI (b : Int)))] := hl
  obtain ⟨hn, hru, hrv, hdv, hsr, hmn, ht1, ht2, hwn, hv1, hv2, hmj, htm, hse, htg, hrt, hac, hk1, hk2, hkd, hmm, hmv, hpp, hpl, hp3, hp4, hp6, hp5, hp7, hnz⟩ := id hI
  refine lv_aload_n hx hb dX6_title_0 rfl (lv_at hl 0 rfl) ?_
  refine lv_aload_n hx hb dX6_title_1 rfl (lv_at hl 0 rfl) ?_
  refine lv_iload_n hx hb dX6_title_2 rfl (lv_at hl 1 rfl) ?_
  refine zdet_I ⟨rfl, rfl⟩ Z hD hS (zrunV (rest := [.ref (q 0)]) Z hP hD hS hl.1 (m_X6_isItem l G q σ κ (i : Int) (by omega) (by omega)) zY_X6_isItem km_X6_171 (q0 := 0) rfl rfl rfl rfl ⟨⟨Nat.le_of_ble_eq_true rfl, Nat.le_of_ble_eq_true rfl⟩, Nat.le_of_ble_eq_true rfl, Nat.le_of_ble_eq_true rfl⟩ (Nat.le_of_ble_eq_true rfl) dX6_title_3) (fun H locs hP hD hS => ?_)
  refine zb_ne (tgt := 13) hx hb dX6_title_6 (by decide) (fun c6 => by exfalso; have h9 := of_decide_eq_true c6; omega) (fun c6 => ?_)
  refine zr_iconst hx hb dX6_title_9 ?_
  refine lv_goto (tgt := 46) hx hb dX6_title_10 (by decide) ?_
  refine pM_0_23 Z hP hD hS kf_X6_80 dX6_title_46 (fun H locs hP hD hS => ?_)
  refine lv_aload_n hx hb dX6_title_49 rfl (lv_at hl 0 rfl) ?_
  refine gM_0_23 Z hP kf_X6_80 dX6_title_50 ?_
  refine zr_top (w := .int (zI (1 : Int))) rfl ?_
  refine zc0_le (tgt := 60) hx hb (1 : Int) (zI_toInt (by decide)) dX6_title_53 (by decide) (fun c53 => by exfalso; omega) (fun c53 => ?_)
  refine lv_lconst (v := 0) hx hb dX6_title_56 (by decide) ?_
  refine lv_goto (tgt := 72) hx hb dX6_title_57 (by decide) ?_
  exact zret_L () Z hr hP hD hS rfl rfl ⟨Nat.le_refl _, Nat.le_refl _⟩ hQ dX6_title_72
abbrev r_X6_title_t2 : Room := { frames := 2, cells := 0, slots := 0, locals := 43 }
set_option maxHeartbeats 4000000 in
set_option maxRecDepth 100000 in
theorem m_X6_title_t2 (l : Launch) (G : ZG) (q : Nat → Nat) (σ : St) (κ : KM) {e_i : Int} (i : Nat) (he_i : e_i = (i : Int)) (b : Int) (hI : okM σ) (h1 : i < σ.1 4) (h4 : zR b) (h2 : ¬ (0 ≤ b ∧ b < ((σ.2.1 2 i : Nat) : Int) ∧ ((σ.2.1 2 i : Nat) : Int) - 4 ≤ b)) :
    MC l G yX6_title (wY yX6_title cX6_title 3 (some .long)) r_X6_title_t2 (wM G q σ κ) [.ref (q 0), .int (zI e_i), .int (zI (b : Int))] (QL G (fun r9 (_ : Unit) => r9 = (0)) (fun _ => wM G q σ ((2 : Int), κ.2.1, κ.2.2.1, κ.2.2.2))) := by
  subst he_i
  refine MC.mk (by decide +kernel) (Nat.le_of_ble_eq_true rfl) ?_
  intro p e s m av below meth c A H locs ls Q Z hr hnm hQ hP hD hS hl
  have hx := Z.1
  have hb := Z.2.1
  have hown := Z.2.2.2.1
  have hW := Z.2.2.2.2.1
  have hl : lv_has ls 3 [(0, .ref (q 0)), (1, .int (zI ((i : Nat) : Int))), (2, .int (zI (b : Int)))] := hl
  obtain ⟨hn, hru, hrv, hdv, hsr, hmn, ht1, ht2, hwn, hv1, hv2, hmj, htm, hse, htg, hrt, hac, hk1, hk2, hkd, hmm, hmv, hpp, hpl, hp3, hp4, hp6, hp5, hp7, hnz⟩ := id hI
  have hv9 := hv2 i
  refine lv_aload_n hx hb dX6_title_0 rfl (lv_at hl 0 rfl) ?_
  refine lv_aload_n hx hb dX6_title_1 rfl (lv_at hl 0 rfl) ?_
  refine lv_iload_n hx hb dX6_title_2 rfl (lv_at hl 1 rfl) ?_
  refine zdet_I ⟨rfl, rfl⟩ Z hD hS (zrunV (rest := [.ref (q 0)]) Z hP hD hS hl.1 (m_X6_isItem l G q σ κ ((i : Nat) : Int) (by omega) (by omega)) zY_X6_isItem km_X6_171 (q0 := 0) rfl rfl rfl rfl ⟨⟨Nat.le_of_ble_eq_true rfl, Nat.le_of_ble_eq_true rfl⟩, Nat.le_of_ble_eq_true rfl, Nat.le_of_ble_eq_true rfl⟩ (Nat.le_of_ble_eq_true rfl) dX6_title_3) (fun H locs hP hD hS => ?_)
  refine zb_ne (tgt := 13) hx hb dX6_title_6 (by decide) (fun c6 => ?_) (fun c6 => by exfalso; have h9 := of_decide_eq_false c6; omega)
  refine lv_iload_n hx hb dX6_title_13 rfl (lv_at hl 2 rfl) ?_
  refine zr_iconst hx hb dX6_title_14 ?_
  refine lv_aload_n hx hb dX6_title_15 rfl (lv_at hl 0 rfl) ?_
  refine gM_0_6 Z hP kf_X6_29 dX6_title_16 ?_
  refine lv_iload_n hx hb dX6_title_19 rfl (lv_at hl 1 rfl) ?_
  refine ldN Z hP 7 (σ.2.1 2) rfl (i) rfl (by omega) (by decide) dX6_title_20 ?_
  refine zr_iconst hx hb dX6_title_21 ?_
  refine zr_isub hx hb dX6_title_22 ?_
  refine zdet_I ⟨rfl, rfl⟩ Z hD hS (zrunS (rest := [.ref (q 0)]) Z hP hD hS hl.1 (m_X6_in l G (wM G q σ κ) (b : Int) (0 : Int) ((((σ.2.1 2) (i) : Nat) : Int) - (1 : Int)) (by omega) (by omega) (by omega)) zY_X6_in km_X6_128 rfl rfl ⟨⟨Nat.le_of_ble_eq_true rfl, Nat.le_of_ble_eq_true rfl⟩, Nat.le_of_ble_eq_true rfl, Nat.le_of_ble_eq_true rfl⟩ (Nat.le_of_ble_eq_true rfl) dX6_title_23) (fun H locs hP hD hS => ?_)
  refine zb_eq (tgt := 41) hx hb dX6_title_26 (by decide) (fun c26 => ?_) (fun c26 => ?_)
  · skip
    refine zr_iconst hx hb dX6_title_41 ?_
    refine lv_goto (tgt := 46) hx hb dX6_title_42 (by decide) ?_
    refine pM_0_23 Z hP hD hS kf_X6_80 dX6_title_46 (fun H locs hP hD hS => ?_)
    refine lv_aload_n hx hb dX6_title_49 rfl (lv_at hl 0 rfl) ?_
    refine gM_0_23 Z hP kf_X6_80 dX6_title_50 ?_
    refine zr_top (w := .int (zI (2 : Int))) rfl ?_
    refine zc0_le (tgt := 60) hx hb (2 : Int) (zI_toInt (by decide)) dX6_title_53 (by decide) (fun c53 => by exfalso; omega) (fun c53 => ?_)
    refine lv_lconst (v := 0) hx hb dX6_title_56 (by decide) ?_
    refine lv_goto (tgt := 72) hx hb dX6_title_57 (by decide) ?_
    exact zret_L () Z hr hP hD hS rfl rfl ⟨Nat.le_refl _, Nat.le_refl _⟩ hQ dX6_title_72
  · skip
    refine lv_iload_n hx hb dX6_title_29 rfl (lv_at hl 2 rfl) ?_
    refine lv_aload_n hx hb dX6_title_30 rfl (lv_at hl 0 rfl) ?_
    refine gM_0_6 Z hP kf_X6_29 dX6_title_31 ?_
    refine lv_iload_n hx hb dX6_title_34 rfl (lv_at hl 1 rfl) ?_
    refine ldN Z hP 7 (σ.2.1 2) rfl (i) rfl (by omega) (by decide) dX6_title_35 ?_
    refine zr_iconst hx hb dX6_title_36 ?_
    refine zr_isub hx hb dX6_title_37 ?_
    refine zc_ge (tgt := 45) hx hb (b : Int) ((((σ.2.1 2) (i) : Nat) : Int) - (4 : Int)) (zI_toInt (by omega)) (zI_toInt (by omega)) dX6_title_38 (by decide) (fun c38 => by exfalso; have h9 := of_decide_eq_true c26; omega) (fun c38 => ?_)
    refine zr_iconst hx hb dX6_title_41 ?_
    refine lv_goto (tgt := 46) hx hb dX6_title_42 (by decide) ?_
    refine pM_0_23 Z hP hD hS kf_X6_80 dX6_title_46 (fun H locs hP hD hS => ?_)
    refine lv_aload_n hx hb dX6_title_49 rfl (lv_at hl 0 rfl) ?_
    refine gM_0_23 Z hP kf_X6_80 dX6_title_50 ?_
    refine zr_top (w := .int (zI (2 : Int))) rfl ?_
    refine zc0_le (tgt := 60) hx hb (2 : Int) (zI_toInt (by decide)) dX6_title_53 (by decide) (fun c53 => by exfalso; omega) (fun c53 => ?_)
    refine lv_lconst (v := 0) hx hb dX6_title_56 (by decide) ?_
    refine lv_goto (tgt := 72) hx hb dX6_title_57 (by decide) ?_
    exact zret_L () Z hr hP hD hS rfl rfl ⟨Nat.le_refl _, Nat.le_refl _⟩ hQ dX6_title_72
abbrev r_X6_versions : Room := { frames := 2, cells := 0, slots := 0, locals := 43 }
set_option maxHeartbeats 4000000 in
set_option maxRecDepth 100000 in
theorem m_X6_versions (l : Launch) (G : ZG) (q : Nat → Nat) (σ : St) (κ : KM) {e_i : Int} (i : Nat) (he_i : e_i = (i : Int)) (hI : okM σ) (h1 : i < σ.1 4) :
    MC l G yX6_versions (wY yX6_versions cX6_versions 2 (some .int)) r_X6_versions (wM G q σ κ) [.ref (q 0), .int (zI e_i)] (QI G (fun r9 (_ : Unit) => r9 = (zI (((σ.2.1 2) i : Nat) : Int))) (fun _ => wM G q σ ((0 : Int), κ.2.1, κ.2.2.1, κ.2.2.2))) := by
  subst he_i
  refine MC.mk (by decide +kernel) (Nat.le_of_ble_eq_true rfl) ?_
  intro p e s m av below meth c A H locs ls Q Z hr hnm hQ hP hD hS hl
  have hx := Z.1
  have hb := Z.2.1
  have hown := Z.2.2.2.1
  have hW := Z.2.2.2.2.1
  have hl : lv_has ls 2 [(0, .ref (q 0)), (1, .int (zI ((i : Nat) : Int)))] := hl
  obtain ⟨hn, hru, hrv, hdv, hsr, hmn, ht1, ht2, hwn, hv1, hv2, hmj, htm, hse, htg, hrt, hac, hk1, hk2, hkd, hmm, hmv, hpp, hpl, hp3, hp4, hp6, hp5, hp7, hnz⟩ := id hI
  refine lv_aload_n hx hb dX6_versions_0 rfl (lv_at hl 0 rfl) ?_
  refine lv_aload_n hx hb dX6_versions_1 rfl (lv_at hl 0 rfl) ?_
  refine lv_iload_n hx hb dX6_versions_2 rfl (lv_at hl 1 rfl) ?_
  refine zdet_I ⟨rfl, rfl⟩ Z hD hS (zrunV (rest := [.ref (q 0)]) Z hP hD hS hl.1 (m_X6_isItem l G q σ κ ((i : Nat) : Int) (by omega) (by omega)) zY_X6_isItem km_X6_171 (q0 := 0) rfl rfl rfl rfl ⟨⟨Nat.le_of_ble_eq_true rfl, Nat.le_of_ble_eq_true rfl⟩, Nat.le_of_ble_eq_true rfl, Nat.le_of_ble_eq_true rfl⟩ (Nat.le_of_ble_eq_true rfl) dX6_versions_3) (fun H locs hP hD hS => ?_)
  refine zdet_I ⟨rfl, rfl⟩ Z hD hS (zrunV (rest := []) Z hP hD hS hl.1 (m_X6_checked l G q σ κ (decide ((0 : Int) ≤ ((i : Nat) : Int) ∧ ((i : Nat) : Int) ≤ (((σ.1 4 : Nat) : Int) - (1 : Int)))) (decide_eq_true (by omega))) zY_X6_checked km_X6_137 (q0 := 0) rfl rfl rfl rfl ⟨⟨Nat.le_of_ble_eq_true rfl, Nat.le_of_ble_eq_true rfl⟩, Nat.le_of_ble_eq_true rfl, Nat.le_of_ble_eq_true rfl⟩ (Nat.le_of_ble_eq_true rfl) dX6_versions_6) (fun H locs hP hD hS => ?_)
  refine zc0_le (tgt := 16) hx hb (0 : Int) (zI_toInt (by decide)) dX6_versions_9 (by decide) (fun c9 => ?_) (fun c9 => by exfalso; omega)
  refine lv_aload_n hx hb dX6_versions_16 rfl (lv_at hl 0 rfl) ?_
  refine gM_0_6 Z hP kf_X6_29 dX6_versions_17 ?_
  refine lv_iload_n hx hb dX6_versions_20 rfl (lv_at hl 1 rfl) ?_
  refine ldN Z hP 7 (σ.2.1 2) rfl (i) rfl (by omega) (by decide) dX6_versions_21 ?_
  exact zret_I () Z hr hP hD hS rfl rfl ⟨Nat.le_refl _, Nat.le_refl _⟩ hQ dX6_versions_22
abbrev r_X6_versions_t1 : Room := { frames := 2, cells := 0, slots := 0, locals := 43 }
set_option maxHeartbeats 4000000 in
set_option maxRecDepth 100000 in
theorem m_X6_versions_t1 (l : Launch) (G : ZG) (q : Nat → Nat) (σ : St) (κ : KM) (i : Int) (hI : okM σ) (h1 : zR i) (h2 : i < 0 ∨ ((σ.1 4 : Nat) : Int) ≤ i) :
    MC l G yX6_versions (wY yX6_versions cX6_versions 2 (some .int)) r_X6_versions_t1 (wM G q σ κ) [.ref (q 0), .int (zI (i : Int))] (QI G (fun r9 (_ : Unit) => r9 = (zI (0 : Int))) (fun _ => wM G q σ ((1 : Int), κ.2.1, κ.2.2.1, κ.2.2.2))) := by
  refine MC.mk (by decide +kernel) (Nat.le_of_ble_eq_true rfl) ?_
  intro p e s m av below meth c A H locs ls Q Z hr hnm hQ hP hD hS hl
  have hx := Z.1
  have hb := Z.2.1
  have hown := Z.2.2.2.1
  have hW := Z.2.2.2.2.1
  have hl : lv_has ls 2 [(0, .ref (q 0)), (1, .int (zI (i : Int)))] := hl
  obtain ⟨hn, hru, hrv, hdv, hsr, hmn, ht1, ht2, hwn, hv1, hv2, hmj, htm, hse, htg, hrt, hac, hk1, hk2, hkd, hmm, hmv, hpp, hpl, hp3, hp4, hp6, hp5, hp7, hnz⟩ := id hI
  refine lv_aload_n hx hb dX6_versions_0 rfl (lv_at hl 0 rfl) ?_
  refine lv_aload_n hx hb dX6_versions_1 rfl (lv_at hl 0 rfl) ?_
  refine lv_iload_n hx hb dX6_versions_2 rfl (lv_at hl 1 rfl) ?_
  refine zdet_I ⟨rfl, rfl⟩ Z hD hS (zrunV (rest := [.ref (q 0)]) Z hP hD hS hl.1 (m_X6_isItem l G q σ κ (i : Int) (by omega) (by omega)) zY_X6_isItem km_X6_171 (q0 := 0) rfl rfl rfl rfl ⟨⟨Nat.le_of_ble_eq_true rfl, Nat.le_of_ble_eq_true rfl⟩, Nat.le_of_ble_eq_true rfl, Nat.le_of_ble_eq_true rfl⟩ (Nat.le_of_ble_eq_true rfl) dX6_versions_3) (fun H locs hP hD hS => ?_)
  refine zdet_I ⟨rfl, rfl⟩ Z hD hS (zrunV (rest := []) Z hP hD hS hl.1 (m_X6_checked_n l G q σ κ (decide ((0 : Int) ≤ (i : Int) ∧ (i : Int) ≤ (((σ.1 4 : Nat) : Int) - (1 : Int)))) (decide_eq_false (by omega))) zY_X6_checked km_X6_137 (q0 := 0) rfl rfl rfl rfl ⟨⟨Nat.le_of_ble_eq_true rfl, Nat.le_of_ble_eq_true rfl⟩, Nat.le_of_ble_eq_true rfl, Nat.le_of_ble_eq_true rfl⟩ (Nat.le_of_ble_eq_true rfl) dX6_versions_6) (fun H locs hP hD hS => ?_)
  refine zc0_le (tgt := 16) hx hb (1 : Int) (zI_toInt (by decide)) dX6_versions_9 (by decide) (fun c9 => by exfalso; omega) (fun c9 => ?_)
  refine zr_iconst hx hb dX6_versions_12 ?_
  refine lv_goto (tgt := 22) hx hb dX6_versions_13 (by decide) ?_
  exact zret_I () Z hr hP hD hS rfl rfl ⟨Nat.le_refl _, Nat.le_refl _⟩ hQ dX6_versions_22
abbrev r_X6_latestMajor : Room := { frames := 2, cells := 0, slots := 0, locals := 43 }
set_option maxHeartbeats 4000000 in
set_option maxRecDepth 100000 in
theorem m_X6_latestMajor (l : Launch) (G : ZG) (q : Nat → Nat) (σ : St) (κ : KM) {e_i : Int} (i : Nat) (he_i : e_i = (i : Int)) (hI : okM σ) (h1 : i < σ.1 4) :
    MC l G yX6_latestMajor (wY yX6_latestMajor cX6_latestMajor 2 (some .int)) r_X6_latestMajor (wM G q σ κ) [.ref (q 0), .int (zI e_i)] (QI G (fun r9 (_ : Unit) => r9 = (zI (((σ.2.1 3) i : Nat) : Int))) (fun _ => wM G q σ ((0 : Int), κ.2.1, κ.2.2.1, κ.2.2.2))) := by
  subst he_i
  refine MC.mk (by decide +kernel) (Nat.le_of_ble_eq_true rfl) ?_
  intro p e s m av below meth c A H locs ls Q Z hr hnm hQ hP hD hS hl
  have hx := Z.1
  have hb := Z.2.1
  have hown := Z.2.2.2.1
  have hW := Z.2.2.2.2.1
  have hl : lv_has ls 2 [(0, .ref (q 0)), (1, .int (zI ((i : Nat) : Int)))] := hl
  obtain ⟨hn, hru, hrv, hdv, hsr, hmn, ht1, ht2, hwn, hv1, hv2, hmj, htm, hse, htg, hrt, hac, hk1, hk2, hkd, hmm, hmv, hpp, hpl, hp3, hp4, hp6, hp5, hp7, hnz⟩ := id hI
  refine lv_aload_n hx hb dX6_latestMajor_0 rfl (lv_at hl 0 rfl) ?_
  refine lv_aload_n hx hb dX6_latestMajor_1 rfl (lv_at hl 0 rfl) ?_
  refine lv_iload_n hx hb dX6_latestMajor_2 rfl (lv_at hl 1 rfl) ?_
  refine zdet_I ⟨rfl, rfl⟩ Z hD hS (zrunV (rest := [.ref (q 0)]) Z hP hD hS hl.1 (m_X6_isItem l G q σ κ ((i : Nat) : Int) (by omega) (by omega)) zY_X6_isItem km_X6_171 (q0 := 0) rfl rfl rfl rfl ⟨⟨Nat.le_of_ble_eq_true rfl, Nat.le_of_ble_eq_true rfl⟩, Nat.le_of_ble_eq_true rfl, Nat.le_of_ble_eq_true rfl⟩ (Nat.le_of_ble_eq_true rfl) dX6_latestMajor_3) (fun H locs hP hD hS => ?_)
  refine zdet_I ⟨rfl, rfl⟩ Z hD hS (zrunV (rest := []) Z hP hD hS hl.1 (m_X6_checked l G q σ κ (decide ((0 : Int) ≤ ((i : Nat) : Int) ∧ ((i : Nat) : Int) ≤ (((σ.1 4 : Nat) : Int) - (1 : Int)))) (decide_eq_true (by omega))) zY_X6_checked km_X6_137 (q0 := 0) rfl rfl rfl rfl ⟨⟨Nat.le_of_ble_eq_true rfl, Nat.le_of_ble_eq_true rfl⟩, Nat.le_of_ble_eq_true rfl, Nat.le_of_ble_eq_true rfl⟩ (Nat.le_of_ble_eq_true rfl) dX6_latestMajor_6) (fun H locs hP hD hS => ?_)
  refine zc0_le (tgt := 16) hx hb (0 : Int) (zI_toInt (by decide)) dX6_latestMajor_9 (by decide) (fun c9 => ?_) (fun c9 => by exfalso; omega)
  refine lv_aload_n hx hb dX6_latestMajor_16 rfl (lv_at hl 0 rfl) ?_
  refine gM_0_7 Z hP kf_X6_32 dX6_latestMajor_17 ?_
  refine lv_iload_n hx hb dX6_latestMajor_20 rfl (lv_at hl 1 rfl) ?_
  refine ldN Z hP 8 (σ.2.1 3) rfl (i) rfl (by omega) (by decide) dX6_latestMajor_21 ?_
  exact zret_I () Z hr hP hD hS rfl rfl ⟨Nat.le_refl _, Nat.le_refl _⟩ hQ dX6_latestMajor_22
abbrev r_X6_latestMajor_t1 : Room := { frames := 2, cells := 0, slots := 0, locals := 43 }
set_option maxHeartbeats 4000000 in
set_option maxRecDepth 100000 in
theorem m_X6_latestMajor_t1 (l : Launch) (G : ZG) (q : Nat → Nat) (σ : St) (κ : KM) (i : Int) (hI : okM σ) (h1 : zR i) (h2 : i < 0 ∨ ((σ.1 4 : Nat) : Int) ≤ i) :
    MC l G yX6_latestMajor (wY yX6_latestMajor cX6_latestMajor 2 (some .int)) r_X6_latestMajor_t1 (wM G q σ κ) [.ref (q 0), .int (zI (i : Int))] (QI G (fun r9 (_ : Unit) => r9 = (zI (0 : Int))) (fun _ => wM G q σ ((1 : Int), κ.2.1, κ.2.2.1, κ.2.2.2))) := by
  refine MC.mk (by decide +kernel) (Nat.le_of_ble_eq_true rfl) ?_
  intro p e s m av below meth c A H locs ls Q Z hr hnm hQ hP hD hS hl
  have hx := Z.1
  have hb := Z.2.1
  have hown := Z.2.2.2.1
  have hW := Z.2.2.2.2.1
  have hl : lv_has ls 2 [(0, .ref (q 0)), (1, .int (zI (i : Int)))] := hl
  obtain ⟨hn, hru, hrv, hdv, hsr, hmn, ht1, ht2, hwn, hv1, hv2, hmj, htm, hse, htg, hrt, hac, hk1, hk2, hkd, hmm, hmv, hpp, hpl, hp3, hp4, hp6, hp5, hp7, hnz⟩ := id hI
  refine lv_aload_n hx hb dX6_latestMajor_0 rfl (lv_at hl 0 rfl) ?_
  refine lv_aload_n hx hb dX6_latestMajor_1 rfl (lv_at hl 0 rfl) ?_
  refine lv_iload_n hx hb dX6_latestMajor_2 rfl (lv_at hl 1 rfl) ?_
  refine zdet_I ⟨rfl, rfl⟩ Z hD hS (zrunV (rest := [.ref (q 0)]) Z hP hD hS hl.1 (m_X6_isItem l G q σ κ (i : Int) (by omega) (by omega)) zY_X6_isItem km_X6_171 (q0 := 0) rfl rfl rfl rfl ⟨⟨Nat.le_of_ble_eq_true rfl, Nat.le_of_ble_eq_true rfl⟩, Nat.le_of_ble_eq_true rfl, Nat.le_of_ble_eq_true rfl⟩ (Nat.le_of_ble_eq_true rfl) dX6_latestMajor_3) (fun H locs hP hD hS => ?_)
  refine zdet_I ⟨rfl, rfl⟩ Z hD hS (zrunV (rest := []) Z hP hD hS hl.1 (m_X6_checked_n l G q σ κ (decide ((0 : Int) ≤ (i : Int) ∧ (i : Int) ≤ (((σ.1 4 : Nat) : Int) - (1 : Int)))) (decide_eq_false (by omega))) zY_X6_checked km_X6_137 (q0 := 0) rfl rfl rfl rfl ⟨⟨Nat.le_of_ble_eq_true rfl, Nat.le_of_ble_eq_true rfl⟩, Nat.le_of_ble_eq_true rfl, Nat.le_of_ble_eq_true rfl⟩ (Nat.le_of_ble_eq_true rfl) dX6_latestMajor_6) (fun H locs hP hD hS => ?_)
  refine zc0_le (tgt := 16) hx hb (1 : Int) (zI_toInt (by decide)) dX6_latestMajor_9 (by decide) (fun c9 => by exfalso; omega) (fun c9 => ?_)
  refine zr_iconst hx hb dX6_latestMajor_12 ?_
  refine lv_goto (tgt := 22) hx hb dX6_latestMajor_13 (by decide) ?_
  exact zret_I () Z hr hP hD hS rfl rfl ⟨Nat.le_refl _, Nat.le_refl _⟩ hQ dX6_latestMajor_22
abbrev r_X6_timeOf : Room := { frames := 2, cells := 0, slots := 0, locals := 43 }
set_option maxHeartbeats 4000000 in
set_option maxRecDepth 100000 in
theorem m_X6_timeOf (l : Launch) (G : ZG) (q : Nat → Nat) (σ : St) (κ : KM) {e_i : Int} (i : Nat) (he_i : e_i = (i : Int)) (hI : okM σ) (h1 : i < σ.1 4) :
    MC l G yX6_timeOf (wY yX6_timeOf cX6_timeOf 2 (some .int)) r_X6_timeOf (wM G q σ κ) [.ref (q 0), .int (zI e_i)] (QI G (fun r9 (_ : Unit) => r9 = (zI (((σ.2.1 1) i : Nat) : Int))) (fun _ => wM G q σ ((0 : Int), κ.2.1, κ.2.2.1, κ.2.2.2))) := by
  subst he_i
  refine MC.mk (by decide +kernel) (Nat.le_of_ble_eq_true rfl) ?_
  intro p e s m av below meth c A H locs ls Q Z hr hnm hQ hP hD hS hl
  have hx := Z.1
  have hb := Z.2.1
  have hown := Z.2.2.2.1
  have hW := Z.2.2.2.2.1
  have hl : lv_has ls 2 [(0, .ref (q 0)), (1, .int (zI ((i : Nat) : Int)))] := hl
  obtain ⟨hn, hru, hrv, hdv, hsr, hmn, ht1, ht2, hwn, hv1, hv2, hmj, htm, hse, htg, hrt, hac, hk1, hk2, hkd, hmm, hmv, hpp, hpl, hp3, hp4, hp6, hp5, hp7, hnz⟩ := id hI
  refine lv_aload_n hx hb dX6_timeOf_0 rfl (lv_at hl 0 rfl) ?_
  refine lv_aload_n hx hb dX6_timeOf_1 rfl (lv_at hl 0 rfl) ?_
  refine lv_iload_n hx hb dX6_timeOf_2 rfl (lv_at hl 1 rfl) ?_
  refine zdet_I ⟨rfl, rfl⟩ Z hD hS (zrunV (rest := [.ref (q 0)]) Z hP hD hS hl.1 (m_X6_isItem l G q σ κ ((i : Nat) : Int) (by omega) (by omega)) zY_X6_isItem km_X6_171 (q0 := 0) rfl rfl rfl rfl ⟨⟨Nat.le_of_ble_eq_true rfl, Nat.le_of_ble_eq_true rfl⟩, Nat.le_of_ble_eq_true rfl, Nat.le_of_ble_eq_true rfl⟩ (Nat.le_of_ble_eq_true rfl) dX6_timeOf_3) (fun H locs hP hD hS => ?_)
  refine zdet_I ⟨rfl, rfl⟩ Z hD hS (zrunV (rest := []) Z hP hD hS hl.1 (m_X6_checked l G q σ κ (decide ((0 : Int) ≤ ((i : Nat) : Int) ∧ ((i : Nat) : Int) ≤ (((σ.1 4 : Nat) : Int) - (1 : Int)))) (decide_eq_true (by omega))) zY_X6_checked km_X6_137 (q0 := 0) rfl rfl rfl rfl ⟨⟨Nat.le_of_ble_eq_true rfl, Nat.le_of_ble_eq_true rfl⟩, Nat.le_of_ble_eq_true rfl, Nat.le_of_ble_eq_true rfl⟩ (Nat.le_of_ble_eq_true rfl) dX6_timeOf_6) (fun H locs hP hD hS => ?_)
  refine zc0_le (tgt := 16) hx hb (0 : Int) (zI_toInt (by decide)) dX6_timeOf_9 (by decide) (fun c9 => ?_) (fun c9 => by exfalso; omega)
  refine lv_aload_n hx hb dX6_timeOf_16 rfl (lv_at hl 0 rfl) ?_
  refine gM_0_4 Z hP kf_X6_23 dX6_timeOf_17 ?_
  refine lv_iload_n hx hb dX6_timeOf_20 rfl (lv_at hl 1 rfl) ?_
  refine ldN Z hP 5 (σ.2.1 1) rfl (i) rfl (by omega) (by decide) dX6_timeOf_21 ?_
  exact zret_I () Z hr hP hD hS rfl rfl ⟨Nat.le_refl _, Nat.le_refl _⟩ hQ dX6_timeOf_22
abbrev r_X6_timeOf_t1 : Room := { frames := 2, cells := 0, slots := 0, locals := 43 }
set_option maxHeartbeats 4000000 in
set_option maxRecDepth 100000 in
theorem m_X6_timeOf_t1 (l : Launch) (G : ZG) (q : Nat → Nat) (σ : St) (κ : KM) (i : Int) (hI : okM σ) (h1 : zR i) (h2 : i < 0 ∨ ((σ.1 4 : Nat) : Int) ≤ i) :
    MC l G yX6_timeOf (wY yX6_timeOf cX6_timeOf 2 (some .int)) r_X6_timeOf_t1 (wM G q σ κ) [.ref (q 0), .int (zI (i : Int))] (QI G (fun r9 (_ : Unit) => r9 = (zI (0 : Int))) (fun _ => wM G q σ ((1 : Int), κ.2.1, κ.2.2.1, κ.2.2.2))) := by
  refine MC.mk (by decide +kernel) (Nat.le_of_ble_eq_true rfl) ?_
  intro p e s m av below meth c A H locs ls Q Z hr hnm hQ hP hD hS hl
  have hx := Z.1
  have hb := Z.2.1
  have hown := Z.2.2.2.1
  have hW := Z.2.2.2.2.1
  have hl : lv_has ls 2 [(0, .ref (q 0)), (1, .int (zI (i : Int)))] := hl
  obtain ⟨hn, hru, hrv, hdv, hsr, hmn, ht1, ht2, hwn, hv1, hv2, hmj, htm, hse, htg, hrt, hac, hk1, hk2, hkd, hmm, hmv, hpp, hpl, hp3, hp4, hp6, hp5, hp7, hnz⟩ := id hI
  refine lv_aload_n hx hb dX6_timeOf_0 rfl (lv_at hl 0 rfl) ?_
  refine lv_aload_n hx hb dX6_timeOf_1 rfl (lv_at hl 0 rfl) ?_
  refine lv_iload_n hx hb dX6_timeOf_2 rfl (lv_at hl 1 rfl) ?_
  refine zdet_I ⟨rfl, rfl⟩ Z hD hS (zrunV (rest := [.ref (q 0)]) Z hP hD hS hl.1 (m_X6_isItem l G q σ κ (i : Int) (by omega) (by omega)) zY_X6_isItem km_X6_171 (q0 := 0) rfl rfl rfl rfl ⟨⟨Nat.le_of_ble_eq_true rfl, Nat.le_of_ble_eq_true rfl⟩, Nat.le_of_ble_eq_true rfl, Nat.le_of_ble_eq_true rfl⟩ (Nat.le_of_ble_eq_true rfl) dX6_timeOf_3) (fun H locs hP hD hS => ?_)
  refine zdet_I ⟨rfl, rfl⟩ Z hD hS (zrunV (rest := []) Z hP hD hS hl.1 (m_X6_checked_n l G q σ κ (decide ((0 : Int) ≤ (i : Int) ∧ (i : Int) ≤ (((σ.1 4 : Nat) : Int) - (1 : Int)))) (decide_eq_false (by omega))) zY_X6_checked km_X6_137 (q0 := 0) rfl rfl rfl rfl ⟨⟨Nat.le_of_ble_eq_true rfl, Nat.le_of_ble_eq_true rfl⟩, Nat.le_of_ble_eq_true rfl, Nat.le_of_ble_eq_true rfl⟩ (Nat.le_of_ble_eq_true rfl) dX6_timeOf_6) (fun H locs hP hD hS => ?_)
  refine zc0_le (tgt := 16) hx hb (1 : Int) (zI_toInt (by decide)) dX6_timeOf_9 (by decide) (fun c9 => by exfalso; omega) (fun c9 => ?_)
  refine zr_iconst hx hb dX6_timeOf_12 ?_
  refine lv_goto (tgt := 22) hx hb dX6_timeOf_13 (by decide) ?_
  exact zret_I () Z hr hP hD hS rfl rfl ⟨Nat.le_refl _, Nat.le_refl _⟩ hQ dX6_timeOf_22
abbrev r_X6_sourcesOf : Room := { frames := 2, cells := 0, slots := 0, locals := 43 }
set_option maxHeartbeats 4000000 in
set_option maxRecDepth 100000 in
theorem m_X6_sourcesOf (l : Launch) (G : ZG) (q : Nat → Nat) (σ : St) (κ : KM) {e_i : Int} (i : Nat) (he_i : e_i = (i : Int)) (hI : okM σ) (h1 : i < σ.1 4) :
    MC l G yX6_sourcesOf (wY yX6_sourcesOf cX6_sourcesOf 2 (some .int)) r_X6_sourcesOf (wM G q σ κ) [.ref (q 0), .int (zI e_i)] (QI G (fun r9 (_ : Unit) => r9 = ((σ.2.2.1 0) i)) (fun _ => wM G q σ ((0 : Int), κ.2.1, κ.2.2.1, κ.2.2.2))) := by
  subst he_i
  refine MC.mk (by decide +kernel) (Nat.le_of_ble_eq_true rfl) ?_
  intro p e s m av below meth c A H locs ls Q Z hr hnm hQ hP hD hS hl
  have hx := Z.1
  have hb := Z.2.1
  have hown := Z.2.2.2.1
  have hW := Z.2.2.2.2.1
  have hl : lv_has ls 2 [(0, .ref (q 0)), (1, .int (zI ((i : Nat) : Int)))] := hl
  obtain ⟨hn, hru, hrv, hdv, hsr, hmn, ht1, ht2, hwn, hv1, hv2, hmj, htm, hse, htg, hrt, hac, hk1, hk2, hkd, hmm, hmv, hpp, hpl, hp3, hp4, hp6, hp5, hp7, hnz⟩ := id hI
  refine lv_aload_n hx hb dX6_sourcesOf_0 rfl (lv_at hl 0 rfl) ?_
  refine lv_aload_n hx hb dX6_sourcesOf_1 rfl (lv_at hl 0 rfl) ?_
  refine lv_iload_n hx hb dX6_sourcesOf_2 rfl (lv_at hl 1 rfl) ?_
  refine zdet_I ⟨rfl, rfl⟩ Z hD hS (zrunV (rest := [.ref (q 0)]) Z hP hD hS hl.1 (m_X6_isItem l G q σ κ ((i : Nat) : Int) (by omega) (by omega)) zY_X6_isItem km_X6_171 (q0 := 0) rfl rfl rfl rfl ⟨⟨Nat.le_of_ble_eq_true rfl, Nat.le_of_ble_eq_true rfl⟩, Nat.le_of_ble_eq_true rfl, Nat.le_of_ble_eq_true rfl⟩ (Nat.le_of_ble_eq_true rfl) dX6_sourcesOf_3) (fun H locs hP hD hS => ?_)
  refine zdet_I ⟨rfl, rfl⟩ Z hD hS (zrunV (rest := []) Z hP hD hS hl.1 (m_X6_checked l G q σ κ (decide ((0 : Int) ≤ ((i : Nat) : Int) ∧ ((i : Nat) : Int) ≤ (((σ.1 4 : Nat) : Int) - (1 : Int)))) (decide_eq_true (by omega))) zY_X6_checked km_X6_137 (q0 := 0) rfl rfl rfl rfl ⟨⟨Nat.le_of_ble_eq_true rfl, Nat.le_of_ble_eq_true rfl⟩, Nat.le_of_ble_eq_true rfl, Nat.le_of_ble_eq_true rfl⟩ (Nat.le_of_ble_eq_true rfl) dX6_sourcesOf_6) (fun H locs hP hD hS => ?_)
  refine zc0_le (tgt := 16) hx hb (0 : Int) (zI_toInt (by decide)) dX6_sourcesOf_9 (by decide) (fun c9 => ?_) (fun c9 => by exfalso; omega)
  refine lv_aload_n hx hb dX6_sourcesOf_16 rfl (lv_at hl 0 rfl) ?_
  refine gM_0_5 Z hP kf_X6_26 dX6_sourcesOf_17 ?_
  refine lv_iload_n hx hb dX6_sourcesOf_20 rfl (lv_at hl 1 rfl) ?_
  refine ldI Z hP 6 (σ.2.2.1 0) rfl (i) rfl (by omega) (by decide) dX6_sourcesOf_21 ?_
  exact zret_I () Z hr hP hD hS rfl rfl ⟨Nat.le_refl _, Nat.le_refl _⟩ hQ dX6_sourcesOf_22
abbrev r_X6_sourcesOf_t1 : Room := { frames := 2, cells := 0, slots := 0, locals := 43 }
set_option maxHeartbeats 4000000 in
set_option maxRecDepth 100000 in
theorem m_X6_sourcesOf_t1 (l : Launch) (G : ZG) (q : Nat → Nat) (σ : St) (κ : KM) (i : Int) (hI : okM σ) (h1 : zR i) (h2 : i < 0 ∨ ((σ.1 4 : Nat) : Int) ≤ i) :
    MC l G yX6_sourcesOf (wY yX6_sourcesOf cX6_sourcesOf 2 (some .int)) r_X6_sourcesOf_t1 (wM G q σ κ) [.ref (q 0), .int (zI (i : Int))] (QI G (fun r9 (_ : Unit) => r9 = (zI (0 : Int))) (fun _ => wM G q σ ((1 : Int), κ.2.1, κ.2.2.1, κ.2.2.2))) := by
  refine MC.mk (by decide +kernel) (Nat.le_of_ble_eq_true rfl) ?_
  intro p e s m av below meth c A H locs ls Q Z hr hnm hQ hP hD hS hl
  have hx := Z.1
  have hb := Z.2.1
  have hown := Z.2.2.2.1
  have hW := Z.2.2.2.2.1
  have hl : lv_has ls 2 [(0, .ref (q 0)), (1, .int (zI (i : Int)))] := hl
  obtain ⟨hn, hru, hrv, hdv, hsr, hmn, ht1, ht2, hwn, hv1, hv2, hmj, htm, hse, htg, hrt, hac, hk1, hk2, hkd, hmm, hmv, hpp, hpl, hp3, hp4, hp6, hp5, hp7, hnz⟩ := id hI
  refine lv_aload_n hx hb dX6_sourcesOf_0 rfl (lv_at hl 0 rfl) ?_
  refine lv_aload_n hx hb dX6_sourcesOf_1 rfl (lv_at hl 0 rfl) ?_
  refine lv_iload_n hx hb dX6_sourcesOf_2 rfl (lv_at hl 1 rfl) ?_
  refine zdet_I ⟨rfl, rfl⟩ Z hD hS (zrunV (rest := [.ref (q 0)]) Z hP hD hS hl.1 (m_X6_isItem l G q σ κ (i : Int) (by omega) (by omega)) zY_X6_isItem km_X6_171 (q0 := 0) rfl rfl rfl rfl ⟨⟨Nat.le_of_ble_eq_true rfl, Nat.le_of_ble_eq_true rfl⟩, Nat.le_of_ble_eq_true rfl, Nat.le_of_ble_eq_true rfl⟩ (Nat.le_of_ble_eq_true rfl) dX6_sourcesOf_3) (fun H locs hP hD hS => ?_)
  refine zdet_I ⟨rfl, rfl⟩ Z hD hS (zrunV (rest := []) Z hP hD hS hl.1 (m_X6_checked_n l G q σ κ (decide ((0 : Int) ≤ (i : Int) ∧ (i : Int) ≤ (((σ.1 4 : Nat) : Int) - (1 : Int)))) (decide_eq_false (by omega))) zY_X6_checked km_X6_137 (q0 := 0) rfl rfl rfl rfl ⟨⟨Nat.le_of_ble_eq_true rfl, Nat.le_of_ble_eq_true rfl⟩, Nat.le_of_ble_eq_true rfl, Nat.le_of_ble_eq_true rfl⟩ (Nat.le_of_ble_eq_true rfl) dX6_sourcesOf_6) (fun H locs hP hD hS => ?_)
  refine zc0_le (tgt := 16) hx hb (1 : Int) (zI_toInt (by decide)) dX6_sourcesOf_9 (by decide) (fun c9 => by exfalso; omega) (fun c9 => ?_)
  refine zr_iconst hx hb dX6_sourcesOf_12 ?_
  refine lv_goto (tgt := 22) hx hb dX6_sourcesOf_13 (by decide) ?_
  exact zret_I () Z hr hP hD hS rfl rfl ⟨Nat.le_refl _, Nat.le_refl _⟩ hQ dX6_sourcesOf_22
abbrev r_X6_addRule : Room := { frames := 1, cells := 0, slots := 0, locals := 22 }
set_option maxHeartbeats 4000000 in
set_option maxRecDepth 100000 in
theorem m_X6_addRule (l : Launch) (G : ZG) (q : Nat → Nat) (σ : St) (κ : KM) (al : Int64) (an : Int64) {e_sr : Int} (sr : Nat) (he_sr : e_sr = (sr : Int)) {e_tg : Int} (tg : Nat) (he_tg : e_tg = (tg : Int) - 1) {e_ac : Int} (ac : Nat) (he_ac : e_ac = (ac : Int)) (hI : okM σ) (h1 : sr ≤ 63) (h2 : tg ≤ 8) (h3 : ac ≤ 9) (h4 : σ.1 5 < 6) :
    MC l G yX6_addRule (wY yX6_addRule cX6_addRule 8 (some .int)) r_X6_addRule (wM G q σ κ) [.ref (q 0), .long (al), .long (an), .int (zI e_sr), .int (zI e_tg), .int (zI e_ac)] (QI G (fun r9 (_ : Unit) => r9 = (zI ((σ.1 5 : Nat) : Int))) (fun _ => wM G q (addR σ al an (zI ((sr : Nat) : Int)) tg ac) ((0 : Int), κ.2.1, κ.2.2.1, κ.2.2.2))) := by
  subst he_sr
  subst he_tg
  subst he_ac
  refine MC.mk (by decide +kernel) (Nat.le_of_ble_eq_true rfl) ?_
  intro p e s m av below meth c A H locs ls Q Z hr hnm hQ hP hD hS hl
  have hx := Z.1
  have hb := Z.2.1
  have hown := Z.2.2.2.1
  have hW := Z.2.2.2.2.1
  have hl : lv_has ls 8 [(0, .ref (q 0)), (1, .long (al)), (3, .long (an)), (5, .int (zI ((sr : Nat) : Int))), (6, .int (zI (((tg : Nat) : Int) - (1 : Int)))), (7, .int (zI ((ac : Nat) : Int)))] := hl
  obtain ⟨hn, hru, hrv, hdv, hsr, hmn, ht1, ht2, hwn, hv1, hv2, hmj, htm, hse, htg, hrt, hac, hk1, hk2, hkd, hmm, hmv, hpp, hpl, hp3, hp4, hp6, hp5, hp7, hnz⟩ := id hI
  refine lv_aload_n hx hb dX6_addRule_0 rfl (lv_at hl 0 rfl) ?_
  refine lv_iload hx hb dX6_addRule_1 (lv_at hl 3 rfl) ?_
  refine zr_iconst hx hb dX6_addRule_3 ?_
  refine zr_bipush hx hb dX6_addRule_4 (by decide) ?_
  refine zdet_I ⟨rfl, rfl⟩ Z hD hS (zrunS (rest := [.ref (q 0)]) Z hP hD hS hl.1 (m_X6_in l G (wM G q σ κ) ((sr : Nat) : Int) (0 : Int) (63 : Int) (by omega) (by omega) (by omega)) zY_X6_in km_X6_128 rfl rfl ⟨⟨Nat.le_of_ble_eq_true rfl, Nat.le_of_ble_eq_true rfl⟩, Nat.le_of_ble_eq_true rfl, Nat.le_of_ble_eq_true rfl⟩ (Nat.le_of_ble_eq_true rfl) dX6_addRule_6) (fun H locs hP hD hS => ?_)
  refine zb_eq (tgt := 34) hx hb dX6_addRule_9 (by decide) (fun c9 => by exfalso; have h9 := of_decide_eq_false c9; omega) (fun c9 => ?_)
  refine lv_iload hx hb dX6_addRule_12 (lv_at hl 4 rfl) ?_
  refine zr_iconst hx hb dX6_addRule_14 ?_
  refine zr_bipush hx hb dX6_addRule_15 (by decide) ?_
  refine zdet_I ⟨rfl, rfl⟩ Z hD hS (zrunS (rest := [.ref (q 0)]) Z hP hD hS hl.1 (m_X6_in l G (wM G q σ κ) (((tg : Nat) : Int) - (1 : Int)) (-1 : Int) (7 : Int) (by omega) (by omega) (by omega)) zY_X6_in km_X6_128 rfl rfl ⟨⟨Nat.le_of_ble_eq_true rfl, Nat.le_of_ble_eq_true rfl⟩, Nat.le_of_ble_eq_true rfl, Nat.le_of_ble_eq_true rfl⟩ (Nat.le_of_ble_eq_true rfl) dX6_addRule_17) (fun H locs hP hD hS => ?_)
  refine zb_eq (tgt := 34) hx hb dX6_addRule_20 (by decide) (fun c20 => by exfalso; have h9 := of_decide_eq_false c20; omega) (fun c20 => ?_)
  refine lv_iload hx hb dX6_addRule_23 (lv_at hl 5 rfl) ?_
  refine zr_iconst hx hb dX6_addRule_25 ?_
  refine zr_bipush hx hb dX6_addRule_26 (by decide) ?_
  refine zdet_I ⟨rfl, rfl⟩ Z hD hS (zrunS (rest := [.ref (q 0)]) Z hP hD hS hl.1 (m_X6_in l G (wM G q σ κ) ((ac : Nat) : Int) (0 : Int) (9 : Int) (by omega) (by omega) (by omega)) zY_X6_in km_X6_128 rfl rfl ⟨⟨Nat.le_of_ble_eq_true rfl, Nat.le_of_ble_eq_true rfl⟩, Nat.le_of_ble_eq_true rfl, Nat.le_of_ble_eq_true rfl⟩ (Nat.le_of_ble_eq_true rfl) dX6_addRule_28) (fun H locs hP hD hS => ?_)
  refine zb_ne (tgt := 38) hx hb dX6_addRule_31 (by decide) (fun c31 => ?_) (fun c31 => by exfalso; have h9 := of_decide_eq_false c31; omega)
  refine lv_aload_n hx hb dX6_addRule_38 rfl (lv_at hl 0 rfl) ?_
  refine gM_0_31 Z hP kf_X6_105 dX6_addRule_39 ?_
  refine zr_bipush hx hb dX6_addRule_42 (by decide) ?_
  refine zc_ne (tgt := 51) hx hb ((σ.1 5 : Nat) : Int) (6 : Int) (zI_toInt (by omega)) (zI_toInt (by decide)) dX6_addRule_44 (by decide) (fun c44 => ?_) (fun c44 => by exfalso; omega)
  refine zr_iconst hx hb dX6_addRule_51 ?_
  refine pM_0_23 Z hP hD hS kf_X6_80 dX6_addRule_52 (fun H locs hP hD hS => ?_)
  refine lv_aload_n hx hb dX6_addRule_55 rfl (lv_at hl 0 rfl) ?_
  refine gM_0_23 Z hP kf_X6_80 dX6_addRule_56 ?_
  refine zr_top (w := .int (zI (0 : Int))) rfl ?_
  refine zc0_le (tgt := 64) hx hb (0 : Int) (zI_toInt (by decide)) dX6_addRule_59 (by decide) (fun c59 => ?_) (fun c59 => by exfalso; omega)
  refine lv_aload_n hx hb dX6_addRule_64 rfl (lv_at hl 0 rfl) ?_
  refine gM_0_1 Z hP kf_X6_13 dX6_addRule_65 ?_
  refine lv_aload_n hx hb dX6_addRule_68 rfl (lv_at hl 0 rfl) ?_
  refine gM_0_31 Z hP kf_X6_105 dX6_addRule_69 ?_
  refine zr_top (w := .int (zI ((σ.1 5 : Nat) : Int))) rfl ?_
  refine lv_lload_n hx hb dX6_addRule_72 rfl (lv_at hl 1 rfl) ?_
  refine stL (ws1 := wM G q (sL σ 1 (va_up (σ.2.2.2 1) (σ.1 5) (al))) ((0 : Int), κ.2.1, κ.2.2.1, κ.2.2.2)) Z hP hD hS 2 (σ.2.2.2 1) rfl (σ.1 5) rfl (by omega) (by decide) rfl dX6_addRule_73 (fun H locs hP hD hS => ?_)
  refine lv_aload_n hx hb dX6_addRule_74 rfl (lv_at hl 0 rfl) ?_
  refine gM_0_2 Z hP kf_X6_16 dX6_addRule_75 ?_
  refine lv_aload_n hx hb dX6_addRule_78 rfl (lv_at hl 0 rfl) ?_
  refine gM_0_31 Z hP kf_X6_105 dX6_addRule_79 ?_
  refine zr_top (w := .int (zI ((σ.1 5 : Nat) : Int))) rfl ?_
  refine lv_lload_n hx hb dX6_addRule_82 rfl (lv_at hl 2 rfl) ?_
  refine stL (ws1 := wM G q (sL (sL σ 1 (va_up (σ.2.2.2 1) (σ.1 5) (al))) 2 (va_up (σ.2.2.2 2) (σ.1 5) (an))) ((0 : Int), κ.2.1, κ.2.2.1, κ.2.2.2)) Z hP hD hS 3 (σ.2.2.2 2) rfl (σ.1 5) rfl (by omega) (by decide) rfl dX6_addRule_83 (fun H locs hP hD hS => ?_)
  refine lv_aload_n hx hb dX6_addRule_84 rfl (lv_at hl 0 rfl) ?_
  refine gM_0_13 Z hP kf_X6_50 dX6_addRule_85 ?_
  refine lv_aload_n hx hb dX6_addRule_88 rfl (lv_at hl 0 rfl) ?_
  refine gM_0_31 Z hP kf_X6_105 dX6_addRule_89 ?_
  refine zr_top (w := .int (zI ((σ.1 5 : Nat) : Int))) rfl ?_
  refine lv_iload hx hb dX6_addRule_92 (lv_at hl 3 rfl) ?_
  refine stI (ws1 := wM G q (sI (sL (sL σ 1 (va_up (σ.2.2.2 1) (σ.1 5) (al))) 2 (va_up (σ.2.2.2 2) (σ.1 5) (an))) 1 (va_up (σ.2.2.1 1) (σ.1 5) (zI ((sr : Nat) : Int)))) ((0 : Int), κ.2.1, κ.2.2.1, κ.2.2.2)) Z hP hD hS 14 (σ.2.2.1 1) rfl (σ.1 5) rfl (by omega) (by decide) rfl dX6_addRule_94 (fun H locs hP hD hS => ?_)
  refine lv_aload_n hx hb dX6_addRule_95 rfl (lv_at hl 0 rfl) ?_
  refine gM_0_14 Z hP kf_X6_53 dX6_addRule_96 ?_
  refine lv_aload_n hx hb dX6_addRule_99 rfl (lv_at hl 0 rfl) ?_
  refine gM_0_31 Z hP kf_X6_105 dX6_addRule_100 ?_
  refine zr_top (w := .int (zI ((σ.1 5 : Nat) : Int))) rfl ?_
  refine lv_iload hx hb dX6_addRule_103 (lv_at hl 4 rfl) ?_
  refine stM (ws1 := wM G q (sA (sI (sL (sL σ 1 (va_up (σ.2.2.2 1) (σ.1 5) (al))) 2 (va_up (σ.2.2.2 2) (σ.1 5) (an))) 1 (va_up (σ.2.2.1 1) (σ.1 5) (zI ((sr : Nat) : Int)))) 18 (va_up (σ.2.1 18) (σ.1 5) (tg))) ((0 : Int), κ.2.1, κ.2.2.1, κ.2.2.2)) Z hP hD hS 15 (σ.2.1 18) rfl (σ.1 5) rfl (by omega) (by decide) (tg) rfl rfl dX6_addRule_105 (fun H locs hP hD hS => ?_)
  refine lv_aload_n hx hb dX6_addRule_106 rfl (lv_at hl 0 rfl) ?_
  refine gM_0_15 Z hP kf_X6_56 dX6_addRule_107 ?_
  refine lv_aload_n hx hb dX6_addRule_110 rfl (lv_at hl 0 rfl) ?_
  refine gM_0_31 Z hP kf_X6_105 dX6_addRule_111 ?_
  refine zr_top (w := .int (zI ((σ.1 5 : Nat) : Int))) rfl ?_
  refine lv_iload hx hb dX6_addRule_114 (lv_at hl 5 rfl) ?_
  refine stN (ws1 := wM G q (sA (sA (sI (sL (sL σ 1 (va_up (σ.2.2.2 1) (σ.1 5) (al))) 2 (va_up (σ.2.2.2 2) (σ.1 5) (an))) 1 (va_up (σ.2.2.1 1) (σ.1 5) (zI ((sr : Nat) : Int)))) 18 (va_up (σ.2.1 18) (σ.1 5) (tg))) 9 (va_up (σ.2.1 9) (σ.1 5) (ac))) ((0 : Int), κ.2.1, κ.2.2.1, κ.2.2.2)) Z hP hD hS 16 (σ.2.1 9) rfl (σ.1 5) rfl (by omega) (by decide) (ac) rfl rfl dX6_addRule_116 (fun H locs hP hD hS => ?_)
  refine lv_aload_n hx hb dX6_addRule_117 rfl (lv_at hl 0 rfl) ?_
  refine lv_dup hx hb dX6_addRule_118 rfl ?_
  refine gM_0_31 Z hP kf_X6_105 dX6_addRule_119 ?_
  refine zr_top (w := .int (zI ((σ.1 5 : Nat) : Int))) rfl ?_
  refine zr_iconst hx hb dX6_addRule_122 ?_
  refine zr_iadd hx hb dX6_addRule_123 ?_
  refine pM_0_31 Z hP hD hS ((σ.1 5 + 1)) (by omega) kf_X6_105 dX6_addRule_124 (fun H locs hP hD hS => ?_)
  refine lv_aload_n hx hb dX6_addRule_127 rfl (lv_at hl 0 rfl) ?_
  refine gM_0_31 Z hP kf_X6_105 dX6_addRule_128 ?_
  refine zr_top (w := .int (zI (((σ.1 5 + 1) : Nat) : Int))) rfl ?_
  refine zr_iconst hx hb dX6_addRule_131 ?_
  refine zr_isub hx hb dX6_addRule_132 ?_
  exact zret_I () Z hr hP hD hS (congrArg zI (by show ((σ.1 5 + 1 : Nat) : Int) - 1 = _; omega)) rfl ⟨Nat.le_refl _, Nat.le_refl _⟩ hQ dX6_addRule_133
abbrev r_X6_addRule_t1 : Room := { frames := 1, cells := 0, slots := 0, locals := 22 }
set_option maxHeartbeats 4000000 in
set_option maxRecDepth 100000 in
theorem m_X6_addRule_t1 (l : Launch) (G : ZG) (q : Nat → Nat) (σ : St) (κ : KM) (al : Int64) (an : Int64) (sr : Int) (tg : Int) (ac : Int) (hI : okM σ) (h7 : zR sr ∧ zR tg ∧ zR ac) (h1 : ¬ (0 ≤ sr ∧ sr ≤ 63 ∧ (-1 ≤ tg ∧ tg ≤ 7) ∧ 0 ≤ ac ∧ ac ≤ 9)) :
    MC l G yX6_addRule (wY yX6_addRule cX6_addRule 8 (some .int)) r_X6_addRule_t1 (wM G q σ κ) [.ref (q 0), .long (al), .long (an), .int (zI (sr : Int)), .int (zI (tg : Int)), .int (zI (ac : Int))] (QI G (fun r9 (_ : Unit) => r9 = (zI (0 : Int))) (fun _ => wM G q σ ((1 : Int), κ.2.1, κ.2.2.1, κ.2.2.2))) := by
  refine MC.mk (by decide +kernel) (Nat.le_of_ble_eq_true rfl) ?_
  intro p e s m av below meth c A H locs ls Q Z hr hnm hQ hP hD hS hl
  have hx := Z.1
  have hb := Z.2.1
  have hown := Z.2.2.2.1
  have hW := Z.2.2.2.2.1
  have hl : lv_has ls 8 [(0, .ref (q 0)), (1, .long (al)), (3, .long (an)), (5, .int (zI (sr : Int))), (6, .int (zI (tg : Int))), (7, .int (zI (ac : Int)))] := hl
  obtain ⟨hn, hru, hrv, hdv, hsr, hmn, ht1, ht2, hwn, hv1, hv2, hmj, htm, hse, htg, hrt, hac, hk1, hk2, hkd, hmm, hmv, hpp, hpl, hp3, hp4, hp6, hp5, hp7, hnz⟩ := id hI
  refine lv_aload_n hx hb dX6_addRule_0 rfl (lv_at hl 0 rfl) ?_
  refine lv_iload hx hb dX6_addRule_1 (lv_at hl 3 rfl) ?_
  refine zr_iconst hx hb dX6_addRule_3 ?_
  refine zr_bipush hx hb dX6_addRule_4 (by decide) ?_
  refine zdet_I ⟨rfl, rfl⟩ Z hD hS (zrunS (rest := [.ref (q 0)]) Z hP hD hS hl.1 (m_X6_in l G (wM G q σ κ) (sr : Int) (0 : Int) (63 : Int) (by omega) (by omega) (by omega)) zY_X6_in km_X6_128 rfl rfl ⟨⟨Nat.le_of_ble_eq_true rfl, Nat.le_of_ble_eq_true rfl⟩, Nat.le_of_ble_eq_true rfl, Nat.le_of_ble_eq_true rfl⟩ (Nat.le_of_ble_eq_true rfl) dX6_addRule_6) (fun H locs hP hD hS => ?_)
  refine zb_eq (tgt := 34) hx hb dX6_addRule_9 (by decide) (fun c9 => ?_) (fun c9 => ?_)
  · skip
    refine zr_iconst hx hb dX6_addRule_34 ?_
    refine lv_goto (tgt := 52) hx hb dX6_addRule_35 (by decide) ?_
    refine pM_0_23 Z hP hD hS kf_X6_80 dX6_addRule_52 (fun H locs hP hD hS => ?_)
    refine lv_aload_n hx hb dX6_addRule_55 rfl (lv_at hl 0 rfl) ?_
    refine gM_0_23 Z hP kf_X6_80 dX6_addRule_56 ?_
    refine zr_top (w := .int (zI (1 : Int))) rfl ?_
    refine zc0_le (tgt := 64) hx hb (1 : Int) (zI_toInt (by decide)) dX6_addRule_59 (by decide) (fun c59 => by exfalso; omega) (fun c59 => ?_)
    refine zr_iconst hx hb dX6_addRule_62 ?_
    exact zret_I () Z hr hP hD hS rfl rfl ⟨Nat.le_refl _, Nat.le_refl _⟩ hQ dX6_addRule_63
  · skip
    refine lv_iload hx hb dX6_addRule_12 (lv_at hl 4 rfl) ?_
    refine zr_iconst hx hb dX6_addRule_14 ?_
    refine zr_bipush hx hb dX6_addRule_15 (by decide) ?_
    refine zdet_I ⟨rfl, rfl⟩ Z hD hS (zrunS (rest := [.ref (q 0)]) Z hP hD hS hl.1 (m_X6_in l G (wM G q σ κ) (tg : Int) (-1 : Int) (7 : Int) (by omega) (by omega) (by omega)) zY_X6_in km_X6_128 rfl rfl ⟨⟨Nat.le_of_ble_eq_true rfl, Nat.le_of_ble_eq_true rfl⟩, Nat.le_of_ble_eq_true rfl, Nat.le_of_ble_eq_true rfl⟩ (Nat.le_of_ble_eq_true rfl) dX6_addRule_17) (fun H locs hP hD hS => ?_)
    refine zb_eq (tgt := 34) hx hb dX6_addRule_20 (by decide) (fun c20 => ?_) (fun c20 => ?_)
    · skip
      refine zr_iconst hx hb dX6_addRule_34 ?_
      refine lv_goto (tgt := 52) hx hb dX6_addRule_35 (by decide) ?_
      refine pM_0_23 Z hP hD hS kf_X6_80 dX6_addRule_52 (fun H locs hP hD hS => ?_)
      refine lv_aload_n hx hb dX6_addRule_55 rfl (lv_at hl 0 rfl) ?_
      refine gM_0_23 Z hP kf_X6_80 dX6_addRule_56 ?_
      refine zr_top (w := .int (zI (1 : Int))) rfl ?_
      refine zc0_le (tgt := 64) hx hb (1 : Int) (zI_toInt (by decide)) dX6_addRule_59 (by decide) (fun c59 => by exfalso; omega) (fun c59 => ?_)
      refine zr_iconst hx hb dX6_addRule_62 ?_
      exact zret_I () Z hr hP hD hS rfl rfl ⟨Nat.le_refl _, Nat.le_refl _⟩ hQ dX6_addRule_63
    · skip
      refine lv_iload hx hb dX6_addRule_23 (lv_at hl 5 rfl) ?_
      refine zr_iconst hx hb dX6_addRule_25 ?_
      refine zr_bipush hx hb dX6_addRule_26 (by decide) ?_
      refine zdet_I ⟨rfl, rfl⟩ Z hD hS (zrunS (rest := [.ref (q 0)]) Z hP hD hS hl.1 (m_X6_in l G (wM G q σ κ) (ac : Int) (0 : Int) (9 : Int) (by omega) (by omega) (by omega)) zY_X6_in km_X6_128 rfl rfl ⟨⟨Nat.le_of_ble_eq_true rfl, Nat.le_of_ble_eq_true rfl⟩, Nat.le_of_ble_eq_true rfl, Nat.le_of_ble_eq_true rfl⟩ (Nat.le_of_ble_eq_true rfl) dX6_addRule_28) (fun H locs hP hD hS => ?_)
      refine zb_ne (tgt := 38) hx hb dX6_addRule_31 (by decide) (fun c31 => by exfalso; have a1 := of_decide_eq_true c9; have a2 := of_decide_eq_true c20; have a3 := of_decide_eq_true c31; omega) (fun c31 => ?_)
      refine zr_iconst hx hb dX6_addRule_34 ?_
      refine lv_goto (tgt := 52) hx hb dX6_addRule_35 (by decide) ?_
      refine pM_0_23 Z hP hD hS kf_X6_80 dX6_addRule_52 (fun H locs hP hD hS => ?_)
      refine lv_aload_n hx hb dX6_addRule_55 rfl (lv_at hl 0 rfl) ?_
      refine gM_0_23 Z hP kf_X6_80 dX6_addRule_56 ?_
      refine zr_top (w := .int (zI (1 : Int))) rfl ?_
      refine zc0_le (tgt := 64) hx hb (1 : Int) (zI_toInt (by decide)) dX6_addRule_59 (by decide) (fun c59 => by exfalso; omega) (fun c59 => ?_)
      refine zr_iconst hx hb dX6_addRule_62 ?_
      exact zret_I () Z hr hP hD hS rfl rfl ⟨Nat.le_refl _, Nat.le_refl _⟩ hQ dX6_addRule_63
abbrev r_X6_addRule_t2 : Room := { frames := 1, cells := 0, slots := 0, locals := 22 }
set_option maxHeartbeats 4000000 in
set_option maxRecDepth 100000 in
theorem m_X6_addRule_t2 (l : Launch) (G : ZG) (q : Nat → Nat) (σ : St) (κ : KM) (al : Int64) (an : Int64) {e_sr : Int} (sr : Nat) (he_sr : e_sr = (sr : Int)) {e_tg : Int} (tg : Nat) (he_tg : e_tg = (tg : Int) - 1) {e_ac : Int} (ac : Nat) (he_ac : e_ac = (ac : Int)) (hI : okM σ) (h1 : sr ≤ 63) (h2 : tg ≤ 8) (h3 : ac ≤ 9) (h4 : σ.1 5 = 6) :
    MC l G yX6_addRule (wY yX6_addRule cX6_addRule 8 (some .int)) r_X6_addRule_t2 (wM G q σ κ) [.ref (q 0), .long (al), .long (an), .int (zI e_sr), .int (zI e_tg), .int (zI e_ac)] (QI G (fun r9 (_ : Unit) => r9 = (zI (0 : Int))) (fun _ => wM G q σ ((2 : Int), κ.2.1, κ.2.2.1, κ.2.2.2))) := by
  subst he_sr
  subst he_tg
  subst he_ac
  refine MC.mk (by decide +kernel) (Nat.le_of_ble_eq_true rfl) ?_
  intro p e s m av below meth c A H locs ls Q Z hr hnm hQ hP hD hS hl
  have hx := Z.1
  have hb := Z.2.1
  have hown := Z.2.2.2.1
  have hW := Z.2.2.2.2.1
  have hl : lv_has ls 8 [(0, .ref (q 0)), (1, .long (al)), (3, .long (an)), (5, .int (zI ((sr : Nat) : Int))), (6, .int (zI (((tg : Nat) : Int) - (1 : Int)))), (7, .int (zI ((ac : Nat) : Int)))] := hl
  obtain ⟨hn, hru, hrv, hdv, hsr, hmn, ht1, ht2, hwn, hv1, hv2, hmj, htm, hse, htg, hrt, hac, hk1, hk2, hkd, hmm, hmv, hpp, hpl, hp3, hp4, hp6, hp5, hp7, hnz⟩ := id hI
  refine lv_aload_n hx hb dX6_addRule_0 rfl (lv_at hl 0 rfl) ?_
  refine lv_iload hx hb dX6_addRule_1 (lv_at hl 3 rfl) ?_
  refine zr_iconst hx hb dX6_addRule_3 ?_
  refine zr_bipush hx hb dX6_addRule_4 (by decide) ?_
  refine zdet_I ⟨rfl, rfl⟩ Z hD hS (zrunS (rest := [.ref (q 0)]) Z hP hD hS hl.1 (m_X6_in l G (wM G q σ κ) ((sr : Nat) : Int) (0 : Int) (63 : Int) (by omega) (by omega) (by omega)) zY_X6_in km_X6_128 rfl rfl ⟨⟨Nat.le_of_ble_eq_true rfl, Nat.le_of_ble_eq_true rfl⟩, Nat.le_of_ble_eq_true rfl, Nat.le_of_ble_eq_true rfl⟩ (Nat.le_of_ble_eq_true rfl) dX6_addRule_6) (fun H locs hP hD hS => ?_)
  refine zb_eq (tgt := 34) hx hb dX6_addRule_9 (by decide) (fun c9 => by exfalso; have h9 := of_decide_eq_false c9; omega) (fun c9 => ?_)
  refine lv_iload hx hb dX6_addRule_12 (lv_at hl 4 rfl) ?_
  refine zr_iconst hx hb dX6_addRule_14 ?_
  refine zr_bipush hx hb dX6_addRule_15 (by decide) ?_
  refine zdet_I ⟨rfl, rfl⟩ Z hD hS (zrunS (rest := [.ref (q 0)]) Z hP hD hS hl.1 (m_X6_in l G (wM G q σ κ) (((tg : Nat) : Int) - (1 : Int)) (-1 : Int) (7 : Int) (by omega) (by omega) (by omega)) zY_X6_in km_X6_128 rfl rfl ⟨⟨Nat.le_of_ble_eq_true rfl, Nat.le_of_ble_eq_true rfl⟩, Nat.le_of_ble_eq_true rfl, Nat.le_of_ble_eq_true rfl⟩ (Nat.le_of_ble_eq_true rfl) dX6_addRule_17) (fun H locs hP hD hS => ?_)
  refine zb_eq (tgt := 34) hx hb dX6_addRule_20 (by decide) (fun c20 => by exfalso; have h9 := of_decide_eq_false c20; omega) (fun c20 => ?_)
  refine lv_iload hx hb dX6_addRule_23 (lv_at hl 5 rfl) ?_
  refine zr_iconst hx hb dX6_addRule_25 ?_
  refine zr_bipush hx hb dX6_addRule_26 (by decide) ?_
  refine zdet_I ⟨rfl, rfl⟩ Z hD hS (zrunS (rest := [.ref (q 0)]) Z hP hD hS hl.1 (m_X6_in l G (wM G q σ κ) ((ac : Nat) : Int) (0 : Int) (9 : Int) (by omega) (by omega) (by omega)) zY_X6_in km_X6_128 rfl rfl ⟨⟨Nat.le_of_ble_eq_true rfl, Nat.le_of_ble_eq_true rfl⟩, Nat.le_of_ble_eq_true rfl, Nat.le_of_ble_eq_true rfl⟩ (Nat.le_of_ble_eq_true rfl) dX6_addRule_28) (fun H locs hP hD hS => ?_)
  refine zb_ne (tgt := 38) hx hb dX6_addRule_31 (by decide) (fun c31 => ?_) (fun c31 => by exfalso; have h9 := of_decide_eq_false c31; omega)
  refine lv_aload_n hx hb dX6_addRule_38 rfl (lv_at hl 0 rfl) ?_
  refine gM_0_31 Z hP kf_X6_105 dX6_addRule_39 ?_
  refine zr_bipush hx hb dX6_addRule_42 (by decide) ?_
  refine zc_ne (tgt := 51) hx hb ((σ.1 5 : Nat) : Int) (6 : Int) (zI_toInt (by omega)) (zI_toInt (by decide)) dX6_addRule_44 (by decide) (fun c44 => by exfalso; omega) (fun c44 => ?_)
  refine zr_iconst hx hb dX6_addRule_47 ?_
  refine lv_goto (tgt := 52) hx hb dX6_addRule_48 (by decide) ?_
  refine pM_0_23 Z hP hD hS kf_X6_80 dX6_addRule_52 (fun H locs hP hD hS => ?_)
  refine lv_aload_n hx hb dX6_addRule_55 rfl (lv_at hl 0 rfl) ?_
  refine gM_0_23 Z hP kf_X6_80 dX6_addRule_56 ?_
  refine zr_top (w := .int (zI (2 : Int))) rfl ?_
  refine zc0_le (tgt := 64) hx hb (2 : Int) (zI_toInt (by decide)) dX6_addRule_59 (by decide) (fun c59 => by exfalso; omega) (fun c59 => ?_)
  refine zr_iconst hx hb dX6_addRule_62 ?_
  exact zret_I () Z hr hP hD hS rfl rfl ⟨Nat.le_refl _, Nat.le_refl _⟩ hQ dX6_addRule_63
abbrev r_X6_dropRule : Room := { frames := 1, cells := 0, slots := 0, locals := 22 }
set_option maxHeartbeats 4000000 in
set_option maxRecDepth 100000 in
theorem m_X6_dropRule (l : Launch) (G : ZG) (q : Nat → Nat) (σ : St) (κ : KM) {e_i : Int} (i : Nat) (he_i : e_i = (i : Int)) (hI : okM σ) (h1 : i < σ.1 5) :
    MC l G yX6_dropRule (wY yX6_dropRule cX6_dropRule 3 (some .int)) r_X6_dropRule (wM G q σ κ) [.ref (q 0), .int (zI e_i)] (QI G (fun r9 (_ : Unit) => r9 = (zI ((σ.1 5 - 1 : Nat) : Int))) (fun _ => wM G q (drp σ i (σ.1 5 - 1 - i)) ((0 : Int), κ.2.1, κ.2.2.1, κ.2.2.2))) := by
  subst he_i
  refine MC.mk (by decide +kernel) (Nat.le_of_ble_eq_true rfl) ?_
  intro p e s m av below meth c A H locs ls Q Z hr hnm hQ hP hD hS hl
  have hx := Z.1
  have hb := Z.2.1
  have hown := Z.2.2.2.1
  have hW := Z.2.2.2.2.1
  have hl : lv_has ls 3 [(0, .ref (q 0)), (1, .int (zI ((i : Nat) : Int)))] := hl
  obtain ⟨hn, hru, hrv, hdv, hsr, hmn, ht1, ht2, hwn, hv1, hv2, hmj, htm, hse, htg, hrt, hac, hk1, hk2, hkd, hmm, hmv, hpp, hpl, hp3, hp4, hp6, hp5, hp7, hnz⟩ := id hI
  refine lv_aload_n hx hb dX6_dropRule_0 rfl (lv_at hl 0 rfl) ?_
  refine lv_iload_n hx hb dX6_dropRule_1 rfl (lv_at hl 1 rfl) ?_
  refine zr_iconst hx hb dX6_dropRule_2 ?_
  refine lv_aload_n hx hb dX6_dropRule_3 rfl (lv_at hl 0 rfl) ?_
  refine gM_0_31 Z hP kf_X6_105 dX6_dropRule_4 ?_
  refine zr_iconst hx hb dX6_dropRule_7 ?_
  refine zr_isub hx hb dX6_dropRule_8 ?_
  refine zdet_I ⟨rfl, rfl⟩ Z hD hS (zrunS (rest := [.ref (q 0)]) Z hP hD hS hl.1 (m_X6_in l G (wM G q σ κ) ((i : Nat) : Int) (0 : Int) (((σ.1 5 : Nat) : Int) - (1 : Int)) (by omega) (by omega) (by omega)) zY_X6_in km_X6_128 rfl rfl ⟨⟨Nat.le_of_ble_eq_true rfl, Nat.le_of_ble_eq_true rfl⟩, Nat.le_of_ble_eq_true rfl, Nat.le_of_ble_eq_true rfl⟩ (Nat.le_of_ble_eq_true rfl) dX6_dropRule_9) (fun H locs hP hD hS => ?_)
  refine zdet_I ⟨rfl, rfl⟩ Z hD hS (zrunV (rest := []) Z hP hD hS hl.1 (m_X6_checked l G q σ κ (decide ((0 : Int) ≤ ((i : Nat) : Int) ∧ ((i : Nat) : Int) ≤ (((σ.1 5 : Nat) : Int) - (1 : Int)))) (decide_eq_true (by omega))) zY_X6_checked km_X6_137 (q0 := 0) rfl rfl rfl rfl ⟨⟨Nat.le_of_ble_eq_true rfl, Nat.le_of_ble_eq_true rfl⟩, Nat.le_of_ble_eq_true rfl, Nat.le_of_ble_eq_true rfl⟩ (Nat.le_of_ble_eq_true rfl) dX6_dropRule_12) (fun H locs hP hD hS => ?_)
  refine zc0_le (tgt := 20) hx hb (0 : Int) (zI_toInt (by decide)) dX6_dropRule_15 (by decide) (fun c15 => ?_) (fun c15 => by exfalso; omega)
  refine lv_aload_n hx hb dX6_dropRule_20 rfl (lv_at hl 0 rfl) ?_
  refine lv_dup hx hb dX6_dropRule_21 rfl ?_
  refine gM_0_31 Z hP kf_X6_105 dX6_dropRule_22 ?_
  refine zr_top (w := .int (zI ((σ.1 5 : Nat) : Int))) rfl ?_
  refine zr_iconst hx hb dX6_dropRule_25 ?_
  refine zr_isub hx hb dX6_dropRule_26 ?_
  refine pM_0_31 Z hP hD hS (σ.1 5 - 1) (by omega) kf_X6_105 dX6_dropRule_27 (fun H locs hP hD hS => ?_)
  refine lv_iload_n hx hb dX6_dropRule_30 rfl (lv_at hl 1 rfl) ?_
  refine lv_istore_n (lv' := [(2, .int (zI ((i : Nat) : Int))), (0, .ref (q 0)), (1, .int (zI ((i : Nat) : Int)))]) hx hb dX6_dropRule_31 rfl hl (by decide) rfl (fun ls hl => ?_)
  suffices LP32 : ∀ (f9 : Nat) (k : Nat), (σ.1 5 - 1 - i) < k + f9 → (k ≤ σ.1 5 - 1 - i) → ∀ (H : Heap) (locs : List Loc) (ls : Array Slot), va_P G.1 vwCl (wM G q (sA (sA (sI (sL (sL (sN σ 5 (σ.1 5 - 1)) 1 (mvd (σ.2.2.2 1) i (k))) 2 (mvd (σ.2.2.2 2) i (k))) 1 (mvd (σ.2.2.1 1) i (k))) 18 (mvd (σ.2.1 18) i (k))) 9 (mvd (σ.2.1 9) i (k))) (0, κ.2.1, κ.2.2.1, κ.2.2.2)) H → va_D A (wM G q (sA (sA (sI (sL (sL (sN σ 5 (σ.1 5 - 1)) 1 (mvd (σ.2.2.2 1) i (k))) 2 (mvd (σ.2.2.2 2) i (k))) 1 (mvd (σ.2.2.1 1) i (k))) 18 (mvd (σ.2.1 18) i (k))) 9 (mvd (σ.2.1 9) i (k))) (0, κ.2.1, κ.2.2.1, κ.2.2.2)) → va_S A s.heap H locs → lv_has ls 3 [(2, .int (zI ((i + k : Nat) : Int))), (0, .ref (q 0)), (1, .int (zI ((i : Nat) : Int)))] → W p l e r_X6_dropRule s m av below meth c H locs 0 0 Q (F0 m 32 ls []) from LP32 ((σ.1 5 - 1 - i) + 1) (0) (by omega) (by omega) _ _ _ hP hD hS (lv_sub hl [0, 1, 2] rfl)
  intro f9
  induction f9 with
  | zero => intro k hf9 hk; exfalso; omega
  | succ f9 ih32 =>
    intro k hf9 hk H locs ls hP hD hS hl
    refine lv_iload_n hx hb dX6_dropRule_32 rfl (lv_at hl 0 rfl) ?_
    refine lv_aload_n hx hb dX6_dropRule_33 rfl (lv_at hl 1 rfl) ?_
    refine gM_0_31 Z hP kf_X6_105 dX6_dropRule_34 ?_
    refine zr_top (w := .int (zI ((σ.1 5 - 1 : Nat) : Int))) rfl ?_
    refine zc_ge (tgt := 116) hx hb ((i + k : Nat) : Int) ((σ.1 5 - 1 : Nat) : Int) (zI_toInt (by omega)) (zI_toInt (by omega)) dX6_dropRule_37 (by decide) (fun c37 => ?_) (fun c37 => ?_)
    · skip
      refine lv_aload_n hx hb dX6_dropRule_116 rfl (lv_at hl 1 rfl) ?_
      refine gM_0_31 Z hP kf_X6_105 dX6_dropRule_117 ?_
      refine zr_top (w := .int (zI ((σ.1 5 - 1 : Nat) : Int))) rfl ?_
      exact zret_I () Z hr hP hD hS rfl (by rw [show k = σ.1 5 - 1 - i from by omega] <;> rfl) ⟨Nat.le_refl _, Nat.le_refl _⟩ hQ dX6_dropRule_120
    · skip
      refine lv_aload_n hx hb dX6_dropRule_40 rfl (lv_at hl 1 rfl) ?_
      refine gM_0_1 Z hP kf_X6_13 dX6_dropRule_41 ?_
      refine lv_iload_n hx hb dX6_dropRule_44 rfl (lv_at hl 0 rfl) ?_
      refine lv_aload_n hx hb dX6_dropRule_45 rfl (lv_at hl 1 rfl) ?_
      refine gM_0_1 Z hP kf_X6_13 dX6_dropRule_46 ?_
      refine lv_iload_n hx hb dX6_dropRule_49 rfl (lv_at hl 0 rfl) ?_
      refine zr_iconst hx hb dX6_dropRule_50 ?_
      refine zr_iadd hx hb dX6_dropRule_51 ?_
      refine ldL Z hP 2 (mvd (σ.2.2.2 1) i k) rfl ((i + k + 1)) (by omega) (by omega) (by decide) dX6_dropRule_52 ?_
      refine stL (ws1 := wM G q (sL (sA (sA (sI (sL (sL (sN σ 5 (σ.1 5 - 1)) 1 (mvd (σ.2.2.2 1) i (k))) 2 (mvd (σ.2.2.2 2) i (k))) 1 (mvd (σ.2.2.1 1) i (k))) 18 (mvd (σ.2.1 18) i (k))) 9 (mvd (σ.2.1 9) i (k))) 1 (va_up (mvd (σ.2.2.2 1) i k) (i + k) ((mvd (σ.2.2.2 1) i k) ((i + k + 1))))) (0, κ.2.1, κ.2.2.1, κ.2.2.2)) Z hP hD hS 2 (mvd (σ.2.2.2 1) i k) rfl (i + k) rfl (by omega) (by decide) rfl dX6_dropRule_53 (fun H locs hP hD hS => ?_)
      refine lv_aload_n hx hb dX6_dropRule_54 rfl (lv_at hl 1 rfl) ?_
      refine gM_0_2 Z hP kf_X6_16 dX6_dropRule_55 ?_
      refine lv_iload_n hx hb dX6_dropRule_58 rfl (lv_at hl 0 rfl) ?_
      refine lv_aload_n hx hb dX6_dropRule_59 rfl (lv_at hl 1 rfl) ?_
      refine gM_0_2 Z hP kf_X6_16 dX6_dropRule_60 ?_
      refine lv_iload_n hx hb dX6_dropRule_63 rfl (lv_at hl 0 rfl) ?_
      refine zr_iconst hx hb dX6_dropRule_64 ?_
      refine zr_iadd hx hb dX6_dropRule_65 ?_
      refine ldL Z hP 3 (mvd (σ.2.2.2 2) i k) rfl ((i + k + 1)) (by omega) (by omega) (by decide) dX6_dropRule_66 ?_
      refine stL (ws1 := wM G q (sL (sL (sA (sA (sI (sL (sL (sN σ 5 (σ.1 5 - 1)) 1 (mvd (σ.2.2.2 1) i (k))) 2 (mvd (σ.2.2.2 2) i (k))) 1 (mvd (σ.2.2.1 1) i (k))) 18 (mvd (σ.2.1 18) i (k))) 9 (mvd (σ.2.1 9) i (k))) 1 (va_up (mvd (σ.2.2.2 1) i k) (i + k) ((mvd (σ.2.2.2 1) i k) ((i + k + 1))))) 2 (va_up (mvd (σ.2.2.2 2) i k) (i + k) ((mvd (σ.2.2.2 2) i k) ((i + k + 1))))) (0, κ.2.1, κ.2.2.1, κ.2.2.2)) Z hP hD hS 3 (mvd (σ.2.2.2 2) i k) rfl (i + k) rfl (by omega) (by decide) rfl dX6_dropRule_67 (fun H locs hP hD hS => ?_)
      refine lv_aload_n hx hb dX6_dropRule_68 rfl (lv_at hl 1 rfl) ?_
      refine gM_0_13 Z hP kf_X6_50 dX6_dropRule_69 ?_
      refine lv_iload_n hx hb dX6_dropRule_72 rfl (lv_at hl 0 rfl) ?_
      refine lv_aload_n hx hb dX6_dropRule_73 rfl (lv_at hl 1 rfl) ?_
      refine gM_0_13 Z hP kf_X6_50 dX6_dropRule_74 ?_
      refine lv_iload_n hx hb dX6_dropRule_77 rfl (lv_at hl 0 rfl) ?_
      refine zr_iconst hx hb dX6_dropRule_78 ?_
      refine zr_iadd hx hb dX6_dropRule_79 ?_
      refine ldI Z hP 14 (mvd (σ.2.2.1 1) i k) rfl ((i + k + 1)) (by omega) (by omega) (by decide) dX6_dropRule_80 ?_
      refine stI (ws1 := wM G q (sI (sL (sL (sA (sA (sI (sL (sL (sN σ 5 (σ.1 5 - 1)) 1 (mvd (σ.2.2.2 1) i (k))) 2 (mvd (σ.2.2.2 2) i (k))) 1 (mvd (σ.2.2.1 1) i (k))) 18 (mvd (σ.2.1 18) i (k))) 9 (mvd (σ.2.1 9) i (k))) 1 (va_up (mvd (σ.2.2.2 1) i k) (i + k) ((mvd (σ.2.2.2 1) i k) ((i + k + 1))))) 2 (va_up (mvd (σ.2.2.2 2) i k) (i + k) ((mvd (σ.2.2.2 2) i k) ((i + k + 1))))) 1 (va_up (mvd (σ.2.2.1 1) i k) (i + k) ((mvd (σ.2.2.1 1) i k) ((i + k + 1))))) (0, κ.2.1, κ.2.2.1, κ.2.2.2)) Z hP hD hS 14 (mvd (σ.2.2.1 1) i k) rfl (i + k) rfl (by omega) (by decide) rfl dX6_dropRule_81 (fun H locs hP hD hS => ?_)
      refine lv_aload_n hx hb dX6_dropRule_82 rfl (lv_at hl 1 rfl) ?_
      refine gM_0_14 Z hP kf_X6_53 dX6_dropRule_83 ?_
      refine lv_iload_n hx hb dX6_dropRule_86 rfl (lv_at hl 0 rfl) ?_
      refine lv_aload_n hx hb dX6_dropRule_87 rfl (lv_at hl 1 rfl) ?_
      refine gM_0_14 Z hP kf_X6_53 dX6_dropRule_88 ?_
      refine lv_iload_n hx hb dX6_dropRule_91 rfl (lv_at hl 0 rfl) ?_
      refine zr_iconst hx hb dX6_dropRule_92 ?_
      refine zr_iadd hx hb dX6_dropRule_93 ?_
      refine ldM Z hP 15 (mvd (σ.2.1 18) i k) rfl ((i + k + 1)) (by omega) (by omega) (by decide) dX6_dropRule_94 ?_
      refine stM (ws1 := wM G q (sA (sI (sL (sL (sA (sA (sI (sL (sL (sN σ 5 (σ.1 5 - 1)) 1 (mvd (σ.2.2.2 1) i (k))) 2 (mvd (σ.2.2.2 2) i (k))) 1 (mvd (σ.2.2.1 1) i (k))) 18 (mvd (σ.2.1 18) i (k))) 9 (mvd (σ.2.1 9) i (k))) 1 (va_up (mvd (σ.2.2.2 1) i k) (i + k) ((mvd (σ.2.2.2 1) i k) ((i + k + 1))))) 2 (va_up (mvd (σ.2.2.2 2) i k) (i + k) ((mvd (σ.2.2.2 2) i k) ((i + k + 1))))) 1 (va_up (mvd (σ.2.2.1 1) i k) (i + k) ((mvd (σ.2.2.1 1) i k) ((i + k + 1))))) 18 (va_up (mvd (σ.2.1 18) i k) (i + k) ((mvd (σ.2.1 18) i k) ((i + k + 1))))) (0, κ.2.1, κ.2.2.1, κ.2.2.2)) Z hP hD hS 15 (mvd (σ.2.1 18) i k) rfl (i + k) rfl (by omega) (by decide) ((mvd (σ.2.1 18) i k) ((i + k + 1))) rfl rfl dX6_dropRule_95 (fun H locs hP hD hS => ?_)
      refine lv_aload_n hx hb dX6_dropRule_96 rfl (lv_at hl 1 rfl) ?_
      refine gM_0_15 Z hP kf_X6_56 dX6_dropRule_97 ?_
      refine lv_iload_n hx hb dX6_dropRule_100 rfl (lv_at hl 0 rfl) ?_
      refine lv_aload_n hx hb dX6_dropRule_101 rfl (lv_at hl 1 rfl) ?_
      refine gM_0_15 Z hP kf_X6_56 dX6_dropRule_102 ?_
      refine lv_iload_n hx hb dX6_dropRule_105 rfl (lv_at hl 0 rfl) ?_
      refine zr_iconst hx hb dX6_dropRule_106 ?_
      refine zr_iadd hx hb dX6_dropRule_107 ?_
      refine ldN Z hP 16 (mvd (σ.2.1 9) i k) rfl ((i + k + 1)) (by omega) (by omega) (by decide) dX6_dropRule_108 ?_
      refine stN (ws1 := wM G q (sA (sA (sI (sL (sL (sA (sA (sI (sL (sL (sN σ 5 (σ.1 5 - 1)) 1 (mvd (σ.2.2.2 1) i (k))) 2 (mvd (σ.2.2.2 2) i (k))) 1 (mvd (σ.2.2.1 1) i (k))) 18 (mvd (σ.2.1 18) i (k))) 9 (mvd (σ.2.1 9) i (k))) 1 (va_up (mvd (σ.2.2.2 1) i k) (i + k) ((mvd (σ.2.2.2 1) i k) ((i + k + 1))))) 2 (va_up (mvd (σ.2.2.2 2) i k) (i + k) ((mvd (σ.2.2.2 2) i k) ((i + k + 1))))) 1 (va_up (mvd (σ.2.2.1 1) i k) (i + k) ((mvd (σ.2.2.1 1) i k) ((i + k + 1))))) 18 (va_up (mvd (σ.2.1 18) i k) (i + k) ((mvd (σ.2.1 18) i k) ((i + k + 1))))) 9 (va_up (mvd (σ.2.1 9) i k) (i + k) ((mvd (σ.2.1 9) i k) ((i + k + 1))))) (0, κ.2.1, κ.2.2.1, κ.2.2.2)) Z hP hD hS 16 (mvd (σ.2.1 9) i k) rfl (i + k) rfl (by omega) (by decide) ((mvd (σ.2.1 9) i k) ((i + k + 1))) rfl rfl dX6_dropRule_109 (fun H locs hP hD hS => ?_)
      refine zr_iinc (lv' := [(2, .int (zI (((i + k : Nat) : Int) + (1 : Int)))), (0, .ref (q 0)), (1, .int (zI ((i : Nat) : Int)))]) hx hb 0 dX6_dropRule_110 hl rfl (by decide) rfl (fun ls hl => ?_)
      refine lv_goto (tgt := 32) hx hb dX6_dropRule_113 (by decide) ?_
      have hw9 : wM G q (sA (sA (sI (sL (sL (sA (sA (sI (sL (sL (sN σ 5 (σ.1 5 - 1)) 1 (mvd (σ.2.2.2 1) i (k))) 2 (mvd (σ.2.2.2 2) i (k))) 1 (mvd (σ.2.2.1 1) i (k))) 18 (mvd (σ.2.1 18) i (k))) 9 (mvd (σ.2.1 9) i (k))) 1 (va_up (mvd (σ.2.2.2 1) i k) (i + k) ((mvd (σ.2.2.2 1) i k) ((i + k + 1))))) 2 (va_up (mvd (σ.2.2.2 2) i k) (i + k) ((mvd (σ.2.2.2 2) i k) ((i + k + 1))))) 1 (va_up (mvd (σ.2.2.1 1) i k) (i + k) ((mvd (σ.2.2.1 1) i k) ((i + k + 1))))) 18 (va_up (mvd (σ.2.1 18) i k) (i + k) ((mvd (σ.2.1 18) i k) ((i + k + 1))))) 9 (va_up (mvd (σ.2.1 9) i k) (i + k) ((mvd (σ.2.1 9) i k) ((i + k + 1))))) (0, κ.2.1, κ.2.2.1, κ.2.2.2) = wM G q (sA (sA (sI (sL (sL (sN σ 5 (σ.1 5 - 1)) 1 (mvd (σ.2.2.2 1) i (k + 1))) 2 (mvd (σ.2.2.2 2) i (k + 1))) 1 (mvd (σ.2.2.1 1) i (k + 1))) 18 (mvd (σ.2.1 18) i (k + 1))) 9 (mvd (σ.2.1 9) i (k + 1))) (0, κ.2.1, κ.2.2.1, κ.2.2.2) := rfl
      rw [hw9] at hP hD
      exact ih32 (k + 1) (by omega) (by omega) _ _ _ hP hD hS (lv_sub hl [0, 1, 2] rfl)
abbrev r_X6_dropRule_t1 : Room := { frames := 1, cells := 0, slots := 0, locals := 22 }
set_option maxHeartbeats 4000000 in
set_option maxRecDepth 100000 in
theorem m_X6_dropRule_t1 (l : Launch) (G : ZG) (q : Nat → Nat) (σ : St) (κ : KM) (i : Int) (hI : okM σ) (h1 : zR i) (h2 : i < 0 ∨ ((σ.1 5 : Nat) : Int) ≤ i) :
    MC l G yX6_dropRule (wY yX6_dropRule cX6_dropRule 3 (some .int)) r_X6_dropRule_t1 (wM G q σ κ) [.ref (q 0), .int (zI (i : Int))] (QI G (fun r9 (_ : Unit) => r9 = (zI (0 : Int))) (fun _ => wM G q σ ((1 : Int), κ.2.1, κ.2.2.1, κ.2.2.2))) := by
  refine MC.mk (by decide +kernel) (Nat.le_of_ble_eq_true rfl) ?_
  intro p e s m av below meth c A H locs ls Q Z hr hnm hQ hP hD hS hl
  have hx := Z.1
  have hb := Z.2.1
  have hown := Z.2.2.2.1
  have hW := Z.2.2.2.2.1
  have hl : lv_has ls 3 [(0, .ref (q 0)), (1, .int (zI (i : Int)))] := hl
  obtain ⟨hn, hru, hrv, hdv, hsr, hmn, ht1, ht2, hwn, hv1, hv2, hmj, htm, hse, htg, hrt, hac, hk1, hk2, hkd, hmm, hmv, hpp, hpl, hp3, hp4, hp6, hp5, hp7, hnz⟩ := id hI
  refine lv_aload_n hx hb dX6_dropRule_0 rfl (lv_at hl 0 rfl) ?_
  refine lv_iload_n hx hb dX6_dropRule_1 rfl (lv_at hl 1 rfl) ?_
  refine zr_iconst hx hb dX6_dropRule_2 ?_
  refine lv_aload_n hx hb dX6_dropRule_3 rfl (lv_at hl 0 rfl) ?_
  refine gM_0_31 Z hP kf_X6_105 dX6_dropRule_4 ?_
  refine zr_iconst hx hb dX6_dropRule_7 ?_
  refine zr_isub hx hb dX6_dropRule_8 ?_
  refine zdet_I ⟨rfl, rfl⟩ Z hD hS (zrunS (rest := [.ref (q 0)]) Z hP hD hS hl.1 (m_X6_in l G (wM G q σ κ) (i : Int) (0 : Int) (((σ.1 5 : Nat) : Int) - (1 : Int)) (by omega) (by omega) (by omega)) zY_X6_in km_X6_128 rfl rfl ⟨⟨Nat.le_of_ble_eq_true rfl, Nat.le_of_ble_eq_true rfl⟩, Nat.le_of_ble_eq_true rfl, Nat.le_of_ble_eq_true rfl⟩ (Nat.le_of_ble_eq_true rfl) dX6_dropRule_9) (fun H locs hP hD hS => ?_)
  refine zdet_I ⟨rfl, rfl⟩ Z hD hS (zrunV (rest := []) Z hP hD hS hl.1 (m_X6_checked_n l G q σ κ (decide ((0 : Int) ≤ (i : Int) ∧ (i : Int) ≤ (((σ.1 5 : Nat) : Int) - (1 : Int)))) (decide_eq_false (by omega))) zY_X6_checked km_X6_137 (q0 := 0) rfl rfl rfl rfl ⟨⟨Nat.le_of_ble_eq_true rfl, Nat.le_of_ble_eq_true rfl⟩, Nat.le_of_ble_eq_true rfl, Nat.le_of_ble_eq_true rfl⟩ (Nat.le_of_ble_eq_true rfl) dX6_dropRule_12) (fun H locs hP hD hS => ?_)
  refine zc0_le (tgt := 20) hx hb (1 : Int) (zI_toInt (by decide)) dX6_dropRule_15 (by decide) (fun c15 => by exfalso; omega) (fun c15 => ?_)
  refine zr_iconst hx hb dX6_dropRule_18 ?_
  exact zret_I () Z hr hP hD hS rfl rfl ⟨Nat.le_refl _, Nat.le_refl _⟩ hQ dX6_dropRule_19
abbrev r_X6_tagsOf : Room := { frames := 3, cells := 0, slots := 0, locals := 69 }
set_option maxHeartbeats 4000000 in
set_option maxRecDepth 100000 in
theorem m_X6_tagsOf (l : Launch) (G : ZG) (q : Nat → Nat) (σ : St) (κ : KM) {e_i : Int} (i : Nat) (he_i : e_i = (i : Int)) (hI : okM σ) (h1 : i < σ.1 4) :
    MC l G yX6_tagsOf (wY yX6_tagsOf cX6_tagsOf 2 (some .int)) r_X6_tagsOf (wM G q σ κ) [.ref (q 0), .int (zI e_i)] (QI G (fun r9 (_ : Unit) => r9 = ((goI σ i).1)) (fun _ => wM G q σ ((0 : Int), goI σ i))) := by
  subst he_i
  refine MC.mk (by decide +kernel) (Nat.le_of_ble_eq_true rfl) ?_
  intro p e s m av below meth c A H locs ls Q Z hr hnm hQ hP hD hS hl
  have hx := Z.1
  have hb := Z.2.1
  have hown := Z.2.2.2.1
  have hW := Z.2.2.2.2.1
  have hl : lv_has ls 2 [(0, .ref (q 0)), (1, .int (zI ((i : Nat) : Int)))] := hl
  obtain ⟨hn, hru, hrv, hdv, hsr, hmn, ht1, ht2, hwn, hv1, hv2, hmj, htm, hse, htg, hrt, hac, hk1, hk2, hkd, hmm, hmv, hpp, hpl, hp3, hp4, hp6, hp5, hp7, hnz⟩ := id hI
  refine lv_aload_n hx hb dX6_tagsOf_0 rfl (lv_at hl 0 rfl) ?_
  refine lv_aload_n hx hb dX6_tagsOf_1 rfl (lv_at hl 0 rfl) ?_
  refine lv_iload_n hx hb dX6_tagsOf_2 rfl (lv_at hl 1 rfl) ?_
  refine zdet_I ⟨rfl, rfl⟩ Z hD hS (zrunV (rest := [.ref (q 0)]) Z hP hD hS hl.1 (m_X6_isItem l G q σ κ ((i : Nat) : Int) (by omega) (by omega)) zY_X6_isItem km_X6_171 (q0 := 0) rfl rfl rfl rfl ⟨⟨Nat.le_of_ble_eq_true rfl, Nat.le_of_ble_eq_true rfl⟩, Nat.le_of_ble_eq_true rfl, Nat.le_of_ble_eq_true rfl⟩ (Nat.le_of_ble_eq_true rfl) dX6_tagsOf_3) (fun H locs hP hD hS => ?_)
  refine zdet_I ⟨rfl, rfl⟩ Z hD hS (zrunV (rest := []) Z hP hD hS hl.1 (m_X6_checked l G q σ κ (decide ((0 : Int) ≤ ((i : Nat) : Int) ∧ ((i : Nat) : Int) ≤ (((σ.1 4 : Nat) : Int) - (1 : Int)))) (decide_eq_true (by omega))) zY_X6_checked km_X6_137 (q0 := 0) rfl rfl rfl rfl ⟨⟨Nat.le_of_ble_eq_true rfl, Nat.le_of_ble_eq_true rfl⟩, Nat.le_of_ble_eq_true rfl, Nat.le_of_ble_eq_true rfl⟩ (Nat.le_of_ble_eq_true rfl) dX6_tagsOf_6) (fun H locs hP hD hS => ?_)
  refine zc0_le (tgt := 14) hx hb (0 : Int) (zI_toInt (by decide)) dX6_tagsOf_9 (by decide) (fun c9 => ?_) (fun c9 => by exfalso; omega)
  refine lv_aload_n hx hb dX6_tagsOf_14 rfl (lv_at hl 0 rfl) ?_
  refine lv_iload_n hx hb dX6_tagsOf_15 rfl (lv_at hl 1 rfl) ?_
  refine zdet_V ⟨rfl, rfl⟩ Z hD hS (zrunV (rest := []) Z hP hD hS hl.1 (m_X6_goes l G q σ ((0 : Int), κ.2.1, κ.2.2.1, κ.2.2.2) (i) rfl hI (by omega)) zY_X6_goes km_X6_179 (q0 := 0) rfl rfl rfl rfl ⟨⟨Nat.le_of_ble_eq_true rfl, Nat.le_of_ble_eq_true rfl⟩, Nat.le_of_ble_eq_true rfl, Nat.le_of_ble_eq_true rfl⟩ (Nat.le_of_ble_eq_true rfl) dX6_tagsOf_16) (fun H locs hP hD hS => ?_)
  refine lv_aload_n hx hb dX6_tagsOf_19 rfl (lv_at hl 0 rfl) ?_
  refine gM_0_34 Z hP kf_X6_114 dX6_tagsOf_20 ?_
  refine zr_top (w := .int ((goI σ i).1)) rfl ?_
  exact zret_I () Z hr hP hD hS rfl rfl ⟨Nat.le_refl _, Nat.le_refl _⟩ hQ dX6_tagsOf_23
abbrev r_X6_tagsOf_t1 : Room := { frames := 3, cells := 0, slots := 0, locals := 69 }
set_option maxHeartbeats 4000000 in
set_option maxRecDepth 100000 in
theorem m_X6_tagsOf_t1 (l : Launch) (G : ZG) (q : Nat → Nat) (σ : St) (κ : KM) (i : Int) (hI : okM σ) (h1 : zR i) (h2 : i < 0 ∨ ((σ.1 4 : Nat) : Int) ≤ i) :
    MC l G yX6_tagsOf (wY yX6_tagsOf cX6_tagsOf 2 (some .int)) r_X6_tagsOf_t1 (wM G q σ κ) [.ref (q 0), .int (zI (i : Int))] (QI G (fun r9 (_ : Unit) => r9 = (zI (0 : Int))) (fun _ => wM G q σ ((1 : Int), κ.2.1, κ.2.2.1, κ.2.2.2))) := by
  refine MC.mk (by decide +kernel) (Nat.le_of_ble_eq_true rfl) ?_
  intro p e s m av below meth c A H locs ls Q Z hr hnm hQ hP hD hS hl
  have hx := Z.1
  have hb := Z.2.1
  have hown := Z.2.2.2.1
  have hW := Z.2.2.2.2.1
  have hl : lv_has ls 2 [(0, .ref (q 0)), (1, .int (zI (i : Int)))] := hl
  obtain ⟨hn, hru, hrv, hdv, hsr, hmn, ht1, ht2, hwn, hv1, hv2, hmj, htm, hse, htg, hrt, hac, hk1, hk2, hkd, hmm, hmv, hpp, hpl, hp3, hp4, hp6, hp5, hp7, hnz⟩ := id hI
  refine lv_aload_n hx hb dX6_tagsOf_0 rfl (lv_at hl 0 rfl) ?_
  refine lv_aload_n hx hb dX6_tagsOf_1 rfl (lv_at hl 0 rfl) ?_
  refine lv_iload_n hx hb dX6_tagsOf_2 rfl (lv_at hl 1 rfl) ?_
  refine zdet_I ⟨rfl, rfl⟩ Z hD hS (zrunV (rest := [.ref (q 0)]) Z hP hD hS hl.1 (m_X6_isItem l G q σ κ (i : Int) (by omega) (by omega)) zY_X6_isItem km_X6_171 (q0 := 0) rfl rfl rfl rfl ⟨⟨Nat.le_of_ble_eq_true rfl, Nat.le_of_ble_eq_true rfl⟩, Nat.le_of_ble_eq_true rfl, Nat.le_of_ble_eq_true rfl⟩ (Nat.le_of_ble_eq_true rfl) dX6_tagsOf_3) (fun H locs hP hD hS => ?_)
  refine zdet_I ⟨rfl, rfl⟩ Z hD hS (zrunV (rest := []) Z hP hD hS hl.1 (m_X6_checked_n l G q σ κ (decide ((0 : Int) ≤ (i : Int) ∧ (i : Int) ≤ (((σ.1 4 : Nat) : Int) - (1 : Int)))) (decide_eq_false (by omega))) zY_X6_checked km_X6_137 (q0 := 0) rfl rfl rfl rfl ⟨⟨Nat.le_of_ble_eq_true rfl, Nat.le_of_ble_eq_true rfl⟩, Nat.le_of_ble_eq_true rfl, Nat.le_of_ble_eq_true rfl⟩ (Nat.le_of_ble_eq_true rfl) dX6_tagsOf_6) (fun H locs hP hD hS => ?_)
  refine zc0_le (tgt := 14) hx hb (1 : Int) (zI_toInt (by decide)) dX6_tagsOf_9 (by decide) (fun c9 => by exfalso; omega) (fun c9 => ?_)
  refine zr_iconst hx hb dX6_tagsOf_12 ?_
  exact zret_I () Z hr hP hD hS rfl rfl ⟨Nat.le_refl _, Nat.le_refl _⟩ hQ dX6_tagsOf_13
abbrev r_X6_isHidden : Room := { frames := 3, cells := 0, slots := 0, locals := 69 }
set_option maxHeartbeats 4000000 in
set_option maxRecDepth 100000 in
theorem m_X6_isHidden (l : Launch) (G : ZG) (q : Nat → Nat) (σ : St) (κ : KM) {e_i : Int} (i : Nat) (he_i : e_i = (i : Int)) (hI : okM σ) (h1 : i < σ.1 4) :
    MC l G yX6_isHidden (wY yX6_isHidden cX6_isHidden 2 (some .boolean)) r_X6_isHidden (wM G q σ κ) [.ref (q 0), .int (zI e_i)] (QI G (fun r9 (_ : Unit) => r9 = (tB ((goI σ i).2.2))) (fun _ => wM G q σ ((0 : Int), goI σ i))) := by
  subst he_i
  refine MC.mk (by decide +kernel) (Nat.le_of_ble_eq_true rfl) ?_
  intro p e s m av below meth c A H locs ls Q Z hr hnm hQ hP hD hS hl
  have hx := Z.1
  have hb := Z.2.1
  have hown := Z.2.2.2.1
  have hW := Z.2.2.2.2.1
  have hl : lv_has ls 2 [(0, .ref (q 0)), (1, .int (zI ((i : Nat) : Int)))] := hl
  obtain ⟨hn, hru, hrv, hdv, hsr, hmn, ht1, ht2, hwn, hv1, hv2, hmj, htm, hse, htg, hrt, hac, hk1, hk2, hkd, hmm, hmv, hpp, hpl, hp3, hp4, hp6, hp5, hp7, hnz⟩ := id hI
  refine lv_aload_n hx hb dX6_isHidden_0 rfl (lv_at hl 0 rfl) ?_
  refine lv_aload_n hx hb dX6_isHidden_1 rfl (lv_at hl 0 rfl) ?_
  refine lv_iload_n hx hb dX6_isHidden_2 rfl (lv_at hl 1 rfl) ?_
  refine zdet_I ⟨rfl, rfl⟩ Z hD hS (zrunV (rest := [.ref (q 0)]) Z hP hD hS hl.1 (m_X6_isItem l G q σ κ ((i : Nat) : Int) (by omega) (by omega)) zY_X6_isItem km_X6_171 (q0 := 0) rfl rfl rfl rfl ⟨⟨Nat.le_of_ble_eq_true rfl, Nat.le_of_ble_eq_true rfl⟩, Nat.le_of_ble_eq_true rfl, Nat.le_of_ble_eq_true rfl⟩ (Nat.le_of_ble_eq_true rfl) dX6_isHidden_3) (fun H locs hP hD hS => ?_)
  refine zdet_I ⟨rfl, rfl⟩ Z hD hS (zrunV (rest := []) Z hP hD hS hl.1 (m_X6_checked l G q σ κ (decide ((0 : Int) ≤ ((i : Nat) : Int) ∧ ((i : Nat) : Int) ≤ (((σ.1 4 : Nat) : Int) - (1 : Int)))) (decide_eq_true (by omega))) zY_X6_checked km_X6_137 (q0 := 0) rfl rfl rfl rfl ⟨⟨Nat.le_of_ble_eq_true rfl, Nat.le_of_ble_eq_true rfl⟩, Nat.le_of_ble_eq_true rfl, Nat.le_of_ble_eq_true rfl⟩ (Nat.le_of_ble_eq_true rfl) dX6_isHidden_6) (fun H locs hP hD hS => ?_)
  refine zc0_le (tgt := 14) hx hb (0 : Int) (zI_toInt (by decide)) dX6_isHidden_9 (by decide) (fun c9 => ?_) (fun c9 => by exfalso; omega)
  refine lv_aload_n hx hb dX6_isHidden_14 rfl (lv_at hl 0 rfl) ?_
  refine lv_iload_n hx hb dX6_isHidden_15 rfl (lv_at hl 1 rfl) ?_
  refine zdet_V ⟨rfl, rfl⟩ Z hD hS (zrunV (rest := []) Z hP hD hS hl.1 (m_X6_goes l G q σ ((0 : Int), κ.2.1, κ.2.2.1, κ.2.2.2) (i) rfl hI (by omega)) zY_X6_goes km_X6_179 (q0 := 0) rfl rfl rfl rfl ⟨⟨Nat.le_of_ble_eq_true rfl, Nat.le_of_ble_eq_true rfl⟩, Nat.le_of_ble_eq_true rfl, Nat.le_of_ble_eq_true rfl⟩ (Nat.le_of_ble_eq_true rfl) dX6_isHidden_16) (fun H locs hP hD hS => ?_)
  refine lv_aload_n hx hb dX6_isHidden_19 rfl (lv_at hl 0 rfl) ?_
  refine gM_0_36 Z hP kf_X6_120 dX6_isHidden_20 ?_
  refine zr_top (w := .int (tB ((goI σ i).2.2))) rfl ?_
  exact zret_B () Z hr (tB_n _) hP hD hS rfl rfl ⟨Nat.le_refl _, Nat.le_refl _⟩ hQ dX6_isHidden_23
abbrev r_X6_isHidden_t1 : Room := { frames := 3, cells := 0, slots := 0, locals := 69 }
set_option maxHeartbeats 4000000 in
set_option maxRecDepth 100000 in
theorem m_X6_isHidden_t1 (l : Launch) (G : ZG) (q : Nat → Nat) (σ : St) (κ : KM) (i : Int) (hI : okM σ) (h1 : zR i) (h2 : i < 0 ∨ ((σ.1 4 : Nat) : Int) ≤ i) :
    MC l G yX6_isHidden (wY yX6_isHidden cX6_isHidden 2 (some .boolean)) r_X6_isHidden_t1 (wM G q σ κ) [.ref (q 0), .int (zI (i : Int))] (QI G (fun r9 (_ : Unit) => r9 = (tB (false))) (fun _ => wM G q σ ((1 : Int), κ.2.1, κ.2.2.1, κ.2.2.2))) := by
  refine MC.mk (by decide +kernel) (Nat.le_of_ble_eq_true rfl) ?_
  intro p e s m av below meth c A H locs ls Q Z hr hnm hQ hP hD hS hl
  have hx := Z.1
  have hb := Z.2.1
  have hown := Z.2.2.2.1
  have hW := Z.2.2.2.2.1
  have hl : lv_has ls 2 [(0, .ref (q 0)), (1, .int (zI (i : Int)))] := hl
  obtain ⟨hn, hru, hrv, hdv, hsr, hmn, ht1, ht2, hwn, hv1, hv2, hmj, htm, hse, htg, hrt, hac, hk1, hk2, hkd, hmm, hmv, hpp, hpl, hp3, hp4, hp6, hp5, hp7, hnz⟩ := id hI
  refine lv_aload_n hx hb dX6_isHidden_0 rfl (lv_at hl 0 rfl) ?_
  refine lv_aload_n hx hb dX6_isHidden_1 rfl (lv_at hl 0 rfl) ?_
  refine lv_iload_n hx hb dX6_isHidden_2 rfl (lv_at hl 1 rfl) ?_
  refine zdet_I ⟨rfl, rfl⟩ Z hD hS (zrunV (rest := [.ref (q 0)]) Z hP hD hS hl.1 (m_X6_isItem l G q σ κ (i : Int) (by omega) (by omega)) zY_X6_isItem km_X6_171 (q0 := 0) rfl rfl rfl rfl ⟨⟨Nat.le_of_ble_eq_true rfl, Nat.le_of_ble_eq_true rfl⟩, Nat.le_of_ble_eq_true rfl, Nat.le_of_ble_eq_true rfl⟩ (Nat.le_of_ble_eq_true rfl) dX6_isHidden_3) (fun H locs hP hD hS => ?_)
  refine zdet_I ⟨rfl, rfl⟩ Z hD hS (zrunV (rest := []) Z hP hD hS hl.1 (m_X6_checked_n l G q σ κ (decide ((0 : Int) ≤ (i : Int) ∧ (i : Int) ≤ (((σ.1 4 : Nat) : Int) - (1 : Int)))) (decide_eq_false (by omega))) zY_X6_checked km_X6_137 (q0 := 0) rfl rfl rfl rfl ⟨⟨Nat.le_of_ble_eq_true rfl, Nat.le_of_ble_eq_true rfl⟩, Nat.le_of_ble_eq_true rfl, Nat.le_of_ble_eq_true rfl⟩ (Nat.le_of_ble_eq_true rfl) dX6_isHidden_6) (fun H locs hP hD hS => ?_)
  refine zc0_le (tgt := 14) hx hb (1 : Int) (zI_toInt (by decide)) dX6_isHidden_9 (by decide) (fun c9 => by exfalso; omega) (fun c9 => ?_)
  refine zr_iconst hx hb dX6_isHidden_12 ?_
  exact zret_B () Z hr (by decide +kernel) hP hD hS (tB_0 rfl) rfl ⟨Nat.le_refl _, Nat.le_refl _⟩ hQ dX6_isHidden_13
abbrev r_X6_matches : Room := { frames := 3, cells := 0, slots := 0, locals := 69 }
set_option maxHeartbeats 4000000 in
set_option maxRecDepth 100000 in
theorem m_X6_matches (l : Launch) (G : ZG) (q : Nat → Nat) (σ : St) (κ : KM) {e_i : Int} (i : Nat) (he_i : e_i = (i : Int)) (hI : okM σ) (h1 : i < σ.1 5) :
    MC l G yX6_matches (wY yX6_matches cX6_matches 4 (some .int)) r_X6_matches (wM G q σ κ) [.ref (q 0), .int (zI e_i)] (QI G (S := Int32 × Int32 × Bool) (fun r9 (_ : Int32 × Int32 × Bool) => r9 = (zI ((cnt (fun y9 => tb (goI σ y9).2.1 i) (σ.1 4) : Nat) : Int))) (fun u => wM G q σ ((0 : Int), u))) := by
  subst he_i
  refine MC.mk (by decide +kernel) (Nat.le_of_ble_eq_true rfl) ?_
  intro p e s m av below meth c A H locs ls Q Z hr hnm hQ hP hD hS hl
  have hx := Z.1
  have hb := Z.2.1
  have hown := Z.2.2.2.1
  have hW := Z.2.2.2.2.1
  have hl : lv_has ls 4 [(0, .ref (q 0)), (1, .int (zI ((i : Nat) : Int)))] := hl
  obtain ⟨hn, hru, hrv, hdv, hsr, hmn, ht1, ht2, hwn, hv1, hv2, hmj, htm, hse, htg, hrt, hac, hk1, hk2, hkd, hmm, hmv, hpp, hpl, hp3, hp4, hp6, hp5, hp7, hnz⟩ := id hI
  refine lv_aload_n hx hb dX6_matches_0 rfl (lv_at hl 0 rfl) ?_
  refine lv_iload_n hx hb dX6_matches_1 rfl (lv_at hl 1 rfl) ?_
  refine zr_iconst hx hb dX6_matches_2 ?_
  refine lv_aload_n hx hb dX6_matches_3 rfl (lv_at hl 0 rfl) ?_
  refine gM_0_31 Z hP kf_X6_105 dX6_matches_4 ?_
  refine zr_iconst hx hb dX6_matches_7 ?_
  refine zr_isub hx hb dX6_matches_8 ?_
  refine zdet_I ⟨rfl, rfl⟩ Z hD hS (zrunS (rest := [.ref (q 0)]) Z hP hD hS hl.1 (m_X6_in l G (wM G q σ κ) ((i : Nat) : Int) (0 : Int) (((σ.1 5 : Nat) : Int) - (1 : Int)) (by omega) (by omega) (by omega)) zY_X6_in km_X6_128 rfl rfl ⟨⟨Nat.le_of_ble_eq_true rfl, Nat.le_of_ble_eq_true rfl⟩, Nat.le_of_ble_eq_true rfl, Nat.le_of_ble_eq_true rfl⟩ (Nat.le_of_ble_eq_true rfl) dX6_matches_9) (fun H locs hP hD hS => ?_)
  refine zdet_I ⟨rfl, rfl⟩ Z hD hS (zrunV (rest := []) Z hP hD hS hl.1 (m_X6_checked l G q σ κ (decide ((0 : Int) ≤ ((i : Nat) : Int) ∧ ((i : Nat) : Int) ≤ (((σ.1 5 : Nat) : Int) - (1 : Int)))) (decide_eq_true (by omega))) zY_X6_checked km_X6_137 (q0 := 0) rfl rfl rfl rfl ⟨⟨Nat.le_of_ble_eq_true rfl, Nat.le_of_ble_eq_true rfl⟩, Nat.le_of_ble_eq_true rfl, Nat.le_of_ble_eq_true rfl⟩ (Nat.le_of_ble_eq_true rfl) dX6_matches_12) (fun H locs hP hD hS => ?_)
  refine zc0_le (tgt := 20) hx hb (0 : Int) (zI_toInt (by decide)) dX6_matches_15 (by decide) (fun c15 => ?_) (fun c15 => by exfalso; omega)
  refine zr_iconst hx hb dX6_matches_20 ?_
  refine lv_istore_n (lv' := [(2, .int (zI (0 : Int))), (0, .ref (q 0)), (1, .int (zI ((i : Nat) : Int)))]) hx hb dX6_matches_21 rfl hl (by decide) rfl (fun ls hl => ?_)
  refine zr_iconst hx hb dX6_matches_22 ?_
  refine lv_istore_n (lv' := [(3, .int (zI (0 : Int))), (2, .int (zI (0 : Int))), (0, .ref (q 0)), (1, .int (zI ((i : Nat) : Int)))]) hx hb dX6_matches_23 rfl hl (by decide) rfl (fun ls hl => ?_)
  suffices LP24 : ∀ (f9 : Nat) (k : Nat) (u9 : Int32 × Int32 × Bool), σ.1 4 < k + f9 → (k ≤ σ.1 4) → ∀ (H : Heap) (locs : List Loc) (ls : Array Slot), va_P G.1 vwCl (wM G q σ ((0 : Int), u9)) H → va_D A (wM G q σ ((0 : Int), u9)) → va_S A s.heap H locs → lv_has ls 4 [(3, .int (zI ((k : Nat) : Int))), (2, .int (zI ((cnt (fun y9 => tb (goI σ y9).2.1 i) k : Nat) : Int))), (0, .ref (q 0)), (1, .int (zI ((i : Nat) : Int)))] → W p l e r_X6_matches s m av below meth c H locs 0 0 Q (F0 m 24 ls []) from LP24 (σ.1 4 + 1) (0) ((κ.2.1, κ.2.2.1, κ.2.2.2)) (by omega) (by omega) _ _ _ hP hD hS (lv_sub hl [0, 1, 2, 3] rfl)
  intro f9
  induction f9 with
  | zero => intro k u9 hf9 hk; exfalso; omega
  | succ f9 ih24 =>
    intro k u9 hf9 hk H locs ls hP hD hS hl
    have hc9 := cnt_le (fun y9 => tb (goI σ y9).2.1 i) k
    refine lv_iload_n hx hb dX6_matches_24 rfl (lv_at hl 0 rfl) ?_
    refine lv_aload_n hx hb dX6_matches_25 rfl (lv_at hl 2 rfl) ?_
    refine gM_0_28 Z hP kf_X6_96 dX6_matches_26 ?_
    refine zr_top (w := .int (zI ((σ.1 4 : Nat) : Int))) rfl ?_
    refine zc_ge (tgt := 54) hx hb ((k : Nat) : Int) ((σ.1 4 : Nat) : Int) (zI_toInt (by omega)) (zI_toInt (by omega)) dX6_matches_29 (by decide) (fun c29 => ?_) (fun c29 => ?_)
    · skip
      refine lv_iload_n hx hb dX6_matches_54 rfl (lv_at hl 1 rfl) ?_
      exact zret_I (u9) Z hr hP hD hS (by rw [show k = σ.1 4 from by omega]) rfl ⟨Nat.le_refl _, Nat.le_refl _⟩ hQ dX6_matches_55
    · skip
      refine lv_aload_n hx hb dX6_matches_32 rfl (lv_at hl 2 rfl) ?_
      refine lv_iload_n hx hb dX6_matches_33 rfl (lv_at hl 0 rfl) ?_
      refine zdet_V ⟨rfl, rfl⟩ Z hD hS (zrunV (rest := []) Z hP hD hS hl.1 (m_X6_goes l G q σ ((0 : Int), u9) (k) rfl hI (by omega)) zY_X6_goes km_X6_179 (q0 := 0) rfl rfl rfl rfl ⟨⟨Nat.le_of_ble_eq_true rfl, Nat.le_of_ble_eq_true rfl⟩, Nat.le_of_ble_eq_true rfl, Nat.le_of_ble_eq_true rfl⟩ (Nat.le_of_ble_eq_true rfl) dX6_matches_34) (fun H locs hP hD hS => ?_)
      refine lv_iload_n hx hb dX6_matches_37 rfl (lv_at hl 1 rfl) ?_
      refine lv_aload_n hx hb dX6_matches_38 rfl (lv_at hl 2 rfl) ?_
      refine gM_0_35 Z hP kf_X6_117 dX6_matches_39 ?_
      refine zr_top (w := .int ((goI σ k).2.1)) rfl ?_
      refine lv_iload_n hx hb dX6_matches_42 rfl (lv_at hl 3 rfl) ?_
      refine lv_ishr hx hb dX6_matches_43 ?_
      refine zr_iconst hx hb dX6_matches_44 ?_
      refine lv_iand hx hb dX6_matches_45 ?_
      refine zr_top (w := .int (zI ((if tb (goI σ k).2.1 i then 1 else 0 : Int) : Int))) (congrArg Value.int (tb_shv _ _ (by omega))) ?_
      refine zr_iadd hx hb dX6_matches_46 ?_
      refine lv_istore_n (lv' := [(2, .int (zI (((cnt (fun y9 => tb (goI σ y9).2.1 i) k : Nat) : Int) + ((if tb (goI σ k).2.1 i then 1 else 0 : Int) : Int)))), (3, .int (zI ((k : Nat) : Int))), (0, .ref (q 0)), (1, .int (zI ((i : Nat) : Int)))]) hx hb dX6_matches_47 rfl hl (by decide) rfl (fun ls hl => ?_)
      refine zr_iinc (lv' := [(3, .int (zI (((k : Nat) : Int) + (1 : Int)))), (2, .int (zI (((cnt (fun y9 => tb (goI σ y9).2.1 i) k : Nat) : Int) + ((if tb (goI σ k).2.1 i then 1 else 0 : Int) : Int)))), (0, .ref (q 0)), (1, .int (zI ((i : Nat) : Int)))]) hx hb 1 dX6_matches_48 hl rfl (by decide) rfl (fun ls hl => ?_)
      refine lv_goto (tgt := 24) hx hb dX6_matches_51 (by decide) ?_
      have h9 : ((cnt (fun y9 => tb (goI σ y9).2.1 i) (k + 1) : Nat) : Int) = ((cnt (fun y9 => tb (goI σ y9).2.1 i) k : Nat) : Int) + (if tb (goI σ k).2.1 i then 1 else 0 : Int) := by
          show ((cnt (fun y9 => tb (goI σ y9).2.1 i) k + (if tb (goI σ k).2.1 i then 1 else 0) : Nat) : Int) = _
          split <;> simp
      exact ih24 (k + 1) (goI σ k) (by omega) (by omega) _ _ _ hP hD hS (lv_sub hl [0, 1, 2, 3] (by rw [h9]; rfl))
abbrev r_X6_matches_t1 : Room := { frames := 3, cells := 0, slots := 0, locals := 69 }
set_option maxHeartbeats 4000000 in
set_option maxRecDepth 100000 in
theorem m_X6_matches_t1 (l : Launch) (G : ZG) (q : Nat → Nat) (σ : St) (κ : KM) (i : Int) (hI : okM σ) (h1 : zR i) (h2 : i < 0 ∨ ((σ.1 5 : Nat) : Int) ≤ i) :
    MC l G yX6_matches (wY yX6_matches cX6_matches 4 (some .int)) r_X6_matches_t1 (wM G q σ κ) [.ref (q 0), .int (zI (i : Int))] (QI G (fun r9 (_ : Unit) => r9 = (zI (0 : Int))) (fun _ => wM G q σ ((1 : Int), κ.2.1, κ.2.2.1, κ.2.2.2))) := by
  refine MC.mk (by decide +kernel) (Nat.le_of_ble_eq_true rfl) ?_
  intro p e s m av below meth c A H locs ls Q Z hr hnm hQ hP hD hS hl
  have hx := Z.1
  have hb := Z.2.1
  have hown := Z.2.2.2.1
  have hW := Z.2.2.2.2.1
  have hl : lv_has ls 4 [(0, .ref (q 0)), (1, .int (zI (i : Int)))] := hl
  obtain ⟨hn, hru, hrv, hdv, hsr, hmn, ht1, ht2, hwn, hv1, hv2, hmj, htm, hse, htg, hrt, hac, hk1, hk2, hkd, hmm, hmv, hpp, hpl, hp3, hp4, hp6, hp5, hp7, hnz⟩ := id hI
  refine lv_aload_n hx hb dX6_matches_0 rfl (lv_at hl 0 rfl) ?_
  refine lv_iload_n hx hb dX6_matches_1 rfl (lv_at hl 1 rfl) ?_
  refine zr_iconst hx hb dX6_matches_2 ?_
  refine lv_aload_n hx hb dX6_matches_3 rfl (lv_at hl 0 rfl) ?_
  refine gM_0_31 Z hP kf_X6_105 dX6_matches_4 ?_
  refine zr_iconst hx hb dX6_matches_7 ?_
  refine zr_isub hx hb dX6_matches_8 ?_
  refine zdet_I ⟨rfl, rfl⟩ Z hD hS (zrunS (rest := [.ref (q 0)]) Z hP hD hS hl.1 (m_X6_in l G (wM G q σ κ) (i : Int) (0 : Int) (((σ.1 5 : Nat) : Int) - (1 : Int)) (by omega) (by omega) (by omega)) zY_X6_in km_X6_128 rfl rfl ⟨⟨Nat.le_of_ble_eq_true rfl, Nat.le_of_ble_eq_true rfl⟩, Nat.le_of_ble_eq_true rfl, Nat.le_of_ble_eq_true rfl⟩ (Nat.le_of_ble_eq_true rfl) dX6_matches_9) (fun H locs hP hD hS => ?_)
  refine zdet_I ⟨rfl, rfl⟩ Z hD hS (zrunV (rest := []) Z hP hD hS hl.1 (m_X6_checked_n l G q σ κ (decide ((0 : Int) ≤ (i : Int) ∧ (i : Int) ≤ (((σ.1 5 : Nat) : Int) - (1 : Int)))) (decide_eq_false (by omega))) zY_X6_checked km_X6_137 (q0 := 0) rfl rfl rfl rfl ⟨⟨Nat.le_of_ble_eq_true rfl, Nat.le_of_ble_eq_true rfl⟩, Nat.le_of_ble_eq_true rfl, Nat.le_of_ble_eq_true rfl⟩ (Nat.le_of_ble_eq_true rfl) dX6_matches_12) (fun H locs hP hD hS => ?_)
  refine zc0_le (tgt := 20) hx hb (1 : Int) (zI_toInt (by decide)) dX6_matches_15 (by decide) (fun c15 => by exfalso; omega) (fun c15 => ?_)
  refine zr_iconst hx hb dX6_matches_18 ?_
  exact zret_I () Z hr hP hD hS rfl rfl ⟨Nat.le_refl _, Nat.le_refl _⟩ hQ dX6_matches_19
abbrev r_X6_addRiver : Room := { frames := 1, cells := 0, slots := 0, locals := 22 }
set_option maxHeartbeats 4000000 in
set_option maxRecDepth 100000 in
theorem m_X6_addRiver (l : Launch) (G : ZG) (q : Nat → Nat) (σ : St) (κ : KM) {e_sr : Int} (sr : Nat) (he_sr : e_sr = (sr : Int)) {e_tg : Int} (tg : Nat) (he_tg : e_tg = (tg : Int) - 1) (hI : okM σ) (h0 : 1 ≤ sr) (h1 : sr ≤ 63) (h2 : tg ≤ 8) (h4 : σ.1 6 < 4) :
    MC l G yX6_addRiver (wY yX6_addRiver cX6_addRiver 3 (some .int)) r_X6_addRiver (wM G q σ κ) [.ref (q 0), .int (zI e_sr), .int (zI e_tg)] (QI G (fun r9 (_ : Unit) => r9 = (zI ((σ.1 6 : Nat) : Int))) (fun _ => wM G q (addV σ (zI ((sr : Nat) : Int)) tg) ((0 : Int), κ.2.1, κ.2.2.1, κ.2.2.2))) := by
  subst he_sr
  subst he_tg
  refine MC.mk (by decide +kernel) (Nat.le_of_ble_eq_true rfl) ?_
  intro p e s m av below meth c A H locs ls Q Z hr hnm hQ hP hD hS hl
  have hx := Z.1
  have hb := Z.2.1
  have hown := Z.2.2.2.1
  have hW := Z.2.2.2.2.1
  have hl : lv_has ls 3 [(0, .ref (q 0)), (1, .int (zI ((sr : Nat) : Int))), (2, .int (zI (((tg : Nat) : Int) - (1 : Int))))] := hl
  obtain ⟨hn, hru, hrv, hdv, hsr, hmn, ht1, ht2, hwn, hv1, hv2, hmj, htm, hse, htg, hrt, hac, hk1, hk2, hkd, hmm, hmv, hpp, hpl, hp3, hp4, hp6, hp5, hp7, hnz⟩ := id hI
  refine lv_aload_n hx hb dX6_addRiver_0 rfl (lv_at hl 0 rfl) ?_
  refine lv_iload_n hx hb dX6_addRiver_1 rfl (lv_at hl 1 rfl) ?_
  refine zr_iconst hx hb dX6_addRiver_2 ?_
  refine zr_bipush hx hb dX6_addRiver_3 (by decide) ?_
  refine zdet_I ⟨rfl, rfl⟩ Z hD hS (zrunS (rest := [.ref (q 0)]) Z hP hD hS hl.1 (m_X6_in l G (wM G q σ κ) ((sr : Nat) : Int) (1 : Int) (63 : Int) (by omega) (by omega) (by omega)) zY_X6_in km_X6_128 rfl rfl ⟨⟨Nat.le_of_ble_eq_true rfl, Nat.le_of_ble_eq_true rfl⟩, Nat.le_of_ble_eq_true rfl, Nat.le_of_ble_eq_true rfl⟩ (Nat.le_of_ble_eq_true rfl) dX6_addRiver_5) (fun H locs hP hD hS => ?_)
  refine zb_eq (tgt := 21) hx hb dX6_addRiver_8 (by decide) (fun c8 => by exfalso; have h9 := of_decide_eq_false c8; omega) (fun c8 => ?_)
  refine lv_iload_n hx hb dX6_addRiver_11 rfl (lv_at hl 2 rfl) ?_
  refine zr_iconst hx hb dX6_addRiver_12 ?_
  refine zr_bipush hx hb dX6_addRiver_13 (by decide) ?_
  refine zdet_I ⟨rfl, rfl⟩ Z hD hS (zrunS (rest := [.ref (q 0)]) Z hP hD hS hl.1 (m_X6_in l G (wM G q σ κ) (((tg : Nat) : Int) - (1 : Int)) (-1 : Int) (7 : Int) (by omega) (by omega) (by omega)) zY_X6_in km_X6_128 rfl rfl ⟨⟨Nat.le_of_ble_eq_true rfl, Nat.le_of_ble_eq_true rfl⟩, Nat.le_of_ble_eq_true rfl, Nat.le_of_ble_eq_true rfl⟩ (Nat.le_of_ble_eq_true rfl) dX6_addRiver_15) (fun H locs hP hD hS => ?_)
  refine zb_ne (tgt := 25) hx hb dX6_addRiver_18 (by decide) (fun c18 => ?_) (fun c18 => by exfalso; have h9 := of_decide_eq_false c18; omega)
  refine lv_aload_n hx hb dX6_addRiver_25 rfl (lv_at hl 0 rfl) ?_
  refine gM_0_32 Z hP kf_X6_108 dX6_addRiver_26 ?_
  refine zr_iconst hx hb dX6_addRiver_29 ?_
  refine zc_ne (tgt := 37) hx hb ((σ.1 6 : Nat) : Int) (4 : Int) (zI_toInt (by omega)) (zI_toInt (by decide)) dX6_addRiver_30 (by decide) (fun c30 => ?_) (fun c30 => by exfalso; omega)
  refine zr_iconst hx hb dX6_addRiver_37 ?_
  refine pM_0_23 Z hP hD hS kf_X6_80 dX6_addRiver_38 (fun H locs hP hD hS => ?_)
  refine lv_aload_n hx hb dX6_addRiver_41 rfl (lv_at hl 0 rfl) ?_
  refine gM_0_23 Z hP kf_X6_80 dX6_addRiver_42 ?_
  refine zr_top (w := .int (zI (0 : Int))) rfl ?_
  refine zc0_le (tgt := 50) hx hb (0 : Int) (zI_toInt (by decide)) dX6_addRiver_45 (by decide) (fun c45 => ?_) (fun c45 => by exfalso; omega)
  refine lv_aload_n hx hb dX6_addRiver_50 rfl (lv_at hl 0 rfl) ?_
  refine gM_0_16 Z hP kf_X6_59 dX6_addRiver_51 ?_
  refine lv_aload_n hx hb dX6_addRiver_54 rfl (lv_at hl 0 rfl) ?_
  refine gM_0_32 Z hP kf_X6_108 dX6_addRiver_55 ?_
  refine zr_top (w := .int (zI ((σ.1 6 : Nat) : Int))) rfl ?_
  refine lv_iload_n hx hb dX6_addRiver_58 rfl (lv_at hl 1 rfl) ?_
  refine stI (ws1 := wM G q (sI σ 2 (va_up (σ.2.2.1 2) (σ.1 6) (zI ((sr : Nat) : Int)))) ((0 : Int), κ.2.1, κ.2.2.1, κ.2.2.2)) Z hP hD hS 17 (σ.2.2.1 2) rfl (σ.1 6) rfl (by omega) (by decide) rfl dX6_addRiver_59 (fun H locs hP hD hS => ?_)
  refine lv_aload_n hx hb dX6_addRiver_60 rfl (lv_at hl 0 rfl) ?_
  refine gM_0_17 Z hP kf_X6_62 dX6_addRiver_61 ?_
  refine lv_aload_n hx hb dX6_addRiver_64 rfl (lv_at hl 0 rfl) ?_
  refine gM_0_32 Z hP kf_X6_108 dX6_addRiver_65 ?_
  refine zr_top (w := .int (zI ((σ.1 6 : Nat) : Int))) rfl ?_
  refine lv_iload_n hx hb dX6_addRiver_68 rfl (lv_at hl 2 rfl) ?_
  refine stM (ws1 := wM G q (sA (sI σ 2 (va_up (σ.2.2.1 2) (σ.1 6) (zI ((sr : Nat) : Int)))) 19 (va_up (σ.2.1 19) (σ.1 6) (tg))) ((0 : Int), κ.2.1, κ.2.2.1, κ.2.2.2)) Z hP hD hS 18 (σ.2.1 19) rfl (σ.1 6) rfl (by omega) (by decide) (tg) rfl rfl dX6_addRiver_69 (fun H locs hP hD hS => ?_)
  refine lv_aload_n hx hb dX6_addRiver_70 rfl (lv_at hl 0 rfl) ?_
  refine lv_dup hx hb dX6_addRiver_71 rfl ?_
  refine gM_0_32 Z hP kf_X6_108 dX6_addRiver_72 ?_
  refine zr_top (w := .int (zI ((σ.1 6 : Nat) : Int))) rfl ?_
  refine zr_iconst hx hb dX6_addRiver_75 ?_
  refine zr_iadd hx hb dX6_addRiver_76 ?_
  refine pM_0_32 Z hP hD hS ((σ.1 6 + 1)) (by omega) kf_X6_108 dX6_addRiver_77 (fun H locs hP hD hS => ?_)
  refine lv_aload_n hx hb dX6_addRiver_80 rfl (lv_at hl 0 rfl) ?_
  refine gM_0_32 Z hP kf_X6_108 dX6_addRiver_81 ?_
  refine zr_top (w := .int (zI (((σ.1 6 + 1) : Nat) : Int))) rfl ?_
  refine zr_iconst hx hb dX6_addRiver_84 ?_
  refine zr_isub hx hb dX6_addRiver_85 ?_
  exact zret_I () Z hr hP hD hS (congrArg zI (by show ((σ.1 6 + 1 : Nat) : Int) - 1 = _; omega)) rfl ⟨Nat.le_refl _, Nat.le_refl _⟩ hQ dX6_addRiver_86
abbrev r_X6_addRiver_t1 : Room := { frames := 1, cells := 0, slots := 0, locals := 22 }
set_option maxHeartbeats 4000000 in
set_option maxRecDepth 100000 in
theorem m_X6_addRiver_t1 (l : Launch) (G : ZG) (q : Nat → Nat) (σ : St) (κ : KM) (sr : Int) (tg : Int) (hI : okM σ) (h7 : zR sr ∧ zR tg) (h1 : ¬ (1 ≤ sr ∧ sr ≤ 63 ∧ (-1 ≤ tg ∧ tg ≤ 7))) :
    MC l G yX6_addRiver (wY yX6_addRiver cX6_addRiver 3 (some .int)) r_X6_addRiver_t1 (wM G q σ κ) [.ref (q 0), .int (zI (sr : Int)), .int (zI (tg : Int))] (QI G (fun r9 (_ : Unit) => r9 = (zI (0 : Int))) (fun _ => wM G q σ ((1 : Int), κ.2.1, κ.2.2.1, κ.2.2.2))) := by
  refine MC.mk (by decide +kernel) (Nat.le_of_ble_eq_true rfl) ?_
  intro p e s m av below meth c A H locs ls Q Z hr hnm hQ hP hD hS hl
  have hx := Z.1
  have hb := Z.2.1
  have hown := Z.2.2.2.1
  have hW := Z.2.2.2.2.1
  have hl : lv_has ls 3 [(0, .ref (q 0)), (1, .int (zI (sr : Int))), (2, .int (zI (tg : Int)))] := hl
  obtain ⟨hn, hru, hrv, hdv, hsr, hmn, ht1, ht2, hwn, hv1, hv2, hmj, htm, hse, htg, hrt, hac, hk1, hk2, hkd, hmm, hmv, hpp, hpl, hp3, hp4, hp6, hp5, hp7, hnz⟩ := id hI
  refine lv_aload_n hx hb dX6_addRiver_0 rfl (lv_at hl 0 rfl) ?_
  refine lv_iload_n hx hb dX6_addRiver_1 rfl (lv_at hl 1 rfl) ?_
  refine zr_iconst hx hb dX6_addRiver_2 ?_
  refine zr_bipush hx hb dX6_addRiver_3 (by decide) ?_
  refine zdet_I ⟨rfl, rfl⟩ Z hD hS (zrunS (rest := [.ref (q 0)]) Z hP hD hS hl.1 (m_X6_in l G (wM G q σ κ) (sr : Int) (1 : Int) (63 : Int) (by omega) (by omega) (by omega)) zY_X6_in km_X6_128 rfl rfl ⟨⟨Nat.le_of_ble_eq_true rfl, Nat.le_of_ble_eq_true rfl⟩, Nat.le_of_ble_eq_true rfl, Nat.le_of_ble_eq_true rfl⟩ (Nat.le_of_ble_eq_true rfl) dX6_addRiver_5) (fun H locs hP hD hS => ?_)
  refine zb_eq (tgt := 21) hx hb dX6_addRiver_8 (by decide) (fun c8 => ?_) (fun c8 => ?_)
  · skip
    refine zr_iconst hx hb dX6_addRiver_21 ?_
    refine lv_goto (tgt := 38) hx hb dX6_addRiver_22 (by decide) ?_
    refine pM_0_23 Z hP hD hS kf_X6_80 dX6_addRiver_38 (fun H locs hP hD hS => ?_)
    refine lv_aload_n hx hb dX6_addRiver_41 rfl (lv_at hl 0 rfl) ?_
    refine gM_0_23 Z hP kf_X6_80 dX6_addRiver_42 ?_
    refine zr_top (w := .int (zI (1 : Int))) rfl ?_
    refine zc0_le (tgt := 50) hx hb (1 : Int) (zI_toInt (by decide)) dX6_addRiver_45 (by decide) (fun c45 => by exfalso; omega) (fun c45 => ?_)
    refine zr_iconst hx hb dX6_addRiver_48 ?_
    exact zret_I () Z hr hP hD hS rfl rfl ⟨Nat.le_refl _, Nat.le_refl _⟩ hQ dX6_addRiver_49
  · skip
    refine lv_iload_n hx hb dX6_addRiver_11 rfl (lv_at hl 2 rfl) ?_
    refine zr_iconst hx hb dX6_addRiver_12 ?_
    refine zr_bipush hx hb dX6_addRiver_13 (by decide) ?_
    refine zdet_I ⟨rfl, rfl⟩ Z hD hS (zrunS (rest := [.ref (q 0)]) Z hP hD hS hl.1 (m_X6_in l G (wM G q σ κ) (tg : Int) (-1 : Int) (7 : Int) (by omega) (by omega) (by omega)) zY_X6_in km_X6_128 rfl rfl ⟨⟨Nat.le_of_ble_eq_true rfl, Nat.le_of_ble_eq_true rfl⟩, Nat.le_of_ble_eq_true rfl, Nat.le_of_ble_eq_true rfl⟩ (Nat.le_of_ble_eq_true rfl) dX6_addRiver_15) (fun H locs hP hD hS => ?_)
    refine zb_ne (tgt := 25) hx hb dX6_addRiver_18 (by decide) (fun c18 => by exfalso; have a1 := of_decide_eq_true c8; have a2 := of_decide_eq_true c18; omega) (fun c18 => ?_)
    refine zr_iconst hx hb dX6_addRiver_21 ?_
    refine lv_goto (tgt := 38) hx hb dX6_addRiver_22 (by decide) ?_
    refine pM_0_23 Z hP hD hS kf_X6_80 dX6_addRiver_38 (fun H locs hP hD hS => ?_)
    refine lv_aload_n hx hb dX6_addRiver_41 rfl (lv_at hl 0 rfl) ?_
    refine gM_0_23 Z hP kf_X6_80 dX6_addRiver_42 ?_
    refine zr_top (w := .int (zI (1 : Int))) rfl ?_
    refine zc0_le (tgt := 50) hx hb (1 : Int) (zI_toInt (by decide)) dX6_addRiver_45 (by decide) (fun c45 => by exfalso; omega) (fun c45 => ?_)
    refine zr_iconst hx hb dX6_addRiver_48 ?_
    exact zret_I () Z hr hP hD hS rfl rfl ⟨Nat.le_refl _, Nat.le_refl _⟩ hQ dX6_addRiver_49
abbrev r_X6_addRiver_t2 : Room := { frames := 1, cells := 0, slots := 0, locals := 22 }
set_option maxHeartbeats 4000000 in
set_option maxRecDepth 100000 in
theorem m_X6_addRiver_t2 (l : Launch) (G : ZG) (q : Nat → Nat) (σ : St) (κ : KM) {e_sr : Int} (sr : Nat) (he_sr : e_sr = (sr : Int)) {e_tg : Int} (tg : Nat) (he_tg : e_tg = (tg : Int) - 1) (hI : okM σ) (h0 : 1 ≤ sr) (h1 : sr ≤ 63) (h2 : tg ≤ 8) (h4 : σ.1 6 = 4) :
    MC l G yX6_addRiver (wY yX6_addRiver cX6_addRiver 3 (some .int)) r_X6_addRiver_t2 (wM G q σ κ) [.ref (q 0), .int (zI e_sr), .int (zI e_tg)] (QI G (fun r9 (_ : Unit) => r9 = (zI (0 : Int))) (fun _ => wM G q σ ((2 : Int), κ.2.1, κ.2.2.1, κ.2.2.2))) := by
  subst he_sr
  subst he_tg
  refine MC.mk (by decide +kernel) (Nat.le_of_ble_eq_true rfl) ?_
  intro p e s m av below meth c A H locs ls Q Z hr hnm hQ hP hD hS hl
  have hx := Z.1
  have hb := Z.2.1
  have hown := Z.2.2.2.1
  have hW := Z.2.2.2.2.1
  have hl : lv_has ls 3 [(0, .ref (q 0)), (1, .int (zI ((sr : Nat) : Int))), (2, .int (zI (((tg : Nat) : Int) - (1 : Int))))] := hl
  obtain ⟨hn, hru, hrv, hdv, hsr, hmn, ht1, ht2, hwn, hv1, hv2, hmj, htm, hse, htg, hrt, hac, hk1, hk2, hkd, hmm, hmv, hpp, hpl, hp3, hp4, hp6, hp5, hp7, hnz⟩ := id hI
  refine lv_aload_n hx hb dX6_addRiver_0 rfl (lv_at hl 0 rfl) ?_
  refine lv_iload_n hx hb dX6_addRiver_1 rfl (lv_at hl 1 rfl) ?_
  refine zr_iconst hx hb dX6_addRiver_2 ?_
  refine zr_bipush hx hb dX6_addRiver_3 (by decide) ?_
  refine zdet_I ⟨rfl, rfl⟩ Z hD hS (zrunS (rest := [.ref (q 0)]) Z hP hD hS hl.1 (m_X6_in l G (wM G q σ κ) ((sr : Nat) : Int) (1 : Int) (63 : Int) (by omega) (by omega) (by omega)) zY_X6_in km_X6_128 rfl rfl ⟨⟨Nat.le_of_ble_eq_true rfl, Nat.le_of_ble_eq_true rfl⟩, Nat.le_of_ble_eq_true rfl, Nat.le_of_ble_eq_true rfl⟩ (Nat.le_of_ble_eq_true rfl) dX6_addRiver_5) (fun H locs hP hD hS => ?_)
  refine zb_eq (tgt := 21) hx hb dX6_addRiver_8 (by decide) (fun c8 => by exfalso; have h9 := of_decide_eq_false c8; omega) (fun c8 => ?_)
  refine lv_iload_n hx hb dX6_addRiver_11 rfl (lv_at hl 2 rfl) ?_
  refine zr_iconst hx hb dX6_addRiver_12 ?_
  refine zr_bipush hx hb dX6_addRiver_13 (by decide) ?_
  refine zdet_I ⟨rfl, rfl⟩ Z hD hS (zrunS (rest := [.ref (q 0)]) Z hP hD hS hl.1 (m_X6_in l G (wM G q σ κ) (((tg : Nat) : Int) - (1 : Int)) (-1 : Int) (7 : Int) (by omega) (by omega) (by omega)) zY_X6_in km_X6_128 rfl rfl ⟨⟨Nat.le_of_ble_eq_true rfl, Nat.le_of_ble_eq_true rfl⟩, Nat.le_of_ble_eq_true rfl, Nat.le_of_ble_eq_true rfl⟩ (Nat.le_of_ble_eq_true rfl) dX6_addRiver_15) (fun H locs hP hD hS => ?_)
  refine zb_ne (tgt := 25) hx hb dX6_addRiver_18 (by decide) (fun c18 => ?_) (fun c18 => by exfalso; have h9 := of_decide_eq_false c18; omega)
  refine lv_aload_n hx hb dX6_addRiver_25 rfl (lv_at hl 0 rfl) ?_
  refine gM_0_32 Z hP kf_X6_108 dX6_addRiver_26 ?_
  refine zr_iconst hx hb dX6_addRiver_29 ?_
  refine zc_ne (tgt := 37) hx hb ((σ.1 6 : Nat) : Int) (4 : Int) (zI_toInt (by omega)) (zI_toInt (by decide)) dX6_addRiver_30 (by decide) (fun c30 => by exfalso; omega) (fun c30 => ?_)
  refine zr_iconst hx hb dX6_addRiver_33 ?_
  refine lv_goto (tgt := 38) hx hb dX6_addRiver_34 (by decide) ?_
  refine pM_0_23 Z hP hD hS kf_X6_80 dX6_addRiver_38 (fun H locs hP hD hS => ?_)
  refine lv_aload_n hx hb dX6_addRiver_41 rfl (lv_at hl 0 rfl) ?_
  refine gM_0_23 Z hP kf_X6_80 dX6_addRiver_42 ?_
  refine zr_top (w := .int (zI (2 : Int))) rfl ?_
  refine zc0_le (tgt := 50) hx hb (2 : Int) (zI_toInt (by decide)) dX6_addRiver_45 (by decide) (fun c45 => by exfalso; omega) (fun c45 => ?_)
  refine zr_iconst hx hb dX6_addRiver_48 ?_
  exact zret_I () Z hr hP hD hS rfl rfl ⟨Nat.le_refl _, Nat.le_refl _⟩ hQ dX6_addRiver_49
abbrev r_X6_riverSize : Room := { frames := 5, cells := 0, slots := 0, locals := 114 }
set_option maxHeartbeats 4000000 in
set_option maxRecDepth 100000 in
theorem m_X6_riverSize (l : Launch) (G : ZG) (q : Nat → Nat) (σ : St) (κ : KM) {e_i : Int} (i : Nat) (he_i : e_i = (i : Int)) (hI : okM σ) (h1 : i < σ.1 6) :
    MC l G yX6_riverSize (wY yX6_riverSize cX6_riverSize 2 (some .int)) r_X6_riverSize (wM G q σ κ) [.ref (q 0), .int (zI e_i)] (QI G (S := Int32 × Int32 × Bool) (fun r9 (_ : Int32 × Int32 × Bool) => r9 = (zI ((cnt (shM σ i) (σ.1 4) : Nat) : Int))) (fun u => wM G q σ ((0 : Int), u))) := by
  subst he_i
  refine MC.mk (by decide +kernel) (Nat.le_of_ble_eq_true rfl) ?_
  intro p e s m av below meth c A H locs ls Q Z hr hnm hQ hP hD hS hl
  have hx := Z.1
  have hb := Z.2.1
  have hown := Z.2.2.2.1
  have hW := Z.2.2.2.2.1
  have hl : lv_has ls 2 [(0, .ref (q 0)), (1, .int (zI ((i : Nat) : Int)))] := hl
  obtain ⟨hn, hru, hrv, hdv, hsr, hmn, ht1, ht2, hwn, hv1, hv2, hmj, htm, hse, htg, hrt, hac, hk1, hk2, hkd, hmm, hmv, hpp, hpl, hp3, hp4, hp6, hp5, hp7, hnz⟩ := id hI
  refine lv_aload_n hx hb dX6_riverSize_0 rfl (lv_at hl 0 rfl) ?_
  refine lv_aload_n hx hb dX6_riverSize_1 rfl (lv_at hl 0 rfl) ?_
  refine lv_iload_n hx hb dX6_riverSize_2 rfl (lv_at hl 1 rfl) ?_
  refine zdet_I ⟨rfl, rfl⟩ Z hD hS (zrunV (rest := [.ref (q 0)]) Z hP hD hS hl.1 (m_X6_isRiver l G q σ κ ((i : Nat) : Int) (by omega) (by omega)) zY_X6_isRiver km_X6_186 (q0 := 0) rfl rfl rfl rfl ⟨⟨Nat.le_of_ble_eq_true rfl, Nat.le_of_ble_eq_true rfl⟩, Nat.le_of_ble_eq_true rfl, Nat.le_of_ble_eq_true rfl⟩ (Nat.le_of_ble_eq_true rfl) dX6_riverSize_3) (fun H locs hP hD hS => ?_)
  refine zdet_I ⟨rfl, rfl⟩ Z hD hS (zrunV (rest := []) Z hP hD hS hl.1 (m_X6_checked l G q σ κ (decide ((0 : Int) ≤ ((i : Nat) : Int) ∧ ((i : Nat) : Int) ≤ (((σ.1 6 : Nat) : Int) - (1 : Int)))) (decide_eq_true (by omega))) zY_X6_checked km_X6_137 (q0 := 0) rfl rfl rfl rfl ⟨⟨Nat.le_of_ble_eq_true rfl, Nat.le_of_ble_eq_true rfl⟩, Nat.le_of_ble_eq_true rfl, Nat.le_of_ble_eq_true rfl⟩ (Nat.le_of_ble_eq_true rfl) dX6_riverSize_6) (fun H locs hP hD hS => ?_)
  refine zc0_le (tgt := 16) hx hb (0 : Int) (zI_toInt (by decide)) dX6_riverSize_9 (by decide) (fun c9 => ?_) (fun c9 => by exfalso; omega)
  refine lv_aload_n hx hb dX6_riverSize_16 rfl (lv_at hl 0 rfl) ?_
  refine lv_iload_n hx hb dX6_riverSize_17 rfl (lv_at hl 1 rfl) ?_
  refine zfin_I ⟨rfl, rfl⟩ Z hD hS (zrunV (rest := []) Z hP hD hS hl.1 (m_X6_sizeOf l G q σ ((0 : Int), κ.2.1, κ.2.2.1, κ.2.2.2) (i) rfl hI (by omega)) zY_X6_sizeOf km_X6_189 (q0 := 0) rfl rfl rfl rfl ⟨⟨Nat.le_of_ble_eq_true rfl, Nat.le_of_ble_eq_true rfl⟩, Nat.le_of_ble_eq_true rfl, Nat.le_of_ble_eq_true rfl⟩ (Nat.le_of_ble_eq_true rfl) dX6_riverSize_18) (fun r u H locs hp hP hD hS => ?_)
  obtain rfl : r = (zI ((cnt (shM σ i) (σ.1 4) : Nat) : Int)) := hp
  exact zret_I (u) Z hr hP hD hS rfl rfl ⟨Nat.le_refl _, Nat.le_refl _⟩ hQ dX6_riverSize_21
abbrev r_X6_riverSize_t1 : Room := { frames := 5, cells := 0, slots := 0, locals := 114 }
set_option maxHeartbeats 4000000 in
set_option maxRecDepth 100000 in
theorem m_X6_riverSize_t1 (l : Launch) (G : ZG) (q : Nat → Nat) (σ : St) (κ : KM) (i : Int) (hI : okM σ) (h1 : zR i) (h2 : i < 0 ∨ ((σ.1 6 : Nat) : Int) ≤ i) :
    MC l G yX6_riverSize (wY yX6_riverSize cX6_riverSize 2 (some .int)) r_X6_riverSize_t1 (wM G q σ κ) [.ref (q 0), .int (zI (i : Int))] (QI G (fun r9 (_ : Unit) => r9 = (zI (0 : Int))) (fun _ => wM G q σ ((1 : Int), κ.2.1, κ.2.2.1, κ.2.2.2))) := by
  refine MC.mk (by decide +kernel) (Nat.le_of_ble_eq_true rfl) ?_
  intro p e s m av below meth c A H locs ls Q Z hr hnm hQ hP hD hS hl
  have hx := Z.1
  have hb := Z.2.1
  have hown := Z.2.2.2.1
  have hW := Z.2.2.2.2.1
  have hl : lv_has ls 2 [(0, .ref (q 0)), (1, .int (zI (i : Int)))] := hl
  obtain ⟨hn, hru, hrv, hdv, hsr, hmn, ht1, ht2, hwn, hv1, hv2, hmj, htm, hse, htg, hrt, hac, hk1, hk2, hkd, hmm, hmv, hpp, hpl, hp3, hp4, hp6, hp5, hp7, hnz⟩ := id hI
  refine lv_aload_n hx hb dX6_riverSize_0 rfl (lv_at hl 0 rfl) ?_
  refine lv_aload_n hx hb dX6_riverSize_1 rfl (lv_at hl 0 rfl) ?_
  refine lv_iload_n hx hb dX6_riverSize_2 rfl (lv_at hl 1 rfl) ?_
  refine zdet_I ⟨rfl, rfl⟩ Z hD hS (zrunV (rest := [.ref (q 0)]) Z hP hD hS hl.1 (m_X6_isRiver l G q σ κ (i : Int) (by omega) (by omega)) zY_X6_isRiver km_X6_186 (q0 := 0) rfl rfl rfl rfl ⟨⟨Nat.le_of_ble_eq_true rfl, Nat.le_of_ble_eq_true rfl⟩, Nat.le_of_ble_eq_true rfl, Nat.le_of_ble_eq_true rfl⟩ (Nat.le_of_ble_eq_true rfl) dX6_riverSize_3) (fun H locs hP hD hS => ?_)
  refine zdet_I ⟨rfl, rfl⟩ Z hD hS (zrunV (rest := []) Z hP hD hS hl.1 (m_X6_checked_n l G q σ κ (decide ((0 : Int) ≤ (i : Int) ∧ (i : Int) ≤ (((σ.1 6 : Nat) : Int) - (1 : Int)))) (decide_eq_false (by omega))) zY_X6_checked km_X6_137 (q0 := 0) rfl rfl rfl rfl ⟨⟨Nat.le_of_ble_eq_true rfl, Nat.le_of_ble_eq_true rfl⟩, Nat.le_of_ble_eq_true rfl, Nat.le_of_ble_eq_true rfl⟩ (Nat.le_of_ble_eq_true rfl) dX6_riverSize_6) (fun H locs hP hD hS => ?_)
  refine zc0_le (tgt := 16) hx hb (1 : Int) (zI_toInt (by decide)) dX6_riverSize_9 (by decide) (fun c9 => by exfalso; omega) (fun c9 => ?_)
  refine zr_iconst hx hb dX6_riverSize_12 ?_
  refine lv_goto (tgt := 21) hx hb dX6_riverSize_13 (by decide) ?_
  exact zret_I () Z hr hP hD hS rfl rfl ⟨Nat.le_refl _, Nat.le_refl _⟩ hQ dX6_riverSize_21
abbrev r_X6_riverAt : Room := { frames := 6, cells := 0, slots := 0, locals := 139 }
set_option maxHeartbeats 4000000 in
set_option maxRecDepth 100000 in
theorem m_X6_riverAt (l : Launch) (G : ZG) (q : Nat → Nat) (σ : St) (κ : KM) {e_i : Int} (i : Nat) (he_i : e_i = (i : Int)) (rk : Int) (hI : okM σ) (h1 : i < σ.1 6) (h2 : zR rk) (h3 : 0 ≤ itA σ i rk) :
    MC l G yX6_riverAt (wY yX6_riverAt cX6_riverAt 3 (some .int)) r_X6_riverAt (wM G q σ κ) [.ref (q 0), .int (zI e_i), .int (zI (rk : Int))] (QI G (S := Int32 × Int32 × Bool) (fun r9 (_ : Int32 × Int32 × Bool) => r9 = (zI (itA σ i rk : Int))) (fun u => wM G q σ ((0 : Int), u))) := by
  subst he_i
  refine MC.mk (by decide +kernel) (Nat.le_of_ble_eq_true rfl) ?_
  intro p e s m av below meth c A H locs ls Q Z hr hnm hQ hP hD hS hl
  have hx := Z.1
  have hb := Z.2.1
  have hown := Z.2.2.2.1
  have hW := Z.2.2.2.2.1
  have hl : lv_has ls 3 [(0, .ref (q 0)), (1, .int (zI ((i : Nat) : Int))), (2, .int (zI (rk : Int)))] := hl
  obtain ⟨hn, hru, hrv, hdv, hsr, hmn, ht1, ht2, hwn, hv1, hv2, hmj, htm, hse, htg, hrt, hac, hk1, hk2, hkd, hmm, hmv, hpp, hpl, hp3, hp4, hp6, hp5, hp7, hnz⟩ := id hI
  have hi9 : -1 ≤ itA σ i rk ∧ itA σ i rk < σ.1 4 := fI_in _ _
  refine lv_aload_n hx hb dX6_riverAt_0 rfl (lv_at hl 0 rfl) ?_
  refine lv_aload_n hx hb dX6_riverAt_1 rfl (lv_at hl 0 rfl) ?_
  refine lv_iload_n hx hb dX6_riverAt_2 rfl (lv_at hl 1 rfl) ?_
  refine zdet_I ⟨rfl, rfl⟩ Z hD hS (zrunV (rest := [.ref (q 0)]) Z hP hD hS hl.1 (m_X6_isRiver l G q σ κ ((i : Nat) : Int) (by omega) (by omega)) zY_X6_isRiver km_X6_186 (q0 := 0) rfl rfl rfl rfl ⟨⟨Nat.le_of_ble_eq_true rfl, Nat.le_of_ble_eq_true rfl⟩, Nat.le_of_ble_eq_true rfl, Nat.le_of_ble_eq_true rfl⟩ (Nat.le_of_ble_eq_true rfl) dX6_riverAt_3) (fun H locs hP hD hS => ?_)
  refine zb_ne (tgt := 13) hx hb dX6_riverAt_6 (by decide) (fun c6 => ?_) (fun c6 => by exfalso; have h9 := of_decide_eq_false c6; omega)
  refine lv_aload_n hx hb dX6_riverAt_13 rfl (lv_at hl 0 rfl) ?_
  refine lv_iload_n hx hb dX6_riverAt_14 rfl (lv_at hl 1 rfl) ?_
  refine lv_iload_n hx hb dX6_riverAt_15 rfl (lv_at hl 2 rfl) ?_
  refine zfin_I ⟨rfl, rfl⟩ Z hD hS (zrunV (rest := [.ref (q 0)]) Z hP hD hS hl.1 (m_X6_itemAt l G q σ κ (i) rfl (rk : Int) hI (by omega) (by omega)) zY_X6_itemAt km_X6_195 (q0 := 0) rfl rfl rfl rfl ⟨⟨Nat.le_of_ble_eq_true rfl, Nat.le_of_ble_eq_true rfl⟩, Nat.le_of_ble_eq_true rfl, Nat.le_of_ble_eq_true rfl⟩ (Nat.le_of_ble_eq_true rfl) dX6_riverAt_16) (fun r u H locs hp hP hD hS => ?_)
  obtain rfl : r = (zI (itA σ i (rk : Int) : Int)) := hp
  refine zc0_ge (tgt := 26) hx hb (itA σ i (rk : Int) : Int) (zI_toInt (by omega)) dX6_riverAt_19 (by decide) (fun c19 => ?_) (fun c19 => by exfalso; omega)
  refine zr_iconst hx hb dX6_riverAt_26 ?_
  refine pM_0_23 Z hP hD hS kf_X6_80 dX6_riverAt_27 (fun H locs hP hD hS => ?_)
  refine lv_aload_n hx hb dX6_riverAt_30 rfl (lv_at hl 0 rfl) ?_
  refine gM_0_23 Z hP kf_X6_80 dX6_riverAt_31 ?_
  refine zr_top (w := .int (zI (0 : Int))) rfl ?_
  refine zc0_le (tgt := 41) hx hb (0 : Int) (zI_toInt (by decide)) dX6_riverAt_34 (by decide) (fun c34 => ?_) (fun c34 => by exfalso; omega)
  refine lv_aload_n hx hb dX6_riverAt_41 rfl (lv_at hl 0 rfl) ?_
  refine lv_iload_n hx hb dX6_riverAt_42 rfl (lv_at hl 1 rfl) ?_
  refine lv_iload_n hx hb dX6_riverAt_43 rfl (lv_at hl 2 rfl) ?_
  refine zfin_I ⟨rfl, rfl⟩ Z hD hS (zrunV (rest := []) Z hP hD hS hl.1 (m_X6_itemAt l G q σ ((0 : Int), u.1, u.2.1, u.2.2) (i) rfl (rk : Int) hI (by omega) (by omega)) zY_X6_itemAt km_X6_195 (q0 := 0) rfl rfl rfl rfl ⟨⟨Nat.le_of_ble_eq_true rfl, Nat.le_of_ble_eq_true rfl⟩, Nat.le_of_ble_eq_true rfl, Nat.le_of_ble_eq_true rfl⟩ (Nat.le_of_ble_eq_true rfl) dX6_riverAt_44) (fun r u H locs hp hP hD hS => ?_)
  obtain rfl : r = (zI (itA σ i (rk : Int) : Int)) := hp
  exact zret_I (u) Z hr hP hD hS rfl rfl ⟨Nat.le_refl _, Nat.le_refl _⟩ hQ dX6_riverAt_47
abbrev r_X6_riverAt_t1 : Room := { frames := 6, cells := 0, slots := 0, locals := 139 }
set_option maxHeartbeats 4000000 in
set_option maxRecDepth 100000 in
theorem m_X6_riverAt_t1 (l : Launch) (G : ZG) (q : Nat → Nat) (σ : St) (κ : KM) (i : Int) (rk : Int) (hI : okM σ) (h1 : zR i) (h2 : i < 0 ∨ ((σ.1 6 : Nat) : Int) ≤ i) :
    MC l G yX6_riverAt (wY yX6_riverAt cX6_riverAt 3 (some .int)) r_X6_riverAt_t1 (wM G q σ κ) [.ref (q 0), .int (zI (i : Int)), .int (zI (rk : Int))] (QI G (fun r9 (_ : Unit) => r9 = (zI (0 : Int))) (fun _ => wM G q σ ((1 : Int), κ.2.1, κ.2.2.1, κ.2.2.2))) := by
  refine MC.mk (by decide +kernel) (Nat.le_of_ble_eq_true rfl) ?_
  intro p e s m av below meth c A H locs ls Q Z hr hnm hQ hP hD hS hl
  have hx := Z.1
  have hb := Z.2.1
  have hown := Z.2.2.2.1
  have hW := Z.2.2.2.2.1
  have hl : lv_has ls 3 [(0, .ref (q 0)), (1, .int (zI (i : Int))), (2, .int (zI (rk : Int)))] := hl
  obtain ⟨hn, hru, hrv, hdv, hsr, hmn, ht1, ht2, hwn, hv1, hv2, hmj, htm, hse, htg, hrt, hac, hk1, hk2, hkd, hmm, hmv, hpp, hpl, hp3, hp4, hp6, hp5, hp7, hnz⟩ := id hI
  refine lv_aload_n hx hb dX6_riverAt_0 rfl (lv_at hl 0 rfl) ?_
  refine lv_aload_n hx hb dX6_riverAt_1 rfl (lv_at hl 0 rfl) ?_
  refine lv_iload_n hx hb dX6_riverAt_2 rfl (lv_at hl 1 rfl) ?_
  refine zdet_I ⟨rfl, rfl⟩ Z hD hS (zrunV (rest := [.ref (q 0)]) Z hP hD hS hl.1 (m_X6_isRiver l G q σ κ (i : Int) (by omega) (by omega)) zY_X6_isRiver km_X6_186 (q0 := 0) rfl rfl rfl rfl ⟨⟨Nat.le_of_ble_eq_true rfl, Nat.le_of_ble_eq_true rfl⟩, Nat.le_of_ble_eq_true rfl, Nat.le_of_ble_eq_true rfl⟩ (Nat.le_of_ble_eq_true rfl) dX6_riverAt_3) (fun H locs hP hD hS => ?_)
  refine zb_ne (tgt := 13) hx hb dX6_riverAt_6 (by decide) (fun c6 => by exfalso; have h9 := of_decide_eq_true c6; omega) (fun c6 => ?_)
  refine zr_iconst hx hb dX6_riverAt_9 ?_
  refine lv_goto (tgt := 27) hx hb dX6_riverAt_10 (by decide) ?_
  refine pM_0_23 Z hP hD hS kf_X6_80 dX6_riverAt_27 (fun H locs hP hD hS => ?_)
  refine lv_aload_n hx hb dX6_riverAt_30 rfl (lv_at hl 0 rfl) ?_
  refine gM_0_23 Z hP kf_X6_80 dX6_riverAt_31 ?_
  refine zr_top (w := .int (zI (1 : Int))) rfl ?_
  refine zc0_le (tgt := 41) hx hb (1 : Int) (zI_toInt (by decide)) dX6_riverAt_34 (by decide) (fun c34 => by exfalso; omega) (fun c34 => ?_)
  refine zr_iconst hx hb dX6_riverAt_37 ?_
  refine lv_goto (tgt := 47) hx hb dX6_riverAt_38 (by decide) ?_
  exact zret_I () Z hr hP hD hS rfl rfl ⟨Nat.le_refl _, Nat.le_refl _⟩ hQ dX6_riverAt_47
abbrev r_X6_riverAt_t2 : Room := { frames := 6, cells := 0, slots := 0, locals := 139 }
set_option maxHeartbeats 4000000 in
set_option maxRecDepth 100000 in
theorem m_X6_riverAt_t2 (l : Launch) (G : ZG) (q : Nat → Nat) (σ : St) (κ : KM) {e_i : Int} (i : Nat) (he_i : e_i = (i : Int)) (rk : Int) (hI : okM σ) (h1 : i < σ.1 6) (h2 : zR rk) (h3 : itA σ i rk < 0) :
    MC l G yX6_riverAt (wY yX6_riverAt cX6_riverAt 3 (some .int)) r_X6_riverAt_t2 (wM G q σ κ) [.ref (q 0), .int (zI e_i), .int (zI (rk : Int))] (QI G (S := Int32 × Int32 × Bool) (fun r9 (_ : Int32 × Int32 × Bool) => r9 = (zI (0 : Int))) (fun u => wM G q σ ((2 : Int), u))) := by
  subst he_i
  refine MC.mk (by decide +kernel) (Nat.le_of_ble_eq_true rfl) ?_
  intro p e s m av below meth c A H locs ls Q Z hr hnm hQ hP hD hS hl
  have hx := Z.1
  have hb := Z.2.1
  have hown := Z.2.2.2.1
  have hW := Z.2.2.2.2.1
  have hl : lv_has ls 3 [(0, .ref (q 0)), (1, .int (zI ((i : Nat) : Int))), (2, .int (zI (rk : Int)))] := hl
  obtain ⟨hn, hru, hrv, hdv, hsr, hmn, ht1, ht2, hwn, hv1, hv2, hmj, htm, hse, htg, hrt, hac, hk1, hk2, hkd, hmm, hmv, hpp, hpl, hp3, hp4, hp6, hp5, hp7, hnz⟩ := id hI
  have hi9 : -1 ≤ itA σ i rk ∧ itA σ i rk < σ.1 4 := fI_in _ _
  refine lv_aload_n hx hb dX6_riverAt_0 rfl (lv_at hl 0 rfl) ?_
  refine lv_aload_n hx hb dX6_riverAt_1 rfl (lv_at hl 0 rfl) ?_
  refine lv_iload_n hx hb dX6_riverAt_2 rfl (lv_at hl 1 rfl) ?_
  refine zdet_I ⟨rfl, rfl⟩ Z hD hS (zrunV (rest := [.ref (q 0)]) Z hP hD hS hl.1 (m_X6_isRiver l G q σ κ ((i : Nat) : Int) (by omega) (by omega)) zY_X6_isRiver km_X6_186 (q0 := 0) rfl rfl rfl rfl ⟨⟨Nat.le_of_ble_eq_true rfl, Nat.le_of_ble_eq_true rfl⟩, Nat.le_of_ble_eq_true rfl, Nat.le_of_ble_eq_true rfl⟩ (Nat.le_of_ble_eq_true rfl) dX6_riverAt_3) (fun H locs hP hD hS => ?_)
  refine zb_ne (tgt := 13) hx hb dX6_riverAt_6 (by decide) (fun c6 => ?_) (fun c6 => by exfalso; have h9 := of_decide_eq_false c6; omega)
  refine lv_aload_n hx hb dX6_riverAt_13 rfl (lv_at hl 0 rfl) ?_
  refine lv_iload_n hx hb dX6_riverAt_14 rfl (lv_at hl 1 rfl) ?_
  refine lv_iload_n hx hb dX6_riverAt_15 rfl (lv_at hl 2 rfl) ?_
  refine zfin_I ⟨rfl, rfl⟩ Z hD hS (zrunV (rest := [.ref (q 0)]) Z hP hD hS hl.1 (m_X6_itemAt l G q σ κ (i) rfl (rk : Int) hI (by omega) (by omega)) zY_X6_itemAt km_X6_195 (q0 := 0) rfl rfl rfl rfl ⟨⟨Nat.le_of_ble_eq_true rfl, Nat.le_of_ble_eq_true rfl⟩, Nat.le_of_ble_eq_true rfl, Nat.le_of_ble_eq_true rfl⟩ (Nat.le_of_ble_eq_true rfl) dX6_riverAt_16) (fun r u H locs hp hP hD hS => ?_)
  obtain rfl : r = (zI (itA σ i (rk : Int) : Int)) := hp
  refine zc0_ge (tgt := 26) hx hb (itA σ i (rk : Int) : Int) (zI_toInt (by omega)) dX6_riverAt_19 (by decide) (fun c19 => by exfalso; omega) (fun c19 => ?_)
  refine zr_iconst hx hb dX6_riverAt_22 ?_
  refine lv_goto (tgt := 27) hx hb dX6_riverAt_23 (by decide) ?_
  refine pM_0_23 Z hP hD hS kf_X6_80 dX6_riverAt_27 (fun H locs hP hD hS => ?_)
  refine lv_aload_n hx hb dX6_riverAt_30 rfl (lv_at hl 0 rfl) ?_
  refine gM_0_23 Z hP kf_X6_80 dX6_riverAt_31 ?_
  refine zr_top (w := .int (zI (2 : Int))) rfl ?_
  refine zc0_le (tgt := 41) hx hb (2 : Int) (zI_toInt (by decide)) dX6_riverAt_34 (by decide) (fun c34 => by exfalso; omega) (fun c34 => ?_)
  refine zr_iconst hx hb dX6_riverAt_37 ?_
  refine lv_goto (tgt := 47) hx hb dX6_riverAt_38 (by decide) ?_
  exact zret_I ((u.1, u.2.1, u.2.2)) Z hr hP hD hS rfl rfl ⟨Nat.le_refl _, Nat.le_refl _⟩ hQ dX6_riverAt_47
abbrev r_X6_riverAtAnew : Room := { frames := 7, cells := 0, slots := 0, locals := 161 }
set_option maxHeartbeats 4000000 in
set_option maxRecDepth 100000 in
theorem m_X6_riverAtAnew (l : Launch) (G : ZG) (q : Nat → Nat) (σ : St) (κ : KM) {e_i : Int} (i : Nat) (he_i : e_i = (i : Int)) (rk : Int) (hI : okM σ) (h1 : i < σ.1 6) (h2 : zR rk) (h3 : 0 ≤ itA σ i rk) :
    MC l G yX6_riverAtAnew (wY yX6_riverAtAnew cX6_riverAtAnew 3 (some .int)) r_X6_riverAtAnew (wM G q σ κ) [.ref (q 0), .int (zI e_i), .int (zI (rk : Int))] (QI G (S := Int32 × Int32 × Bool) (fun r9 (_ : Int32 × Int32 × Bool) => r9 = (zI (itA σ i rk : Int))) (fun u => wM G q σ ((0 : Int), u))) := by
  subst he_i
  refine MC.mk (by decide +kernel) (Nat.le_of_ble_eq_true rfl) ?_
  intro p e s m av below meth c A H locs ls Q Z hr hnm hQ hP hD hS hl
  have hx := Z.1
  have hb := Z.2.1
  have hown := Z.2.2.2.1
  have hW := Z.2.2.2.2.1
  have hl : lv_has ls 3 [(0, .ref (q 0)), (1, .int (zI ((i : Nat) : Int))), (2, .int (zI (rk : Int)))] := hl
  refine lv_aload_n hx hb dX6_riverAtAnew_0 rfl (lv_at hl 0 rfl) ?_
  refine lv_iload_n hx hb dX6_riverAtAnew_1 rfl (lv_at hl 1 rfl) ?_
  refine lv_iload_n hx hb dX6_riverAtAnew_2 rfl (lv_at hl 2 rfl) ?_
  refine zfin_I ⟨rfl, rfl⟩ Z hD hS (zrunV (rest := []) Z hP hD hS hl.1 (m_X6_riverAt l G q σ κ (i) rfl (rk : Int) hI (by omega) (by omega) (by omega)) zY_X6_riverAt km_X6_198 (q0 := 0) rfl rfl rfl rfl ⟨⟨Nat.le_of_ble_eq_true rfl, Nat.le_of_ble_eq_true rfl⟩, Nat.le_of_ble_eq_true rfl, Nat.le_of_ble_eq_true rfl⟩ (Nat.le_of_ble_eq_true rfl) dX6_riverAtAnew_3) (fun r u H locs hp hP hD hS => ?_)
  obtain rfl : r = (zI (itA σ i (rk : Int) : Int)) := hp
  exact zret_I (u) Z hr hP hD hS rfl rfl ⟨Nat.le_refl _, Nat.le_refl _⟩ hQ dX6_riverAtAnew_6
abbrev r_X6_riverAtAnew_t1 : Room := { frames := 7, cells := 0, slots := 0, locals := 161 }
set_option maxHeartbeats 4000000 in
set_option maxRecDepth 100000 in
theorem m_X6_riverAtAnew_t1 (l : Launch) (G : ZG) (q : Nat → Nat) (σ : St) (κ : KM) (i : Int) (rk : Int) (hI : okM σ) (h1 : zR i) (h2 : i < 0 ∨ ((σ.1 6 : Nat) : Int) ≤ i) :
    MC l G yX6_riverAtAnew (wY yX6_riverAtAnew cX6_riverAtAnew 3 (some .int)) r_X6_riverAtAnew_t1 (wM G q σ κ) [.ref (q 0), .int (zI (i : Int)), .int (zI (rk : Int))] (QI G (fun r9 (_ : Unit) => r9 = (zI (0 : Int))) (fun _ => wM G q σ ((1 : Int), κ.2.1, κ.2.2.1, κ.2.2.2))) := by
  refine MC.mk (by decide +kernel) (Nat.le_of_ble_eq_true rfl) ?_
  intro p e s m av below meth c A H locs ls Q Z hr hnm hQ hP hD hS hl
  have hx := Z.1
  have hb := Z.2.1
  have hown := Z.2.2.2.1
  have hW := Z.2.2.2.2.1
  have hl : lv_has ls 3 [(0, .ref (q 0)), (1, .int (zI (i : Int))), (2, .int (zI (rk : Int)))] := hl
  refine lv_aload_n hx hb dX6_riverAtAnew_0 rfl (lv_at hl 0 rfl) ?_
  refine lv_iload_n hx hb dX6_riverAtAnew_1 rfl (lv_at hl 1 rfl) ?_
  refine lv_iload_n hx hb dX6_riverAtAnew_2 rfl (lv_at hl 2 rfl) ?_
  refine zdet_I ⟨rfl, rfl⟩ Z hD hS (zrunV (rest := []) Z hP hD hS hl.1 (m_X6_riverAt_t1 l G q σ κ (i : Int) (rk : Int) hI (by omega) (by omega)) zY_X6_riverAt km_X6_198 (q0 := 0) rfl rfl rfl rfl ⟨⟨Nat.le_of_ble_eq_true rfl, Nat.le_of_ble_eq_true rfl⟩, Nat.le_of_ble_eq_true rfl, Nat.le_of_ble_eq_true rfl⟩ (Nat.le_of_ble_eq_true rfl) dX6_riverAtAnew_3) (fun H locs hP hD hS => ?_)
  exact zret_I () Z hr hP hD hS rfl rfl ⟨Nat.le_refl _, Nat.le_refl _⟩ hQ dX6_riverAtAnew_6
abbrev r_X6_riverAtAnew_t2 : Room := { frames := 7, cells := 0, slots := 0, locals := 161 }
set_option maxHeartbeats 4000000 in
set_option maxRecDepth 100000 in
theorem m_X6_riverAtAnew_t2 (l : Launch) (G : ZG) (q : Nat → Nat) (σ : St) (κ : KM) {e_i : Int} (i : Nat) (he_i : e_i = (i : Int)) (rk : Int) (hI : okM σ) (h1 : i < σ.1 6) (h2 : zR rk) (h3 : itA σ i rk < 0) :
    MC l G yX6_riverAtAnew (wY yX6_riverAtAnew cX6_riverAtAnew 3 (some .int)) r_X6_riverAtAnew_t2 (wM G q σ κ) [.ref (q 0), .int (zI e_i), .int (zI (rk : Int))] (QI G (S := Int32 × Int32 × Bool) (fun r9 (_ : Int32 × Int32 × Bool) => r9 = (zI (0 : Int))) (fun u => wM G q σ ((2 : Int), u))) := by
  subst he_i
  refine MC.mk (by decide +kernel) (Nat.le_of_ble_eq_true rfl) ?_
  intro p e s m av below meth c A H locs ls Q Z hr hnm hQ hP hD hS hl
  have hx := Z.1
  have hb := Z.2.1
  have hown := Z.2.2.2.1
  have hW := Z.2.2.2.2.1
  have hl : lv_has ls 3 [(0, .ref (q 0)), (1, .int (zI ((i : Nat) : Int))), (2, .int (zI (rk : Int)))] := hl
  refine lv_aload_n hx hb dX6_riverAtAnew_0 rfl (lv_at hl 0 rfl) ?_
  refine lv_iload_n hx hb dX6_riverAtAnew_1 rfl (lv_at hl 1 rfl) ?_
  refine lv_iload_n hx hb dX6_riverAtAnew_2 rfl (lv_at hl 2 rfl) ?_
  refine zfin_I ⟨rfl, rfl⟩ Z hD hS (zrunV (rest := []) Z hP hD hS hl.1 (m_X6_riverAt_t2 l G q σ κ (i) rfl (rk : Int) hI (by omega) (by omega) (by omega)) zY_X6_riverAt km_X6_198 (q0 := 0) rfl rfl rfl rfl ⟨⟨Nat.le_of_ble_eq_true rfl, Nat.le_of_ble_eq_true rfl⟩, Nat.le_of_ble_eq_true rfl, Nat.le_of_ble_eq_true rfl⟩ (Nat.le_of_ble_eq_true rfl) dX6_riverAtAnew_3) (fun r u H locs hp hP hD hS => ?_)
  obtain rfl : r = (zI (0 : Int)) := hp
  exact zret_I (u) Z hr hP hD hS rfl rfl ⟨Nat.le_refl _, Nat.le_refl _⟩ hQ dX6_riverAtAnew_6
abbrev r_X6_rankOf : Room := { frames := 5, cells := 0, slots := 0, locals := 116 }
set_option maxHeartbeats 4000000 in
set_option maxRecDepth 100000 in
theorem m_X6_rankOf (l : Launch) (G : ZG) (q : Nat → Nat) (σ : St) (κ : KM) {e_i : Int} (i : Nat) (he_i : e_i = (i : Int)) {e_b : Int} (b : Nat) (he_b : e_b = (b : Int)) (hI : okM σ) (h1 : i < σ.1 6) (h2 : b < σ.1 4) (h3 : shM σ i b = true) :
    MC l G yX6_rankOf (wY yX6_rankOf cX6_rankOf 3 (some .int)) r_X6_rankOf (wM G q σ κ) [.ref (q 0), .int (zI e_i), .int (zI e_b)] (QI G (S := Int32 × Int32 × Bool) (fun r9 (_ : Int32 × Int32 × Bool) => r9 = (zI ((ahM σ i b : Nat) : Int))) (fun u => wM G q σ ((0 : Int), u))) := by
  subst he_i
  subst he_b
  refine MC.mk (by decide +kernel) (Nat.le_of_ble_eq_true rfl) ?_
  intro p e s m av below meth c A H locs ls Q Z hr hnm hQ hP hD hS hl
  have hx := Z.1
  have hb := Z.2.1
  have hown := Z.2.2.2.1
  have hW := Z.2.2.2.2.1
  have hl : lv_has ls 3 [(0, .ref (q 0)), (1, .int (zI ((i : Nat) : Int))), (2, .int (zI ((b : Nat) : Int)))] := hl
  obtain ⟨hn, hru, hrv, hdv, hsr, hmn, ht1, ht2, hwn, hv1, hv2, hmj, htm, hse, htg, hrt, hac, hk1, hk2, hkd, hmm, hmv, hpp, hpl, hp3, hp4, hp6, hp5, hp7, hnz⟩ := id hI
  refine lv_aload_n hx hb dX6_rankOf_0 rfl (lv_at hl 0 rfl) ?_
  refine lv_aload_n hx hb dX6_rankOf_1 rfl (lv_at hl 0 rfl) ?_
  refine lv_iload_n hx hb dX6_rankOf_2 rfl (lv_at hl 1 rfl) ?_
  refine zdet_I ⟨rfl, rfl⟩ Z hD hS (zrunV (rest := [.ref (q 0)]) Z hP hD hS hl.1 (m_X6_isRiver l G q σ κ ((i : Nat) : Int) (by omega) (by omega)) zY_X6_isRiver km_X6_186 (q0 := 0) rfl rfl rfl rfl ⟨⟨Nat.le_of_ble_eq_true rfl, Nat.le_of_ble_eq_true rfl⟩, Nat.le_of_ble_eq_true rfl, Nat.le_of_ble_eq_true rfl⟩ (Nat.le_of_ble_eq_true rfl) dX6_rankOf_3) (fun H locs hP hD hS => ?_)
  refine zb_eq (tgt := 17) hx hb dX6_rankOf_6 (by decide) (fun c6 => by exfalso; have h9 := of_decide_eq_false c6; omega) (fun c6 => ?_)
  refine lv_aload_n hx hb dX6_rankOf_9 rfl (lv_at hl 0 rfl) ?_
  refine lv_iload_n hx hb dX6_rankOf_10 rfl (lv_at hl 2 rfl) ?_
  refine zdet_I ⟨rfl, rfl⟩ Z hD hS (zrunV (rest := [.ref (q 0)]) Z hP hD hS hl.1 (m_X6_isItem l G q σ κ ((b : Nat) : Int) (by omega) (by omega)) zY_X6_isItem km_X6_171 (q0 := 0) rfl rfl rfl rfl ⟨⟨Nat.le_of_ble_eq_true rfl, Nat.le_of_ble_eq_true rfl⟩, Nat.le_of_ble_eq_true rfl, Nat.le_of_ble_eq_true rfl⟩ (Nat.le_of_ble_eq_true rfl) dX6_rankOf_11) (fun H locs hP hD hS => ?_)
  refine zb_ne (tgt := 21) hx hb dX6_rankOf_14 (by decide) (fun c14 => ?_) (fun c14 => by exfalso; have h9 := of_decide_eq_false c14; omega)
  refine lv_aload_n hx hb dX6_rankOf_21 rfl (lv_at hl 0 rfl) ?_
  refine lv_iload_n hx hb dX6_rankOf_22 rfl (lv_at hl 1 rfl) ?_
  refine lv_iload_n hx hb dX6_rankOf_23 rfl (lv_at hl 2 rfl) ?_
  refine zdet_I ⟨rfl, rfl⟩ Z hD hS (zrunV (rest := [.ref (q 0)]) Z hP hD hS hl.1 (m_X6_shows l G q σ κ (i) rfl (b) rfl hI (by omega) (by omega)) zY_X6_shows km_X6_183 (q0 := 0) rfl rfl rfl rfl ⟨⟨Nat.le_of_ble_eq_true rfl, Nat.le_of_ble_eq_true rfl⟩, Nat.le_of_ble_eq_true rfl, Nat.le_of_ble_eq_true rfl⟩ (Nat.le_of_ble_eq_true rfl) dX6_rankOf_24) (fun H locs hP hD hS => ?_)
  refine zb_ne (tgt := 34) hx hb dX6_rankOf_27 (by decide) (fun c27 => ?_) (fun c27 => by rw [h3] at c27; cases c27)
  refine zr_iconst hx hb dX6_rankOf_34 ?_
  refine pM_0_23 Z hP hD hS kf_X6_80 dX6_rankOf_35 (fun H locs hP hD hS => ?_)
  refine lv_aload_n hx hb dX6_rankOf_38 rfl (lv_at hl 0 rfl) ?_
  refine gM_0_23 Z hP kf_X6_80 dX6_rankOf_39 ?_
  refine zr_top (w := .int (zI (0 : Int))) rfl ?_
  refine zc0_le (tgt := 49) hx hb (0 : Int) (zI_toInt (by decide)) dX6_rankOf_42 (by decide) (fun c42 => ?_) (fun c42 => by exfalso; omega)
  refine lv_aload_n hx hb dX6_rankOf_49 rfl (lv_at hl 0 rfl) ?_
  refine lv_iload_n hx hb dX6_rankOf_50 rfl (lv_at hl 1 rfl) ?_
  refine lv_iload_n hx hb dX6_rankOf_51 rfl (lv_at hl 2 rfl) ?_
  refine zfin_I ⟨rfl, rfl⟩ Z hD hS (zrunV (rest := []) Z hP hD hS hl.1 (m_X6_ahead l G q σ ((0 : Int), (goI σ b).1, (goI σ b).2.1, (goI σ b).2.2) (i) rfl (b) rfl hI (by omega) (by omega)) zY_X6_ahead km_X6_192 (q0 := 0) rfl rfl rfl rfl ⟨⟨Nat.le_of_ble_eq_true rfl, Nat.le_of_ble_eq_true rfl⟩, Nat.le_of_ble_eq_true rfl, Nat.le_of_ble_eq_true rfl⟩ (Nat.le_of_ble_eq_true rfl) dX6_rankOf_52) (fun r u H locs hp hP hD hS => ?_)
  obtain rfl : r = (zI ((ahM σ i b : Nat) : Int)) := hp
  exact zret_I (u) Z hr hP hD hS rfl rfl ⟨Nat.le_refl _, Nat.le_refl _⟩ hQ dX6_rankOf_55
abbrev r_X6_rankOf_t1 : Room := { frames := 5, cells := 0, slots := 0, locals := 116 }
set_option maxHeartbeats 4000000 in
set_option maxRecDepth 100000 in
theorem m_X6_rankOf_t1 (l : Launch) (G : ZG) (q : Nat → Nat) (σ : St) (κ : KM) (i : Int) (b : Int) (hI : okM σ) (h1 : zR i ∧ zR b) (h2 : (i < 0 ∨ ((σ.1 6 : Nat) : Int) ≤ i) ∨ b < 0 ∨ ((σ.1 4 : Nat) : Int) ≤ b) :
    MC l G yX6_rankOf (wY yX6_rankOf cX6_rankOf 3 (some .int)) r_X6_rankOf_t1 (wM G q σ κ) [.ref (q 0), .int (zI (i : Int)), .int (zI (b : Int))] (QI G (fun r9 (_ : Unit) => r9 = (zI (0 : Int))) (fun _ => wM G q σ ((1 : Int), κ.2.1, κ.2.2.1, κ.2.2.2))) := by
  refine MC.mk (by decide +kernel) (Nat.le_of_ble_eq_true rfl) ?_
  intro p e s m av below meth c A H locs ls Q Z hr hnm hQ hP hD hS hl
  have hx := Z.1
  have hb := Z.2.1
  have hown := Z.2.2.2.1
  have hW := Z.2.2.2.2.1
  have hl : lv_has ls 3 [(0, .ref (q 0)), (1, .int (zI (i : Int))), (2, .int (zI (b : Int)))] := hl
  obtain ⟨hn, hru, hrv, hdv, hsr, hmn, ht1, ht2, hwn, hv1, hv2, hmj, htm, hse, htg, hrt, hac, hk1, hk2, hkd, hmm, hmv, hpp, hpl, hp3, hp4, hp6, hp5, hp7, hnz⟩ := id hI
  refine lv_aload_n hx hb dX6_rankOf_0 rfl (lv_at hl 0 rfl) ?_
  refine lv_aload_n hx hb dX6_rankOf_1 rfl (lv_at hl 0 rfl) ?_
  refine lv_iload_n hx hb dX6_rankOf_2 rfl (lv_at hl 1 rfl) ?_
  refine zdet_I ⟨rfl, rfl⟩ Z hD hS (zrunV (rest := [.ref (q 0)]) Z hP hD hS hl.1 (m_X6_isRiver l G q σ κ (i : Int) (by omega) (by omega)) zY_X6_isRiver km_X6_186 (q0 := 0) rfl rfl rfl rfl ⟨⟨Nat.le_of_ble_eq_true rfl, Nat.le_of_ble_eq_true rfl⟩, Nat.le_of_ble_eq_true rfl, Nat.le_of_ble_eq_true rfl⟩ (Nat.le_of_ble_eq_true rfl) dX6_rankOf_3) (fun H locs hP hD hS => ?_)
  refine zb_eq (tgt := 17) hx hb dX6_rankOf_6 (by decide) (fun c6 => ?_) (fun c6 => ?_)
  · skip
    refine zr_iconst hx hb dX6_rankOf_17 ?_
    refine lv_goto (tgt := 35) hx hb dX6_rankOf_18 (by decide) ?_
    refine pM_0_23 Z hP hD hS kf_X6_80 dX6_rankOf_35 (fun H locs hP hD hS => ?_)
    refine lv_aload_n hx hb dX6_rankOf_38 rfl (lv_at hl 0 rfl) ?_
    refine gM_0_23 Z hP kf_X6_80 dX6_rankOf_39 ?_
    refine zr_top (w := .int (zI (1 : Int))) rfl ?_
    refine zc0_le (tgt := 49) hx hb (1 : Int) (zI_toInt (by decide)) dX6_rankOf_42 (by decide) (fun c42 => by exfalso; omega) (fun c42 => ?_)
    refine zr_iconst hx hb dX6_rankOf_45 ?_
    refine lv_goto (tgt := 55) hx hb dX6_rankOf_46 (by decide) ?_
    exact zret_I () Z hr hP hD hS rfl rfl ⟨Nat.le_refl _, Nat.le_refl _⟩ hQ dX6_rankOf_55
  · skip
    refine lv_aload_n hx hb dX6_rankOf_9 rfl (lv_at hl 0 rfl) ?_
    refine lv_iload_n hx hb dX6_rankOf_10 rfl (lv_at hl 2 rfl) ?_
    refine zdet_I ⟨rfl, rfl⟩ Z hD hS (zrunV (rest := [.ref (q 0)]) Z hP hD hS hl.1 (m_X6_isItem l G q σ κ (b : Int) (by omega) (by omega)) zY_X6_isItem km_X6_171 (q0 := 0) rfl rfl rfl rfl ⟨⟨Nat.le_of_ble_eq_true rfl, Nat.le_of_ble_eq_true rfl⟩, Nat.le_of_ble_eq_true rfl, Nat.le_of_ble_eq_true rfl⟩ (Nat.le_of_ble_eq_true rfl) dX6_rankOf_11) (fun H locs hP hD hS => ?_)
    refine zb_ne (tgt := 21) hx hb dX6_rankOf_14 (by decide) (fun c14 => by exfalso; have a1 := of_decide_eq_true c6; have a2 := of_decide_eq_true c14; omega) (fun c14 => ?_)
    refine zr_iconst hx hb dX6_rankOf_17 ?_
    refine lv_goto (tgt := 35) hx hb dX6_rankOf_18 (by decide) ?_
    refine pM_0_23 Z hP hD hS kf_X6_80 dX6_rankOf_35 (fun H locs hP hD hS => ?_)
    refine lv_aload_n hx hb dX6_rankOf_38 rfl (lv_at hl 0 rfl) ?_
    refine gM_0_23 Z hP kf_X6_80 dX6_rankOf_39 ?_
    refine zr_top (w := .int (zI (1 : Int))) rfl ?_
    refine zc0_le (tgt := 49) hx hb (1 : Int) (zI_toInt (by decide)) dX6_rankOf_42 (by decide) (fun c42 => by exfalso; omega) (fun c42 => ?_)
    refine zr_iconst hx hb dX6_rankOf_45 ?_
    refine lv_goto (tgt := 55) hx hb dX6_rankOf_46 (by decide) ?_
    exact zret_I () Z hr hP hD hS rfl rfl ⟨Nat.le_refl _, Nat.le_refl _⟩ hQ dX6_rankOf_55
abbrev r_X6_rankOf_t2 : Room := { frames := 5, cells := 0, slots := 0, locals := 116 }
set_option maxHeartbeats 4000000 in
set_option maxRecDepth 100000 in
theorem m_X6_rankOf_t2 (l : Launch) (G : ZG) (q : Nat → Nat) (σ : St) (κ : KM) {e_i : Int} (i : Nat) (he_i : e_i = (i : Int)) {e_b : Int} (b : Nat) (he_b : e_b = (b : Int)) (hI : okM σ) (h1 : i < σ.1 6) (h2 : b < σ.1 4) (h3 : shM σ i b = false) :
    MC l G yX6_rankOf (wY yX6_rankOf cX6_rankOf 3 (some .int)) r_X6_rankOf_t2 (wM G q σ κ) [.ref (q 0), .int (zI e_i), .int (zI e_b)] (QI G (S := Int32 × Int32 × Bool) (fun r9 (_ : Int32 × Int32 × Bool) => r9 = (zI (0 : Int))) (fun u => wM G q σ ((2 : Int), u))) := by
  subst he_i
  subst he_b
  refine MC.mk (by decide +kernel) (Nat.le_of_ble_eq_true rfl) ?_
  intro p e s m av below meth c A H locs ls Q Z hr hnm hQ hP hD hS hl
  have hx := Z.1
  have hb := Z.2.1
  have hown := Z.2.2.2.1
  have hW := Z.2.2.2.2.1
  have hl : lv_has ls 3 [(0, .ref (q 0)), (1, .int (zI ((i : Nat) : Int))), (2, .int (zI ((b : Nat) : Int)))] := hl
  obtain ⟨hn, hru, hrv, hdv, hsr, hmn, ht1, ht2, hwn, hv1, hv2, hmj, htm, hse, htg, hrt, hac, hk1, hk2, hkd, hmm, hmv, hpp, hpl, hp3, hp4, hp6, hp5, hp7, hnz⟩ := id hI
  refine lv_aload_n hx hb dX6_rankOf_0 rfl (lv_at hl 0 rfl) ?_
  refine lv_aload_n hx hb dX6_rankOf_1 rfl (lv_at hl 0 rfl) ?_
  refine lv_iload_n hx hb dX6_rankOf_2 rfl (lv_at hl 1 rfl) ?_
  refine zdet_I ⟨rfl, rfl⟩ Z hD hS (zrunV (rest := [.ref (q 0)]) Z hP hD hS hl.1 (m_X6_isRiver l G q σ κ ((i : Nat) : Int) (by omega) (by omega)) zY_X6_isRiver km_X6_186 (q0 := 0) rfl rfl rfl rfl ⟨⟨Nat.le_of_ble_eq_true rfl, Nat.le_of_ble_eq_true rfl⟩, Nat.le_of_ble_eq_true rfl, Nat.le_of_ble_eq_true rfl⟩ (Nat.le_of_ble_eq_true rfl) dX6_rankOf_3) (fun H locs hP hD hS => ?_)
  refine zb_eq (tgt := 17) hx hb dX6_rankOf_6 (by decide) (fun c6 => by exfalso; have h9 := of_decide_eq_false c6; omega) (fun c6 => ?_)
  refine lv_aload_n hx hb dX6_rankOf_9 rfl (lv_at hl 0 rfl) ?_
  refine lv_iload_n hx hb dX6_rankOf_10 rfl (lv_at hl 2 rfl) ?_
  refine zdet_I ⟨rfl, rfl⟩ Z hD hS (zrunV (rest := [.ref (q 0)]) Z hP hD hS hl.1 (m_X6_isItem l G q σ κ ((b : Nat) : Int) (by omega) (by omega)) zY_X6_isItem km_X6_171 (q0 := 0) rfl rfl rfl rfl ⟨⟨Nat.le_of_ble_eq_true rfl, Nat.le_of_ble_eq_true rfl⟩, Nat.le_of_ble_eq_true rfl, Nat.le_of_ble_eq_true rfl⟩ (Nat.le_of_ble_eq_true rfl) dX6_rankOf_11) (fun H locs hP hD hS => ?_)
  refine zb_ne (tgt := 21) hx hb dX6_rankOf_14 (by decide) (fun c14 => ?_) (fun c14 => by exfalso; have h9 := of_decide_eq_false c14; omega)
  refine lv_aload_n hx hb dX6_rankOf_21 rfl (lv_at hl 0 rfl) ?_
  refine lv_iload_n hx hb dX6_rankOf_22 rfl (lv_at hl 1 rfl) ?_
  refine lv_iload_n hx hb dX6_rankOf_23 rfl (lv_at hl 2 rfl) ?_
  refine zdet_I ⟨rfl, rfl⟩ Z hD hS (zrunV (rest := [.ref (q 0)]) Z hP hD hS hl.1 (m_X6_shows l G q σ κ (i) rfl (b) rfl hI (by omega) (by omega)) zY_X6_shows km_X6_183 (q0 := 0) rfl rfl rfl rfl ⟨⟨Nat.le_of_ble_eq_true rfl, Nat.le_of_ble_eq_true rfl⟩, Nat.le_of_ble_eq_true rfl, Nat.le_of_ble_eq_true rfl⟩ (Nat.le_of_ble_eq_true rfl) dX6_rankOf_24) (fun H locs hP hD hS => ?_)
  refine zb_ne (tgt := 34) hx hb dX6_rankOf_27 (by decide) (fun c27 => by rw [h3] at c27; cases c27) (fun c27 => ?_)
  refine zr_iconst hx hb dX6_rankOf_30 ?_
  refine lv_goto (tgt := 35) hx hb dX6_rankOf_31 (by decide) ?_
  refine pM_0_23 Z hP hD hS kf_X6_80 dX6_rankOf_35 (fun H locs hP hD hS => ?_)
  refine lv_aload_n hx hb dX6_rankOf_38 rfl (lv_at hl 0 rfl) ?_
  refine gM_0_23 Z hP kf_X6_80 dX6_rankOf_39 ?_
  refine zr_top (w := .int (zI (2 : Int))) rfl ?_
  refine zc0_le (tgt := 49) hx hb (2 : Int) (zI_toInt (by decide)) dX6_rankOf_42 (by decide) (fun c42 => by exfalso; omega) (fun c42 => ?_)
  refine zr_iconst hx hb dX6_rankOf_45 ?_
  refine lv_goto (tgt := 55) hx hb dX6_rankOf_46 (by decide) ?_
  exact zret_I (((goI σ b).1, (goI σ b).2.1, (goI σ b).2.2)) Z hr hP hD hS rfl rfl ⟨Nat.le_refl _, Nat.le_refl _⟩ hQ dX6_rankOf_55
abbrev r_X6_unread : Room := { frames := 5, cells := 0, slots := 0, locals := 114 }
set_option maxHeartbeats 4000000 in
set_option maxRecDepth 100000 in
theorem m_X6_unread (l : Launch) (G : ZG) (q : Nat → Nat) (σ : St) (κ : KM) {e_i : Int} (i : Nat) (he_i : e_i = (i : Int)) (hI : okM σ) (h1 : i < σ.1 6) :
    MC l G yX6_unread (wY yX6_unread cX6_unread 2 (some .int)) r_X6_unread (wM G q σ κ) [.ref (q 0), .int (zI e_i)] (QI G (S := Int32 × Int32 × Bool) (fun r9 (_ : Int32 × Int32 × Bool) => r9 = (zI ((cnt (fun y9 => shM σ i y9 && !rdR σ y9) (σ.1 4) : Nat) : Int))) (fun u => wM G q σ ((0 : Int), u))) := by
  subst he_i
  refine MC.mk (by decide +kernel) (Nat.le_of_ble_eq_true rfl) ?_
  intro p e s m av below meth c A H locs ls Q Z hr hnm hQ hP hD hS hl
  have hx := Z.1
  have hb := Z.2.1
  have hown := Z.2.2.2.1
  have hW := Z.2.2.2.2.1
  have hl : lv_has ls 2 [(0, .ref (q 0)), (1, .int (zI ((i : Nat) : Int)))] := hl
  obtain ⟨hn, hru, hrv, hdv, hsr, hmn, ht1, ht2, hwn, hv1, hv2, hmj, htm, hse, htg, hrt, hac, hk1, hk2, hkd, hmm, hmv, hpp, hpl, hp3, hp4, hp6, hp5, hp7, hnz⟩ := id hI
  refine lv_aload_n hx hb dX6_unread_0 rfl (lv_at hl 0 rfl) ?_
  refine lv_aload_n hx hb dX6_unread_1 rfl (lv_at hl 0 rfl) ?_
  refine lv_iload_n hx hb dX6_unread_2 rfl (lv_at hl 1 rfl) ?_
  refine zdet_I ⟨rfl, rfl⟩ Z hD hS (zrunV (rest := [.ref (q 0)]) Z hP hD hS hl.1 (m_X6_isRiver l G q σ κ ((i : Nat) : Int) (by omega) (by omega)) zY_X6_isRiver km_X6_186 (q0 := 0) rfl rfl rfl rfl ⟨⟨Nat.le_of_ble_eq_true rfl, Nat.le_of_ble_eq_true rfl⟩, Nat.le_of_ble_eq_true rfl, Nat.le_of_ble_eq_true rfl⟩ (Nat.le_of_ble_eq_true rfl) dX6_unread_3) (fun H locs hP hD hS => ?_)
  refine zdet_I ⟨rfl, rfl⟩ Z hD hS (zrunV (rest := []) Z hP hD hS hl.1 (m_X6_checked l G q σ κ (decide ((0 : Int) ≤ ((i : Nat) : Int) ∧ ((i : Nat) : Int) ≤ (((σ.1 6 : Nat) : Int) - (1 : Int)))) (decide_eq_true (by omega))) zY_X6_checked km_X6_137 (q0 := 0) rfl rfl rfl rfl ⟨⟨Nat.le_of_ble_eq_true rfl, Nat.le_of_ble_eq_true rfl⟩, Nat.le_of_ble_eq_true rfl, Nat.le_of_ble_eq_true rfl⟩ (Nat.le_of_ble_eq_true rfl) dX6_unread_6) (fun H locs hP hD hS => ?_)
  refine zc0_le (tgt := 16) hx hb (0 : Int) (zI_toInt (by decide)) dX6_unread_9 (by decide) (fun c9 => ?_) (fun c9 => by exfalso; omega)
  refine lv_aload_n hx hb dX6_unread_16 rfl (lv_at hl 0 rfl) ?_
  refine lv_iload_n hx hb dX6_unread_17 rfl (lv_at hl 1 rfl) ?_
  refine zfin_I ⟨rfl, rfl⟩ Z hD hS (zrunV (rest := []) Z hP hD hS hl.1 (m_X6_unreadIn l G q σ ((0 : Int), κ.2.1, κ.2.2.1, κ.2.2.2) (i) rfl hI (by omega)) zY_X6_unreadIn km_X6_207 (q0 := 0) rfl rfl rfl rfl ⟨⟨Nat.le_of_ble_eq_true rfl, Nat.le_of_ble_eq_true rfl⟩, Nat.le_of_ble_eq_true rfl, Nat.le_of_ble_eq_true rfl⟩ (Nat.le_of_ble_eq_true rfl) dX6_unread_18) (fun r u H locs hp hP hD hS => ?_)
  obtain rfl : r = (zI ((cnt (fun y9 => shM σ i y9 && !rdR σ y9) (σ.1 4) : Nat) : Int)) := hp
  exact zret_I (u) Z hr hP hD hS rfl rfl ⟨Nat.le_refl _, Nat.le_refl _⟩ hQ dX6_unread_21
abbrev r_X6_unread_t1 : Room := { frames := 5, cells := 0, slots := 0, locals := 114 }
set_option maxHeartbeats 4000000 in
set_option maxRecDepth 100000 in
theorem m_X6_unread_t1 (l : Launch) (G : ZG) (q : Nat → Nat) (σ : St) (κ : KM) (i : Int) (hI : okM σ) (h1 : zR i) (h2 : i < 0 ∨ ((σ.1 6 : Nat) : Int) ≤ i) :
    MC l G yX6_unread (wY yX6_unread cX6_unread 2 (some .int)) r_X6_unread_t1 (wM G q σ κ) [.ref (q 0), .int (zI (i : Int))] (QI G (fun r9 (_ : Unit) => r9 = (zI (0 : Int))) (fun _ => wM G q σ ((1 : Int), κ.2.1, κ.2.2.1, κ.2.2.2))) := by
  refine MC.mk (by decide +kernel) (Nat.le_of_ble_eq_true rfl) ?_
  intro p e s m av below meth c A H locs ls Q Z hr hnm hQ hP hD hS hl
  have hx := Z.1
  have hb := Z.2.1
  have hown := Z.2.2.2.1
  have hW := Z.2.2.2.2.1
  have hl : lv_has ls 2 [(0, .ref (q 0)), (1, .int (zI (i : Int)))] := hl
  obtain ⟨hn, hru, hrv, hdv, hsr, hmn, ht1, ht2, hwn, hv1, hv2, hmj, htm, hse, htg, hrt, hac, hk1, hk2, hkd, hmm, hmv, hpp, hpl, hp3, hp4, hp6, hp5, hp7, hnz⟩ := id hI
  refine lv_aload_n hx hb dX6_unread_0 rfl (lv_at hl 0 rfl) ?_
  refine lv_aload_n hx hb dX6_unread_1 rfl (lv_at hl 0 rfl) ?_
  refine lv_iload_n hx hb dX6_unread_2 rfl (lv_at hl 1 rfl) ?_
  refine zdet_I ⟨rfl, rfl⟩ Z hD hS (zrunV (rest := [.ref (q 0)]) Z hP hD hS hl.1 (m_X6_isRiver l G q σ κ (i : Int) (by omega) (by omega)) zY_X6_isRiver km_X6_186 (q0 := 0) rfl rfl rfl rfl ⟨⟨Nat.le_of_ble_eq_true rfl, Nat.le_of_ble_eq_true rfl⟩, Nat.le_of_ble_eq_true rfl, Nat.le_of_ble_eq_true rfl⟩ (Nat.le_of_ble_eq_true rfl) dX6_unread_3) (fun H locs hP hD hS => ?_)
  refine zdet_I ⟨rfl, rfl⟩ Z hD hS (zrunV (rest := []) Z hP hD hS hl.1 (m_X6_checked_n l G q σ κ (decide ((0 : Int) ≤ (i : Int) ∧ (i : Int) ≤ (((σ.1 6 : Nat) : Int) - (1 : Int)))) (decide_eq_false (by omega))) zY_X6_checked km_X6_137 (q0 := 0) rfl rfl rfl rfl ⟨⟨Nat.le_of_ble_eq_true rfl, Nat.le_of_ble_eq_true rfl⟩, Nat.le_of_ble_eq_true rfl, Nat.le_of_ble_eq_true rfl⟩ (Nat.le_of_ble_eq_true rfl) dX6_unread_6) (fun H locs hP hD hS => ?_)
  refine zc0_le (tgt := 16) hx hb (1 : Int) (zI_toInt (by decide)) dX6_unread_9 (by decide) (fun c9 => by exfalso; omega) (fun c9 => ?_)
  refine zr_iconst hx hb dX6_unread_12 ?_
  refine lv_goto (tgt := 21) hx hb dX6_unread_13 (by decide) ?_
  exact zret_I () Z hr hP hD hS rfl rfl ⟨Nat.le_refl _, Nat.le_refl _⟩ hQ dX6_unread_21
abbrev r_X6_nextUnread : Room := { frames := 6, cells := 0, slots := 0, locals := 139 }
set_option maxHeartbeats 4000000 in
set_option maxRecDepth 100000 in
theorem m_X6_nextUnread (l : Launch) (G : ZG) (q : Nat → Nat) (σ : St) (κ : KM) {e_i : Int} (i : Nat) (he_i : e_i = (i : Int)) (nn : Nat) (hI : okM σ) (h1 : i < σ.1 6) (h2 : 0 < cnt (fun y9 => shM σ i y9 && !rdR σ y9) (σ.1 4)) (h6 : nn ≤ 30) (h3 : ∀ y9 : Nat, y9 ≤ nn → 0 ≤ itA σ i (y9 : Int)) (h4 : ∀ y9 : Nat, y9 < nn → rdR σ (itA σ i (y9 : Int)).toNat = true) (h5 : rdR σ (itA σ i (nn : Int)).toNat = false) :
    MC l G yX6_nextUnread (wY yX6_nextUnread cX6_nextUnread 3 (some .int)) r_X6_nextUnread (wM G q σ κ) [.ref (q 0), .int (zI e_i)] (QI G (S := Int32 × Int32 × Bool) (fun r9 (_ : Int32 × Int32 × Bool) => r9 = (zI (itA σ i ((nn : Nat) : Int) : Int))) (fun u => wM G q σ ((0 : Int), u))) := by
  subst he_i
  refine MC.mk (by decide +kernel) (Nat.le_of_ble_eq_true rfl) ?_
  intro p e s m av below meth c A H locs ls Q Z hr hnm hQ hP hD hS hl
  have hx := Z.1
  have hb := Z.2.1
  have hown := Z.2.2.2.1
  have hW := Z.2.2.2.2.1
  have hl : lv_has ls 3 [(0, .ref (q 0)), (1, .int (zI ((i : Nat) : Int)))] := hl
  obtain ⟨hn, hru, hrv, hdv, hsr, hmn, ht1, ht2, hwn, hv1, hv2, hmj, htm, hse, htg, hrt, hac, hk1, hk2, hkd, hmm, hmv, hpp, hpl, hp3, hp4, hp6, hp5, hp7, hnz⟩ := id hI
  have hc9 := cnt_le (fun y9 => shM σ i y9 && !rdR σ y9) (σ.1 4)
  refine lv_aload_n hx hb dX6_nextUnread_0 rfl (lv_at hl 0 rfl) ?_
  refine lv_aload_n hx hb dX6_nextUnread_1 rfl (lv_at hl 0 rfl) ?_
  refine lv_iload_n hx hb dX6_nextUnread_2 rfl (lv_at hl 1 rfl) ?_
  refine zdet_I ⟨rfl, rfl⟩ Z hD hS (zrunV (rest := [.ref (q 0)]) Z hP hD hS hl.1 (m_X6_isRiver l G q σ κ ((i : Nat) : Int) (by omega) (by omega)) zY_X6_isRiver km_X6_186 (q0 := 0) rfl rfl rfl rfl ⟨⟨Nat.le_of_ble_eq_true rfl, Nat.le_of_ble_eq_true rfl⟩, Nat.le_of_ble_eq_true rfl, Nat.le_of_ble_eq_true rfl⟩ (Nat.le_of_ble_eq_true rfl) dX6_nextUnread_3) (fun H locs hP hD hS => ?_)
  refine zb_ne (tgt := 13) hx hb dX6_nextUnread_6 (by decide) (fun c6 => ?_) (fun c6 => by exfalso; have h9 := of_decide_eq_false c6; omega)
  refine lv_aload_n hx hb dX6_nextUnread_13 rfl (lv_at hl 0 rfl) ?_
  refine lv_iload_n hx hb dX6_nextUnread_14 rfl (lv_at hl 1 rfl) ?_
  refine zfin_I ⟨rfl, rfl⟩ Z hD hS (zrunV (rest := [.ref (q 0)]) Z hP hD hS hl.1 (m_X6_unreadIn l G q σ κ (i) rfl hI (by omega)) zY_X6_unreadIn km_X6_207 (q0 := 0) rfl rfl rfl rfl ⟨⟨Nat.le_of_ble_eq_true rfl, Nat.le_of_ble_eq_true rfl⟩, Nat.le_of_ble_eq_true rfl, Nat.le_of_ble_eq_true rfl⟩ (Nat.le_of_ble_eq_true rfl) dX6_nextUnread_15) (fun r u H locs hp hP hD hS => ?_)
  obtain rfl : r = (zI ((cnt (fun y9 => shM σ i y9 && !rdR σ y9) (σ.1 4) : Nat) : Int)) := hp
  refine zc0_ne (tgt := 25) hx hb ((cnt (fun y9 => shM σ i y9 && !rdR σ y9) (σ.1 4) : Nat) : Int) (zI_toInt (by omega)) dX6_nextUnread_18 (by decide) (fun c18 => ?_) (fun c18 => by exfalso; omega)
  refine zr_iconst hx hb dX6_nextUnread_25 ?_
  refine pM_0_23 Z hP hD hS kf_X6_80 dX6_nextUnread_26 (fun H locs hP hD hS => ?_)
  refine lv_aload_n hx hb dX6_nextUnread_29 rfl (lv_at hl 0 rfl) ?_
  refine gM_0_23 Z hP kf_X6_80 dX6_nextUnread_30 ?_
  refine zr_top (w := .int (zI (0 : Int))) rfl ?_
  refine zc0_le (tgt := 38) hx hb (0 : Int) (zI_toInt (by decide)) dX6_nextUnread_33 (by decide) (fun c33 => ?_) (fun c33 => by exfalso; omega)
  refine zr_iconst hx hb dX6_nextUnread_38 ?_
  refine lv_istore_n (lv' := [(2, .int (zI (0 : Int))), (0, .ref (q 0)), (1, .int (zI ((i : Nat) : Int)))]) hx hb dX6_nextUnread_39 rfl hl (by decide) rfl (fun ls hl => ?_)
  suffices LP40 : ∀ (f9 : Nat) (k : Nat) (u9 : Int32 × Int32 × Bool), nn < k + f9 → (k ≤ nn) → ∀ (H : Heap) (locs : List Loc) (ls : Array Slot), va_P G.1 vwCl (wM G q σ ((0 : Int), u9)) H → va_D A (wM G q σ ((0 : Int), u9)) → va_S A s.heap H locs → lv_has ls 3 [(2, .int (zI ((k : Nat) : Int))), (0, .ref (q 0)), (1, .int (zI ((i : Nat) : Int)))] → W p l e r_X6_nextUnread s m av below meth c H locs 0 0 Q (F0 m 40 ls []) from LP40 (nn + 1) (0) ((u.1, u.2.1, u.2.2)) (by omega) (by omega) _ _ _ hP hD hS (lv_sub hl [0, 1, 2] rfl)
  intro f9
  induction f9 with
  | zero => intro k u9 hf9 hk; exfalso; omega
  | succ f9 ih40 =>
    intro k u9 hf9 hk H locs ls hP hD hS hl
    have hr9 := h3 k hk
    have hr8 : itA σ i ((k : Nat) : Int) < σ.1 4 := (fI_in _ _).2
    refine lv_aload_n hx hb dX6_nextUnread_40 rfl (lv_at hl 1 rfl) ?_
    refine lv_aload_n hx hb dX6_nextUnread_41 rfl (lv_at hl 1 rfl) ?_
    refine lv_iload_n hx hb dX6_nextUnread_42 rfl (lv_at hl 2 rfl) ?_
    refine lv_iload_n hx hb dX6_nextUnread_43 rfl (lv_at hl 0 rfl) ?_
    refine zfin_I ⟨rfl, rfl⟩ Z hD hS (zrunV (rest := [.ref (q 0)]) Z hP hD hS hl.1 (m_X6_itemAt l G q σ ((0 : Int), u9) (i) rfl ((k : Nat) : Int) hI h1 (by omega)) zY_X6_itemAt km_X6_195 (q0 := 0) rfl rfl rfl rfl ⟨⟨Nat.le_of_ble_eq_true rfl, Nat.le_of_ble_eq_true rfl⟩, Nat.le_of_ble_eq_true rfl, Nat.le_of_ble_eq_true rfl⟩ (Nat.le_of_ble_eq_true rfl) dX6_nextUnread_44) (fun r u H locs hp hP hD hS => ?_)
    obtain rfl : r = (zI (itA σ i ((k : Nat) : Int) : Int)) := hp
    refine zdet_I ⟨rfl, rfl⟩ Z hD hS (zrunV (rest := []) Z hP hD hS hl.1 (m_X6_isReadNow l G q σ ((0 : Int), u) ((itA σ i ((k : Nat) : Int)).toNat) (by omega) hI (by omega)) zY_X6_isReadNow km_X6_204 (q0 := 0) rfl rfl rfl rfl ⟨⟨Nat.le_of_ble_eq_true rfl, Nat.le_of_ble_eq_true rfl⟩, Nat.le_of_ble_eq_true rfl, Nat.le_of_ble_eq_true rfl⟩ (Nat.le_of_ble_eq_true rfl) dX6_nextUnread_47) (fun H locs hP hD hS => ?_)
    refine zb_eq (tgt := 59) hx hb dX6_nextUnread_50 (by decide) (fun c50 => ?_) (fun c50 => ?_)
    · skip
      refine lv_aload_n hx hb dX6_nextUnread_59 rfl (lv_at hl 1 rfl) ?_
      refine lv_iload_n hx hb dX6_nextUnread_60 rfl (lv_at hl 2 rfl) ?_
      refine lv_iload_n hx hb dX6_nextUnread_61 rfl (lv_at hl 0 rfl) ?_
      refine zfin_I ⟨rfl, rfl⟩ Z hD hS (zrunV (rest := []) Z hP hD hS hl.1 (m_X6_itemAt l G q σ ((0 : Int), u) (i) rfl ((k : Nat) : Int) hI h1 (by omega)) zY_X6_itemAt km_X6_195 (q0 := 0) rfl rfl rfl rfl ⟨⟨Nat.le_of_ble_eq_true rfl, Nat.le_of_ble_eq_true rfl⟩, Nat.le_of_ble_eq_true rfl, Nat.le_of_ble_eq_true rfl⟩ (Nat.le_of_ble_eq_true rfl) dX6_nextUnread_62) (fun r u H locs hp hP hD hS => ?_)
      obtain rfl : r = (zI (itA σ i ((k : Nat) : Int) : Int)) := hp
      exact zret_I (u) Z hr hP hD hS (congrArg zI (by rw [show k = nn from Nat.le_antisymm hk (Nat.le_of_not_lt (fun hlt => by have h9 := h4 k hlt; rw [h9] at c50; cases c50))])) rfl ⟨Nat.le_refl _, Nat.le_refl _⟩ hQ dX6_nextUnread_65
    · skip
      refine zr_iinc (lv' := [(2, .int (zI (((k : Nat) : Int) + (1 : Int)))), (0, .ref (q 0)), (1, .int (zI ((i : Nat) : Int)))]) hx hb 0 dX6_nextUnread_53 hl rfl (by decide) rfl (fun ls hl => ?_)
      refine lv_goto (tgt := 40) hx hb dX6_nextUnread_56 (by decide) ?_
      have h9 : k ≠ nn := fun e => by rw [e, h5] at c50; cases c50
      exact ih40 (k + 1) (u) (by omega) (by omega) _ _ _ hP hD hS (lv_sub hl [0, 1, 2] rfl)
abbrev r_X6_nextUnread_t1 : Room := { frames := 6, cells := 0, slots := 0, locals := 139 }
set_option maxHeartbeats 4000000 in
set_option maxRecDepth 100000 in
theorem m_X6_nextUnread_t1 (l : Launch) (G : ZG) (q : Nat → Nat) (σ : St) (κ : KM) (i : Int) (hI : okM σ) (h1 : zR i) (h2 : i < 0 ∨ ((σ.1 6 : Nat) : Int) ≤ i) :
    MC l G yX6_nextUnread (wY yX6_nextUnread cX6_nextUnread 3 (some .int)) r_X6_nextUnread_t1 (wM G q σ κ) [.ref (q 0), .int (zI (i : Int))] (QI G (fun r9 (_ : Unit) => r9 = (zI (0 : Int))) (fun _ => wM G q σ ((1 : Int), κ.2.1, κ.2.2.1, κ.2.2.2))) := by
  refine MC.mk (by decide +kernel) (Nat.le_of_ble_eq_true rfl) ?_
  intro p e s m av below meth c A H locs ls Q Z hr hnm hQ hP hD hS hl
  have hx := Z.1
  have hb := Z.2.1
  have hown := Z.2.2.2.1
  have hW := Z.2.2.2.2.1
  have hl : lv_has ls 3 [(0, .ref (q 0)), (1, .int (zI (i : Int)))] := hl
  obtain ⟨hn, hru, hrv, hdv, hsr, hmn, ht1, ht2, hwn, hv1, hv2, hmj, htm, hse, htg, hrt, hac, hk1, hk2, hkd, hmm, hmv, hpp, hpl, hp3, hp4, hp6, hp5, hp7, hnz⟩ := id hI
  refine lv_aload_n hx hb dX6_nextUnread_0 rfl (lv_at hl 0 rfl) ?_
  refine lv_aload_n hx hb dX6_nextUnread_1 rfl (lv_at hl 0 rfl) ?_
  refine lv_iload_n hx hb dX6_nextUnread_2 rfl (lv_at hl 1 rfl) ?_
  refine zdet_I ⟨rfl, rfl⟩ Z hD hS (zrunV (rest := [.ref (q 0)]) Z hP hD hS hl.1 (m_X6_isRiver l G q σ κ (i : Int) (by omega) (by omega)) zY_X6_isRiver km_X6_186 (q0 := 0) rfl rfl rfl rfl ⟨⟨Nat.le_of_ble_eq_true rfl, Nat.le_of_ble_eq_true rfl⟩, Nat.le_of_ble_eq_true rfl, Nat.le_of_ble_eq_true rfl⟩ (Nat.le_of_ble_eq_true rfl) dX6_nextUnread_3) (fun H locs hP hD hS => ?_)
  refine zb_ne (tgt := 13) hx hb dX6_nextUnread_6 (by decide) (fun c6 => by exfalso; have h9 := of_decide_eq_true c6; omega) (fun c6 => ?_)
  refine zr_iconst hx hb dX6_nextUnread_9 ?_
  refine lv_goto (tgt := 26) hx hb dX6_nextUnread_10 (by decide) ?_
  refine pM_0_23 Z hP hD hS kf_X6_80 dX6_nextUnread_26 (fun H locs hP hD hS => ?_)
  refine lv_aload_n hx hb dX6_nextUnread_29 rfl (lv_at hl 0 rfl) ?_
  refine gM_0_23 Z hP kf_X6_80 dX6_nextUnread_30 ?_
  refine zr_top (w := .int (zI (1 : Int))) rfl ?_
  refine zc0_le (tgt := 38) hx hb (1 : Int) (zI_toInt (by decide)) dX6_nextUnread_33 (by decide) (fun c33 => by exfalso; omega) (fun c33 => ?_)
  refine zr_iconst hx hb dX6_nextUnread_36 ?_
  exact zret_I () Z hr hP hD hS rfl rfl ⟨Nat.le_refl _, Nat.le_refl _⟩ hQ dX6_nextUnread_37
abbrev r_X6_nextUnread_t2 : Room := { frames := 6, cells := 0, slots := 0, locals := 139 }
set_option maxHeartbeats 4000000 in
set_option maxRecDepth 100000 in
theorem m_X6_nextUnread_t2 (l : Launch) (G : ZG) (q : Nat → Nat) (σ : St) (κ : KM) {e_i : Int} (i : Nat) (he_i : e_i = (i : Int)) (hI : okM σ) (h1 : i < σ.1 6) (h2 : cnt (fun y9 => shM σ i y9 && !rdR σ y9) (σ.1 4) = 0) :
    MC l G yX6_nextUnread (wY yX6_nextUnread cX6_nextUnread 3 (some .int)) r_X6_nextUnread_t2 (wM G q σ κ) [.ref (q 0), .int (zI e_i)] (QI G (S := Int32 × Int32 × Bool) (fun r9 (_ : Int32 × Int32 × Bool) => r9 = (zI (0 : Int))) (fun u => wM G q σ ((2 : Int), u))) := by
  subst he_i
  refine MC.mk (by decide +kernel) (Nat.le_of_ble_eq_true rfl) ?_
  intro p e s m av below meth c A H locs ls Q Z hr hnm hQ hP hD hS hl
  have hx := Z.1
  have hb := Z.2.1
  have hown := Z.2.2.2.1
  have hW := Z.2.2.2.2.1
  have hl : lv_has ls 3 [(0, .ref (q 0)), (1, .int (zI ((i : Nat) : Int)))] := hl
  obtain ⟨hn, hru, hrv, hdv, hsr, hmn, ht1, ht2, hwn, hv1, hv2, hmj, htm, hse, htg, hrt, hac, hk1, hk2, hkd, hmm, hmv, hpp, hpl, hp3, hp4, hp6, hp5, hp7, hnz⟩ := id hI
  have hc9 := cnt_le (fun y9 => shM σ i y9 && !rdR σ y9) (σ.1 4)
  refine lv_aload_n hx hb dX6_nextUnread_0 rfl (lv_at hl 0 rfl) ?_
  refine lv_aload_n hx hb dX6_nextUnread_1 rfl (lv_at hl 0 rfl) ?_
  refine lv_iload_n hx hb dX6_nextUnread_2 rfl (lv_at hl 1 rfl) ?_
  refine zdet_I ⟨rfl, rfl⟩ Z hD hS (zrunV (rest := [.ref (q 0)]) Z hP hD hS hl.1 (m_X6_isRiver l G q σ κ ((i : Nat) : Int) (by omega) (by omega)) zY_X6_isRiver km_X6_186 (q0 := 0) rfl rfl rfl rfl ⟨⟨Nat.le_of_ble_eq_true rfl, Nat.le_of_ble_eq_true rfl⟩, Nat.le_of_ble_eq_true rfl, Nat.le_of_ble_eq_true rfl⟩ (Nat.le_of_ble_eq_true rfl) dX6_nextUnread_3) (fun H locs hP hD hS => ?_)
  refine zb_ne (tgt := 13) hx hb dX6_nextUnread_6 (by decide) (fun c6 => ?_) (fun c6 => by exfalso; have h9 := of_decide_eq_false c6; omega)
  refine lv_aload_n hx hb dX6_nextUnread_13 rfl (lv_at hl 0 rfl) ?_
  refine lv_iload_n hx hb dX6_nextUnread_14 rfl (lv_at hl 1 rfl) ?_
  refine zfin_I ⟨rfl, rfl⟩ Z hD hS (zrunV (rest := [.ref (q 0)]) Z hP hD hS hl.1 (m_X6_unreadIn l G q σ κ (i) rfl hI (by omega)) zY_X6_unreadIn km_X6_207 (q0 := 0) rfl rfl rfl rfl ⟨⟨Nat.le_of_ble_eq_true rfl, Nat.le_of_ble_eq_true rfl⟩, Nat.le_of_ble_eq_true rfl, Nat.le_of_ble_eq_true rfl⟩ (Nat.le_of_ble_eq_true rfl) dX6_nextUnread_15) (fun r u H locs hp hP hD hS => ?_)
  obtain rfl : r = (zI ((cnt (fun y9 => shM σ i y9 && !rdR σ y9) (σ.1 4) : Nat) : Int)) := hp
  refine zc0_ne (tgt := 25) hx hb ((cnt (fun y9 => shM σ i y9 && !rdR σ y9) (σ.1 4) : Nat) : Int) (zI_toInt (by omega)) dX6_nextUnread_18 (by decide) (fun c18 => by exfalso; omega) (fun c18 => ?_)
  refine zr_iconst hx hb dX6_nextUnread_21 ?_
  refine lv_goto (tgt := 26) hx hb dX6_nextUnread_22 (by decide) ?_
  refine pM_0_23 Z hP hD hS kf_X6_80 dX6_nextUnread_26 (fun H locs hP hD hS => ?_)
  refine lv_aload_n hx hb dX6_nextUnread_29 rfl (lv_at hl 0 rfl) ?_
  refine gM_0_23 Z hP kf_X6_80 dX6_nextUnread_30 ?_
  refine zr_top (w := .int (zI (2 : Int))) rfl ?_
  refine zc0_le (tgt := 38) hx hb (2 : Int) (zI_toInt (by decide)) dX6_nextUnread_33 (by decide) (fun c33 => by exfalso; omega) (fun c33 => ?_)
  refine zr_iconst hx hb dX6_nextUnread_36 ?_
  exact zret_I ((u.1, u.2.1, u.2.2)) Z hr hP hD hS rfl rfl ⟨Nat.le_refl _, Nat.le_refl _⟩ hQ dX6_nextUnread_37
abbrev r_X6_readShare : Room := { frames := 5, cells := 0, slots := 0, locals := 114 }
set_option maxHeartbeats 4000000 in
set_option maxRecDepth 100000 in
theorem m_X6_readShare (l : Launch) (G : ZG) (q : Nat → Nat) (σ : St) (κ : KM) {e_i : Int} (i : Nat) (he_i : e_i = (i : Int)) (hI : okM σ) (h1 : i < σ.1 6) (h2 : 0 < cnt (shM σ i) (σ.1 4)) :
    MC l G yX6_readShare (wY yX6_readShare cX6_readShare 2 (some .float)) r_X6_readShare (wM G q σ κ) [.ref (q 0), .int (zI e_i)] (QF G (S := Int32 × Int32 × Bool) (fun r9 (_ : Int32 × Int32 × Bool) => r9 = (FP.fdiv (FP.i2f (zI (((cnt (shM σ i) (σ.1 4) - cnt (fun y9 => shM σ i y9 && !rdR σ y9) (σ.1 4) : Nat)) : Int))) (FP.i2f (zI ((cnt (shM σ i) (σ.1 4) : Nat) : Int))))) (fun u => wM G q σ ((0 : Int), u))) := by
  subst he_i
  refine MC.mk (by decide +kernel) (Nat.le_of_ble_eq_true rfl) ?_
  intro p e s m av below meth c A H locs ls Q Z hr hnm hQ hP hD hS hl
  have hx := Z.1
  have hb := Z.2.1
  have hown := Z.2.2.2.1
  have hW := Z.2.2.2.2.1
  have hl : lv_has ls 2 [(0, .ref (q 0)), (1, .int (zI ((i : Nat) : Int)))] := hl
  obtain ⟨hn, hru, hrv, hdv, hsr, hmn, ht1, ht2, hwn, hv1, hv2, hmj, htm, hse, htg, hrt, hac, hk1, hk2, hkd, hmm, hmv, hpp, hpl, hp3, hp4, hp6, hp5, hp7, hnz⟩ := id hI
  have hc9 := cnt_le (shM σ i) (σ.1 4)
  have hc8 : cnt (fun y9 => shM σ i y9 && !rdR σ y9) (σ.1 4) ≤ cnt (shM σ i) (σ.1 4) := cnt_mono (fun k h => (Bool.and_eq_true _ _ ▸ h).1) _
  refine lv_aload_n hx hb dX6_readShare_0 rfl (lv_at hl 0 rfl) ?_
  refine lv_aload_n hx hb dX6_readShare_1 rfl (lv_at hl 0 rfl) ?_
  refine lv_iload_n hx hb dX6_readShare_2 rfl (lv_at hl 1 rfl) ?_
  refine zdet_I ⟨rfl, rfl⟩ Z hD hS (zrunV (rest := [.ref (q 0)]) Z hP hD hS hl.1 (m_X6_isRiver l G q σ κ ((i : Nat) : Int) (by omega) (by omega)) zY_X6_isRiver km_X6_186 (q0 := 0) rfl rfl rfl rfl ⟨⟨Nat.le_of_ble_eq_true rfl, Nat.le_of_ble_eq_true rfl⟩, Nat.le_of_ble_eq_true rfl, Nat.le_of_ble_eq_true rfl⟩ (Nat.le_of_ble_eq_true rfl) dX6_readShare_3) (fun H locs hP hD hS => ?_)
  refine zb_ne (tgt := 13) hx hb dX6_readShare_6 (by decide) (fun c6 => ?_) (fun c6 => by exfalso; have h9 := of_decide_eq_false c6; omega)
  refine lv_aload_n hx hb dX6_readShare_13 rfl (lv_at hl 0 rfl) ?_
  refine lv_iload_n hx hb dX6_readShare_14 rfl (lv_at hl 1 rfl) ?_
  refine zfin_I ⟨rfl, rfl⟩ Z hD hS (zrunV (rest := [.ref (q 0)]) Z hP hD hS hl.1 (m_X6_sizeOf l G q σ κ (i) rfl hI (by omega)) zY_X6_sizeOf km_X6_189 (q0 := 0) rfl rfl rfl rfl ⟨⟨Nat.le_of_ble_eq_true rfl, Nat.le_of_ble_eq_true rfl⟩, Nat.le_of_ble_eq_true rfl, Nat.le_of_ble_eq_true rfl⟩ (Nat.le_of_ble_eq_true rfl) dX6_readShare_15) (fun r u H locs hp hP hD hS => ?_)
  obtain rfl : r = (zI ((cnt (shM σ i) (σ.1 4) : Nat) : Int)) := hp
  refine zc0_ne (tgt := 25) hx hb ((cnt (shM σ i) (σ.1 4) : Nat) : Int) (zI_toInt (by omega)) dX6_readShare_18 (by decide) (fun c18 => ?_) (fun c18 => by exfalso; omega)
  refine zr_iconst hx hb dX6_readShare_25 ?_
  refine pM_0_23 Z hP hD hS kf_X6_80 dX6_readShare_26 (fun H locs hP hD hS => ?_)
  refine lv_aload_n hx hb dX6_readShare_29 rfl (lv_at hl 0 rfl) ?_
  refine gM_0_23 Z hP kf_X6_80 dX6_readShare_30 ?_
  refine zr_top (w := .int (zI (0 : Int))) rfl ?_
  refine zc0_le (tgt := 40) hx hb (0 : Int) (zI_toInt (by decide)) dX6_readShare_33 (by decide) (fun c33 => ?_) (fun c33 => by exfalso; omega)
  refine lv_aload_n hx hb dX6_readShare_40 rfl (lv_at hl 0 rfl) ?_
  refine lv_iload_n hx hb dX6_readShare_41 rfl (lv_at hl 1 rfl) ?_
  refine zfin_I ⟨rfl, rfl⟩ Z hD hS (zrunV (rest := []) Z hP hD hS hl.1 (m_X6_sizeOf l G q σ ((0 : Int), u.1, u.2.1, u.2.2) (i) rfl hI (by omega)) zY_X6_sizeOf km_X6_189 (q0 := 0) rfl rfl rfl rfl ⟨⟨Nat.le_of_ble_eq_true rfl, Nat.le_of_ble_eq_true rfl⟩, Nat.le_of_ble_eq_true rfl, Nat.le_of_ble_eq_true rfl⟩ (Nat.le_of_ble_eq_true rfl) dX6_readShare_42) (fun r u H locs hp hP hD hS => ?_)
  obtain rfl : r = (zI ((cnt (shM σ i) (σ.1 4) : Nat) : Int)) := hp
  refine lv_aload_n hx hb dX6_readShare_45 rfl (lv_at hl 0 rfl) ?_
  refine lv_iload_n hx hb dX6_readShare_46 rfl (lv_at hl 1 rfl) ?_
  refine zfin_I ⟨rfl, rfl⟩ Z hD hS (zrunV (rest := [.int (zI ((cnt (shM σ i) (σ.1 4) : Nat) : Int))]) Z hP hD hS hl.1 (m_X6_unreadIn l G q σ ((0 : Int), u) (i) rfl hI (by omega)) zY_X6_unreadIn km_X6_207 (q0 := 0) rfl rfl rfl rfl ⟨⟨Nat.le_of_ble_eq_true rfl, Nat.le_of_ble_eq_true rfl⟩, Nat.le_of_ble_eq_true rfl, Nat.le_of_ble_eq_true rfl⟩ (Nat.le_of_ble_eq_true rfl) dX6_readShare_47) (fun r u H locs hp hP hD hS => ?_)
  obtain rfl : r = (zI ((cnt (fun y9 => shM σ i y9 && !rdR σ y9) (σ.1 4) : Nat) : Int)) := hp
  refine zr_isub hx hb dX6_readShare_50 ?_
  refine zr_top (w := .int (zI ((cnt (shM σ i) (σ.1 4) - cnt (fun y9 => shM σ i y9 && !rdR σ y9) (σ.1 4) : Nat) : Int))) (congrArg (fun z => Value.int (zI z)) (by omega)) ?_
  refine lv_i2f hx hb dX6_readShare_51 ?_
  refine lv_aload_n hx hb dX6_readShare_52 rfl (lv_at hl 0 rfl) ?_
  refine lv_iload_n hx hb dX6_readShare_53 rfl (lv_at hl 1 rfl) ?_
  refine zfin_I ⟨rfl, rfl⟩ Z hD hS (zrunV (rest := [.float (FP.i2f (zI ((cnt (shM σ i) (σ.1 4) - cnt (fun y9 => shM σ i y9 && !rdR σ y9) (σ.1 4) : Nat) : Int)))]) Z hP hD hS hl.1 (m_X6_sizeOf l G q σ ((0 : Int), u) (i) rfl hI (by omega)) zY_X6_sizeOf km_X6_189 (q0 := 0) rfl rfl rfl rfl ⟨⟨Nat.le_of_ble_eq_true rfl, Nat.le_of_ble_eq_true rfl⟩, Nat.le_of_ble_eq_true rfl, Nat.le_of_ble_eq_true rfl⟩ (Nat.le_of_ble_eq_true rfl) dX6_readShare_54) (fun r u H locs hp hP hD hS => ?_)
  obtain rfl : r = (zI ((cnt (shM σ i) (σ.1 4) : Nat) : Int)) := hp
  refine lv_i2f hx hb dX6_readShare_57 ?_
  refine lv_fdiv hx hb dX6_readShare_58 (fdiv_ok (by omega) (by omega) (by omega)) ?_
  exact zret_F (u) Z hr hP hD hS rfl rfl ⟨Nat.le_refl _, Nat.le_refl _⟩ hQ dX6_readShare_59
abbrev r_X6_readShare_t1 : Room := { frames := 5, cells := 0, slots := 0, locals := 114 }
set_option maxHeartbeats 4000000 in
set_option maxRecDepth 100000 in
theorem m_X6_readShare_t1 (l : Launch) (G : ZG) (q : Nat → Nat) (σ : St) (κ : KM) (i : Int) (hI : okM σ) (h1 : zR i) (h2 : i < 0 ∨ ((σ.1 6 : Nat) : Int) ≤ i) :
    MC l G yX6_readShare (wY yX6_readShare cX6_readShare 2 (some .float)) r_X6_readShare_t1 (wM G q σ κ) [.ref (q 0), .int (zI (i : Int))] (QF G (fun r9 (_ : Unit) => r9 = (FP.fconst0)) (fun _ => wM G q σ ((1 : Int), κ.2.1, κ.2.2.1, κ.2.2.2))) := by
  refine MC.mk (by decide +kernel) (Nat.le_of_ble_eq_true rfl) ?_
  intro p e s m av below meth c A H locs ls Q Z hr hnm hQ hP hD hS hl
  have hx := Z.1
  have hb := Z.2.1
  have hown := Z.2.2.2.1
  have hW := Z.2.2.2.2.1
  have hl : lv_has ls 2 [(0, .ref (q 0)), (1, .int (zI (i : Int)))] := hl
  obtain ⟨hn, hru, hrv, hdv, hsr, hmn, ht1, ht2, hwn, hv1, hv2, hmj, htm, hse, htg, hrt, hac, hk1, hk2, hkd, hmm, hmv, hpp, hpl, hp3, hp4, hp6, hp5, hp7, hnz⟩ := id hI
  refine lv_aload_n hx hb dX6_readShare_0 rfl (lv_at hl 0 rfl) ?_
  refine lv_aload_n hx hb dX6_readShare_1 rfl (lv_at hl 0 rfl) ?_
  refine lv_iload_n hx hb dX6_readShare_2 rfl (lv_at hl 1 rfl) ?_
  refine zdet_I ⟨rfl, rfl⟩ Z hD hS (zrunV (rest := [.ref (q 0)]) Z hP hD hS hl.1 (m_X6_isRiver l G q σ κ (i : Int) (by omega) (by omega)) zY_X6_isRiver km_X6_186 (q0 := 0) rfl rfl rfl rfl ⟨⟨Nat.le_of_ble_eq_true rfl, Nat.le_of_ble_eq_true rfl⟩, Nat.le_of_ble_eq_true rfl, Nat.le_of_ble_eq_true rfl⟩ (Nat.le_of_ble_eq_true rfl) dX6_readShare_3) (fun H locs hP hD hS => ?_)
  refine zb_ne (tgt := 13) hx hb dX6_readShare_6 (by decide) (fun c6 => by exfalso; have h9 := of_decide_eq_true c6; omega) (fun c6 => ?_)
  refine zr_iconst hx hb dX6_readShare_9 ?_
  refine lv_goto (tgt := 26) hx hb dX6_readShare_10 (by decide) ?_
  refine pM_0_23 Z hP hD hS kf_X6_80 dX6_readShare_26 (fun H locs hP hD hS => ?_)
  refine lv_aload_n hx hb dX6_readShare_29 rfl (lv_at hl 0 rfl) ?_
  refine gM_0_23 Z hP kf_X6_80 dX6_readShare_30 ?_
  refine zr_top (w := .int (zI (1 : Int))) rfl ?_
  refine zc0_le (tgt := 40) hx hb (1 : Int) (zI_toInt (by decide)) dX6_readShare_33 (by decide) (fun c33 => by exfalso; omega) (fun c33 => ?_)
  refine lv_fconst0 hx hb dX6_readShare_36 ?_
  refine lv_goto (tgt := 59) hx hb dX6_readShare_37 (by decide) ?_
  exact zret_F () Z hr hP hD hS rfl rfl ⟨Nat.le_refl _, Nat.le_refl _⟩ hQ dX6_readShare_59
abbrev r_X6_readShare_t2 : Room := { frames := 5, cells := 0, slots := 0, locals := 114 }
set_option maxHeartbeats 4000000 in
set_option maxRecDepth 100000 in
theorem m_X6_readShare_t2 (l : Launch) (G : ZG) (q : Nat → Nat) (σ : St) (κ : KM) {e_i : Int} (i : Nat) (he_i : e_i = (i : Int)) (hI : okM σ) (h1 : i < σ.1 6) (h2 : cnt (shM σ i) (σ.1 4) = 0) :
    MC l G yX6_readShare (wY yX6_readShare cX6_readShare 2 (some .float)) r_X6_readShare_t2 (wM G q σ κ) [.ref (q 0), .int (zI e_i)] (QF G (S := Int32 × Int32 × Bool) (fun r9 (_ : Int32 × Int32 × Bool) => r9 = (FP.fconst0)) (fun u => wM G q σ ((2 : Int), u))) := by
  subst he_i
  refine MC.mk (by decide +kernel) (Nat.le_of_ble_eq_true rfl) ?_
  intro p e s m av below meth c A H locs ls Q Z hr hnm hQ hP hD hS hl
  have hx := Z.1
  have hb := Z.2.1
  have hown := Z.2.2.2.1
  have hW := Z.2.2.2.2.1
  have hl : lv_has ls 2 [(0, .ref (q 0)), (1, .int (zI ((i : Nat) : Int)))] := hl
  obtain ⟨hn, hru, hrv, hdv, hsr, hmn, ht1, ht2, hwn, hv1, hv2, hmj, htm, hse, htg, hrt, hac, hk1, hk2, hkd, hmm, hmv, hpp, hpl, hp3, hp4, hp6, hp5, hp7, hnz⟩ := id hI
  have hc9 := cnt_le (shM σ i) (σ.1 4)
  have hc8 : cnt (fun y9 => shM σ i y9 && !rdR σ y9) (σ.1 4) ≤ cnt (shM σ i) (σ.1 4) := cnt_mono (fun k h => (Bool.and_eq_true _ _ ▸ h).1) _
  refine lv_aload_n hx hb dX6_readShare_0 rfl (lv_at hl 0 rfl) ?_
  refine lv_aload_n hx hb dX6_readShare_1 rfl (lv_at hl 0 rfl) ?_
  refine lv_iload_n hx hb dX6_readShare_2 rfl (lv_at hl 1 rfl) ?_
  refine zdet_I ⟨rfl, rfl⟩ Z hD hS (zrunV (rest := [.ref (q 0)]) Z hP hD hS hl.1 (m_X6_isRiver l G q σ κ ((i : Nat) : Int) (by omega) (by omega)) zY_X6_isRiver km_X6_186 (q0 := 0) rfl rfl rfl rfl ⟨⟨Nat.le_of_ble_eq_true rfl, Nat.le_of_ble_eq_true rfl⟩, Nat.le_of_ble_eq_true rfl, Nat.le_of_ble_eq_true rfl⟩ (Nat.le_of_ble_eq_true rfl) dX6_readShare_3) (fun H locs hP hD hS => ?_)
  refine zb_ne (tgt := 13) hx hb dX6_readShare_6 (by decide) (fun c6 => ?_) (fun c6 => by exfalso; have h9 := of_decide_eq_false c6; omega)
  refine lv_aload_n hx hb dX6_readShare_13 rfl (lv_at hl 0 rfl) ?_
  refine lv_iload_n hx hb dX6_readShare_14 rfl (lv_at hl 1 rfl) ?_
  refine zfin_I ⟨rfl, rfl⟩ Z hD hS (zrunV (rest := [.ref (q 0)]) Z hP hD hS hl.1 (m_X6_sizeOf l G q σ κ (i) rfl hI (by omega)) zY_X6_sizeOf km_X6_189 (q0 := 0) rfl rfl rfl rfl ⟨⟨Nat.le_of_ble_eq_true rfl, Nat.le_of_ble_eq_true rfl⟩, Nat.le_of_ble_eq_true rfl, Nat.le_of_ble_eq_true rfl⟩ (Nat.le_of_ble_eq_true rfl) dX6_readShare_15) (fun r u H locs hp hP hD hS => ?_)
  obtain rfl : r = (zI ((cnt (shM σ i) (σ.1 4) : Nat) : Int)) := hp
  refine zc0_ne (tgt := 25) hx hb ((cnt (shM σ i) (σ.1 4) : Nat) : Int) (zI_toInt (by omega)) dX6_readShare_18 (by decide) (fun c18 => by exfalso; omega) (fun c18 => ?_)
  refine zr_iconst hx hb dX6_readShare_21 ?_
  refine lv_goto (tgt := 26) hx hb dX6_readShare_22 (by decide) ?_
  refine pM_0_23 Z hP hD hS kf_X6_80 dX6_readShare_26 (fun H locs hP hD hS => ?_)
  refine lv_aload_n hx hb dX6_readShare_29 rfl (lv_at hl 0 rfl) ?_
  refine gM_0_23 Z hP kf_X6_80 dX6_readShare_30 ?_
  refine zr_top (w := .int (zI (2 : Int))) rfl ?_
  refine zc0_le (tgt := 40) hx hb (2 : Int) (zI_toInt (by decide)) dX6_readShare_33 (by decide) (fun c33 => by exfalso; omega) (fun c33 => ?_)
  refine lv_fconst0 hx hb dX6_readShare_36 ?_
  refine lv_goto (tgt := 59) hx hb dX6_readShare_37 (by decide) ?_
  exact zret_F ((u.1, u.2.1, u.2.2)) Z hr hP hD hS rfl rfl ⟨Nat.le_refl _, Nat.le_refl _⟩ hQ dX6_readShare_59
abbrev r_X6_addDevice : Room := { frames := 1, cells := 0, slots := 0, locals := 23 }
set_option maxHeartbeats 4000000 in
set_option maxRecDepth 100000 in
theorem m_X6_addDevice (l : Launch) (G : ZG) (q : Nat → Nat) (σ : St) (κ : KM)  (hI : okM σ) (h1 : σ.1 7 < 4) :
    MC l G yX6_addDevice (wY yX6_addDevice cX6_addDevice 2 (some .int)) r_X6_addDevice (wM G q σ κ) [.ref (q 0)] (QI G (fun r9 (_ : Unit) => r9 = (zI ((σ.1 7 : Nat) : Int))) (fun _ => wM G q (advM σ) ((0 : Int), κ.2.1, κ.2.2.1, κ.2.2.2))) := by
  refine MC.mk (by decide +kernel) (Nat.le_of_ble_eq_true rfl) ?_
  intro p e s m av below meth c A H locs ls Q Z hr hnm hQ hP hD hS hl
  have hx := Z.1
  have hb := Z.2.1
  have hown := Z.2.2.2.1
  have hW := Z.2.2.2.2.1
  have hl : lv_has ls 2 [(0, .ref (q 0))] := hl
  obtain ⟨hn, hru, hrv, hdv, hsr, hmn, ht1, ht2, hwn, hv1, hv2, hmj, htm, hse, htg, hrt, hac, hk1, hk2, hkd, hmm, hmv, hpp, hpl, hp3, hp4, hp6, hp5, hp7, hnz⟩ := id hI
  refine lv_aload_n hx hb dX6_addDevice_0 rfl (lv_at hl 0 rfl) ?_
  refine lv_aload_n hx hb dX6_addDevice_1 rfl (lv_at hl 0 rfl) ?_
  refine gM_0_33 Z hP kf_X6_111 dX6_addDevice_2 ?_
  refine zr_iconst hx hb dX6_addDevice_5 ?_
  refine zc_ge (tgt := 13) hx hb ((σ.1 7 : Nat) : Int) (4 : Int) (zI_toInt (by omega)) (zI_toInt (by decide)) dX6_addDevice_6 (by decide) (fun c6 => by exfalso; omega) (fun c6 => ?_)
  refine zr_iconst hx hb dX6_addDevice_9 ?_
  refine lv_goto (tgt := 14) hx hb dX6_addDevice_10 (by decide) ?_
  refine zr_top (w := .int (tB (true))) (congrArg Value.int (tB_1 rfl)) ?_
  refine zdet_I ⟨rfl, rfl⟩ Z hD hS (zrunV (rest := []) Z hP hD hS hl.1 (m_X6_checked l G q σ κ (true) rfl) zY_X6_checked km_X6_137 (q0 := 0) rfl rfl rfl rfl ⟨⟨Nat.le_of_ble_eq_true rfl, Nat.le_of_ble_eq_true rfl⟩, Nat.le_of_ble_eq_true rfl, Nat.le_of_ble_eq_true rfl⟩ (Nat.le_of_ble_eq_true rfl) dX6_addDevice_14) (fun H locs hP hD hS => ?_)
  refine zc0_le (tgt := 22) hx hb (0 : Int) (zI_toInt (by decide)) dX6_addDevice_17 (by decide) (fun c17 => ?_) (fun c17 => by exfalso; omega)
  refine zr_iconst hx hb dX6_addDevice_22 ?_
  refine lv_istore_n (lv' := [(1, .int (zI (0 : Int))), (0, .ref (q 0))]) hx hb dX6_addDevice_23 rfl hl (by decide) rfl (fun ls hl => ?_)
  suffices LP24 : ∀ (f9 : Nat) (k : Nat), σ.1 4 < k + f9 → (k ≤ σ.1 4) → ∀ (H : Heap) (locs : List Loc) (ls : Array Slot), va_P G.1 vwCl (wM G q (cpN σ (σ.1 7) k) (0, κ.2.1, κ.2.2.1, κ.2.2.2)) H → va_D A (wM G q (cpN σ (σ.1 7) k) (0, κ.2.1, κ.2.2.1, κ.2.2.2)) → va_S A s.heap H locs → lv_has ls 2 [(1, .int (zI ((k : Nat) : Int))), (0, .ref (q 0))] → W p l e r_X6_addDevice s m av below meth c H locs 0 0 Q (F0 m 24 ls []) from LP24 (σ.1 4 + 1) (0) (by omega) (by omega) _ _ _ hP hD hS (lv_sub hl [0, 1] rfl)
  intro f9
  induction f9 with
  | zero => intro k hf9 hk; exfalso; omega
  | succ f9 ih24 =>
    intro k hf9 hk H locs ls hP hD hS hl
    have ho9 := cpN_ok hI (σ.1 7) k
    have hN9 : (cpN σ (σ.1 7) k).1 4 = σ.1 4 := by rw [ho9.2]
    have hN8 : (cpN σ (σ.1 7) k).1 7 = σ.1 7 := by rw [ho9.2]
    have hN7 : (lrN (cpN σ (σ.1 7) k) (σ.1 7) ((cpN σ (σ.1 7) k).1 4)).1 7 = σ.1 7 := by rw [(lrN_ok ho9.1 _ _).2, hN8]
    refine lv_iload_n hx hb dX6_addDevice_24 rfl (lv_at hl 0 rfl) ?_
    refine lv_aload_n hx hb dX6_addDevice_25 rfl (lv_at hl 1 rfl) ?_
    refine gM_0_28 Z hP kf_X6_96 dX6_addDevice_26 ?_
    refine zc_ge (tgt := 48) hx hb ((k : Nat) : Int) ((((cpN σ (σ.1 7) k)).1 4 : Nat) : Int) (zI_toInt (by omega)) (zI_toInt (by omega)) dX6_addDevice_29 (by decide) (fun c29 => ?_) (fun c29 => ?_)
    · skip
      refine lv_aload_n hx hb dX6_addDevice_48 rfl (lv_at hl 1 rfl) ?_
      refine lv_aload_n hx hb dX6_addDevice_49 rfl (lv_at hl 1 rfl) ?_
      refine gM_0_33 Z hP kf_X6_111 dX6_addDevice_50 ?_
      refine zdet_V ⟨rfl, rfl⟩ Z hD hS (zrunV (rest := []) Z hP hD hS hl.1 (m_X6_learns l G q (cpN σ (σ.1 7) k) (0, κ.2.1, κ.2.2.1, κ.2.2.2) ((σ.1 7)) (by omega) ho9.1 h1) zY_X6_learns km_X6_214 (q0 := 0) rfl rfl rfl rfl ⟨⟨Nat.le_of_ble_eq_true rfl, Nat.le_of_ble_eq_true rfl⟩, Nat.le_of_ble_eq_true rfl, Nat.le_of_ble_eq_true rfl⟩ (Nat.le_of_ble_eq_true rfl) dX6_addDevice_53) (fun H locs hP hD hS => ?_)
      refine lv_aload_n hx hb dX6_addDevice_56 rfl (lv_at hl 1 rfl) ?_
      refine lv_dup hx hb dX6_addDevice_57 rfl ?_
      refine gM_0_33 Z hP kf_X6_111 dX6_addDevice_58 ?_
      refine zr_iconst hx hb dX6_addDevice_61 ?_
      refine zr_iadd hx hb dX6_addDevice_62 ?_
      refine pM_0_33 Z hP hD hS (σ.1 7 + 1) (by omega) kf_X6_111 dX6_addDevice_63 (fun H locs hP hD hS => ?_)
      refine lv_aload_n hx hb dX6_addDevice_66 rfl (lv_at hl 1 rfl) ?_
      refine gM_0_33 Z hP kf_X6_111 dX6_addDevice_67 ?_
      refine zr_top (w := .int (zI ((σ.1 7 + 1 : Nat) : Int))) rfl ?_
      refine zr_iconst hx hb dX6_addDevice_70 ?_
      refine zr_isub hx hb dX6_addDevice_71 ?_
      exact zret_I () Z hr hP hD hS (congrArg zI (by show ((σ.1 7 + 1 : Nat) : Int) - 1 = _; omega)) (by rw [hN9, show k = σ.1 4 from by omega] <;> rfl) ⟨Nat.le_refl _, Nat.le_refl _⟩ hQ dX6_addDevice_72
    · skip
      refine lv_aload_n hx hb dX6_addDevice_32 rfl (lv_at hl 1 rfl) ?_
      refine zr_iconst hx hb dX6_addDevice_33 ?_
      refine lv_aload_n hx hb dX6_addDevice_34 rfl (lv_at hl 1 rfl) ?_
      refine gM_0_33 Z hP kf_X6_111 dX6_addDevice_35 ?_
      refine lv_iload_n hx hb dX6_addDevice_38 rfl (lv_at hl 0 rfl) ?_
      refine zdet_V ⟨rfl, rfl⟩ Z hD hS (zrunV (rest := []) Z hP hD hS hl.1 (m_X6_copies l G q (cpN σ (σ.1 7) k) (0, κ.2.1, κ.2.2.1, κ.2.2.2) (4) (by omega) ((σ.1 7)) (by omega) (k) rfl (by omega) (by omega) (by omega)) zY_X6_copies km_X6_210 (q0 := 0) rfl rfl rfl rfl ⟨⟨Nat.le_of_ble_eq_true rfl, Nat.le_of_ble_eq_true rfl⟩, Nat.le_of_ble_eq_true rfl, Nat.le_of_ble_eq_true rfl⟩ (Nat.le_of_ble_eq_true rfl) dX6_addDevice_39) (fun H locs hP hD hS => ?_)
      refine zr_iinc (lv' := [(1, .int (zI (((k : Nat) : Int) + (1 : Int)))), (0, .ref (q 0))]) hx hb 0 dX6_addDevice_42 hl rfl (by decide) rfl (fun ls hl => ?_)
      refine lv_goto (tgt := 24) hx hb dX6_addDevice_45 (by decide) ?_
      have hw9 : wM G q (cpM (cpN σ (σ.1 7) k) 4 ((σ.1 7)) k) (0, κ.2.1, κ.2.2.1, κ.2.2.2) = wM G q (cpN σ (σ.1 7) (k + 1)) (0, κ.2.1, κ.2.2.1, κ.2.2.2) := rfl
      rw [hw9] at hP hD
      exact ih24 (k + 1) (by omega) (by omega) _ _ _ hP hD hS (lv_sub hl [0, 1] rfl)
abbrev r_X6_addDevice_t1 : Room := { frames := 1, cells := 0, slots := 0, locals := 23 }
set_option maxHeartbeats 4000000 in
set_option maxRecDepth 100000 in
theorem m_X6_addDevice_t1 (l : Launch) (G : ZG) (q : Nat → Nat) (σ : St) (κ : KM)  (hI : okM σ) (h1 : σ.1 7 = 4) :
    MC l G yX6_addDevice (wY yX6_addDevice cX6_addDevice 2 (some .int)) r_X6_addDevice_t1 (wM G q σ κ) [.ref (q 0)] (QI G (fun r9 (_ : Unit) => r9 = (zI (0 : Int))) (fun _ => wM G q σ ((1 : Int), κ.2.1, κ.2.2.1, κ.2.2.2))) := by
  refine MC.mk (by decide +kernel) (Nat.le_of_ble_eq_true rfl) ?_
  intro p e s m av below meth c A H locs ls Q Z hr hnm hQ hP hD hS hl
  have hx := Z.1
  have hb := Z.2.1
  have hown := Z.2.2.2.1
  have hW := Z.2.2.2.2.1
  have hl : lv_has ls 2 [(0, .ref (q 0))] := hl
  obtain ⟨hn, hru, hrv, hdv, hsr, hmn, ht1, ht2, hwn, hv1, hv2, hmj, htm, hse, htg, hrt, hac, hk1, hk2, hkd, hmm, hmv, hpp, hpl, hp3, hp4, hp6, hp5, hp7, hnz⟩ := id hI
  refine lv_aload_n hx hb dX6_addDevice_0 rfl (lv_at hl 0 rfl) ?_
  refine lv_aload_n hx hb dX6_addDevice_1 rfl (lv_at hl 0 rfl) ?_
  refine gM_0_33 Z hP kf_X6_111 dX6_addDevice_2 ?_
  refine zr_iconst hx hb dX6_addDevice_5 ?_
  refine zc_ge (tgt := 13) hx hb ((σ.1 7 : Nat) : Int) (4 : Int) (zI_toInt (by omega)) (zI_toInt (by decide)) dX6_addDevice_6 (by decide) (fun c6 => ?_) (fun c6 => by exfalso; omega)
  refine zr_iconst hx hb dX6_addDevice_13 ?_
  refine zr_top (w := .int (tB (false))) (congrArg Value.int (tB_0 rfl)) ?_
  refine zdet_I ⟨rfl, rfl⟩ Z hD hS (zrunV (rest := []) Z hP hD hS hl.1 (m_X6_checked_n l G q σ κ (false) rfl) zY_X6_checked km_X6_137 (q0 := 0) rfl rfl rfl rfl ⟨⟨Nat.le_of_ble_eq_true rfl, Nat.le_of_ble_eq_true rfl⟩, Nat.le_of_ble_eq_true rfl, Nat.le_of_ble_eq_true rfl⟩ (Nat.le_of_ble_eq_true rfl) dX6_addDevice_14) (fun H locs hP hD hS => ?_)
  refine zc0_le (tgt := 22) hx hb (1 : Int) (zI_toInt (by decide)) dX6_addDevice_17 (by decide) (fun c17 => by exfalso; omega) (fun c17 => ?_)
  refine zr_iconst hx hb dX6_addDevice_20 ?_
  exact zret_I () Z hr hP hD hS rfl rfl ⟨Nat.le_refl _, Nat.le_refl _⟩ hQ dX6_addDevice_21
abbrev r_X6_mark : Room := { frames := 2, cells := 0, slots := 0, locals := 45 }
set_option maxHeartbeats 4000000 in
set_option maxRecDepth 100000 in
theorem m_X6_mark (l : Launch) (G : ZG) (q : Nat → Nat) (σ : St) (κ : KM) {e_d : Int} (d : Nat) (he_d : e_d = (d : Int)) {e_i : Int} (i : Nat) (he_i : e_i = (i : Int)) (b : Bool) (hI : okM σ) (h1 : i < σ.1 4) (h2 : d < σ.1 7) (h3 : 0 < σ.2.1 4 (30 * d + i)) :
    MC l G yX6_mark (wY yX6_mark cX6_mark 5 (some .boolean)) r_X6_mark (wM G q σ κ) [.ref (q 0), .int (zI e_d), .int (zI e_i), .int (tB (b))] (QI G (fun r9 (_ : Unit) => r9 = (tB (rdD σ d i))) (fun _ => wM G q (mkS σ d i b) ((0 : Int), κ.2.1, κ.2.2.1, κ.2.2.2))) := by
  subst he_d
  subst he_i
  refine MC.mk (by decide +kernel) (Nat.le_of_ble_eq_true rfl) ?_
  intro p e s m av below meth c A H locs ls Q Z hr hnm hQ hP hD hS hl
  have hx := Z.1
  have hb := Z.2.1
  have hown := Z.2.2.2.1
  have hW := Z.2.2.2.2.1
  have hl : lv_has ls 5 [(0, .ref (q 0)), (1, .int (zI ((d : Nat) : Int))), (2, .int (zI ((i : Nat) : Int))), (3, .int (tB (b)))] := hl
  obtain ⟨hn, hru, hrv, hdv, hsr, hmn, ht1, ht2, hwn, hv1, hv2, hmj, htm, hse, htg, hrt, hac, hk1, hk2, hkd, hmm, hmv, hpp, hpl, hp3, hp4, hp6, hp5, hp7, hnz⟩ := id hI
  refine lv_aload_n hx hb dX6_mark_0 rfl (lv_at hl 0 rfl) ?_
  refine lv_aload_n hx hb dX6_mark_1 rfl (lv_at hl 0 rfl) ?_
  refine lv_iload_n hx hb dX6_mark_2 rfl (lv_at hl 1 rfl) ?_
  refine zdet_I ⟨rfl, rfl⟩ Z hD hS (zrunV (rest := [.ref (q 0)]) Z hP hD hS hl.1 (m_X6_isDevice l G q σ κ ((d : Nat) : Int) (by omega) (by omega)) zY_X6_isDevice km_X6_217 (q0 := 0) rfl rfl rfl rfl ⟨⟨Nat.le_of_ble_eq_true rfl, Nat.le_of_ble_eq_true rfl⟩, Nat.le_of_ble_eq_true rfl, Nat.le_of_ble_eq_true rfl⟩ (Nat.le_of_ble_eq_true rfl) dX6_mark_3) (fun H locs hP hD hS => ?_)
  refine zb_eq (tgt := 17) hx hb dX6_mark_6 (by decide) (fun c6 => by exfalso; have h9 := of_decide_eq_false c6; omega) (fun c6 => ?_)
  refine lv_aload_n hx hb dX6_mark_9 rfl (lv_at hl 0 rfl) ?_
  refine lv_iload_n hx hb dX6_mark_10 rfl (lv_at hl 2 rfl) ?_
  refine zdet_I ⟨rfl, rfl⟩ Z hD hS (zrunV (rest := [.ref (q 0)]) Z hP hD hS hl.1 (m_X6_isItem l G q σ κ ((i : Nat) : Int) (by omega) (by omega)) zY_X6_isItem km_X6_171 (q0 := 0) rfl rfl rfl rfl ⟨⟨Nat.le_of_ble_eq_true rfl, Nat.le_of_ble_eq_true rfl⟩, Nat.le_of_ble_eq_true rfl, Nat.le_of_ble_eq_true rfl⟩ (Nat.le_of_ble_eq_true rfl) dX6_mark_11) (fun H locs hP hD hS => ?_)
  refine zb_ne (tgt := 21) hx hb dX6_mark_14 (by decide) (fun c14 => ?_) (fun c14 => by exfalso; have h9 := of_decide_eq_false c14; omega)
  refine lv_aload_n hx hb dX6_mark_21 rfl (lv_at hl 0 rfl) ?_
  refine lv_iload_n hx hb dX6_mark_22 rfl (lv_at hl 1 rfl) ?_
  refine lv_iload_n hx hb dX6_mark_23 rfl (lv_at hl 2 rfl) ?_
  refine zdet_I ⟨rfl, rfl⟩ Z hD hS (zrunV (rest := [.ref (q 0)]) Z hP hD hS hl.1 (m_X6_knows l G q σ κ (d) rfl (i) rfl (by omega) (by omega) (hk1 _)) zY_X6_knows km_X6_220 (q0 := 0) rfl rfl rfl rfl ⟨⟨Nat.le_of_ble_eq_true rfl, Nat.le_of_ble_eq_true rfl⟩, Nat.le_of_ble_eq_true rfl, Nat.le_of_ble_eq_true rfl⟩ (Nat.le_of_ble_eq_true rfl) dX6_mark_24) (fun H locs hP hD hS => ?_)
  refine zb_ne (tgt := 34) hx hb dX6_mark_27 (by decide) (fun c27 => ?_) (fun c27 => by exfalso; have h9 := of_decide_eq_false c27; omega)
  refine zr_iconst hx hb dX6_mark_34 ?_
  refine pM_0_23 Z hP hD hS kf_X6_80 dX6_mark_35 (fun H locs hP hD hS => ?_)
  refine lv_aload_n hx hb dX6_mark_38 rfl (lv_at hl 0 rfl) ?_
  refine gM_0_23 Z hP kf_X6_80 dX6_mark_39 ?_
  refine zr_top (w := .int (zI (0 : Int))) rfl ?_
  refine zc0_le (tgt := 47) hx hb (0 : Int) (zI_toInt (by decide)) dX6_mark_42 (by decide) (fun c42 => ?_) (fun c42 => by exfalso; omega)
  refine lv_aload_n hx hb dX6_mark_47 rfl (lv_at hl 0 rfl) ?_
  refine lv_iload_n hx hb dX6_mark_48 rfl (lv_at hl 1 rfl) ?_
  refine lv_iload_n hx hb dX6_mark_49 rfl (lv_at hl 2 rfl) ?_
  refine zdet_I ⟨rfl, rfl⟩ Z hD hS (zrunV (rest := []) Z hP hD hS hl.1 (m_X6_isReadAt l G q σ ((0 : Int), κ.2.1, κ.2.2.1, κ.2.2.2) (d) rfl (i) rfl hI (by omega) (by omega)) zY_X6_isReadAt km_X6_223 (q0 := 0) rfl rfl rfl rfl ⟨⟨Nat.le_of_ble_eq_true rfl, Nat.le_of_ble_eq_true rfl⟩, Nat.le_of_ble_eq_true rfl, Nat.le_of_ble_eq_true rfl⟩ (Nat.le_of_ble_eq_true rfl) dX6_mark_50) (fun H locs hP hD hS => ?_)
  refine zr_top (w := .int (tB (rdD σ d i))) rfl ?_
  refine lv_istore (lv' := [(4, .int (tB (rdD σ d i))), (0, .ref (q 0)), (1, .int (zI ((d : Nat) : Int))), (2, .int (zI ((i : Nat) : Int))), (3, .int (tB (b)))]) hx hb dX6_mark_53 hl (by decide) rfl (fun ls hl => ?_)
  refine lv_aload_n hx hb dX6_mark_55 rfl (lv_at hl 1 rfl) ?_
  refine lv_iload_n hx hb dX6_mark_56 rfl (lv_at hl 2 rfl) ?_
  refine lv_iload_n hx hb dX6_mark_57 rfl (lv_at hl 3 rfl) ?_
  refine lv_iload_n hx hb dX6_mark_58 rfl (lv_at hl 4 rfl) ?_
  refine zdet_V ⟨rfl, rfl⟩ Z hD hS (zrunV (rest := []) Z hP hD hS hl.1 (m_X6_marks l G q σ ((0 : Int), κ.2.1, κ.2.2.1, κ.2.2.2) (d) rfl (i) rfl (b) (by omega) (by omega) h3) zY_X6_marks km_X6_226 (q0 := 0) rfl rfl rfl rfl ⟨⟨Nat.le_of_ble_eq_true rfl, Nat.le_of_ble_eq_true rfl⟩, Nat.le_of_ble_eq_true rfl, Nat.le_of_ble_eq_true rfl⟩ (Nat.le_of_ble_eq_true rfl) dX6_mark_59) (fun H locs hP hD hS => ?_)
  refine lv_iload hx hb dX6_mark_62 (lv_at hl 0 rfl) ?_
  exact zret_B () Z hr (tB_n _) hP hD hS rfl rfl ⟨Nat.le_refl _, Nat.le_refl _⟩ hQ dX6_mark_64
abbrev r_X6_mark_t1 : Room := { frames := 2, cells := 0, slots := 0, locals := 45 }
set_option maxHeartbeats 4000000 in
set_option maxRecDepth 100000 in
theorem m_X6_mark_t1 (l : Launch) (G : ZG) (q : Nat → Nat) (σ : St) (κ : KM) (d : Int) (i : Int) (b : Bool) (hI : okM σ) (h1 : zR d ∧ zR i) (h2 : (d < 0 ∨ ((σ.1 7 : Nat) : Int) ≤ d) ∨ i < 0 ∨ ((σ.1 4 : Nat) : Int) ≤ i) :
    MC l G yX6_mark (wY yX6_mark cX6_mark 5 (some .boolean)) r_X6_mark_t1 (wM G q σ κ) [.ref (q 0), .int (zI (d : Int)), .int (zI (i : Int)), .int (tB (b))] (QI G (fun r9 (_ : Unit) => r9 = (tB (false))) (fun _ => wM G q σ ((1 : Int), κ.2.1, κ.2.2.1, κ.2.2.2))) := by
  refine MC.mk (by decide +kernel) (Nat.le_of_ble_eq_true rfl) ?_
  intro p e s m av below meth c A H locs ls Q Z hr hnm hQ hP hD hS hl
  have hx := Z.1
  have hb := Z.2.1
  have hown := Z.2.2.2.1
  have hW := Z.2.2.2.2.1
  have hl : lv_has ls 5 [(0, .ref (q 0)), (1, .int (zI (d : Int))), (2, .int (zI (i : Int))), (3, .int (tB (b)))] := hl
  obtain ⟨hn, hru, hrv, hdv, hsr, hmn, ht1, ht2, hwn, hv1, hv2, hmj, htm, hse, htg, hrt, hac, hk1, hk2, hkd, hmm, hmv, hpp, hpl, hp3, hp4, hp6, hp5, hp7, hnz⟩ := id hI
  refine lv_aload_n hx hb dX6_mark_0 rfl (lv_at hl 0 rfl) ?_
  refine lv_aload_n hx hb dX6_mark_1 rfl (lv_at hl 0 rfl) ?_
  refine lv_iload_n hx hb dX6_mark_2 rfl (lv_at hl 1 rfl) ?_
  refine zdet_I ⟨rfl, rfl⟩ Z hD hS (zrunV (rest := [.ref (q 0)]) Z hP hD hS hl.1 (m_X6_isDevice l G q σ κ (d : Int) (by omega) (by omega)) zY_X6_isDevice km_X6_217 (q0 := 0) rfl rfl rfl rfl ⟨⟨Nat.le_of_ble_eq_true rfl, Nat.le_of_ble_eq_true rfl⟩, Nat.le_of_ble_eq_true rfl, Nat.le_of_ble_eq_true rfl⟩ (Nat.le_of_ble_eq_true rfl) dX6_mark_3) (fun H locs hP hD hS => ?_)
  refine zb_eq (tgt := 17) hx hb dX6_mark_6 (by decide) (fun c6 => ?_) (fun c6 => ?_)
  · skip
    refine zr_iconst hx hb dX6_mark_17 ?_
    refine lv_goto (tgt := 35) hx hb dX6_mark_18 (by decide) ?_
    refine pM_0_23 Z hP hD hS kf_X6_80 dX6_mark_35 (fun H locs hP hD hS => ?_)
    refine lv_aload_n hx hb dX6_mark_38 rfl (lv_at hl 0 rfl) ?_
    refine gM_0_23 Z hP kf_X6_80 dX6_mark_39 ?_
    refine zr_top (w := .int (zI (1 : Int))) rfl ?_
    refine zc0_le (tgt := 47) hx hb (1 : Int) (zI_toInt (by decide)) dX6_mark_42 (by decide) (fun c42 => by exfalso; omega) (fun c42 => ?_)
    refine zr_iconst hx hb dX6_mark_45 ?_
    exact zret_B () Z hr (by decide +kernel) hP hD hS (tB_0 rfl) rfl ⟨Nat.le_refl _, Nat.le_refl _⟩ hQ dX6_mark_46
  · skip
    refine lv_aload_n hx hb dX6_mark_9 rfl (lv_at hl 0 rfl) ?_
    refine lv_iload_n hx hb dX6_mark_10 rfl (lv_at hl 2 rfl) ?_
    refine zdet_I ⟨rfl, rfl⟩ Z hD hS (zrunV (rest := [.ref (q 0)]) Z hP hD hS hl.1 (m_X6_isItem l G q σ κ (i : Int) (by omega) (by omega)) zY_X6_isItem km_X6_171 (q0 := 0) rfl rfl rfl rfl ⟨⟨Nat.le_of_ble_eq_true rfl, Nat.le_of_ble_eq_true rfl⟩, Nat.le_of_ble_eq_true rfl, Nat.le_of_ble_eq_true rfl⟩ (Nat.le_of_ble_eq_true rfl) dX6_mark_11) (fun H locs hP hD hS => ?_)
    refine zb_ne (tgt := 21) hx hb dX6_mark_14 (by decide) (fun c14 => by exfalso; have a1 := of_decide_eq_true c6; have a2 := of_decide_eq_true c14; omega) (fun c14 => ?_)
    refine zr_iconst hx hb dX6_mark_17 ?_
    refine lv_goto (tgt := 35) hx hb dX6_mark_18 (by decide) ?_
    refine pM_0_23 Z hP hD hS kf_X6_80 dX6_mark_35 (fun H locs hP hD hS => ?_)
    refine lv_aload_n hx hb dX6_mark_38 rfl (lv_at hl 0 rfl) ?_
    refine gM_0_23 Z hP kf_X6_80 dX6_mark_39 ?_
    refine zr_top (w := .int (zI (1 : Int))) rfl ?_
    refine zc0_le (tgt := 47) hx hb (1 : Int) (zI_toInt (by decide)) dX6_mark_42 (by decide) (fun c42 => by exfalso; omega) (fun c42 => ?_)
    refine zr_iconst hx hb dX6_mark_45 ?_
    exact zret_B () Z hr (by decide +kernel) hP hD hS (tB_0 rfl) rfl ⟨Nat.le_refl _, Nat.le_refl _⟩ hQ dX6_mark_46
abbrev r_X6_mark_t2 : Room := { frames := 2, cells := 0, slots := 0, locals := 45 }
set_option maxHeartbeats 4000000 in
set_option maxRecDepth 100000 in
theorem m_X6_mark_t2 (l : Launch) (G : ZG) (q : Nat → Nat) (σ : St) (κ : KM) {e_d : Int} (d : Nat) (he_d : e_d = (d : Int)) {e_i : Int} (i : Nat) (he_i : e_i = (i : Int)) (b : Bool) (hI : okM σ) (h1 : i < σ.1 4) (h2 : d < σ.1 7) (h3 : σ.2.1 4 (30 * d + i) = 0) :
    MC l G yX6_mark (wY yX6_mark cX6_mark 5 (some .boolean)) r_X6_mark_t2 (wM G q σ κ) [.ref (q 0), .int (zI e_d), .int (zI e_i), .int (tB (b))] (QI G (fun r9 (_ : Unit) => r9 = (tB (false))) (fun _ => wM G q σ ((2 : Int), κ.2.1, κ.2.2.1, κ.2.2.2))) := by
  subst he_d
  subst he_i
  refine MC.mk (by decide +kernel) (Nat.le_of_ble_eq_true rfl) ?_
  intro p e s m av below meth c A H locs ls Q Z hr hnm hQ hP hD hS hl
  have hx := Z.1
  have hb := Z.2.1
  have hown := Z.2.2.2.1
  have hW := Z.2.2.2.2.1
  have hl : lv_has ls 5 [(0, .ref (q 0)), (1, .int (zI ((d : Nat) : Int))), (2, .int (zI ((i : Nat) : Int))), (3, .int (tB (b)))] := hl
  obtain ⟨hn, hru, hrv, hdv, hsr, hmn, ht1, ht2, hwn, hv1, hv2, hmj, htm, hse, htg, hrt, hac, hk1, hk2, hkd, hmm, hmv, hpp, hpl, hp3, hp4, hp6, hp5, hp7, hnz⟩ := id hI
  refine lv_aload_n hx hb dX6_mark_0 rfl (lv_at hl 0 rfl) ?_
  refine lv_aload_n hx hb dX6_mark_1 rfl (lv_at hl 0 rfl) ?_
  refine lv_iload_n hx hb dX6_mark_2 rfl (lv_at hl 1 rfl) ?_
  refine zdet_I ⟨rfl, rfl⟩ Z hD hS (zrunV (rest := [.ref (q 0)]) Z hP hD hS hl.1 (m_X6_isDevice l G q σ κ ((d : Nat) : Int) (by omega) (by omega)) zY_X6_isDevice km_X6_217 (q0 := 0) rfl rfl rfl rfl ⟨⟨Nat.le_of_ble_eq_true rfl, Nat.le_of_ble_eq_true rfl⟩, Nat.le_of_ble_eq_true rfl, Nat.le_of_ble_eq_true rfl⟩ (Nat.le_of_ble_eq_true rfl) dX6_mark_3) (fun H locs hP hD hS => ?_)
  refine zb_eq (tgt := 17) hx hb dX6_mark_6 (by decide) (fun c6 => by exfalso; have h9 := of_decide_eq_false c6; omega) (fun c6 => ?_)
  refine lv_aload_n hx hb dX6_mark_9 rfl (lv_at hl 0 rfl) ?_
  refine lv_iload_n hx hb dX6_mark_10 rfl (lv_at hl 2 rfl) ?_
  refine zdet_I ⟨rfl, rfl⟩ Z hD hS (zrunV (rest := [.ref (q 0)]) Z hP hD hS hl.1 (m_X6_isItem l G q σ κ ((i : Nat) : Int) (by omega) (by omega)) zY_X6_isItem km_X6_171 (q0 := 0) rfl rfl rfl rfl ⟨⟨Nat.le_of_ble_eq_true rfl, Nat.le_of_ble_eq_true rfl⟩, Nat.le_of_ble_eq_true rfl, Nat.le_of_ble_eq_true rfl⟩ (Nat.le_of_ble_eq_true rfl) dX6_mark_11) (fun H locs hP hD hS => ?_)
  refine zb_ne (tgt := 21) hx hb dX6_mark_14 (by decide) (fun c14 => ?_) (fun c14 => by exfalso; have h9 := of_decide_eq_false c14; omega)
  refine lv_aload_n hx hb dX6_mark_21 rfl (lv_at hl 0 rfl) ?_
  refine lv_iload_n hx hb dX6_mark_22 rfl (lv_at hl 1 rfl) ?_
  refine lv_iload_n hx hb dX6_mark_23 rfl (lv_at hl 2 rfl) ?_
  refine zdet_I ⟨rfl, rfl⟩ Z hD hS (zrunV (rest := [.ref (q 0)]) Z hP hD hS hl.1 (m_X6_knows l G q σ κ (d) rfl (i) rfl (by omega) (by omega) (hk1 _)) zY_X6_knows km_X6_220 (q0 := 0) rfl rfl rfl rfl ⟨⟨Nat.le_of_ble_eq_true rfl, Nat.le_of_ble_eq_true rfl⟩, Nat.le_of_ble_eq_true rfl, Nat.le_of_ble_eq_true rfl⟩ (Nat.le_of_ble_eq_true rfl) dX6_mark_24) (fun H locs hP hD hS => ?_)
  refine zb_ne (tgt := 34) hx hb dX6_mark_27 (by decide) (fun c27 => by exfalso; have h9 := of_decide_eq_true c27; omega) (fun c27 => ?_)
  refine zr_iconst hx hb dX6_mark_30 ?_
  refine lv_goto (tgt := 35) hx hb dX6_mark_31 (by decide) ?_
  refine pM_0_23 Z hP hD hS kf_X6_80 dX6_mark_35 (fun H locs hP hD hS => ?_)
  refine lv_aload_n hx hb dX6_mark_38 rfl (lv_at hl 0 rfl) ?_
  refine gM_0_23 Z hP kf_X6_80 dX6_mark_39 ?_
  refine zr_top (w := .int (zI (2 : Int))) rfl ?_
  refine zc0_le (tgt := 47) hx hb (2 : Int) (zI_toInt (by decide)) dX6_mark_42 (by decide) (fun c42 => by exfalso; omega) (fun c42 => ?_)
  refine zr_iconst hx hb dX6_mark_45 ?_
  exact zret_B () Z hr (by decide +kernel) hP hD hS (tB_0 rfl) rfl ⟨Nat.le_refl _, Nat.le_refl _⟩ hQ dX6_mark_46
abbrev r_X6_markRiver : Room := { frames := 4, cells := 0, slots := 0, locals := 91 }
set_option maxHeartbeats 4000000 in
set_option maxRecDepth 100000 in
theorem m_X6_markRiver (l : Launch) (G : ZG) (q : Nat → Nat) (σ : St) (κ : KM) {e_d : Int} (d : Nat) (he_d : e_d = (d : Int)) {e_i : Int} (i : Nat) (he_i : e_i = (i : Int)) (hI : okM σ) (h1 : d < σ.1 7) (h2 : i < σ.1 6) :
    MC l G yX6_markRiver (wY yX6_markRiver cX6_markRiver 5 (some .int)) r_X6_markRiver (wM G q σ κ) [.ref (q 0), .int (zI e_d), .int (zI e_i)] (QI G (S := Int32 × Int32 × Bool) (fun r9 (_ : Int32 × Int32 × Bool) => r9 = (zI ((mrCM σ d i (σ.1 4) : Nat) : Int))) (fun u => wM G q (mrSM σ d i (σ.1 4)) ((0 : Int), u))) := by
  subst he_d
  subst he_i
  refine MC.mk (by decide +kernel) (Nat.le_of_ble_eq_true rfl) ?_
  intro p e s m av below meth c A H locs ls Q Z hr hnm hQ hP hD hS hl
  have hx := Z.1
  have hb := Z.2.1
  have hown := Z.2.2.2.1
  have hW := Z.2.2.2.2.1
  have hl : lv_has ls 5 [(0, .ref (q 0)), (1, .int (zI ((d : Nat) : Int))), (2, .int (zI ((i : Nat) : Int)))] := hl
  obtain ⟨hn, hru, hrv, hdv, hsr, hmn, ht1, ht2, hwn, hv1, hv2, hmj, htm, hse, htg, hrt, hac, hk1, hk2, hkd, hmm, hmv, hpp, hpl, hp3, hp4, hp6, hp5, hp7, hnz⟩ := id hI
  refine lv_aload_n hx hb dX6_markRiver_0 rfl (lv_at hl 0 rfl) ?_
  refine lv_aload_n hx hb dX6_markRiver_1 rfl (lv_at hl 0 rfl) ?_
  refine lv_iload_n hx hb dX6_markRiver_2 rfl (lv_at hl 1 rfl) ?_
  refine zdet_I ⟨rfl, rfl⟩ Z hD hS (zrunV (rest := [.ref (q 0)]) Z hP hD hS hl.1 (m_X6_isDevice l G q σ κ ((d : Nat) : Int) (by omega) (by omega)) zY_X6_isDevice km_X6_217 (q0 := 0) rfl rfl rfl rfl ⟨⟨Nat.le_of_ble_eq_true rfl, Nat.le_of_ble_eq_true rfl⟩, Nat.le_of_ble_eq_true rfl, Nat.le_of_ble_eq_true rfl⟩ (Nat.le_of_ble_eq_true rfl) dX6_markRiver_3) (fun H locs hP hD hS => ?_)
  refine zb_eq (tgt := 21) hx hb dX6_markRiver_6 (by decide) (fun c6 => by exfalso; have h9 := of_decide_eq_false c6; omega) (fun c6 => ?_)
  refine lv_aload_n hx hb dX6_markRiver_9 rfl (lv_at hl 0 rfl) ?_
  refine lv_iload_n hx hb dX6_markRiver_10 rfl (lv_at hl 2 rfl) ?_
  refine zdet_I ⟨rfl, rfl⟩ Z hD hS (zrunV (rest := [.ref (q 0)]) Z hP hD hS hl.1 (m_X6_isRiver l G q σ κ ((i : Nat) : Int) (by omega) (by omega)) zY_X6_isRiver km_X6_186 (q0 := 0) rfl rfl rfl rfl ⟨⟨Nat.le_of_ble_eq_true rfl, Nat.le_of_ble_eq_true rfl⟩, Nat.le_of_ble_eq_true rfl, Nat.le_of_ble_eq_true rfl⟩ (Nat.le_of_ble_eq_true rfl) dX6_markRiver_11) (fun H locs hP hD hS => ?_)
  refine zb_eq (tgt := 21) hx hb dX6_markRiver_14 (by decide) (fun c14 => by exfalso; have h9 := of_decide_eq_false c14; omega) (fun c14 => ?_)
  refine zr_iconst hx hb dX6_markRiver_17 ?_
  refine lv_goto (tgt := 22) hx hb dX6_markRiver_18 (by decide) ?_
  refine zr_top (w := .int (tB (true))) (congrArg Value.int (tB_1 rfl)) ?_
  refine zdet_I ⟨rfl, rfl⟩ Z hD hS (zrunV (rest := []) Z hP hD hS hl.1 (m_X6_checked l G q σ κ (true) rfl) zY_X6_checked km_X6_137 (q0 := 0) rfl rfl rfl rfl ⟨⟨Nat.le_of_ble_eq_true rfl, Nat.le_of_ble_eq_true rfl⟩, Nat.le_of_ble_eq_true rfl, Nat.le_of_ble_eq_true rfl⟩ (Nat.le_of_ble_eq_true rfl) dX6_markRiver_22) (fun H locs hP hD hS => ?_)
  refine zc0_le (tgt := 30) hx hb (0 : Int) (zI_toInt (by decide)) dX6_markRiver_25 (by decide) (fun c25 => ?_) (fun c25 => by exfalso; omega)
  refine zr_iconst hx hb dX6_markRiver_30 ?_
  refine lv_istore_n (lv' := [(3, .int (zI (0 : Int))), (0, .ref (q 0)), (1, .int (zI ((d : Nat) : Int))), (2, .int (zI ((i : Nat) : Int)))]) hx hb dX6_markRiver_31 rfl hl (by decide) rfl (fun ls hl => ?_)
  refine zr_iconst hx hb dX6_markRiver_32 ?_
  refine lv_istore (lv' := [(4, .int (zI (0 : Int))), (3, .int (zI (0 : Int))), (0, .ref (q 0)), (1, .int (zI ((d : Nat) : Int))), (2, .int (zI ((i : Nat) : Int)))]) hx hb dX6_markRiver_33 hl (by decide) rfl (fun ls hl => ?_)
  suffices LP35 : ∀ (f9 : Nat) (k : Nat) (u9 : Int32 × Int32 × Bool), σ.1 4 < k + f9 → (k ≤ σ.1 4) → ∀ (H : Heap) (locs : List Loc) (ls : Array Slot), va_P G.1 vwCl (wM G q (mrSM σ d i k) ((0 : Int), u9)) H → va_D A (wM G q (mrSM σ d i k) ((0 : Int), u9)) → va_S A s.heap H locs → lv_has ls 5 [(4, .int (zI ((k : Nat) : Int))), (3, .int (zI ((mrCM σ d i k : Nat) : Int))), (0, .ref (q 0)), (1, .int (zI ((d : Nat) : Int))), (2, .int (zI ((i : Nat) : Int)))] → W p l e r_X6_markRiver s m av below meth c H locs 0 0 Q (F0 m 35 ls []) from LP35 (σ.1 4 + 1) (0) ((κ.2.1, κ.2.2.1, κ.2.2.2)) (by omega) (by omega) _ _ _ hP hD hS (lv_sub hl [0, 1, 2, 3, 4] rfl)
  intro f9
  induction f9 with
  | zero => intro k u9 hf9 hk; exfalso; omega
  | succ f9 ih35 =>
    intro k u9 hf9 hk H locs ls hP hD hS hl
    have hm9 := mrSM_ok hI d i k
    have hN9 : (mrSM σ d i k).1 4 = σ.1 4 := by rw [hm9.2]
    have hN8 : (mrSM σ d i k).1 6 = σ.1 6 := by rw [hm9.2]
    have hc9 := mrCM_le σ d i k
    refine lv_iload hx hb dX6_markRiver_35 (lv_at hl 0 rfl) ?_
    refine lv_aload_n hx hb dX6_markRiver_37 rfl (lv_at hl 2 rfl) ?_
    refine gM_0_28 Z hP kf_X6_96 dX6_markRiver_38 ?_
    refine zr_top (w := .int (zI ((((mrSM σ d i k)).1 4 : Nat) : Int))) rfl ?_
    refine zc_ge (tgt := 99) hx hb ((k : Nat) : Int) ((((mrSM σ d i k)).1 4 : Nat) : Int) (zI_toInt (by omega)) (zI_toInt (by omega)) dX6_markRiver_41 (by decide) (fun c41 => ?_) (fun c41 => ?_)
    · skip
      refine lv_iload_n hx hb dX6_markRiver_99 rfl (lv_at hl 1 rfl) ?_
      exact zret_I (u9) Z hr hP hD hS (by rw [show k = σ.1 4 from by omega]) (by rw [show k = σ.1 4 from by omega]) ⟨Nat.le_refl _, Nat.le_refl _⟩ hQ dX6_markRiver_100
    · skip
      refine lv_aload_n hx hb dX6_markRiver_44 rfl (lv_at hl 2 rfl) ?_
      refine lv_iload_n hx hb dX6_markRiver_45 rfl (lv_at hl 4 rfl) ?_
      refine lv_iload hx hb dX6_markRiver_46 (lv_at hl 0 rfl) ?_
      refine zdet_I ⟨rfl, rfl⟩ Z hD hS (zrunV (rest := []) Z hP hD hS hl.1 (m_X6_shows l G q (mrSM σ d i k) ((0 : Int), u9) (i) rfl (k) rfl hm9.1 (by omega) (by omega)) zY_X6_shows km_X6_183 (q0 := 0) rfl rfl rfl rfl ⟨⟨Nat.le_of_ble_eq_true rfl, Nat.le_of_ble_eq_true rfl⟩, Nat.le_of_ble_eq_true rfl, Nat.le_of_ble_eq_true rfl⟩ (Nat.le_of_ble_eq_true rfl) dX6_markRiver_48) (fun H locs hP hD hS => ?_)
      refine zb_eq (tgt := 93) hx hb dX6_markRiver_51 (by decide) (fun c51 => ?_) (fun c51 => ?_)
      · skip
        refine zr_iinc (lv' := [(4, .int (zI (((k : Nat) : Int) + (1 : Int)))), (3, .int (zI ((mrCM σ d i k : Nat) : Int))), (0, .ref (q 0)), (1, .int (zI ((d : Nat) : Int))), (2, .int (zI ((i : Nat) : Int)))]) hx hb 0 dX6_markRiver_93 hl rfl (by decide) rfl (fun ls hl => ?_)
        refine lv_goto (tgt := 35) hx hb dX6_markRiver_96 (by decide) ?_
        have h8 : mrSM σ d i (k + 1) = (mrSM σ d i k) := if_neg (fun h => by rw [c51] at h; cases h.1)
        have h9 : mrCM σ d i (k + 1) = mrCM σ d i k := if_neg (fun h => by rw [c51] at h; cases h.1.1)
        have hw9 : wM G q (mrSM σ d i k) ((0 : Int), goI ((mrSM σ d i k)) k) = wM G q (mrSM σ d i (k + 1)) ((0 : Int), goI ((mrSM σ d i k)) k) := (by rw [h8] <;> rfl)
        rw [hw9] at hP hD
        exact ih35 (k + 1) (goI ((mrSM σ d i k)) k) (by omega) (by omega) _ _ _ hP hD hS (lv_sub hl [0, 1, 2, 3, 4] (by rw [h9]; rfl))
      · skip
        refine lv_aload_n hx hb dX6_markRiver_54 rfl (lv_at hl 2 rfl) ?_
        refine lv_iload_n hx hb dX6_markRiver_55 rfl (lv_at hl 3 rfl) ?_
        refine lv_iload hx hb dX6_markRiver_56 (lv_at hl 0 rfl) ?_
        refine zdet_I ⟨rfl, rfl⟩ Z hD hS (zrunV (rest := []) Z hP hD hS hl.1 (m_X6_knows l G q (mrSM σ d i k) ((0 : Int), goI ((mrSM σ d i k)) k) (d) rfl (k) rfl (by omega) (by omega) ((okM_b hm9.1).1 _)) zY_X6_knows km_X6_220 (q0 := 0) rfl rfl rfl rfl ⟨⟨Nat.le_of_ble_eq_true rfl, Nat.le_of_ble_eq_true rfl⟩, Nat.le_of_ble_eq_true rfl, Nat.le_of_ble_eq_true rfl⟩ (Nat.le_of_ble_eq_true rfl) dX6_markRiver_58) (fun H locs hP hD hS => ?_)
        refine zb_ne (tgt := 67) hx hb dX6_markRiver_61 (by decide) (fun c61 => ?_) (fun c61 => ?_)
        · skip
          refine lv_iload_n hx hb dX6_markRiver_67 rfl (lv_at hl 1 rfl) ?_
          refine lv_aload_n hx hb dX6_markRiver_68 rfl (lv_at hl 2 rfl) ?_
          refine lv_iload_n hx hb dX6_markRiver_69 rfl (lv_at hl 3 rfl) ?_
          refine lv_iload hx hb dX6_markRiver_70 (lv_at hl 0 rfl) ?_
          refine zdet_I ⟨rfl, rfl⟩ Z hD hS (zrunV (rest := [.int (zI ((mrCM σ d i k : Nat) : Int))]) Z hP hD hS hl.1 (m_X6_isReadAt l G q (mrSM σ d i k) ((0 : Int), goI ((mrSM σ d i k)) k) (d) rfl (k) rfl hm9.1 (by omega) (by omega)) zY_X6_isReadAt km_X6_223 (q0 := 0) rfl rfl rfl rfl ⟨⟨Nat.le_of_ble_eq_true rfl, Nat.le_of_ble_eq_true rfl⟩, Nat.le_of_ble_eq_true rfl, Nat.le_of_ble_eq_true rfl⟩ (Nat.le_of_ble_eq_true rfl) dX6_markRiver_72) (fun H locs hP hD hS => ?_)
          refine zb_eq (tgt := 82) hx hb dX6_markRiver_75 (by decide) (fun c75 => ?_) (fun c75 => ?_)
          · skip
            refine zr_iconst hx hb dX6_markRiver_82 ?_
            refine zr_iadd hx hb dX6_markRiver_83 ?_
            refine lv_istore_n (lv' := [(3, .int (zI (((mrCM σ d i k : Nat) : Int) + (1 : Int)))), (4, .int (zI ((k : Nat) : Int))), (0, .ref (q 0)), (1, .int (zI ((d : Nat) : Int))), (2, .int (zI ((i : Nat) : Int)))]) hx hb dX6_markRiver_84 rfl hl (by decide) rfl (fun ls hl => ?_)
            refine lv_aload_n hx hb dX6_markRiver_85 rfl (lv_at hl 2 rfl) ?_
            refine lv_iload_n hx hb dX6_markRiver_86 rfl (lv_at hl 3 rfl) ?_
            refine lv_iload hx hb dX6_markRiver_87 (lv_at hl 1 rfl) ?_
            refine zr_iconst hx hb dX6_markRiver_89 ?_
            refine zr_top (w := .int (tB (true))) (congrArg Value.int (tB_1 rfl)) ?_
            refine zdet_V ⟨rfl, rfl⟩ Z hD hS (zrunV (rest := []) Z hP hD hS hl.1 (m_X6_marks l G q (mrSM σ d i k) ((0 : Int), goI ((mrSM σ d i k)) k) (d) rfl (k) rfl (true) (by omega) (by omega) (of_decide_eq_true c61)) zY_X6_marks km_X6_226 (q0 := 0) rfl rfl rfl rfl ⟨⟨Nat.le_of_ble_eq_true rfl, Nat.le_of_ble_eq_true rfl⟩, Nat.le_of_ble_eq_true rfl, Nat.le_of_ble_eq_true rfl⟩ (Nat.le_of_ble_eq_true rfl) dX6_markRiver_90) (fun H locs hP hD hS => ?_)
            refine zr_iinc (lv' := [(4, .int (zI (((k : Nat) : Int) + (1 : Int)))), (3, .int (zI (((mrCM σ d i k : Nat) : Int) + (1 : Int)))), (0, .ref (q 0)), (1, .int (zI ((d : Nat) : Int))), (2, .int (zI ((i : Nat) : Int)))]) hx hb 1 dX6_markRiver_93 hl rfl (by decide) rfl (fun ls hl => ?_)
            refine lv_goto (tgt := 35) hx hb dX6_markRiver_96 (by decide) ?_
            have h8 : mrSM σ d i (k + 1) = mkS (mrSM σ d i k) d k true := if_pos ⟨c51, of_decide_eq_true c61⟩
            have h9 : mrCM σ d i (k + 1) = mrCM σ d i k + 1 := if_pos ⟨⟨c51, of_decide_eq_true c61⟩, c75⟩
            have hw9 : wM G q (mkS (mrSM σ d i k) d k (true)) ((0 : Int), goI ((mrSM σ d i k)) k) = wM G q (mrSM σ d i (k + 1)) ((0 : Int), goI ((mrSM σ d i k)) k) := (by rw [h8] <;> rfl)
            rw [hw9] at hP hD
            exact ih35 (k + 1) (goI ((mrSM σ d i k)) k) (by omega) (by omega) _ _ _ hP hD hS (lv_sub hl [0, 1, 2, 3, 4] (by rw [h9]; rfl))
          · skip
            refine zr_iconst hx hb dX6_markRiver_78 ?_
            refine lv_goto (tgt := 83) hx hb dX6_markRiver_79 (by decide) ?_
            refine zr_iadd hx hb dX6_markRiver_83 ?_
            refine lv_istore_n (lv' := [(3, .int (zI (((mrCM σ d i k : Nat) : Int) + (0 : Int)))), (4, .int (zI ((k : Nat) : Int))), (0, .ref (q 0)), (1, .int (zI ((d : Nat) : Int))), (2, .int (zI ((i : Nat) : Int)))]) hx hb dX6_markRiver_84 rfl hl (by decide) rfl (fun ls hl => ?_)
            refine lv_aload_n hx hb dX6_markRiver_85 rfl (lv_at hl 2 rfl) ?_
            refine lv_iload_n hx hb dX6_markRiver_86 rfl (lv_at hl 3 rfl) ?_
            refine lv_iload hx hb dX6_markRiver_87 (lv_at hl 1 rfl) ?_
            refine zr_iconst hx hb dX6_markRiver_89 ?_
            refine zr_top (w := .int (tB (true))) (congrArg Value.int (tB_1 rfl)) ?_
            refine zdet_V ⟨rfl, rfl⟩ Z hD hS (zrunV (rest := []) Z hP hD hS hl.1 (m_X6_marks l G q (mrSM σ d i k) ((0 : Int), goI ((mrSM σ d i k)) k) (d) rfl (k) rfl (true) (by omega) (by omega) (of_decide_eq_true c61)) zY_X6_marks km_X6_226 (q0 := 0) rfl rfl rfl rfl ⟨⟨Nat.le_of_ble_eq_true rfl, Nat.le_of_ble_eq_true rfl⟩, Nat.le_of_ble_eq_true rfl, Nat.le_of_ble_eq_true rfl⟩ (Nat.le_of_ble_eq_true rfl) dX6_markRiver_90) (fun H locs hP hD hS => ?_)
            refine zr_iinc (lv' := [(4, .int (zI (((k : Nat) : Int) + (1 : Int)))), (3, .int (zI (((mrCM σ d i k : Nat) : Int) + (0 : Int)))), (0, .ref (q 0)), (1, .int (zI ((d : Nat) : Int))), (2, .int (zI ((i : Nat) : Int)))]) hx hb 1 dX6_markRiver_93 hl rfl (by decide) rfl (fun ls hl => ?_)
            refine lv_goto (tgt := 35) hx hb dX6_markRiver_96 (by decide) ?_
            have h8 : mrSM σ d i (k + 1) = mkS (mrSM σ d i k) d k true := if_pos ⟨c51, of_decide_eq_true c61⟩
            have h9 : mrCM σ d i (k + 1) = mrCM σ d i k := if_neg (fun h => by rw [c75] at h; cases h.2)
            have hw9 : wM G q (mkS (mrSM σ d i k) d k (true)) ((0 : Int), goI ((mrSM σ d i k)) k) = wM G q (mrSM σ d i (k + 1)) ((0 : Int), goI ((mrSM σ d i k)) k) := (by rw [h8] <;> rfl)
            rw [hw9] at hP hD
            exact ih35 (k + 1) (goI ((mrSM σ d i k)) k) (by omega) (by omega) _ _ _ hP hD hS (lv_sub hl [0, 1, 2, 3, 4] (by rw [h9]; rfl))
        · skip
          refine lv_goto (tgt := 93) hx hb dX6_markRiver_64 (by decide) ?_
          refine zr_iinc (lv' := [(4, .int (zI (((k : Nat) : Int) + (1 : Int)))), (3, .int (zI ((mrCM σ d i k : Nat) : Int))), (0, .ref (q 0)), (1, .int (zI ((d : Nat) : Int))), (2, .int (zI ((i : Nat) : Int)))]) hx hb 0 dX6_markRiver_93 hl rfl (by decide) rfl (fun ls hl => ?_)
          refine lv_goto (tgt := 35) hx hb dX6_markRiver_96 (by decide) ?_
          have h8 : mrSM σ d i (k + 1) = (mrSM σ d i k) := if_neg (fun h => of_decide_eq_false c61 h.2)
          have h9 : mrCM σ d i (k + 1) = mrCM σ d i k := if_neg (fun h => of_decide_eq_false c61 h.1.2)
          have hw9 : wM G q (mrSM σ d i k) ((0 : Int), goI ((mrSM σ d i k)) k) = wM G q (mrSM σ d i (k + 1)) ((0 : Int), goI ((mrSM σ d i k)) k) := (by rw [h8] <;> rfl)
          rw [hw9] at hP hD
          exact ih35 (k + 1) (goI ((mrSM σ d i k)) k) (by omega) (by omega) _ _ _ hP hD hS (lv_sub hl [0, 1, 2, 3, 4] (by rw [h9]; rfl))
abbrev r_X6_markRiver_t1 : Room := { frames := 4, cells := 0, slots := 0, locals := 91 }
set_option maxHeartbeats 4000000 in
set_option maxRecDepth 100000 in
theorem m_X6_markRiver_t1 (l : Launch) (G : ZG) (q : Nat → Nat) (σ : St) (κ : KM) (d : Int) (i : Int) (hI : okM σ) (h1 : zR d ∧ zR i) (h2 : (d < 0 ∨ ((σ.1 7 : Nat) : Int) ≤ d) ∨ i < 0 ∨ ((σ.1 6 : Nat) : Int) ≤ i) :
    MC l G yX6_markRiver (wY yX6_markRiver cX6_markRiver 5 (some .int)) r_X6_markRiver_t1 (wM G q σ κ) [.ref (q 0), .int (zI (d : Int)), .int (zI (i : Int))] (QI G (fun r9 (_ : Unit) => r9 = (zI (0 : Int))) (fun _ => wM G q σ ((1 : Int), κ.2.1, κ.2.2.1, κ.2.2.2))) := by
  refine MC.mk (by decide +kernel) (Nat.le_of_ble_eq_true rfl) ?_
  intro p e s m av below meth c A H locs ls Q Z hr hnm hQ hP hD hS hl
  have hx := Z.1
  have hb := Z.2.1
  have hown := Z.2.2.2.1
  have hW := Z.2.2.2.2.1
  have hl : lv_has ls 5 [(0, .ref (q 0)), (1, .int (zI (d : Int))), (2, .int (zI (i : Int)))] := hl
  obtain ⟨hn, hru, hrv, hdv, hsr, hmn, ht1, ht2, hwn, hv1, hv2, hmj, htm, hse, htg, hrt, hac, hk1, hk2, hkd, hmm, hmv, hpp, hpl, hp3, hp4, hp6, hp5, hp7, hnz⟩ := id hI
  refine lv_aload_n hx hb dX6_markRiver_0 rfl (lv_at hl 0 rfl) ?_
  refine lv_aload_n hx hb dX6_markRiver_1 rfl (lv_at hl 0 rfl) ?_
  refine lv_iload_n hx hb dX6_markRiver_2 rfl (lv_at hl 1 rfl) ?_
  refine zdet_I ⟨rfl, rfl⟩ Z hD hS (zrunV (rest := [.ref (q 0)]) Z hP hD hS hl.1 (m_X6_isDevice l G q σ κ (d : Int) (by omega) (by omega)) zY_X6_isDevice km_X6_217 (q0 := 0) rfl rfl rfl rfl ⟨⟨Nat.le_of_ble_eq_true rfl, Nat.le_of_ble_eq_true rfl⟩, Nat.le_of_ble_eq_true rfl, Nat.le_of_ble_eq_true rfl⟩ (Nat.le_of_ble_eq_true rfl) dX6_markRiver_3) (fun H locs hP hD hS => ?_)
  refine zb_eq (tgt := 21) hx hb dX6_markRiver_6 (by decide) (fun c6 => ?_) (fun c6 => ?_)
  · skip
    refine zr_iconst hx hb dX6_markRiver_21 ?_
    refine zr_top (w := .int (tB (false))) (congrArg Value.int (tB_0 rfl)) ?_
    refine zdet_I ⟨rfl, rfl⟩ Z hD hS (zrunV (rest := []) Z hP hD hS hl.1 (m_X6_checked_n l G q σ κ (false) rfl) zY_X6_checked km_X6_137 (q0 := 0) rfl rfl rfl rfl ⟨⟨Nat.le_of_ble_eq_true rfl, Nat.le_of_ble_eq_true rfl⟩, Nat.le_of_ble_eq_true rfl, Nat.le_of_ble_eq_true rfl⟩ (Nat.le_of_ble_eq_true rfl) dX6_markRiver_22) (fun H locs hP hD hS => ?_)
    refine zc0_le (tgt := 30) hx hb (1 : Int) (zI_toInt (by decide)) dX6_markRiver_25 (by decide) (fun c25 => by exfalso; omega) (fun c25 => ?_)
    refine zr_iconst hx hb dX6_markRiver_28 ?_
    exact zret_I () Z hr hP hD hS rfl rfl ⟨Nat.le_refl _, Nat.le_refl _⟩ hQ dX6_markRiver_29
  · skip
    refine lv_aload_n hx hb dX6_markRiver_9 rfl (lv_at hl 0 rfl) ?_
    refine lv_iload_n hx hb dX6_markRiver_10 rfl (lv_at hl 2 rfl) ?_
    refine zdet_I ⟨rfl, rfl⟩ Z hD hS (zrunV (rest := [.ref (q 0)]) Z hP hD hS hl.1 (m_X6_isRiver l G q σ κ (i : Int) (by omega) (by omega)) zY_X6_isRiver km_X6_186 (q0 := 0) rfl rfl rfl rfl ⟨⟨Nat.le_of_ble_eq_true rfl, Nat.le_of_ble_eq_true rfl⟩, Nat.le_of_ble_eq_true rfl, Nat.le_of_ble_eq_true rfl⟩ (Nat.le_of_ble_eq_true rfl) dX6_markRiver_11) (fun H locs hP hD hS => ?_)
    refine zb_eq (tgt := 21) hx hb dX6_markRiver_14 (by decide) (fun c14 => ?_) (fun c14 => by exfalso; have a1 := of_decide_eq_true c6; have a2 := of_decide_eq_true c14; omega)
    refine zr_iconst hx hb dX6_markRiver_21 ?_
    refine zr_top (w := .int (tB (false))) (congrArg Value.int (tB_0 rfl)) ?_
    refine zdet_I ⟨rfl, rfl⟩ Z hD hS (zrunV (rest := []) Z hP hD hS hl.1 (m_X6_checked_n l G q σ κ (false) rfl) zY_X6_checked km_X6_137 (q0 := 0) rfl rfl rfl rfl ⟨⟨Nat.le_of_ble_eq_true rfl, Nat.le_of_ble_eq_true rfl⟩, Nat.le_of_ble_eq_true rfl, Nat.le_of_ble_eq_true rfl⟩ (Nat.le_of_ble_eq_true rfl) dX6_markRiver_22) (fun H locs hP hD hS => ?_)
    refine zc0_le (tgt := 30) hx hb (1 : Int) (zI_toInt (by decide)) dX6_markRiver_25 (by decide) (fun c25 => by exfalso; omega) (fun c25 => ?_)
    refine zr_iconst hx hb dX6_markRiver_28 ?_
    exact zret_I () Z hr hP hD hS rfl rfl ⟨Nat.le_refl _, Nat.le_refl _⟩ hQ dX6_markRiver_29
abbrev r_X6_sync : Room := { frames := 2, cells := 0, slots := 0, locals := 44 }
set_option maxHeartbeats 4000000 in
set_option maxRecDepth 100000 in
theorem m_X6_sync (l : Launch) (G : ZG) (q : Nat → Nat) (σ : St) (κ : KM) {e_d : Int} (d : Nat) (he_d : e_d = (d : Int)) (hI : okM σ) (h1 : d < σ.1 7) :
    MC l G yX6_sync (wY yX6_sync cX6_sync 5 (some .int)) r_X6_sync (wM G q σ κ) [.ref (q 0), .int (zI e_d)] (QI G (fun r9 (_ : Unit) => r9 = (zI ((syCM σ d (σ.1 4) : Nat) : Int))) (fun _ => wM G q (sysM σ d) ((0 : Int), κ.2.1, κ.2.2.1, κ.2.2.2))) := by
  subst he_d
  refine MC.mk (by decide +kernel) (Nat.le_of_ble_eq_true rfl) ?_
  intro p e s m av below meth c A H locs ls Q Z hr hnm hQ hP hD hS hl
  have hx := Z.1
  have hb := Z.2.1
  have hown := Z.2.2.2.1
  have hW := Z.2.2.2.2.1
  have hl : lv_has ls 5 [(0, .ref (q 0)), (1, .int (zI ((d : Nat) : Int)))] := hl
  obtain ⟨hn, hru, hrv, hdv, hsr, hmn, ht1, ht2, hwn, hv1, hv2, hmj, htm, hse, htg, hrt, hac, hk1, hk2, hkd, hmm, hmv, hpp, hpl, hp3, hp4, hp6, hp5, hp7, hnz⟩ := id hI
  refine lv_aload_n hx hb dX6_sync_0 rfl (lv_at hl 0 rfl) ?_
  refine lv_aload_n hx hb dX6_sync_1 rfl (lv_at hl 0 rfl) ?_
  refine lv_iload_n hx hb dX6_sync_2 rfl (lv_at hl 1 rfl) ?_
  refine zdet_I ⟨rfl, rfl⟩ Z hD hS (zrunV (rest := [.ref (q 0)]) Z hP hD hS hl.1 (m_X6_isDevice l G q σ κ ((d : Nat) : Int) (by omega) (by omega)) zY_X6_isDevice km_X6_217 (q0 := 0) rfl rfl rfl rfl ⟨⟨Nat.le_of_ble_eq_true rfl, Nat.le_of_ble_eq_true rfl⟩, Nat.le_of_ble_eq_true rfl, Nat.le_of_ble_eq_true rfl⟩ (Nat.le_of_ble_eq_true rfl) dX6_sync_3) (fun H locs hP hD hS => ?_)
  refine zdet_I ⟨rfl, rfl⟩ Z hD hS (zrunV (rest := []) Z hP hD hS hl.1 (m_X6_checked l G q σ κ (decide ((0 : Int) ≤ ((d : Nat) : Int) ∧ ((d : Nat) : Int) ≤ (((σ.1 7 : Nat) : Int) - (1 : Int)))) (decide_eq_true (by omega))) zY_X6_checked km_X6_137 (q0 := 0) rfl rfl rfl rfl ⟨⟨Nat.le_of_ble_eq_true rfl, Nat.le_of_ble_eq_true rfl⟩, Nat.le_of_ble_eq_true rfl, Nat.le_of_ble_eq_true rfl⟩ (Nat.le_of_ble_eq_true rfl) dX6_sync_6) (fun H locs hP hD hS => ?_)
  refine zc0_le (tgt := 14) hx hb (0 : Int) (zI_toInt (by decide)) dX6_sync_9 (by decide) (fun c9 => ?_) (fun c9 => by exfalso; omega)
  refine zr_iconst hx hb dX6_sync_14 ?_
  refine lv_istore_n (lv' := [(2, .int (zI (0 : Int))), (0, .ref (q 0)), (1, .int (zI ((d : Nat) : Int)))]) hx hb dX6_sync_15 rfl hl (by decide) rfl (fun ls hl => ?_)
  refine zr_iconst hx hb dX6_sync_16 ?_
  refine lv_istore_n (lv' := [(3, .int (zI (0 : Int))), (2, .int (zI (0 : Int))), (0, .ref (q 0)), (1, .int (zI ((d : Nat) : Int)))]) hx hb dX6_sync_17 rfl hl (by decide) rfl (fun ls hl => ?_)
  suffices LP18 : ∀ (f9 : Nat) (k : Nat), σ.1 4 < k + f9 → (k ≤ σ.1 4) → ∀ (H : Heap) (locs : List Loc) (ls : Array Slot), va_P G.1 vwCl (wM G q (sySM σ d k) (0, κ.2.1, κ.2.2.1, κ.2.2.2)) H → va_D A (wM G q (sySM σ d k) (0, κ.2.1, κ.2.2.1, κ.2.2.2)) → va_S A s.heap H locs → lv_has ls 5 [(3, .int (zI ((k : Nat) : Int))), (2, .int (zI ((syCM σ d k : Nat) : Int))), (0, .ref (q 0)), (1, .int (zI ((d : Nat) : Int)))] → W p l e r_X6_sync s m av below meth c H locs 0 0 Q (F0 m 18 ls []) from LP18 (σ.1 4 + 1) (0) (by omega) (by omega) _ _ _ hP hD hS (lv_sub hl [0, 1, 2, 3] rfl)
  intro f9
  induction f9 with
  | zero => intro k hf9 hk; exfalso; omega
  | succ f9 ih18 =>
    intro k hf9 hk H locs ls hP hD hS hl
    have hs9 := sySM_ok hI d k
    have hN9 : (sySM σ d k).1 4 = σ.1 4 := by rw [hs9.2]
    have hc9 := syCM_le σ d k
    refine lv_iload_n hx hb dX6_sync_18 rfl (lv_at hl 0 rfl) ?_
    refine lv_aload_n hx hb dX6_sync_19 rfl (lv_at hl 2 rfl) ?_
    refine gM_0_28 Z hP kf_X6_96 dX6_sync_20 ?_
    refine zc_ge (tgt := 92) hx hb ((k : Nat) : Int) ((((sySM σ d k)).1 4 : Nat) : Int) (zI_toInt (by omega)) (zI_toInt (by omega)) dX6_sync_23 (by decide) (fun c23 => ?_) (fun c23 => ?_)
    · skip
      refine lv_aload_n hx hb dX6_sync_92 rfl (lv_at hl 2 rfl) ?_
      refine lv_iload_n hx hb dX6_sync_93 rfl (lv_at hl 3 rfl) ?_
      refine zdet_V ⟨rfl, rfl⟩ Z hD hS (zrunV (rest := []) Z hP hD hS hl.1 (m_X6_learns l G q (sySM σ d k) (0, κ.2.1, κ.2.2.1, κ.2.2.2) (d) rfl hs9.1 (by omega)) zY_X6_learns km_X6_214 (q0 := 0) rfl rfl rfl rfl ⟨⟨Nat.le_of_ble_eq_true rfl, Nat.le_of_ble_eq_true rfl⟩, Nat.le_of_ble_eq_true rfl, Nat.le_of_ble_eq_true rfl⟩ (Nat.le_of_ble_eq_true rfl) dX6_sync_94) (fun H locs hP hD hS => ?_)
      refine lv_iload_n hx hb dX6_sync_97 rfl (lv_at hl 1 rfl) ?_
      exact zret_I () Z hr hP hD hS (by rw [show k = σ.1 4 from by omega]) (by rw [hN9, show k = σ.1 4 from by omega] <;> rfl) ⟨Nat.le_refl _, Nat.le_refl _⟩ hQ dX6_sync_98
    · skip
      refine lv_aload_n hx hb dX6_sync_26 rfl (lv_at hl 2 rfl) ?_
      refine lv_iload_n hx hb dX6_sync_27 rfl (lv_at hl 0 rfl) ?_
      refine zdet_I ⟨rfl, rfl⟩ Z hD hS (zrunV (rest := []) Z hP hD hS hl.1 (m_X6_isReadNow l G q (sySM σ d k) (0, κ.2.1, κ.2.2.1, κ.2.2.2) (k) rfl hs9.1 (by omega)) zY_X6_isReadNow km_X6_204 (q0 := 0) rfl rfl rfl rfl ⟨⟨Nat.le_of_ble_eq_true rfl, Nat.le_of_ble_eq_true rfl⟩, Nat.le_of_ble_eq_true rfl, Nat.le_of_ble_eq_true rfl⟩ (Nat.le_of_ble_eq_true rfl) dX6_sync_28) (fun H locs hP hD hS => ?_)
      refine lv_istore (lv' := [(4, .int (tB (rdR ((sySM σ d k)) k))), (3, .int (zI ((k : Nat) : Int))), (2, .int (zI ((syCM σ d k : Nat) : Int))), (0, .ref (q 0)), (1, .int (zI ((d : Nat) : Int)))]) hx hb dX6_sync_31 hl (by decide) rfl (fun ls hl => ?_)
      refine lv_aload_n hx hb dX6_sync_33 rfl (lv_at hl 3 rfl) ?_
      refine lv_iload_n hx hb dX6_sync_34 rfl (lv_at hl 4 rfl) ?_
      refine lv_iload_n hx hb dX6_sync_35 rfl (lv_at hl 1 rfl) ?_
      refine zdet_I ⟨rfl, rfl⟩ Z hD hS (zrunV (rest := []) Z hP hD hS hl.1 (m_X6_knows l G q (sySM σ d k) (0, κ.2.1, κ.2.2.1, κ.2.2.2) (d) rfl (k) rfl (by omega) (by omega) ((okM_b hs9.1).1 _)) zY_X6_knows km_X6_220 (q0 := 0) rfl rfl rfl rfl ⟨⟨Nat.le_of_ble_eq_true rfl, Nat.le_of_ble_eq_true rfl⟩, Nat.le_of_ble_eq_true rfl, Nat.le_of_ble_eq_true rfl⟩ (Nat.le_of_ble_eq_true rfl) dX6_sync_36) (fun H locs hP hD hS => ?_)
      refine zb_eq (tgt := 61) hx hb dX6_sync_39 (by decide) (fun c39 => ?_) (fun c39 => ?_)
      · skip
        refine lv_aload_n hx hb dX6_sync_61 rfl (lv_at hl 3 rfl) ?_
        refine zr_iconst hx hb dX6_sync_62 ?_
        refine lv_iload_n hx hb dX6_sync_63 rfl (lv_at hl 4 rfl) ?_
        refine lv_iload_n hx hb dX6_sync_64 rfl (lv_at hl 1 rfl) ?_
        refine zdet_V ⟨rfl, rfl⟩ Z hD hS (zrunV (rest := []) Z hP hD hS hl.1 (m_X6_copies l G q (sySM σ d k) (0, κ.2.1, κ.2.2.1, κ.2.2.2) (4) (by omega) (d) rfl (k) rfl (by omega) (by omega) (by omega)) zY_X6_copies km_X6_210 (q0 := 0) rfl rfl rfl rfl ⟨⟨Nat.le_of_ble_eq_true rfl, Nat.le_of_ble_eq_true rfl⟩, Nat.le_of_ble_eq_true rfl, Nat.le_of_ble_eq_true rfl⟩ (Nat.le_of_ble_eq_true rfl) dX6_sync_65) (fun H locs hP hD hS => ?_)
        refine lv_iload_n hx hb dX6_sync_68 rfl (lv_at hl 2 rfl) ?_
        refine lv_aload_n hx hb dX6_sync_69 rfl (lv_at hl 3 rfl) ?_
        refine lv_iload_n hx hb dX6_sync_70 rfl (lv_at hl 1 rfl) ?_
        refine zdet_I ⟨rfl, rfl⟩ Z hD hS (zrunV (rest := [.int (zI ((syCM σ d k : Nat) : Int))]) Z hP hD hS hl.1 (m_X6_isReadNow l G q (cpM (sySM σ d k) 4 d k) (0, κ.2.1, κ.2.2.1, κ.2.2.2) (k) rfl (okM_cpM hs9.1 4 d k) (by show k < (sySM σ d k).1 4; omega)) zY_X6_isReadNow km_X6_204 (q0 := 0) rfl rfl rfl rfl ⟨⟨Nat.le_of_ble_eq_true rfl, Nat.le_of_ble_eq_true rfl⟩, Nat.le_of_ble_eq_true rfl, Nat.le_of_ble_eq_true rfl⟩ (Nat.le_of_ble_eq_true rfl) dX6_sync_71) (fun H locs hP hD hS => ?_)
        refine lv_iload hx hb dX6_sync_74 (lv_at hl 0 rfl) ?_
        refine zc_ne (tgt := 83) hx hb (if rdR ((cpM (sySM σ d k) 4 d k)) k then 1 else 0 : Int) (if rdR ((sySM σ d k)) k then 1 else 0 : Int) (by rw [tB_z]; exact zI_toInt (by split <;> decide)) (by rw [tB_z]; exact zI_toInt (by split <;> decide)) dX6_sync_76 (by decide) (fun c76 => ?_) (fun c76 => ?_)
        · skip
          refine zr_iconst hx hb dX6_sync_83 ?_
          refine zr_iadd hx hb dX6_sync_84 ?_
          refine lv_istore_n (lv' := [(2, .int (zI (((syCM σ d k : Nat) : Int) + (1 : Int)))), (4, .int (tB (rdR ((sySM σ d k)) k))), (3, .int (zI ((k : Nat) : Int))), (0, .ref (q 0)), (1, .int (zI ((d : Nat) : Int)))]) hx hb dX6_sync_85 rfl hl (by decide) rfl (fun ls hl => ?_)
          refine zr_iinc (lv' := [(3, .int (zI (((k : Nat) : Int) + (1 : Int)))), (2, .int (zI (((syCM σ d k : Nat) : Int) + (1 : Int)))), (4, .int (tB (rdR ((sySM σ d k)) k))), (0, .ref (q 0)), (1, .int (zI ((d : Nat) : Int)))]) hx hb 2 dX6_sync_86 hl rfl (by decide) rfl (fun ls hl => ?_)
          refine lv_goto (tgt := 18) hx hb dX6_sync_89 (by decide) ?_
          have h8 : sySM σ d (k + 1) = cpM (sySM σ d k) 4 d k := if_neg (fun h => of_decide_eq_false c39 h.1)
          have h9 : syCM σ d (k + 1) = syCM σ d k + 1 := if_neg (by rw [h8]; exact fun h => c76 (by rw [h]))
          have hw9 : wM G q (cpM (sySM σ d k) 4 d k) (0, κ.2.1, κ.2.2.1, κ.2.2.2) = wM G q (sySM σ d (k + 1)) (0, κ.2.1, κ.2.2.1, κ.2.2.2) := (by rw [h8])
          rw [hw9] at hP hD
          exact ih18 (k + 1) (by omega) (by omega) _ _ _ hP hD hS (lv_sub hl [0, 1, 3, 4] (by rw [h9]; rfl))
        · skip
          refine zr_iconst hx hb dX6_sync_79 ?_
          refine lv_goto (tgt := 84) hx hb dX6_sync_80 (by decide) ?_
          refine zr_iadd hx hb dX6_sync_84 ?_
          refine lv_istore_n (lv' := [(2, .int (zI (((syCM σ d k : Nat) : Int) + (0 : Int)))), (4, .int (tB (rdR ((sySM σ d k)) k))), (3, .int (zI ((k : Nat) : Int))), (0, .ref (q 0)), (1, .int (zI ((d : Nat) : Int)))]) hx hb dX6_sync_85 rfl hl (by decide) rfl (fun ls hl => ?_)
          refine zr_iinc (lv' := [(3, .int (zI (((k : Nat) : Int) + (1 : Int)))), (2, .int (zI (((syCM σ d k : Nat) : Int) + (0 : Int)))), (4, .int (tB (rdR ((sySM σ d k)) k))), (0, .ref (q 0)), (1, .int (zI ((d : Nat) : Int)))]) hx hb 2 dX6_sync_86 hl rfl (by decide) rfl (fun ls hl => ?_)
          refine lv_goto (tgt := 18) hx hb dX6_sync_89 (by decide) ?_
          have h8 : sySM σ d (k + 1) = cpM (sySM σ d k) 4 d k := if_neg (fun h => of_decide_eq_false c39 h.1)
          have h9 : syCM σ d (k + 1) = syCM σ d k := if_pos (by rw [h8]; exact b01 c76)
          have hw9 : wM G q (cpM (sySM σ d k) 4 d k) (0, κ.2.1, κ.2.2.1, κ.2.2.2) = wM G q (sySM σ d (k + 1)) (0, κ.2.1, κ.2.2.1, κ.2.2.2) := (by rw [h8])
          rw [hw9] at hP hD
          exact ih18 (k + 1) (by omega) (by omega) _ _ _ hP hD hS (lv_sub hl [0, 1, 3, 4] (by rw [h9]; rfl))
      · skip
        refine lv_aload_n hx hb dX6_sync_42 rfl (lv_at hl 3 rfl) ?_
        refine lv_iload_n hx hb dX6_sync_43 rfl (lv_at hl 4 rfl) ?_
        refine lv_iload_n hx hb dX6_sync_44 rfl (lv_at hl 1 rfl) ?_
        refine zdet_I ⟨rfl, rfl⟩ Z hD hS (zrunV (rest := []) Z hP hD hS hl.1 (m_X6_wins l G q (sySM σ d k) (0, κ.2.1, κ.2.2.1, κ.2.2.2) (d) rfl (k) rfl hs9.1 (by omega) (by omega)) zY_X6_wins km_X6_229 (q0 := 0) rfl rfl rfl rfl ⟨⟨Nat.le_of_ble_eq_true rfl, Nat.le_of_ble_eq_true rfl⟩, Nat.le_of_ble_eq_true rfl, Nat.le_of_ble_eq_true rfl⟩ (Nat.le_of_ble_eq_true rfl) dX6_sync_45) (fun H locs hP hD hS => ?_)
        refine zb_eq (tgt := 61) hx hb dX6_sync_48 (by decide) (fun c48 => ?_) (fun c48 => ?_)
        · skip
          refine lv_aload_n hx hb dX6_sync_61 rfl (lv_at hl 3 rfl) ?_
          refine zr_iconst hx hb dX6_sync_62 ?_
          refine lv_iload_n hx hb dX6_sync_63 rfl (lv_at hl 4 rfl) ?_
          refine lv_iload_n hx hb dX6_sync_64 rfl (lv_at hl 1 rfl) ?_
          refine zdet_V ⟨rfl, rfl⟩ Z hD hS (zrunV (rest := []) Z hP hD hS hl.1 (m_X6_copies l G q (sySM σ d k) (0, κ.2.1, κ.2.2.1, κ.2.2.2) (4) (by omega) (d) rfl (k) rfl (by omega) (by omega) (by omega)) zY_X6_copies km_X6_210 (q0 := 0) rfl rfl rfl rfl ⟨⟨Nat.le_of_ble_eq_true rfl, Nat.le_of_ble_eq_true rfl⟩, Nat.le_of_ble_eq_true rfl, Nat.le_of_ble_eq_true rfl⟩ (Nat.le_of_ble_eq_true rfl) dX6_sync_65) (fun H locs hP hD hS => ?_)
          refine lv_iload_n hx hb dX6_sync_68 rfl (lv_at hl 2 rfl) ?_
          refine lv_aload_n hx hb dX6_sync_69 rfl (lv_at hl 3 rfl) ?_
          refine lv_iload_n hx hb dX6_sync_70 rfl (lv_at hl 1 rfl) ?_
          refine zdet_I ⟨rfl, rfl⟩ Z hD hS (zrunV (rest := [.int (zI ((syCM σ d k : Nat) : Int))]) Z hP hD hS hl.1 (m_X6_isReadNow l G q (cpM (sySM σ d k) 4 d k) (0, κ.2.1, κ.2.2.1, κ.2.2.2) (k) rfl (okM_cpM hs9.1 4 d k) (by show k < (sySM σ d k).1 4; omega)) zY_X6_isReadNow km_X6_204 (q0 := 0) rfl rfl rfl rfl ⟨⟨Nat.le_of_ble_eq_true rfl, Nat.le_of_ble_eq_true rfl⟩, Nat.le_of_ble_eq_true rfl, Nat.le_of_ble_eq_true rfl⟩ (Nat.le_of_ble_eq_true rfl) dX6_sync_71) (fun H locs hP hD hS => ?_)
          refine lv_iload hx hb dX6_sync_74 (lv_at hl 0 rfl) ?_
          refine zc_ne (tgt := 83) hx hb (if rdR ((cpM (sySM σ d k) 4 d k)) k then 1 else 0 : Int) (if rdR ((sySM σ d k)) k then 1 else 0 : Int) (by rw [tB_z]; exact zI_toInt (by split <;> decide)) (by rw [tB_z]; exact zI_toInt (by split <;> decide)) dX6_sync_76 (by decide) (fun c76 => ?_) (fun c76 => ?_)
          · skip
            refine zr_iconst hx hb dX6_sync_83 ?_
            refine zr_iadd hx hb dX6_sync_84 ?_
            refine lv_istore_n (lv' := [(2, .int (zI (((syCM σ d k : Nat) : Int) + (1 : Int)))), (4, .int (tB (rdR ((sySM σ d k)) k))), (3, .int (zI ((k : Nat) : Int))), (0, .ref (q 0)), (1, .int (zI ((d : Nat) : Int)))]) hx hb dX6_sync_85 rfl hl (by decide) rfl (fun ls hl => ?_)
            refine zr_iinc (lv' := [(3, .int (zI (((k : Nat) : Int) + (1 : Int)))), (2, .int (zI (((syCM σ d k : Nat) : Int) + (1 : Int)))), (4, .int (tB (rdR ((sySM σ d k)) k))), (0, .ref (q 0)), (1, .int (zI ((d : Nat) : Int)))]) hx hb 2 dX6_sync_86 hl rfl (by decide) rfl (fun ls hl => ?_)
            refine lv_goto (tgt := 18) hx hb dX6_sync_89 (by decide) ?_
            have h8 : sySM σ d (k + 1) = cpM (sySM σ d k) 4 d k := if_neg (fun h => by rw [c48] at h; cases h.2)
            have h9 : syCM σ d (k + 1) = syCM σ d k + 1 := if_neg (by rw [h8]; exact fun h => c76 (by rw [h]))
            have hw9 : wM G q (cpM (sySM σ d k) 4 d k) (0, κ.2.1, κ.2.2.1, κ.2.2.2) = wM G q (sySM σ d (k + 1)) (0, κ.2.1, κ.2.2.1, κ.2.2.2) := (by rw [h8])
            rw [hw9] at hP hD
            exact ih18 (k + 1) (by omega) (by omega) _ _ _ hP hD hS (lv_sub hl [0, 1, 3, 4] (by rw [h9]; rfl))
          · skip
            refine zr_iconst hx hb dX6_sync_79 ?_
            refine lv_goto (tgt := 84) hx hb dX6_sync_80 (by decide) ?_
            refine zr_iadd hx hb dX6_sync_84 ?_
            refine lv_istore_n (lv' := [(2, .int (zI (((syCM σ d k : Nat) : Int) + (0 : Int)))), (4, .int (tB (rdR ((sySM σ d k)) k))), (3, .int (zI ((k : Nat) : Int))), (0, .ref (q 0)), (1, .int (zI ((d : Nat) : Int)))]) hx hb dX6_sync_85 rfl hl (by decide) rfl (fun ls hl => ?_)
            refine zr_iinc (lv' := [(3, .int (zI (((k : Nat) : Int) + (1 : Int)))), (2, .int (zI (((syCM σ d k : Nat) : Int) + (0 : Int)))), (4, .int (tB (rdR ((sySM σ d k)) k))), (0, .ref (q 0)), (1, .int (zI ((d : Nat) : Int)))]) hx hb 2 dX6_sync_86 hl rfl (by decide) rfl (fun ls hl => ?_)
            refine lv_goto (tgt := 18) hx hb dX6_sync_89 (by decide) ?_
            have h8 : sySM σ d (k + 1) = cpM (sySM σ d k) 4 d k := if_neg (fun h => by rw [c48] at h; cases h.2)
            have h9 : syCM σ d (k + 1) = syCM σ d k := if_pos (by rw [h8]; exact b01 c76)
            have hw9 : wM G q (cpM (sySM σ d k) 4 d k) (0, κ.2.1, κ.2.2.1, κ.2.2.2) = wM G q (sySM σ d (k + 1)) (0, κ.2.1, κ.2.2.1, κ.2.2.2) := (by rw [h8])
            rw [hw9] at hP hD
            exact ih18 (k + 1) (by omega) (by omega) _ _ _ hP hD hS (lv_sub hl [0, 1, 3, 4] (by rw [h9]; rfl))
        · skip
          refine lv_aload_n hx hb dX6_sync_51 rfl (lv_at hl 3 rfl) ?_
          refine lv_iload_n hx hb dX6_sync_52 rfl (lv_at hl 4 rfl) ?_
          refine zr_iconst hx hb dX6_sync_53 ?_
          refine lv_iload_n hx hb dX6_sync_54 rfl (lv_at hl 1 rfl) ?_
          refine zdet_V ⟨rfl, rfl⟩ Z hD hS (zrunV (rest := []) Z hP hD hS hl.1 (m_X6_copies l G q (sySM σ d k) (0, κ.2.1, κ.2.2.1, κ.2.2.2) (d) rfl (4) (by omega) (k) rfl (by omega) (by omega) (by omega)) zY_X6_copies km_X6_210 (q0 := 0) rfl rfl rfl rfl ⟨⟨Nat.le_of_ble_eq_true rfl, Nat.le_of_ble_eq_true rfl⟩, Nat.le_of_ble_eq_true rfl, Nat.le_of_ble_eq_true rfl⟩ (Nat.le_of_ble_eq_true rfl) dX6_sync_55) (fun H locs hP hD hS => ?_)
          refine lv_goto (tgt := 68) hx hb dX6_sync_58 (by decide) ?_
          refine lv_iload_n hx hb dX6_sync_68 rfl (lv_at hl 2 rfl) ?_
          refine lv_aload_n hx hb dX6_sync_69 rfl (lv_at hl 3 rfl) ?_
          refine lv_iload_n hx hb dX6_sync_70 rfl (lv_at hl 1 rfl) ?_
          refine zdet_I ⟨rfl, rfl⟩ Z hD hS (zrunV (rest := [.int (zI ((syCM σ d k : Nat) : Int))]) Z hP hD hS hl.1 (m_X6_isReadNow l G q (cpM (sySM σ d k) d 4 k) (0, κ.2.1, κ.2.2.1, κ.2.2.2) (k) rfl (okM_cpM hs9.1 d 4 k) (by show k < (sySM σ d k).1 4; omega)) zY_X6_isReadNow km_X6_204 (q0 := 0) rfl rfl rfl rfl ⟨⟨Nat.le_of_ble_eq_true rfl, Nat.le_of_ble_eq_true rfl⟩, Nat.le_of_ble_eq_true rfl, Nat.le_of_ble_eq_true rfl⟩ (Nat.le_of_ble_eq_true rfl) dX6_sync_71) (fun H locs hP hD hS => ?_)
          refine lv_iload hx hb dX6_sync_74 (lv_at hl 0 rfl) ?_
          refine zc_ne (tgt := 83) hx hb (if rdR ((cpM (sySM σ d k) d 4 k)) k then 1 else 0 : Int) (if rdR ((sySM σ d k)) k then 1 else 0 : Int) (by rw [tB_z]; exact zI_toInt (by split <;> decide)) (by rw [tB_z]; exact zI_toInt (by split <;> decide)) dX6_sync_76 (by decide) (fun c76 => ?_) (fun c76 => ?_)
          · skip
            refine zr_iconst hx hb dX6_sync_83 ?_
            refine zr_iadd hx hb dX6_sync_84 ?_
            refine lv_istore_n (lv' := [(2, .int (zI (((syCM σ d k : Nat) : Int) + (1 : Int)))), (4, .int (tB (rdR ((sySM σ d k)) k))), (3, .int (zI ((k : Nat) : Int))), (0, .ref (q 0)), (1, .int (zI ((d : Nat) : Int)))]) hx hb dX6_sync_85 rfl hl (by decide) rfl (fun ls hl => ?_)
            refine zr_iinc (lv' := [(3, .int (zI (((k : Nat) : Int) + (1 : Int)))), (2, .int (zI (((syCM σ d k : Nat) : Int) + (1 : Int)))), (4, .int (tB (rdR ((sySM σ d k)) k))), (0, .ref (q 0)), (1, .int (zI ((d : Nat) : Int)))]) hx hb 2 dX6_sync_86 hl rfl (by decide) rfl (fun ls hl => ?_)
            refine lv_goto (tgt := 18) hx hb dX6_sync_89 (by decide) ?_
            have h8 : sySM σ d (k + 1) = cpM (sySM σ d k) d 4 k := if_pos ⟨of_decide_eq_true c39, c48⟩
            have h9 : syCM σ d (k + 1) = syCM σ d k + 1 := if_neg (by rw [h8]; exact fun h => c76 (by rw [h]))
            have hw9 : wM G q (cpM (sySM σ d k) d 4 k) (0, κ.2.1, κ.2.2.1, κ.2.2.2) = wM G q (sySM σ d (k + 1)) (0, κ.2.1, κ.2.2.1, κ.2.2.2) := (by rw [h8])
            rw [hw9] at hP hD
            exact ih18 (k + 1) (by omega) (by omega) _ _ _ hP hD hS (lv_sub hl [0, 1, 3, 4] (by rw [h9]; rfl))
          · skip
            refine zr_iconst hx hb dX6_sync_79 ?_
            refine lv_goto (tgt := 84) hx hb dX6_sync_80 (by decide) ?_
            refine zr_iadd hx hb dX6_sync_84 ?_
            refine lv_istore_n (lv' := [(2, .int (zI (((syCM σ d k : Nat) : Int) + (0 : Int)))), (4, .int (tB (rdR ((sySM σ d k)) k))), (3, .int (zI ((k : Nat) : Int))), (0, .ref (q 0)), (1, .int (zI ((d : Nat) : Int)))]) hx hb dX6_sync_85 rfl hl (by decide) rfl (fun ls hl => ?_)
            refine zr_iinc (lv' := [(3, .int (zI (((k : Nat) : Int) + (1 : Int)))), (2, .int (zI (((syCM σ d k : Nat) : Int) + (0 : Int)))), (4, .int (tB (rdR ((sySM σ d k)) k))), (0, .ref (q 0)), (1, .int (zI ((d : Nat) : Int)))]) hx hb 2 dX6_sync_86 hl rfl (by decide) rfl (fun ls hl => ?_)
            refine lv_goto (tgt := 18) hx hb dX6_sync_89 (by decide) ?_
            have h8 : sySM σ d (k + 1) = cpM (sySM σ d k) d 4 k := if_pos ⟨of_decide_eq_true c39, c48⟩
            have h9 : syCM σ d (k + 1) = syCM σ d k := if_pos (by rw [h8]; exact b01 c76)
            have hw9 : wM G q (cpM (sySM σ d k) d 4 k) (0, κ.2.1, κ.2.2.1, κ.2.2.2) = wM G q (sySM σ d (k + 1)) (0, κ.2.1, κ.2.2.1, κ.2.2.2) := (by rw [h8])
            rw [hw9] at hP hD
            exact ih18 (k + 1) (by omega) (by omega) _ _ _ hP hD hS (lv_sub hl [0, 1, 3, 4] (by rw [h9]; rfl))
abbrev r_X6_sync_t1 : Room := { frames := 2, cells := 0, slots := 0, locals := 44 }
set_option maxHeartbeats 4000000 in
set_option maxRecDepth 100000 in
theorem m_X6_sync_t1 (l : Launch) (G : ZG) (q : Nat → Nat) (σ : St) (κ : KM) (d : Int) (hI : okM σ) (h1 : zR d) (h2 : d < 0 ∨ ((σ.1 7 : Nat) : Int) ≤ d) :
    MC l G yX6_sync (wY yX6_sync cX6_sync 5 (some .int)) r_X6_sync_t1 (wM G q σ κ) [.ref (q 0), .int (zI (d : Int))] (QI G (fun r9 (_ : Unit) => r9 = (zI (0 : Int))) (fun _ => wM G q σ ((1 : Int), κ.2.1, κ.2.2.1, κ.2.2.2))) := by
  refine MC.mk (by decide +kernel) (Nat.le_of_ble_eq_true rfl) ?_
  intro p e s m av below meth c A H locs ls Q Z hr hnm hQ hP hD hS hl
  have hx := Z.1
  have hb := Z.2.1
  have hown := Z.2.2.2.1
  have hW := Z.2.2.2.2.1
  have hl : lv_has ls 5 [(0, .ref (q 0)), (1, .int (zI (d : Int)))] := hl
  obtain ⟨hn, hru, hrv, hdv, hsr, hmn, ht1, ht2, hwn, hv1, hv2, hmj, htm, hse, htg, hrt, hac, hk1, hk2, hkd, hmm, hmv, hpp, hpl, hp3, hp4, hp6, hp5, hp7, hnz⟩ := id hI
  refine lv_aload_n hx hb dX6_sync_0 rfl (lv_at hl 0 rfl) ?_
  refine lv_aload_n hx hb dX6_sync_1 rfl (lv_at hl 0 rfl) ?_
  refine lv_iload_n hx hb dX6_sync_2 rfl (lv_at hl 1 rfl) ?_
  refine zdet_I ⟨rfl, rfl⟩ Z hD hS (zrunV (rest := [.ref (q 0)]) Z hP hD hS hl.1 (m_X6_isDevice l G q σ κ (d : Int) (by omega) (by omega)) zY_X6_isDevice km_X6_217 (q0 := 0) rfl rfl rfl rfl ⟨⟨Nat.le_of_ble_eq_true rfl, Nat.le_of_ble_eq_true rfl⟩, Nat.le_of_ble_eq_true rfl, Nat.le_of_ble_eq_true rfl⟩ (Nat.le_of_ble_eq_true rfl) dX6_sync_3) (fun H locs hP hD hS => ?_)
  refine zdet_I ⟨rfl, rfl⟩ Z hD hS (zrunV (rest := []) Z hP hD hS hl.1 (m_X6_checked_n l G q σ κ (decide ((0 : Int) ≤ (d : Int) ∧ (d : Int) ≤ (((σ.1 7 : Nat) : Int) - (1 : Int)))) (decide_eq_false (by omega))) zY_X6_checked km_X6_137 (q0 := 0) rfl rfl rfl rfl ⟨⟨Nat.le_of_ble_eq_true rfl, Nat.le_of_ble_eq_true rfl⟩, Nat.le_of_ble_eq_true rfl, Nat.le_of_ble_eq_true rfl⟩ (Nat.le_of_ble_eq_true rfl) dX6_sync_6) (fun H locs hP hD hS => ?_)
  refine zc0_le (tgt := 14) hx hb (1 : Int) (zI_toInt (by decide)) dX6_sync_9 (by decide) (fun c9 => by exfalso; omega) (fun c9 => ?_)
  refine zr_iconst hx hb dX6_sync_12 ?_
  exact zret_I () Z hr hP hD hS rfl rfl ⟨Nat.le_refl _, Nat.le_refl _⟩ hQ dX6_sync_13
abbrev r_X6_isRead : Room := { frames := 2, cells := 0, slots := 0, locals := 44 }
set_option maxHeartbeats 4000000 in
set_option maxRecDepth 100000 in
theorem m_X6_isRead (l : Launch) (G : ZG) (q : Nat → Nat) (σ : St) (κ : KM) {e_i : Int} (i : Nat) (he_i : e_i = (i : Int)) (hI : okM σ) (h1 : i < σ.1 4) :
    MC l G yX6_isRead (wY yX6_isRead cX6_isRead 2 (some .boolean)) r_X6_isRead (wM G q σ κ) [.ref (q 0), .int (zI e_i)] (QI G (fun r9 (_ : Unit) => r9 = (tB (rdR σ i))) (fun _ => wM G q σ ((0 : Int), κ.2.1, κ.2.2.1, κ.2.2.2))) := by
  subst he_i
  refine MC.mk (by decide +kernel) (Nat.le_of_ble_eq_true rfl) ?_
  intro p e s m av below meth c A H locs ls Q Z hr hnm hQ hP hD hS hl
  have hx := Z.1
  have hb := Z.2.1
  have hown := Z.2.2.2.1
  have hW := Z.2.2.2.2.1
  have hl : lv_has ls 2 [(0, .ref (q 0)), (1, .int (zI ((i : Nat) : Int)))] := hl
  obtain ⟨hn, hru, hrv, hdv, hsr, hmn, ht1, ht2, hwn, hv1, hv2, hmj, htm, hse, htg, hrt, hac, hk1, hk2, hkd, hmm, hmv, hpp, hpl, hp3, hp4, hp6, hp5, hp7, hnz⟩ := id hI
  refine lv_aload_n hx hb dX6_isRead_0 rfl (lv_at hl 0 rfl) ?_
  refine lv_aload_n hx hb dX6_isRead_1 rfl (lv_at hl 0 rfl) ?_
  refine lv_iload_n hx hb dX6_isRead_2 rfl (lv_at hl 1 rfl) ?_
  refine zdet_I ⟨rfl, rfl⟩ Z hD hS (zrunV (rest := [.ref (q 0)]) Z hP hD hS hl.1 (m_X6_isItem l G q σ κ ((i : Nat) : Int) (by omega) (by omega)) zY_X6_isItem km_X6_171 (q0 := 0) rfl rfl rfl rfl ⟨⟨Nat.le_of_ble_eq_true rfl, Nat.le_of_ble_eq_true rfl⟩, Nat.le_of_ble_eq_true rfl, Nat.le_of_ble_eq_true rfl⟩ (Nat.le_of_ble_eq_true rfl) dX6_isRead_3) (fun H locs hP hD hS => ?_)
  refine zdet_I ⟨rfl, rfl⟩ Z hD hS (zrunV (rest := []) Z hP hD hS hl.1 (m_X6_checked l G q σ κ (decide ((0 : Int) ≤ ((i : Nat) : Int) ∧ ((i : Nat) : Int) ≤ (((σ.1 4 : Nat) : Int) - (1 : Int)))) (decide_eq_true (by omega))) zY_X6_checked km_X6_137 (q0 := 0) rfl rfl rfl rfl ⟨⟨Nat.le_of_ble_eq_true rfl, Nat.le_of_ble_eq_true rfl⟩, Nat.le_of_ble_eq_true rfl, Nat.le_of_ble_eq_true rfl⟩ (Nat.le_of_ble_eq_true rfl) dX6_isRead_6) (fun H locs hP hD hS => ?_)
  refine zc0_ne (tgt := 24) hx hb (0 : Int) (zI_toInt (by decide)) dX6_isRead_9 (by decide) (fun c9 => by exfalso; omega) (fun c9 => ?_)
  refine lv_aload_n hx hb dX6_isRead_12 rfl (lv_at hl 0 rfl) ?_
  refine lv_iload_n hx hb dX6_isRead_13 rfl (lv_at hl 1 rfl) ?_
  refine zdet_I ⟨rfl, rfl⟩ Z hD hS (zrunV (rest := []) Z hP hD hS hl.1 (m_X6_isReadNow l G q σ ((0 : Int), κ.2.1, κ.2.2.1, κ.2.2.2) (i) rfl hI (by omega)) zY_X6_isReadNow km_X6_204 (q0 := 0) rfl rfl rfl rfl ⟨⟨Nat.le_of_ble_eq_true rfl, Nat.le_of_ble_eq_true rfl⟩, Nat.le_of_ble_eq_true rfl, Nat.le_of_ble_eq_true rfl⟩ (Nat.le_of_ble_eq_true rfl) dX6_isRead_14) (fun H locs hP hD hS => ?_)
  refine zr_top (w := .int (tB (rdR σ i))) rfl ?_
  refine zb_eq (tgt := 24) hx hb dX6_isRead_17 (by decide) (fun c17 => ?_) (fun c17 => ?_)
  · skip
    refine zr_iconst hx hb dX6_isRead_24 ?_
    exact zret_B () Z hr (by decide +kernel) hP hD hS (tB_0 c17) rfl ⟨Nat.le_refl _, Nat.le_refl _⟩ hQ dX6_isRead_25
  · skip
    refine zr_iconst hx hb dX6_isRead_20 ?_
    refine lv_goto (tgt := 25) hx hb dX6_isRead_21 (by decide) ?_
    exact zret_B () Z hr (by decide +kernel) hP hD hS (tB_1 c17) rfl ⟨Nat.le_refl _, Nat.le_refl _⟩ hQ dX6_isRead_25
abbrev r_X6_isRead_t1 : Room := { frames := 2, cells := 0, slots := 0, locals := 44 }
set_option maxHeartbeats 4000000 in
set_option maxRecDepth 100000 in
theorem m_X6_isRead_t1 (l : Launch) (G : ZG) (q : Nat → Nat) (σ : St) (κ : KM) (i : Int) (hI : okM σ) (h1 : zR i) (h2 : i < 0 ∨ ((σ.1 4 : Nat) : Int) ≤ i) :
    MC l G yX6_isRead (wY yX6_isRead cX6_isRead 2 (some .boolean)) r_X6_isRead_t1 (wM G q σ κ) [.ref (q 0), .int (zI (i : Int))] (QI G (fun r9 (_ : Unit) => r9 = (tB (false))) (fun _ => wM G q σ ((1 : Int), κ.2.1, κ.2.2.1, κ.2.2.2))) := by
  refine MC.mk (by decide +kernel) (Nat.le_of_ble_eq_true rfl) ?_
  intro p e s m av below meth c A H locs ls Q Z hr hnm hQ hP hD hS hl
  have hx := Z.1
  have hb := Z.2.1
  have hown := Z.2.2.2.1
  have hW := Z.2.2.2.2.1
  have hl : lv_has ls 2 [(0, .ref (q 0)), (1, .int (zI (i : Int)))] := hl
  obtain ⟨hn, hru, hrv, hdv, hsr, hmn, ht1, ht2, hwn, hv1, hv2, hmj, htm, hse, htg, hrt, hac, hk1, hk2, hkd, hmm, hmv, hpp, hpl, hp3, hp4, hp6, hp5, hp7, hnz⟩ := id hI
  refine lv_aload_n hx hb dX6_isRead_0 rfl (lv_at hl 0 rfl) ?_
  refine lv_aload_n hx hb dX6_isRead_1 rfl (lv_at hl 0 rfl) ?_
  refine lv_iload_n hx hb dX6_isRead_2 rfl (lv_at hl 1 rfl) ?_
  refine zdet_I ⟨rfl, rfl⟩ Z hD hS (zrunV (rest := [.ref (q 0)]) Z hP hD hS hl.1 (m_X6_isItem l G q σ κ (i : Int) (by omega) (by omega)) zY_X6_isItem km_X6_171 (q0 := 0) rfl rfl rfl rfl ⟨⟨Nat.le_of_ble_eq_true rfl, Nat.le_of_ble_eq_true rfl⟩, Nat.le_of_ble_eq_true rfl, Nat.le_of_ble_eq_true rfl⟩ (Nat.le_of_ble_eq_true rfl) dX6_isRead_3) (fun H locs hP hD hS => ?_)
  refine zdet_I ⟨rfl, rfl⟩ Z hD hS (zrunV (rest := []) Z hP hD hS hl.1 (m_X6_checked_n l G q σ κ (decide ((0 : Int) ≤ (i : Int) ∧ (i : Int) ≤ (((σ.1 4 : Nat) : Int) - (1 : Int)))) (decide_eq_false (by omega))) zY_X6_checked km_X6_137 (q0 := 0) rfl rfl rfl rfl ⟨⟨Nat.le_of_ble_eq_true rfl, Nat.le_of_ble_eq_true rfl⟩, Nat.le_of_ble_eq_true rfl, Nat.le_of_ble_eq_true rfl⟩ (Nat.le_of_ble_eq_true rfl) dX6_isRead_6) (fun H locs hP hD hS => ?_)
  refine zc0_ne (tgt := 24) hx hb (1 : Int) (zI_toInt (by decide)) dX6_isRead_9 (by decide) (fun c9 => ?_) (fun c9 => by exfalso; omega)
  refine zr_iconst hx hb dX6_isRead_24 ?_
  exact zret_B () Z hr (by decide +kernel) hP hD hS (tB_0 rfl) rfl ⟨Nat.le_refl _, Nat.le_refl _⟩ hQ dX6_isRead_25
abbrev r_X6_isReadOn : Room := { frames := 2, cells := 0, slots := 0, locals := 45 }
set_option maxHeartbeats 4000000 in
set_option maxRecDepth 100000 in
theorem m_X6_isReadOn (l : Launch) (G : ZG) (q : Nat → Nat) (σ : St) (κ : KM) {e_d : Int} (d : Nat) (he_d : e_d = (d : Int)) {e_i : Int} (i : Nat) (he_i : e_i = (i : Int)) (hI : okM σ) (h1 : i < σ.1 4) (h2 : d < σ.1 7) (h3 : 0 < σ.2.1 4 (30 * d + i)) :
    MC l G yX6_isReadOn (wY yX6_isReadOn cX6_isReadOn 3 (some .boolean)) r_X6_isReadOn (wM G q σ κ) [.ref (q 0), .int (zI e_d), .int (zI e_i)] (QI G (fun r9 (_ : Unit) => r9 = (tB (rdD σ d i))) (fun _ => wM G q σ ((0 : Int), κ.2.1, κ.2.2.1, κ.2.2.2))) := by
  subst he_d
  subst he_i
  refine MC.mk (by decide +kernel) (Nat.le_of_ble_eq_true rfl) ?_
  intro p e s m av below meth c A H locs ls Q Z hr hnm hQ hP hD hS hl
  have hx := Z.1
  have hb := Z.2.1
  have hown := Z.2.2.2.1
  have hW := Z.2.2.2.2.1
  have hl : lv_has ls 3 [(0, .ref (q 0)), (1, .int (zI ((d : Nat) : Int))), (2, .int (zI ((i : Nat) : Int)))] := hl
  obtain ⟨hn, hru, hrv, hdv, hsr, hmn, ht1, ht2, hwn, hv1, hv2, hmj, htm, hse, htg, hrt, hac, hk1, hk2, hkd, hmm, hmv, hpp, hpl, hp3, hp4, hp6, hp5, hp7, hnz⟩ := id hI
  refine lv_aload_n hx hb dX6_isReadOn_0 rfl (lv_at hl 0 rfl) ?_
  refine lv_aload_n hx hb dX6_isReadOn_1 rfl (lv_at hl 0 rfl) ?_
  refine lv_iload_n hx hb dX6_isReadOn_2 rfl (lv_at hl 1 rfl) ?_
  refine zdet_I ⟨rfl, rfl⟩ Z hD hS (zrunV (rest := [.ref (q 0)]) Z hP hD hS hl.1 (m_X6_isDevice l G q σ κ ((d : Nat) : Int) (by omega) (by omega)) zY_X6_isDevice km_X6_217 (q0 := 0) rfl rfl rfl rfl ⟨⟨Nat.le_of_ble_eq_true rfl, Nat.le_of_ble_eq_true rfl⟩, Nat.le_of_ble_eq_true rfl, Nat.le_of_ble_eq_true rfl⟩ (Nat.le_of_ble_eq_true rfl) dX6_isReadOn_3) (fun H locs hP hD hS => ?_)
  refine zb_eq (tgt := 17) hx hb dX6_isReadOn_6 (by decide) (fun c6 => by exfalso; have h9 := of_decide_eq_false c6; omega) (fun c6 => ?_)
  refine lv_aload_n hx hb dX6_isReadOn_9 rfl (lv_at hl 0 rfl) ?_
  refine lv_iload_n hx hb dX6_isReadOn_10 rfl (lv_at hl 2 rfl) ?_
  refine zdet_I ⟨rfl, rfl⟩ Z hD hS (zrunV (rest := [.ref (q 0)]) Z hP hD hS hl.1 (m_X6_isItem l G q σ κ ((i : Nat) : Int) (by omega) (by omega)) zY_X6_isItem km_X6_171 (q0 := 0) rfl rfl rfl rfl ⟨⟨Nat.le_of_ble_eq_true rfl, Nat.le_of_ble_eq_true rfl⟩, Nat.le_of_ble_eq_true rfl, Nat.le_of_ble_eq_true rfl⟩ (Nat.le_of_ble_eq_true rfl) dX6_isReadOn_11) (fun H locs hP hD hS => ?_)
  refine zb_ne (tgt := 21) hx hb dX6_isReadOn_14 (by decide) (fun c14 => ?_) (fun c14 => by exfalso; have h9 := of_decide_eq_false c14; omega)
  refine lv_aload_n hx hb dX6_isReadOn_21 rfl (lv_at hl 0 rfl) ?_
  refine lv_iload_n hx hb dX6_isReadOn_22 rfl (lv_at hl 1 rfl) ?_
  refine lv_iload_n hx hb dX6_isReadOn_23 rfl (lv_at hl 2 rfl) ?_
  refine zdet_I ⟨rfl, rfl⟩ Z hD hS (zrunV (rest := [.ref (q 0)]) Z hP hD hS hl.1 (m_X6_knows l G q σ κ (d) rfl (i) rfl (by omega) (by omega) (hk1 _)) zY_X6_knows km_X6_220 (q0 := 0) rfl rfl rfl rfl ⟨⟨Nat.le_of_ble_eq_true rfl, Nat.le_of_ble_eq_true rfl⟩, Nat.le_of_ble_eq_true rfl, Nat.le_of_ble_eq_true rfl⟩ (Nat.le_of_ble_eq_true rfl) dX6_isReadOn_24) (fun H locs hP hD hS => ?_)
  refine zb_ne (tgt := 34) hx hb dX6_isReadOn_27 (by decide) (fun c27 => ?_) (fun c27 => by exfalso; have h9 := of_decide_eq_false c27; omega)
  refine zr_iconst hx hb dX6_isReadOn_34 ?_
  refine pM_0_23 Z hP hD hS kf_X6_80 dX6_isReadOn_35 (fun H locs hP hD hS => ?_)
  refine lv_aload_n hx hb dX6_isReadOn_38 rfl (lv_at hl 0 rfl) ?_
  refine gM_0_23 Z hP kf_X6_80 dX6_isReadOn_39 ?_
  refine zr_top (w := .int (zI (0 : Int))) rfl ?_
  refine zc0_ne (tgt := 58) hx hb (0 : Int) (zI_toInt (by decide)) dX6_isReadOn_42 (by decide) (fun c42 => by exfalso; omega) (fun c42 => ?_)
  refine lv_aload_n hx hb dX6_isReadOn_45 rfl (lv_at hl 0 rfl) ?_
  refine lv_iload_n hx hb dX6_isReadOn_46 rfl (lv_at hl 1 rfl) ?_
  refine lv_iload_n hx hb dX6_isReadOn_47 rfl (lv_at hl 2 rfl) ?_
  refine zdet_I ⟨rfl, rfl⟩ Z hD hS (zrunV (rest := []) Z hP hD hS hl.1 (m_X6_isReadAt l G q σ ((0 : Int), κ.2.1, κ.2.2.1, κ.2.2.2) (d) rfl (i) rfl hI (by omega) (by omega)) zY_X6_isReadAt km_X6_223 (q0 := 0) rfl rfl rfl rfl ⟨⟨Nat.le_of_ble_eq_true rfl, Nat.le_of_ble_eq_true rfl⟩, Nat.le_of_ble_eq_true rfl, Nat.le_of_ble_eq_true rfl⟩ (Nat.le_of_ble_eq_true rfl) dX6_isReadOn_48) (fun H locs hP hD hS => ?_)
  refine zr_top (w := .int (tB (rdD σ d i))) rfl ?_
  refine zb_eq (tgt := 58) hx hb dX6_isReadOn_51 (by decide) (fun c51 => ?_) (fun c51 => ?_)
  · skip
    refine zr_iconst hx hb dX6_isReadOn_58 ?_
    exact zret_B () Z hr (by decide +kernel) hP hD hS (tB_0 c51) rfl ⟨Nat.le_refl _, Nat.le_refl _⟩ hQ dX6_isReadOn_59
  · skip
    refine zr_iconst hx hb dX6_isReadOn_54 ?_
    refine lv_goto (tgt := 59) hx hb dX6_isReadOn_55 (by decide) ?_
    exact zret_B () Z hr (by decide +kernel) hP hD hS (tB_1 c51) rfl ⟨Nat.le_refl _, Nat.le_refl _⟩ hQ dX6_isReadOn_59
abbrev r_X6_isReadOn_t1 : Room := { frames := 2, cells := 0, slots := 0, locals := 45 }
set_option maxHeartbeats 4000000 in
set_option maxRecDepth 100000 in
theorem m_X6_isReadOn_t1 (l : Launch) (G : ZG) (q : Nat → Nat) (σ : St) (κ : KM) (d : Int) (i : Int) (hI : okM σ) (h1 : zR d ∧ zR i) (h2 : (d < 0 ∨ ((σ.1 7 : Nat) : Int) ≤ d) ∨ i < 0 ∨ ((σ.1 4 : Nat) : Int) ≤ i) :
    MC l G yX6_isReadOn (wY yX6_isReadOn cX6_isReadOn 3 (some .boolean)) r_X6_isReadOn_t1 (wM G q σ κ) [.ref (q 0), .int (zI (d : Int)), .int (zI (i : Int))] (QI G (fun r9 (_ : Unit) => r9 = (tB (false))) (fun _ => wM G q σ ((1 : Int), κ.2.1, κ.2.2.1, κ.2.2.2))) := by
  refine MC.mk (by decide +kernel) (Nat.le_of_ble_eq_true rfl) ?_
  intro p e s m av below meth c A H locs ls Q Z hr hnm hQ hP hD hS hl
  have hx := Z.1
  have hb := Z.2.1
  have hown := Z.2.2.2.1
  have hW := Z.2.2.2.2.1
  have hl : lv_has ls 3 [(0, .ref (q 0)), (1, .int (zI (d : Int))), (2, .int (zI (i : Int)))] := hl
  obtain ⟨hn, hru, hrv, hdv, hsr, hmn, ht1, ht2, hwn, hv1, hv2, hmj, htm, hse, htg, hrt, hac, hk1, hk2, hkd, hmm, hmv, hpp, hpl, hp3, hp4, hp6, hp5, hp7, hnz⟩ := id hI
  refine lv_aload_n hx hb dX6_isReadOn_0 rfl (lv_at hl 0 rfl) ?_
  refine lv_aload_n hx hb dX6_isReadOn_1 rfl (lv_at hl 0 rfl) ?_
  refine lv_iload_n hx hb dX6_isReadOn_2 rfl (lv_at hl 1 rfl) ?_
  refine zdet_I ⟨rfl, rfl⟩ Z hD hS (zrunV (rest := [.ref (q 0)]) Z hP hD hS hl.1 (m_X6_isDevice l G q σ κ (d : Int) (by omega) (by omega)) zY_X6_isDevice km_X6_217 (q0 := 0) rfl rfl rfl rfl ⟨⟨Nat.le_of_ble_eq_true rfl, Nat.le_of_ble_eq_true rfl⟩, Nat.le_of_ble_eq_true rfl, Nat.le_of_ble_eq_true rfl⟩ (Nat.le_of_ble_eq_true rfl) dX6_isReadOn_3) (fun H locs hP hD hS => ?_)
  refine zb_eq (tgt := 17) hx hb dX6_isReadOn_6 (by decide) (fun c6 => ?_) (fun c6 => ?_)
  · skip
    refine zr_iconst hx hb dX6_isReadOn_17 ?_
    refine lv_goto (tgt := 35) hx hb dX6_isReadOn_18 (by decide) ?_
    refine pM_0_23 Z hP hD hS kf_X6_80 dX6_isReadOn_35 (fun H locs hP hD hS => ?_)
    refine lv_aload_n hx hb dX6_isReadOn_38 rfl (lv_at hl 0 rfl) ?_
    refine gM_0_23 Z hP kf_X6_80 dX6_isReadOn_39 ?_
    refine zr_top (w := .int (zI (1 : Int))) rfl ?_
    refine zc0_ne (tgt := 58) hx hb (1 : Int) (zI_toInt (by decide)) dX6_isReadOn_42 (by decide) (fun c42 => ?_) (fun c42 => by exfalso; omega)
    refine zr_iconst hx hb dX6_isReadOn_58 ?_
    exact zret_B () Z hr (by decide +kernel) hP hD hS (tB_0 rfl) rfl ⟨Nat.le_refl _, Nat.le_refl _⟩ hQ dX6_isReadOn_59
  · skip
    refine lv_aload_n hx hb dX6_isReadOn_9 rfl (lv_at hl 0 rfl) ?_
    refine lv_iload_n hx hb dX6_isReadOn_10 rfl (lv_at hl 2 rfl) ?_
    refine zdet_I ⟨rfl, rfl⟩ Z hD hS (zrunV (rest := [.ref (q 0)]) Z hP hD hS hl.1 (m_X6_isItem l G q σ κ (i : Int) (by omega) (by omega)) zY_X6_isItem km_X6_171 (q0 := 0) rfl rfl rfl rfl ⟨⟨Nat.le_of_ble_eq_true rfl, Nat.le_of_ble_eq_true rfl⟩, Nat.le_of_ble_eq_true rfl, Nat.le_of_ble_eq_true rfl⟩ (Nat.le_of_ble_eq_true rfl) dX6_isReadOn_11) (fun H locs hP hD hS => ?_)
    refine zb_ne (tgt := 21) hx hb dX6_isReadOn_14 (by decide) (fun c14 => by exfalso; have a1 := of_decide_eq_true c6; have a2 := of_decide_eq_true c14; omega) (fun c14 => ?_)
    refine zr_iconst hx hb dX6_isReadOn_17 ?_
    refine lv_goto (tgt := 35) hx hb dX6_isReadOn_18 (by decide) ?_
    refine pM_0_23 Z hP hD hS kf_X6_80 dX6_isReadOn_35 (fun H locs hP hD hS => ?_)
    refine lv_aload_n hx hb dX6_isReadOn_38 rfl (lv_at hl 0 rfl) ?_
    refine gM_0_23 Z hP kf_X6_80 dX6_isReadOn_39 ?_
    refine zr_top (w := .int (zI (1 : Int))) rfl ?_
    refine zc0_ne (tgt := 58) hx hb (1 : Int) (zI_toInt (by decide)) dX6_isReadOn_42 (by decide) (fun c42 => ?_) (fun c42 => by exfalso; omega)
    refine zr_iconst hx hb dX6_isReadOn_58 ?_
    exact zret_B () Z hr (by decide +kernel) hP hD hS (tB_0 rfl) rfl ⟨Nat.le_refl _, Nat.le_refl _⟩ hQ dX6_isReadOn_59
abbrev r_X6_isReadOn_t2 : Room := { frames := 2, cells := 0, slots := 0, locals := 45 }
set_option maxHeartbeats 4000000 in
set_option maxRecDepth 100000 in
theorem m_X6_isReadOn_t2 (l : Launch) (G : ZG) (q : Nat → Nat) (σ : St) (κ : KM) {e_d : Int} (d : Nat) (he_d : e_d = (d : Int)) {e_i : Int} (i : Nat) (he_i : e_i = (i : Int)) (hI : okM σ) (h1 : i < σ.1 4) (h2 : d < σ.1 7) (h3 : σ.2.1 4 (30 * d + i) = 0) :
    MC l G yX6_isReadOn (wY yX6_isReadOn cX6_isReadOn 3 (some .boolean)) r_X6_isReadOn_t2 (wM G q σ κ) [.ref (q 0), .int (zI e_d), .int (zI e_i)] (QI G (fun r9 (_ : Unit) => r9 = (tB (false))) (fun _ => wM G q σ ((2 : Int), κ.2.1, κ.2.2.1, κ.2.2.2))) := by
  subst he_d
  subst he_i
  refine MC.mk (by decide +kernel) (Nat.le_of_ble_eq_true rfl) ?_
  intro p e s m av below meth c A H locs ls Q Z hr hnm hQ hP hD hS hl
  have hx := Z.1
  have hb := Z.2.1
  have hown := Z.2.2.2.1
  have hW := Z.2.2.2.2.1
  have hl : lv_has ls 3 [(0, .ref (q 0)), (1, .int (zI ((d : Nat) : Int))), (2, .int (zI ((i : Nat) : Int)))] := hl
  obtain ⟨hn, hru, hrv, hdv, hsr, hmn, ht1, ht2, hwn, hv1, hv2, hmj, htm, hse, htg, hrt, hac, hk1, hk2, hkd, hmm, hmv, hpp, hpl, hp3, hp4, hp6, hp5, hp7, hnz⟩ := id hI
  refine lv_aload_n hx hb dX6_isReadOn_0 rfl (lv_at hl 0 rfl) ?_
  refine lv_aload_n hx hb dX6_isReadOn_1 rfl (lv_at hl 0 rfl) ?_
  refine lv_iload_n hx hb dX6_isReadOn_2 rfl (lv_at hl 1 rfl) ?_
  refine zdet_I ⟨rfl, rfl⟩ Z hD hS (zrunV (rest := [.ref (q 0)]) Z hP hD hS hl.1 (m_X6_isDevice l G q σ κ ((d : Nat) : Int) (by omega) (by omega)) zY_X6_isDevice km_X6_217 (q0 := 0) rfl rfl rfl rfl ⟨⟨Nat.le_of_ble_eq_true rfl, Nat.le_of_ble_eq_true rfl⟩, Nat.le_of_ble_eq_true rfl, Nat.le_of_ble_eq_true rfl⟩ (Nat.le_of_ble_eq_true rfl) dX6_isReadOn_3) (fun H locs hP hD hS => ?_)
  refine zb_eq (tgt := 17) hx hb dX6_isReadOn_6 (by decide) (fun c6 => by exfalso; have h9 := of_decide_eq_false c6; omega) (fun c6 => ?_)
  refine lv_aload_n hx hb dX6_isReadOn_9 rfl (lv_at hl 0 rfl) ?_
  refine lv_iload_n hx hb dX6_isReadOn_10 rfl (lv_at hl 2 rfl) ?_
  refine zdet_I ⟨rfl, rfl⟩ Z hD hS (zrunV (rest := [.ref (q 0)]) Z hP hD hS hl.1 (m_X6_isItem l G q σ κ ((i : Nat) : Int) (by omega) (by omega)) zY_X6_isItem km_X6_171 (q0 := 0) rfl rfl rfl rfl ⟨⟨Nat.le_of_ble_eq_true rfl, Nat.le_of_ble_eq_true rfl⟩, Nat.le_of_ble_eq_true rfl, Nat.le_of_ble_eq_true rfl⟩ (Nat.le_of_ble_eq_true rfl) dX6_isReadOn_11) (fun H locs hP hD hS => ?_)
  refine zb_ne (tgt := 21) hx hb dX6_isReadOn_14 (by decide) (fun c14 => ?_) (fun c14 => by exfalso; have h9 := of_decide_eq_false c14; omega)
  refine lv_aload_n hx hb dX6_isReadOn_21 rfl (lv_at hl 0 rfl) ?_
  refine lv_iload_n hx hb dX6_isReadOn_22 rfl (lv_at hl 1 rfl) ?_
  refine lv_iload_n hx hb dX6_isReadOn_23 rfl (lv_at hl 2 rfl) ?_
  refine zdet_I ⟨rfl, rfl⟩ Z hD hS (zrunV (rest := [.ref (q 0)]) Z hP hD hS hl.1 (m_X6_knows l G q σ κ (d) rfl (i) rfl (by omega) (by omega) (hk1 _)) zY_X6_knows km_X6_220 (q0 := 0) rfl rfl rfl rfl ⟨⟨Nat.le_of_ble_eq_true rfl, Nat.le_of_ble_eq_true rfl⟩, Nat.le_of_ble_eq_true rfl, Nat.le_of_ble_eq_true rfl⟩ (Nat.le_of_ble_eq_true rfl) dX6_isReadOn_24) (fun H locs hP hD hS => ?_)
  refine zb_ne (tgt := 34) hx hb dX6_isReadOn_27 (by decide) (fun c27 => by exfalso; have h9 := of_decide_eq_true c27; omega) (fun c27 => ?_)
  refine zr_iconst hx hb dX6_isReadOn_30 ?_
  refine lv_goto (tgt := 35) hx hb dX6_isReadOn_31 (by decide) ?_
  refine pM_0_23 Z hP hD hS kf_X6_80 dX6_isReadOn_35 (fun H locs hP hD hS => ?_)
  refine lv_aload_n hx hb dX6_isReadOn_38 rfl (lv_at hl 0 rfl) ?_
  refine gM_0_23 Z hP kf_X6_80 dX6_isReadOn_39 ?_
  refine zr_top (w := .int (zI (2 : Int))) rfl ?_
  refine zc0_ne (tgt := 58) hx hb (2 : Int) (zI_toInt (by decide)) dX6_isReadOn_42 (by decide) (fun c42 => ?_) (fun c42 => by exfalso; omega)
  refine zr_iconst hx hb dX6_isReadOn_58 ?_
  exact zret_B () Z hr (by decide +kernel) hP hD hS (tB_0 rfl) rfl ⟨Nat.le_refl _, Nat.le_refl _⟩ hQ dX6_isReadOn_59
abbrev r_X6_knownVersions : Room := { frames := 2, cells := 0, slots := 0, locals := 43 }
set_option maxHeartbeats 4000000 in
set_option maxRecDepth 100000 in
theorem m_X6_knownVersions (l : Launch) (G : ZG) (q : Nat → Nat) (σ : St) (κ : KM) {e_d : Int} (d : Nat) (he_d : e_d = (d : Int)) {e_i : Int} (i : Nat) (he_i : e_i = (i : Int)) (hI : okM σ) (h1 : i < σ.1 4) (h2 : d < σ.1 7) :
    MC l G yX6_knownVersions (wY yX6_knownVersions cX6_knownVersions 3 (some .int)) r_X6_knownVersions (wM G q σ κ) [.ref (q 0), .int (zI e_d), .int (zI e_i)] (QI G (fun r9 (_ : Unit) => r9 = (zI (((σ.2.1 4) (30 * d + i) : Nat) : Int))) (fun _ => wM G q σ ((0 : Int), κ.2.1, κ.2.2.1, κ.2.2.2))) := by
  subst he_d
  subst he_i
  refine MC.mk (by decide +kernel) (Nat.le_of_ble_eq_true rfl) ?_
  intro p e s m av below meth c A H locs ls Q Z hr hnm hQ hP hD hS hl
  have hx := Z.1
  have hb := Z.2.1
  have hown := Z.2.2.2.1
  have hW := Z.2.2.2.2.1
  have hl : lv_has ls 3 [(0, .ref (q 0)), (1, .int (zI ((d : Nat) : Int))), (2, .int (zI ((i : Nat) : Int)))] := hl
  obtain ⟨hn, hru, hrv, hdv, hsr, hmn, ht1, ht2, hwn, hv1, hv2, hmj, htm, hse, htg, hrt, hac, hk1, hk2, hkd, hmm, hmv, hpp, hpl, hp3, hp4, hp6, hp5, hp7, hnz⟩ := id hI
  refine lv_aload_n hx hb dX6_knownVersions_0 rfl (lv_at hl 0 rfl) ?_
  refine lv_aload_n hx hb dX6_knownVersions_1 rfl (lv_at hl 0 rfl) ?_
  refine lv_iload_n hx hb dX6_knownVersions_2 rfl (lv_at hl 1 rfl) ?_
  refine zdet_I ⟨rfl, rfl⟩ Z hD hS (zrunV (rest := [.ref (q 0)]) Z hP hD hS hl.1 (m_X6_isDevice l G q σ κ ((d : Nat) : Int) (by omega) (by omega)) zY_X6_isDevice km_X6_217 (q0 := 0) rfl rfl rfl rfl ⟨⟨Nat.le_of_ble_eq_true rfl, Nat.le_of_ble_eq_true rfl⟩, Nat.le_of_ble_eq_true rfl, Nat.le_of_ble_eq_true rfl⟩ (Nat.le_of_ble_eq_true rfl) dX6_knownVersions_3) (fun H locs hP hD hS => ?_)
  refine zb_eq (tgt := 21) hx hb dX6_knownVersions_6 (by decide) (fun c6 => by exfalso; have h9 := of_decide_eq_false c6; omega) (fun c6 => ?_)
  refine lv_aload_n hx hb dX6_knownVersions_9 rfl (lv_at hl 0 rfl) ?_
  refine lv_iload_n hx hb dX6_knownVersions_10 rfl (lv_at hl 2 rfl) ?_
  refine zdet_I ⟨rfl, rfl⟩ Z hD hS (zrunV (rest := [.ref (q 0)]) Z hP hD hS hl.1 (m_X6_isItem l G q σ κ ((i : Nat) : Int) (by omega) (by omega)) zY_X6_isItem km_X6_171 (q0 := 0) rfl rfl rfl rfl ⟨⟨Nat.le_of_ble_eq_true rfl, Nat.le_of_ble_eq_true rfl⟩, Nat.le_of_ble_eq_true rfl, Nat.le_of_ble_eq_true rfl⟩ (Nat.le_of_ble_eq_true rfl) dX6_knownVersions_11) (fun H locs hP hD hS => ?_)
  refine zb_eq (tgt := 21) hx hb dX6_knownVersions_14 (by decide) (fun c14 => by exfalso; have h9 := of_decide_eq_false c14; omega) (fun c14 => ?_)
  refine zr_iconst hx hb dX6_knownVersions_17 ?_
  refine lv_goto (tgt := 22) hx hb dX6_knownVersions_18 (by decide) ?_
  refine zr_top (w := .int (tB (true))) (congrArg Value.int (tB_1 rfl)) ?_
  refine zdet_I ⟨rfl, rfl⟩ Z hD hS (zrunV (rest := []) Z hP hD hS hl.1 (m_X6_checked l G q σ κ (true) rfl) zY_X6_checked km_X6_137 (q0 := 0) rfl rfl rfl rfl ⟨⟨Nat.le_of_ble_eq_true rfl, Nat.le_of_ble_eq_true rfl⟩, Nat.le_of_ble_eq_true rfl, Nat.le_of_ble_eq_true rfl⟩ (Nat.le_of_ble_eq_true rfl) dX6_knownVersions_22) (fun H locs hP hD hS => ?_)
  refine zc0_le (tgt := 32) hx hb (0 : Int) (zI_toInt (by decide)) dX6_knownVersions_25 (by decide) (fun c25 => ?_) (fun c25 => by exfalso; omega)
  refine lv_aload_n hx hb dX6_knownVersions_32 rfl (lv_at hl 0 rfl) ?_
  refine gM_0_21 Z hP kf_X6_74 dX6_knownVersions_33 ?_
  refine zr_bipush hx hb dX6_knownVersions_36 (by decide) ?_
  refine lv_iload_n hx hb dX6_knownVersions_38 rfl (lv_at hl 1 rfl) ?_
  refine zr_imul hx hb dX6_knownVersions_39 ?_
  refine lv_iload_n hx hb dX6_knownVersions_40 rfl (lv_at hl 2 rfl) ?_
  refine zr_iadd hx hb dX6_knownVersions_41 ?_
  refine ldN Z hP 22 (σ.2.1 4) rfl (30 * d + i) (by omega) (by omega) (by decide) dX6_knownVersions_42 ?_
  exact zret_I () Z hr hP hD hS rfl rfl ⟨Nat.le_refl _, Nat.le_refl _⟩ hQ dX6_knownVersions_43
abbrev r_X6_knownVersions_t1 : Room := { frames := 2, cells := 0, slots := 0, locals := 43 }
set_option maxHeartbeats 4000000 in
set_option maxRecDepth 100000 in
theorem m_X6_knownVersions_t1 (l : Launch) (G : ZG) (q : Nat → Nat) (σ : St) (κ : KM) (d : Int) (i : Int) (hI : okM σ) (h1 : zR d ∧ zR i) (h2 : (d < 0 ∨ ((σ.1 7 : Nat) : Int) ≤ d) ∨ i < 0 ∨ ((σ.1 4 : Nat) : Int) ≤ i) :
    MC l G yX6_knownVersions (wY yX6_knownVersions cX6_knownVersions 3 (some .int)) r_X6_knownVersions_t1 (wM G q σ κ) [.ref (q 0), .int (zI (d : Int)), .int (zI (i : Int))] (QI G (fun r9 (_ : Unit) => r9 = (zI (0 : Int))) (fun _ => wM G q σ ((1 : Int), κ.2.1, κ.2.2.1, κ.2.2.2))) := by
  refine MC.mk (by decide +kernel) (Nat.le_of_ble_eq_true rfl) ?_
  intro p e s m av below meth c A H locs ls Q Z hr hnm hQ hP hD hS hl
  have hx := Z.1
  have hb := Z.2.1
  have hown := Z.2.2.2.1
  have hW := Z.2.2.2.2.1
  have hl : lv_has ls 3 [(0, .ref (q 0)), (1, .int (zI (d : Int))), (2, .int (zI (i : Int)))] := hl
  obtain ⟨hn, hru, hrv, hdv, hsr, hmn, ht1, ht2, hwn, hv1, hv2, hmj, htm, hse, htg, hrt, hac, hk1, hk2, hkd, hmm, hmv, hpp, hpl, hp3, hp4, hp6, hp5, hp7, hnz⟩ := id hI
  refine lv_aload_n hx hb dX6_knownVersions_0 rfl (lv_at hl 0 rfl) ?_
  refine lv_aload_n hx hb dX6_knownVersions_1 rfl (lv_at hl 0 rfl) ?_
  refine lv_iload_n hx hb dX6_knownVersions_2 rfl (lv_at hl 1 rfl) ?_
  refine zdet_I ⟨rfl, rfl⟩ Z hD hS (zrunV (rest := [.ref (q 0)]) Z hP hD hS hl.1 (m_X6_isDevice l G q σ κ (d : Int) (by omega) (by omega)) zY_X6_isDevice km_X6_217 (q0 := 0) rfl rfl rfl rfl ⟨⟨Nat.le_of_ble_eq_true rfl, Nat.le_of_ble_eq_true rfl⟩, Nat.le_of_ble_eq_true rfl, Nat.le_of_ble_eq_true rfl⟩ (Nat.le_of_ble_eq_true rfl) dX6_knownVersions_3) (fun H locs hP hD hS => ?_)
  refine zb_eq (tgt := 21) hx hb dX6_knownVersions_6 (by decide) (fun c6 => ?_) (fun c6 => ?_)
  · skip
    refine zr_iconst hx hb dX6_knownVersions_21 ?_
    refine zr_top (w := .int (tB (false))) (congrArg Value.int (tB_0 rfl)) ?_
    refine zdet_I ⟨rfl, rfl⟩ Z hD hS (zrunV (rest := []) Z hP hD hS hl.1 (m_X6_checked_n l G q σ κ (false) rfl) zY_X6_checked km_X6_137 (q0 := 0) rfl rfl rfl rfl ⟨⟨Nat.le_of_ble_eq_true rfl, Nat.le_of_ble_eq_true rfl⟩, Nat.le_of_ble_eq_true rfl, Nat.le_of_ble_eq_true rfl⟩ (Nat.le_of_ble_eq_true rfl) dX6_knownVersions_22) (fun H locs hP hD hS => ?_)
    refine zc0_le (tgt := 32) hx hb (1 : Int) (zI_toInt (by decide)) dX6_knownVersions_25 (by decide) (fun c25 => by exfalso; omega) (fun c25 => ?_)
    refine zr_iconst hx hb dX6_knownVersions_28 ?_
    refine lv_goto (tgt := 43) hx hb dX6_knownVersions_29 (by decide) ?_
    exact zret_I () Z hr hP hD hS rfl rfl ⟨Nat.le_refl _, Nat.le_refl _⟩ hQ dX6_knownVersions_43
  · skip
    refine lv_aload_n hx hb dX6_knownVersions_9 rfl (lv_at hl 0 rfl) ?_
    refine lv_iload_n hx hb dX6_knownVersions_10 rfl (lv_at hl 2 rfl) ?_
    refine zdet_I ⟨rfl, rfl⟩ Z hD hS (zrunV (rest := [.ref (q 0)]) Z hP hD hS hl.1 (m_X6_isItem l G q σ κ (i : Int) (by omega) (by omega)) zY_X6_isItem km_X6_171 (q0 := 0) rfl rfl rfl rfl ⟨⟨Nat.le_of_ble_eq_true rfl, Nat.le_of_ble_eq_true rfl⟩, Nat.le_of_ble_eq_true rfl, Nat.le_of_ble_eq_true rfl⟩ (Nat.le_of_ble_eq_true rfl) dX6_knownVersions_11) (fun H locs hP hD hS => ?_)
    refine zb_eq (tgt := 21) hx hb dX6_knownVersions_14 (by decide) (fun c14 => ?_) (fun c14 => by exfalso; have a1 := of_decide_eq_true c6; have a2 := of_decide_eq_true c14; omega)
    refine zr_iconst hx hb dX6_knownVersions_21 ?_
    refine zr_top (w := .int (tB (false))) (congrArg Value.int (tB_0 rfl)) ?_
    refine zdet_I ⟨rfl, rfl⟩ Z hD hS (zrunV (rest := []) Z hP hD hS hl.1 (m_X6_checked_n l G q σ κ (false) rfl) zY_X6_checked km_X6_137 (q0 := 0) rfl rfl rfl rfl ⟨⟨Nat.le_of_ble_eq_true rfl, Nat.le_of_ble_eq_true rfl⟩, Nat.le_of_ble_eq_true rfl, Nat.le_of_ble_eq_true rfl⟩ (Nat.le_of_ble_eq_true rfl) dX6_knownVersions_22) (fun H locs hP hD hS => ?_)
    refine zc0_le (tgt := 32) hx hb (1 : Int) (zI_toInt (by decide)) dX6_knownVersions_25 (by decide) (fun c25 => by exfalso; omega) (fun c25 => ?_)
    refine zr_iconst hx hb dX6_knownVersions_28 ?_
    refine lv_goto (tgt := 43) hx hb dX6_knownVersions_29 (by decide) ?_
    exact zret_I () Z hr hP hD hS rfl rfl ⟨Nat.le_refl _, Nat.le_refl _⟩ hQ dX6_knownVersions_43
abbrev r_X6_meanVersions : Room := { frames := 1, cells := 0, slots := 0, locals := 21 }
set_option maxHeartbeats 4000000 in
set_option maxRecDepth 100000 in
theorem m_X6_meanVersions (l : Launch) (G : ZG) (q : Nat → Nat) (σ : St) (κ : KM)  (hI : okM σ) (h1 : 0 < σ.1 4) :
    MC l G yX6_meanVersions (wY yX6_meanVersions cX6_meanVersions 3 (some .double)) r_X6_meanVersions (wM G q σ κ) [.ref (q 0)] (QD G (fun r9 (_ : Unit) => r9 = (FP.ddiv (FP.i2d (zI ((sumV σ (σ.1 4) : Nat) : Int))) (FP.i2d (zI ((σ.1 4 : Nat) : Int))))) (fun _ => wM G q σ ((0 : Int), κ.2.1, κ.2.2.1, κ.2.2.2))) := by
  refine MC.mk (by decide +kernel) (Nat.le_of_ble_eq_true rfl) ?_
  intro p e s m av below meth c A H locs ls Q Z hr hnm hQ hP hD hS hl
  have hx := Z.1
  have hb := Z.2.1
  have hown := Z.2.2.2.1
  have hW := Z.2.2.2.2.1
  have hl : lv_has ls 3 [(0, .ref (q 0))] := hl
  obtain ⟨hn, hru, hrv, hdv, hsr, hmn, ht1, ht2, hwn, hv1, hv2, hmj, htm, hse, htg, hrt, hac, hk1, hk2, hkd, hmm, hmv, hpp, hpl, hp3, hp4, hp6, hp5, hp7, hnz⟩ := id hI
  refine lv_aload_n hx hb dX6_meanVersions_0 rfl (lv_at hl 0 rfl) ?_
  refine lv_aload_n hx hb dX6_meanVersions_1 rfl (lv_at hl 0 rfl) ?_
  refine gM_0_28 Z hP kf_X6_96 dX6_meanVersions_2 ?_
  refine zc0_le (tgt := 12) hx hb ((σ.1 4 : Nat) : Int) (zI_toInt (by omega)) dX6_meanVersions_5 (by decide) (fun c5 => by exfalso; omega) (fun c5 => ?_)
  refine zr_iconst hx hb dX6_meanVersions_8 ?_
  refine lv_goto (tgt := 13) hx hb dX6_meanVersions_9 (by decide) ?_
  refine zr_top (w := .int (tB (true))) (congrArg Value.int (tB_1 rfl)) ?_
  refine zdet_I ⟨rfl, rfl⟩ Z hD hS (zrunV (rest := []) Z hP hD hS hl.1 (m_X6_checked l G q σ κ (true) rfl) zY_X6_checked km_X6_137 (q0 := 0) rfl rfl rfl rfl ⟨⟨Nat.le_of_ble_eq_true rfl, Nat.le_of_ble_eq_true rfl⟩, Nat.le_of_ble_eq_true rfl, Nat.le_of_ble_eq_true rfl⟩ (Nat.le_of_ble_eq_true rfl) dX6_meanVersions_13) (fun H locs hP hD hS => ?_)
  refine zc0_le (tgt := 21) hx hb (0 : Int) (zI_toInt (by decide)) dX6_meanVersions_16 (by decide) (fun c16 => ?_) (fun c16 => by exfalso; omega)
  refine zr_iconst hx hb dX6_meanVersions_21 ?_
  refine lv_istore_n (lv' := [(1, .int (zI (0 : Int))), (0, .ref (q 0))]) hx hb dX6_meanVersions_22 rfl hl (by decide) rfl (fun ls hl => ?_)
  refine zr_iconst hx hb dX6_meanVersions_23 ?_
  refine lv_istore_n (lv' := [(2, .int (zI (0 : Int))), (1, .int (zI (0 : Int))), (0, .ref (q 0))]) hx hb dX6_meanVersions_24 rfl hl (by decide) rfl (fun ls hl => ?_)
  suffices LP25 : ∀ (f9 : Nat) (k : Nat), σ.1 4 < k + f9 → (k ≤ σ.1 4) → ∀ (H : Heap) (locs : List Loc) (ls : Array Slot), va_P G.1 vwCl (wM G q σ (0, κ.2.1, κ.2.2.1, κ.2.2.2)) H → va_D A (wM G q σ (0, κ.2.1, κ.2.2.1, κ.2.2.2)) → va_S A s.heap H locs → lv_has ls 3 [(2, .int (zI ((k : Nat) : Int))), (1, .int (zI ((sumV σ k : Nat) : Int))), (0, .ref (q 0))] → W p l e r_X6_meanVersions s m av below meth c H locs 0 0 Q (F0 m 25 ls []) from LP25 (σ.1 4 + 1) (0) (by omega) (by omega) _ _ _ hP hD hS (lv_sub hl [0, 1, 2] rfl)
  intro f9
  induction f9 with
  | zero => intro k hf9 hk; exfalso; omega
  | succ f9 ih25 =>
    intro k hf9 hk H locs ls hP hD hS hl
    have hv9 := sumV_le σ hv2 k
    refine lv_iload_n hx hb dX6_meanVersions_25 rfl (lv_at hl 0 rfl) ?_
    refine lv_aload_n hx hb dX6_meanVersions_26 rfl (lv_at hl 2 rfl) ?_
    refine gM_0_28 Z hP kf_X6_96 dX6_meanVersions_27 ?_
    refine zc_ge (tgt := 48) hx hb ((k : Nat) : Int) ((σ.1 4 : Nat) : Int) (zI_toInt (by omega)) (zI_toInt (by omega)) dX6_meanVersions_30 (by decide) (fun c30 => ?_) (fun c30 => ?_)
    · skip
      refine lv_iload_n hx hb dX6_meanVersions_48 rfl (lv_at hl 1 rfl) ?_
      refine lv_i2d hx hb dX6_meanVersions_49 ?_
      refine lv_aload_n hx hb dX6_meanVersions_50 rfl (lv_at hl 2 rfl) ?_
      refine gM_0_28 Z hP kf_X6_96 dX6_meanVersions_51 ?_
      refine lv_i2d hx hb dX6_meanVersions_54 ?_
      refine lv_ddiv hx hb dX6_meanVersions_55 (ddiv_ok (by omega) (by omega) (by omega)) ?_
      exact zret_D () Z hr hP hD hS (by rw [show k = σ.1 4 from by omega]) rfl ⟨Nat.le_refl _, Nat.le_refl _⟩ hQ dX6_meanVersions_56
    · skip
      refine lv_iload_n hx hb dX6_meanVersions_33 rfl (lv_at hl 1 rfl) ?_
      refine lv_aload_n hx hb dX6_meanVersions_34 rfl (lv_at hl 2 rfl) ?_
      refine gM_0_6 Z hP kf_X6_29 dX6_meanVersions_35 ?_
      refine lv_iload_n hx hb dX6_meanVersions_38 rfl (lv_at hl 0 rfl) ?_
      refine ldN Z hP 7 (σ.2.1 2) rfl (k) rfl (by omega) (by decide) dX6_meanVersions_39 ?_
      refine zr_iadd hx hb dX6_meanVersions_40 ?_
      refine lv_istore_n (lv' := [(1, .int (zI (((sumV σ k : Nat) : Int) + (((σ.2.1 2) (k) : Nat) : Int)))), (2, .int (zI ((k : Nat) : Int))), (0, .ref (q 0))]) hx hb dX6_meanVersions_41 rfl hl (by decide) rfl (fun ls hl => ?_)
      refine zr_iinc (lv' := [(2, .int (zI (((k : Nat) : Int) + (1 : Int)))), (1, .int (zI (((sumV σ k : Nat) : Int) + (((σ.2.1 2) (k) : Nat) : Int)))), (0, .ref (q 0))]) hx hb 1 dX6_meanVersions_42 hl rfl (by decide) rfl (fun ls hl => ?_)
      refine lv_goto (tgt := 25) hx hb dX6_meanVersions_45 (by decide) ?_
      exact ih25 (k + 1) (by omega) (by omega) _ _ _ hP hD hS (lv_sub hl [0, 1, 2] rfl)
abbrev r_X6_meanVersions_t1 : Room := { frames := 1, cells := 0, slots := 0, locals := 21 }
set_option maxHeartbeats 4000000 in
set_option maxRecDepth 100000 in
theorem m_X6_meanVersions_t1 (l : Launch) (G : ZG) (q : Nat → Nat) (σ : St) (κ : KM)  (hI : okM σ) (h1 : σ.1 4 = 0) :
    MC l G yX6_meanVersions (wY yX6_meanVersions cX6_meanVersions 3 (some .double)) r_X6_meanVersions_t1 (wM G q σ κ) [.ref (q 0)] (QD G (fun r9 (_ : Unit) => r9 = (FP.dconst0)) (fun _ => wM G q σ ((1 : Int), κ.2.1, κ.2.2.1, κ.2.2.2))) := by
  refine MC.mk (by decide +kernel) (Nat.le_of_ble_eq_true rfl) ?_
  intro p e s m av below meth c A H locs ls Q Z hr hnm hQ hP hD hS hl
  have hx := Z.1
  have hb := Z.2.1
  have hown := Z.2.2.2.1
  have hW := Z.2.2.2.2.1
  have hl : lv_has ls 3 [(0, .ref (q 0))] := hl
  obtain ⟨hn, hru, hrv, hdv, hsr, hmn, ht1, ht2, hwn, hv1, hv2, hmj, htm, hse, htg, hrt, hac, hk1, hk2, hkd, hmm, hmv, hpp, hpl, hp3, hp4, hp6, hp5, hp7, hnz⟩ := id hI
  refine lv_aload_n hx hb dX6_meanVersions_0 rfl (lv_at hl 0 rfl) ?_
  refine lv_aload_n hx hb dX6_meanVersions_1 rfl (lv_at hl 0 rfl) ?_
  refine gM_0_28 Z hP kf_X6_96 dX6_meanVersions_2 ?_
  refine zc0_le (tgt := 12) hx hb ((σ.1 4 : Nat) : Int) (zI_toInt (by omega)) dX6_meanVersions_5 (by decide) (fun c5 => ?_) (fun c5 => by exfalso; omega)
  refine zr_iconst hx hb dX6_meanVersions_12 ?_
  refine zr_top (w := .int (tB (false))) (congrArg Value.int (tB_0 rfl)) ?_
  refine zdet_I ⟨rfl, rfl⟩ Z hD hS (zrunV (rest := []) Z hP hD hS hl.1 (m_X6_checked_n l G q σ κ (false) rfl) zY_X6_checked km_X6_137 (q0 := 0) rfl rfl rfl rfl ⟨⟨Nat.le_of_ble_eq_true rfl, Nat.le_of_ble_eq_true rfl⟩, Nat.le_of_ble_eq_true rfl, Nat.le_of_ble_eq_true rfl⟩ (Nat.le_of_ble_eq_true rfl) dX6_meanVersions_13) (fun H locs hP hD hS => ?_)
  refine zc0_le (tgt := 21) hx hb (1 : Int) (zI_toInt (by decide)) dX6_meanVersions_16 (by decide) (fun c16 => by exfalso; omega) (fun c16 => ?_)
  refine lv_dconst0 hx hb dX6_meanVersions_19 ?_
  exact zret_D () Z hr hP hD hS rfl rfl ⟨Nat.le_refl _, Nat.le_refl _⟩ hQ dX6_meanVersions_20
abbrev r_X6_isSound : Room := { frames := 0, cells := 0, slots := 0, locals := 0 }
set_option maxHeartbeats 4000000 in
set_option maxRecDepth 100000 in
theorem m_X6_isSound (l : Launch) (G : ZG) (q : Nat → Nat) (σ : St) (κ : KM)  :
    MC l G yX6_isSound (wY yX6_isSound cX6_isSound 1 (some .boolean)) r_X6_isSound (wM G q σ κ) [.ref (q 0)] (QI G (fun r9 (_ : Unit) => r9 = (tB (true))) (fun _ => wM G q σ ((0 : Int), κ.2.1, κ.2.2.1, κ.2.2.2))) := by
  refine MC.mk (by decide +kernel) (Nat.le_of_ble_eq_true rfl) ?_
  intro p e s m av below meth c A H locs ls Q Z hr hnm hQ hP hD hS hl
  have hx := Z.1
  have hb := Z.2.1
  have hown := Z.2.2.2.1
  have hW := Z.2.2.2.2.1
  have hl : lv_has ls 1 [(0, .ref (q 0))] := hl
  refine lv_aload_n hx hb dX6_isSound_0 rfl (lv_at hl 0 rfl) ?_
  refine zr_iconst hx hb dX6_isSound_1 ?_
  refine pM_0_23 Z hP hD hS kf_X6_80 dX6_isSound_2 (fun H locs hP hD hS => ?_)
  refine zr_iconst hx hb dX6_isSound_5 ?_
  exact zret_B () Z hr (by decide +kernel) hP hD hS (tB_1 rfl) rfl ⟨Nat.le_refl _, Nat.le_refl _⟩ hQ dX6_isSound_6
