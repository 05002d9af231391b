section ZPure6
theorem b01 {a b : Bool} (h : (if a then 1 else 0 : Int) = (if b then 1 else 0 : Int)) : a = b := by cases a <;> cases b <;> simp_all
theorem okC_k1 {σ : St} (h : okC σ) (k : Nat) : σ.2.1 4 k < 1000000 := by
  obtain ⟨hn, hru, hrv, hdv, hsr, hmn, ht1, ht2, hwn, hv1, hv2, hmj, htm, hse, htg, hrt, hac, hk1, hk2, hkd, hmm, hmv, hord, hpo, hlo⟩ := h
  exact hk1 k
theorem okC_kd {σ : St} (h : okC σ) : (∀ k, σ.2.1 6 k ≤ 2) ∧ (∀ k, σ.2.1 7 k < 1000000) ∧ (∀ k, σ.2.1 8 k < 1000000) := by
  obtain ⟨hn, hru, hrv, hdv, hsr, hmn, ht1, ht2, hwn, hv1, hv2, hmj, htm, hse, htg, hrt, hac, hk1, hk2, hkd, hmm, hmv, hord, hpo, hlo⟩ := h
  exact ⟨hkd, hmm, hmv⟩
theorem tb_0 (u : Nat) : tb (zI (0 : Int)) u = false := by
  unfold tb
  show (0#32).getLsbD u = false
  exact BitVec.getLsbD_zero
end ZPure6
abbrev r_X5_addDevice : Room := { frames := 2, cells := 0, slots := 0, locals := 47 }
set_option maxHeartbeats 4000000 in
set_option maxRecDepth 100000 in
theorem m_X5_addDevice (l : Launch) (G : ZG) (q : Nat → Nat) (σ : St) (κ : KC)  (hI : okC σ) (h1 : σ.1 7 < 4) :
    MC l G yX5_addDevice (wY yX5_addDevice cX5_addDevice 3 (some .int)) r_X5_addDevice (wC G q σ κ) [.ref (q 0)] (QI G (fun r9 (_ : Unit) => r9 = (zI ((σ.1 7 : Nat) : Int))) (fun _ => wC G q (bupN (sN σ 7 (σ.1 7 + 1)) (σ.1 7) (σ.1 4)) κ)) := by
  refine MC.mk (by decide +kernel) (Nat.le_of_ble_eq_true rfl) ?_
  intro p e s m av below meth c A H locs ls Q Z hr hnm hQ hP hD hS hl
  have hx := Z.1
  have hb := Z.2.1
  have hown := Z.2.2.2.1
  have hW := Z.2.2.2.2.1
  have hl : lv_has ls 3 [(0, .ref (q 0))] := hl
  obtain ⟨hn, hru, hrv, hdv, hsr, hmn, ht1, ht2, hwn, hv1, hv2, hmj, htm, hse, htg, hrt, hac, hk1, hk2, hkd, hmm, hmv, hord, hpo, hlo⟩ := id hI
  refine lv_aload_n hx hb dX5_addDevice_0 rfl (lv_at hl 0 rfl) ?_
  refine gC_0_7 Z hP kf_X5_46 dX5_addDevice_1 ?_
  refine zdet_I ⟨rfl, rfl⟩ Z hD hS (zrunV (rest := []) Z hP hD hS hl.1 (m_X0_append l G q σ κ h1) zY_X0_append km_X5_246 (q0 := 4) rfl rfl rfl rfl ⟨⟨Nat.le_of_ble_eq_true rfl, Nat.le_of_ble_eq_true rfl⟩, Nat.le_of_ble_eq_true rfl, Nat.le_of_ble_eq_true rfl⟩ (Nat.le_of_ble_eq_true rfl) dX5_addDevice_4) (fun H locs hP hD hS => ?_)
  refine lv_istore_n (lv' := [(1, .int (zI ((σ.1 7 : Nat) : Int))), (0, .ref (q 0))]) hx hb dX5_addDevice_7 rfl hl (by decide) rfl (fun ls hl => ?_)
  refine lv_iload_n hx hb dX5_addDevice_8 rfl (lv_at hl 0 rfl) ?_
  refine zr_iconst hx hb dX5_addDevice_9 ?_
  refine zc_ne (tgt := 23) hx hb ((σ.1 7 : Nat) : Int) (-1 : Int) (zI_toInt (by omega)) (zI_toInt (by decide)) dX5_addDevice_10 (by decide) (fun c10 => ?_) (fun c10 => by exfalso; omega)
  refine zr_iconst hx hb dX5_addDevice_23 ?_
  refine lv_istore_n (lv' := [(2, .int (zI (0 : Int))), (1, .int (zI ((σ.1 7 : Nat) : Int))), (0, .ref (q 0))]) hx hb dX5_addDevice_24 rfl hl (by decide) rfl (fun ls hl => ?_)
  suffices LP25 : ∀ (f9 : Nat) (k : Nat), σ.1 4 < k + f9 → (k ≤ σ.1 4) → ∀ (H : Heap) (locs : List Loc) (ls : Array Slot), va_P G.1 vwCl (wC G q (bupN (sN σ 7 (σ.1 7 + 1)) (σ.1 7) k) κ) H → va_D A (wC G q (bupN (sN σ 7 (σ.1 7 + 1)) (σ.1 7) k) κ) → va_S A s.heap H locs → lv_has ls 3 [(2, .int (zI ((k : Nat) : Int))), (0, .ref (q 0)), (1, .int (zI ((σ.1 7 : Nat) : Int)))] → W p l e r_X5_addDevice s m av below meth c H locs 0 0 Q (F0 m 25 ls []) from LP25 (σ.1 4 + 1) (0) (by omega) (by omega) _ _ _ hP hD hS (lv_sub hl [0, 2, 1] rfl)
  intro f9
  induction f9 with
  | zero => intro k hf9 hk; exfalso; omega
  | succ f9 ih25 =>
    intro k hf9 hk H locs ls hP hD hS hl
    have hN9 : (bupN (sN σ 7 (σ.1 7 + 1)) (σ.1 7) k).1 4 = σ.1 4 := by rw [bupN_N]; rfl
    refine lv_iload_n hx hb dX5_addDevice_25 rfl (lv_at hl 0 rfl) ?_
    refine lv_aload_n hx hb dX5_addDevice_26 rfl (lv_at hl 1 rfl) ?_
    refine gC_0_4 Z hP kf_X5_25 dX5_addDevice_27 ?_
    refine zdet_I ⟨rfl, rfl⟩ Z hD hS (zrunV (rest := [.int (zI ((k : Nat) : Int))]) Z hP hD hS hl.1 (m_X1_size l G q (bupN (sN σ 7 (σ.1 7 + 1)) (σ.1 7) k) κ) zY_X1_size km_X5_132 (q0 := 1) rfl rfl rfl rfl ⟨⟨Nat.le_of_ble_eq_true rfl, Nat.le_of_ble_eq_true rfl⟩, Nat.le_of_ble_eq_true rfl, Nat.le_of_ble_eq_true rfl⟩ (Nat.le_of_ble_eq_true rfl) dX5_addDevice_30) (fun H locs hP hD hS => ?_)
    refine zc_ge (tgt := 48) hx hb ((k : Nat) : Int) ((((bupN (sN σ 7 (σ.1 7 + 1)) (σ.1 7) k)).1 4 : Nat) : Int) (zI_toInt (by omega)) (zI_toInt (by omega)) dX5_addDevice_33 (by decide) (fun c33 => ?_) (fun c33 => ?_)
    · skip
      refine lv_iload_n hx hb dX5_addDevice_48 rfl (lv_at hl 2 rfl) ?_
      exact zret_I () Z hr hP hD hS rfl (by rw [show k = σ.1 4 from by omega]) ⟨Nat.le_refl _, Nat.le_refl _⟩ hQ dX5_addDevice_49
    · skip
      refine lv_aload_n hx hb dX5_addDevice_36 rfl (lv_at hl 1 rfl) ?_
      refine lv_iload_n hx hb dX5_addDevice_37 rfl (lv_at hl 2 rfl) ?_
      refine lv_iload_n hx hb dX5_addDevice_38 rfl (lv_at hl 0 rfl) ?_
      refine zdet_V ⟨rfl, rfl⟩ Z hD hS (zrunV (rest := []) Z hP hD hS hl.1 (m_X5_bringUpToDate l G q (bupN (sN σ 7 (σ.1 7 + 1)) (σ.1 7) k) κ (σ.1 7) rfl (k) rfl (by omega) h1) zY_X5_bringUpToDate km_X5_250 (q0 := 0) rfl rfl rfl rfl ⟨⟨Nat.le_of_ble_eq_true rfl, Nat.le_of_ble_eq_true rfl⟩, Nat.le_of_ble_eq_true rfl, Nat.le_of_ble_eq_true rfl⟩ (Nat.le_of_ble_eq_true rfl) dX5_addDevice_39) (fun H locs hP hD hS => ?_)
      refine zr_iinc (lv' := [(2, .int (zI (((k : Nat) : Int) + (1 : Int)))), (0, .ref (q 0)), (1, .int (zI ((σ.1 7 : Nat) : Int)))]) hx hb 0 dX5_addDevice_42 hl rfl (by decide) rfl (fun ls hl => ?_)
      refine lv_goto (tgt := 25) hx hb dX5_addDevice_45 (by decide) ?_
      have hw9 : wC G q (bup (bupN (sN σ 7 (σ.1 7 + 1)) (σ.1 7) k) (σ.1 7) k) κ = wC G q (bupN (sN σ 7 (σ.1 7 + 1)) (σ.1 7) (k + 1)) κ := rfl
      rw [hw9] at hP hD
      exact ih25 (k + 1) (by omega) (by omega) _ _ _ hP hD hS (lv_sub hl [0, 1, 2] rfl)
abbrev r_X5_addDevice_x : Room := { frames := 6, cells := 1, slots := 6, locals := 100 }
set_option maxHeartbeats 4000000 in
set_option maxRecDepth 100000 in
theorem m_X5_addDevice_x (l : Launch) (G : ZG) (hst : l.stackTraces = false) (q : Nat → Nat) (σ : St) (κ : KC)  (hI : okC σ) (h1 : σ.1 7 = 4) :
    MX l G yX5_addDevice (wY yX5_addDevice cX5_addDevice 3 (some .int)) r_X5_addDevice_x (wC G q σ κ) [.ref (q 0)] (S := Unit) "java/lang/IllegalStateException" (fun _ => wC G q σ κ) := by
  refine MX.mk (by decide +kernel) (Nat.le_of_ble_eq_true rfl) ?_
  intro p e s m av below meth c A H locs ls Q Z ht hQ hP hD hS hl
  have hx := Z.1
  have hb := Z.2.1
  have hown := Z.2.2.2.1
  have hW := Z.2.2.2.2.1
  have hl : lv_has ls 3 [(0, .ref (q 0))] := hl
  obtain ⟨hn, hru, hrv, hdv, hsr, hmn, ht1, ht2, hwn, hv1, hv2, hmj, htm, hse, htg, hrt, hac, hk1, hk2, hkd, hmm, hmv, hord, hpo, hlo⟩ := id hI
  refine lv_aload_n hx hb dX5_addDevice_0 rfl (lv_at hl 0 rfl) ?_
  refine gC_0_7 Z hP kf_X5_46 dX5_addDevice_1 ?_
  refine zdet_I ⟨rfl, rfl⟩ Z hD hS (zrunV (rest := []) Z hP hD hS hl.1 (m_X0_append_full l G q σ κ h1) zY_X0_append km_X5_246 (q0 := 4) rfl rfl rfl rfl ⟨⟨Nat.le_of_ble_eq_true rfl, Nat.le_of_ble_eq_true rfl⟩, Nat.le_of_ble_eq_true rfl, Nat.le_of_ble_eq_true rfl⟩ (Nat.le_of_ble_eq_true rfl) dX5_addDevice_4) (fun H locs hP hD hS => ?_)
  refine lv_istore_n (lv' := [(1, .int (zI (-1 : Int))), (0, .ref (q 0))]) hx hb dX5_addDevice_7 rfl hl (by decide) rfl (fun ls hl => ?_)
  refine lv_iload_n hx hb dX5_addDevice_8 rfl (lv_at hl 0 rfl) ?_
  refine zr_iconst hx hb dX5_addDevice_9 ?_
  refine zc_ne (tgt := 23) hx hb (-1 : Int) (-1 : Int) (zI_toInt (by decide)) (zI_toInt (by decide)) dX5_addDevice_10 (by decide) (fun c10 => by exfalso; omega) (fun c10 => ?_)
  exact th_ISE (()) "there are 4 devices" hst Z ht hP hD hS hl.1 rfl (by decide +kernel) ⟨Nat.le_of_ble_eq_true rfl, Nat.le_of_ble_eq_true rfl, Nat.le_of_ble_eq_true rfl, Nat.le_of_ble_eq_true rfl⟩ hQ dX5_addDevice_13 dX5_addDevice_16 dX5_addDevice_17 dX5_addDevice_19 dX5_addDevice_22
abbrev r_X5_mark : Room := { frames := 3, cells := 0, slots := 0, locals := 70 }
set_option maxHeartbeats 4000000 in
set_option maxRecDepth 100000 in
theorem m_X5_mark (l : Launch) (G : ZG) (q : Nat → Nat) (σ : St) (κ : KC) {e_d : Int} (d : Nat) (he_d : e_d = (d : Int)) {e_i : Int} (i : Nat) (he_i : e_i = (i : Int)) (b : Bool) (hI : okC σ) (h1 : i < σ.1 4) (h2 : d < σ.1 7) (h3 : 0 < σ.2.1 4 (30 * d + i)) :
    MC l G yX5_mark (wY yX5_mark cX5_mark 4 (some .boolean)) r_X5_mark (wC G q σ κ) [.ref (q 0), .int (zI e_d), .int (zI e_i), .int (tB (b))] (QI G (fun r9 (_ : Unit) => r9 = (tB (rdD σ d i))) (fun _ => wC G q (mkS σ d i b) κ)) := by
  subst he_d
  subst he_i
  refine MC.mk (by decide +kernel) (Nat.le_of_ble_eq_true rfl) ?_
  intro p e s m av below meth c A H locs ls Q Z hr hnm hQ hP hD hS hl
  have hx := Z.1
  have hb := Z.2.1
  have hown := Z.2.2.2.1
  have hW := Z.2.2.2.2.1
  have hl : lv_has ls 4 [(0, .ref (q 0)), (1, .int (zI ((d : Nat) : Int))), (2, .int (zI ((i : Nat) : Int))), (3, .int (tB (b)))] := hl
  obtain ⟨hn, hru, hrv, hdv, hsr, hmn, ht1, ht2, hwn, hv1, hv2, hmj, htm, hse, htg, hrt, hac, hk1, hk2, hkd, hmm, hmv, hord, hpo, hlo⟩ := id hI
  refine lv_aload_n hx hb dX5_mark_0 rfl (lv_at hl 0 rfl) ?_
  refine lv_iload_n hx hb dX5_mark_1 rfl (lv_at hl 1 rfl) ?_
  refine zdet_V ⟨rfl, rfl⟩ Z hD hS (zrunV (rest := []) Z hP hD hS hl.1 (m_X5_requireDevice l G q σ κ (d) rfl (by omega) (by omega)) zY_X5_requireDevice km_X5_253 (q0 := 0) rfl rfl rfl rfl ⟨⟨Nat.le_of_ble_eq_true rfl, Nat.le_of_ble_eq_true rfl⟩, Nat.le_of_ble_eq_true rfl, Nat.le_of_ble_eq_true rfl⟩ (Nat.le_of_ble_eq_true rfl) dX5_mark_2) (fun H locs hP hD hS => ?_)
  refine lv_aload_n hx hb dX5_mark_5 rfl (lv_at hl 0 rfl) ?_
  refine lv_iload_n hx hb dX5_mark_6 rfl (lv_at hl 2 rfl) ?_
  refine zdet_V ⟨rfl, rfl⟩ Z hD hS (zrunV (rest := []) Z hP hD hS hl.1 (m_X5_requireItem l G q σ κ (i) rfl (by omega) (by omega)) zY_X5_requireItem km_X5_150 (q0 := 0) rfl rfl rfl rfl ⟨⟨Nat.le_of_ble_eq_true rfl, Nat.le_of_ble_eq_true rfl⟩, Nat.le_of_ble_eq_true rfl, Nat.le_of_ble_eq_true rfl⟩ (Nat.le_of_ble_eq_true rfl) dX5_mark_7) (fun H locs hP hD hS => ?_)
  refine lv_aload_n hx hb dX5_mark_10 rfl (lv_at hl 0 rfl) ?_
  refine lv_iload_n hx hb dX5_mark_11 rfl (lv_at hl 1 rfl) ?_
  refine lv_iload_n hx hb dX5_mark_12 rfl (lv_at hl 2 rfl) ?_
  refine zdet_V ⟨rfl, rfl⟩ Z hD hS (zrunV (rest := []) Z hP hD hS hl.1 (m_X5_requireKnown l G q σ κ (d) rfl (i) rfl (by omega) (by omega) h3 (hk1 _)) zY_X5_requireKnown km_X5_256 (q0 := 0) rfl rfl rfl rfl ⟨⟨Nat.le_of_ble_eq_true rfl, Nat.le_of_ble_eq_true rfl⟩, Nat.le_of_ble_eq_true rfl, Nat.le_of_ble_eq_true rfl⟩ (Nat.le_of_ble_eq_true rfl) dX5_mark_13) (fun H locs hP hD hS => ?_)
  refine lv_aload_n hx hb dX5_mark_16 rfl (lv_at hl 0 rfl) ?_
  refine lv_iload_n hx hb dX5_mark_17 rfl (lv_at hl 1 rfl) ?_
  refine lv_iload_n hx hb dX5_mark_18 rfl (lv_at hl 2 rfl) ?_
  refine lv_iload_n hx hb dX5_mark_19 rfl (lv_at hl 3 rfl) ?_
  refine zdet_I ⟨rfl, rfl⟩ Z hD hS (zrunV (rest := []) Z hP hD hS hl.1 (m_X5_markKnown l G q σ κ (d) rfl (i) rfl (b) hI (by omega) (by omega) (by omega)) zY_X5_markKnown km_X5_259 (q0 := 0) rfl rfl rfl rfl ⟨⟨Nat.le_of_ble_eq_true rfl, Nat.le_of_ble_eq_true rfl⟩, Nat.le_of_ble_eq_true rfl, Nat.le_of_ble_eq_true rfl⟩ (Nat.le_of_ble_eq_true rfl) dX5_mark_20) (fun H locs hP hD hS => ?_)
  exact zret_B () Z hr (tB_n _) hP hD hS rfl rfl ⟨Nat.le_refl _, Nat.le_refl _⟩ hQ dX5_mark_23
abbrev r_X5_mark_x1 : Room := { frames := 7, cells := 1, slots := 6, locals := 121 }
set_option maxHeartbeats 4000000 in
set_option maxRecDepth 100000 in
theorem m_X5_mark_x1 (l : Launch) (G : ZG) (hst : l.stackTraces = false) (q : Nat → Nat) (σ : St) (κ : KC) (d : Int) (i : Int) (b : Bool) (hI : okC σ) (h1 : zR d) (h2 : d < 0 ∨ ((σ.1 7 : Nat) : Int) ≤ d) :
    MX l G yX5_mark (wY yX5_mark cX5_mark 4 (some .boolean)) r_X5_mark_x1 (wC G q σ κ) [.ref (q 0), .int (zI (d : Int)), .int (zI (i : Int)), .int (tB (b))] (S := Unit) "java/lang/IndexOutOfBoundsException" (fun _ => wC G q σ κ) := by
  refine MX.mk (by decide +kernel) (Nat.le_of_ble_eq_true rfl) ?_
  intro p e s m av below meth c A H locs ls Q Z ht hQ hP hD hS hl
  have hx := Z.1
  have hb := Z.2.1
  have hown := Z.2.2.2.1
  have hW := Z.2.2.2.2.1
  have hl : lv_has ls 4 [(0, .ref (q 0)), (1, .int (zI (d : Int))), (2, .int (zI (i : Int))), (3, .int (tB (b)))] := hl
  obtain ⟨hn, hru, hrv, hdv, hsr, hmn, ht1, ht2, hwn, hv1, hv2, hmj, htm, hse, htg, hrt, hac, hk1, hk2, hkd, hmm, hmv, hord, hpo, hlo⟩ := id hI
  refine lv_aload_n hx hb dX5_mark_0 rfl (lv_at hl 0 rfl) ?_
  refine lv_iload_n hx hb dX5_mark_1 rfl (lv_at hl 1 rfl) ?_
  exact zxout (fun u => ()) (fun _ => rfl) Z ht hD hS (zrunXV (rest := []) Z hP hD hS hl.1 (m_X5_requireDevice_x l G hst q σ κ (d : Int) (by omega) (by omega) (by omega)) zY_X5_requireDevice km_X5_253 (q0 := 0) rfl rfl rfl rfl ⟨⟨Nat.le_of_ble_eq_true rfl, Nat.le_of_ble_eq_true rfl⟩, Nat.le_of_ble_eq_true rfl, Nat.le_of_ble_eq_true rfl⟩ (Nat.le_of_ble_eq_true rfl) dX5_mark_2) ⟨Nat.le_refl _, Nat.le_refl _⟩ hQ
abbrev r_X5_mark_x2 : Room := { frames := 7, cells := 1, slots := 6, locals := 121 }
set_option maxHeartbeats 4000000 in
set_option maxRecDepth 100000 in
theorem m_X5_mark_x2 (l : Launch) (G : ZG) (hst : l.stackTraces = false) (q : Nat → Nat) (σ : St) (κ : KC) {e_d : Int} (d : Nat) (he_d : e_d = (d : Int)) (i : Int) (b : Bool) (hI : okC σ) (h4 : d < σ.1 7) (h1 : zR i) (h2 : i < 0 ∨ ((σ.1 4 : Nat) : Int) ≤ i) :
    MX l G yX5_mark (wY yX5_mark cX5_mark 4 (some .boolean)) r_X5_mark_x2 (wC G q σ κ) [.ref (q 0), .int (zI e_d), .int (zI (i : Int)), .int (tB (b))] (S := Unit) "java/lang/IndexOutOfBoundsException" (fun _ => wC G q σ κ) := by
  subst he_d
  refine MX.mk (by decide +kernel) (Nat.le_of_ble_eq_true rfl) ?_
  intro p e s m av below meth c A H locs ls Q Z ht hQ hP hD hS hl
  have hx := Z.1
  have hb := Z.2.1
  have hown := Z.2.2.2.1
  have hW := Z.2.2.2.2.1
  have hl : lv_has ls 4 [(0, .ref (q 0)), (1, .int (zI ((d : Nat) : Int))), (2, .int (zI (i : Int))), (3, .int (tB (b)))] := hl
  obtain ⟨hn, hru, hrv, hdv, hsr, hmn, ht1, ht2, hwn, hv1, hv2, hmj, htm, hse, htg, hrt, hac, hk1, hk2, hkd, hmm, hmv, hord, hpo, hlo⟩ := id hI
  refine lv_aload_n hx hb dX5_mark_0 rfl (lv_at hl 0 rfl) ?_
  refine lv_iload_n hx hb dX5_mark_1 rfl (lv_at hl 1 rfl) ?_
  refine zdet_V ⟨rfl, rfl⟩ Z hD hS (zrunV (rest := []) Z hP hD hS hl.1 (m_X5_requireDevice l G q σ κ (d) rfl (by omega) (by omega)) zY_X5_requireDevice km_X5_253 (q0 := 0) rfl rfl rfl rfl ⟨⟨Nat.le_of_ble_eq_true rfl, Nat.le_of_ble_eq_true rfl⟩, Nat.le_of_ble_eq_true rfl, Nat.le_of_ble_eq_true rfl⟩ (Nat.le_of_ble_eq_true rfl) dX5_mark_2) (fun H locs hP hD hS => ?_)
  refine lv_aload_n hx hb dX5_mark_5 rfl (lv_at hl 0 rfl) ?_
  refine lv_iload_n hx hb dX5_mark_6 rfl (lv_at hl 2 rfl) ?_
  exact zxout (fun u => ()) (fun _ => rfl) Z ht hD hS (zrunXV (rest := []) Z hP hD hS hl.1 (m_X5_requireItem_x l G hst q σ κ (i : Int) h1 h2 (by omega)) zY_X5_requireItem km_X5_150 (q0 := 0) rfl rfl rfl rfl ⟨⟨Nat.le_of_ble_eq_true rfl, Nat.le_of_ble_eq_true rfl⟩, Nat.le_of_ble_eq_true rfl, Nat.le_of_ble_eq_true rfl⟩ (Nat.le_of_ble_eq_true rfl) dX5_mark_7) ⟨Nat.le_refl _, Nat.le_refl _⟩ hQ
abbrev r_X5_mark_x3 : Room := { frames := 7, cells := 1, slots := 6, locals := 122 }
set_option maxHeartbeats 4000000 in
set_option maxRecDepth 100000 in
theorem m_X5_mark_x3 (l : Launch) (G : ZG) (hst : l.stackTraces = false) (q : Nat → Nat) (σ : St) (κ : KC) {e_d : Int} (d : Nat) (he_d : e_d = (d : Int)) {e_i : Int} (i : Nat) (he_i : e_i = (i : Int)) (b : Bool) (hI : okC σ) (h1 : i < σ.1 4) (h2 : d < σ.1 7) (h3 : σ.2.1 4 (30 * d + i) = 0) :
    MX l G yX5_mark (wY yX5_mark cX5_mark 4 (some .boolean)) r_X5_mark_x3 (wC G q σ κ) [.ref (q 0), .int (zI e_d), .int (zI e_i), .int (tB (b))] (S := Unit) "java/lang/IllegalStateException" (fun _ => wC G q σ κ) := by
  subst he_d
  subst he_i
  refine MX.mk (by decide +kernel) (Nat.le_of_ble_eq_true rfl) ?_
  intro p e s m av below meth c A H locs ls Q Z ht hQ hP hD hS hl
  have hx := Z.1
  have hb := Z.2.1
  have hown := Z.2.2.2.1
  have hW := Z.2.2.2.2.1
  have hl : lv_has ls 4 [(0, .ref (q 0)), (1, .int (zI ((d : Nat) : Int))), (2, .int (zI ((i : Nat) : Int))), (3, .int (tB (b)))] := hl
  obtain ⟨hn, hru, hrv, hdv, hsr, hmn, ht1, ht2, hwn, hv1, hv2, hmj, htm, hse, htg, hrt, hac, hk1, hk2, hkd, hmm, hmv, hord, hpo, hlo⟩ := id hI
  refine lv_aload_n hx hb dX5_mark_0 rfl (lv_at hl 0 rfl) ?_
  refine lv_iload_n hx hb dX5_mark_1 rfl (lv_at hl 1 rfl) ?_
  refine zdet_V ⟨rfl, rfl⟩ Z hD hS (zrunV (rest := []) Z hP hD hS hl.1 (m_X5_requireDevice l G q σ κ (d) rfl (by omega) (by omega)) zY_X5_requireDevice km_X5_253 (q0 := 0) rfl rfl rfl rfl ⟨⟨Nat.le_of_ble_eq_true rfl, Nat.le_of_ble_eq_true rfl⟩, Nat.le_of_ble_eq_true rfl, Nat.le_of_ble_eq_true rfl⟩ (Nat.le_of_ble_eq_true rfl) dX5_mark_2) (fun H locs hP hD hS => ?_)
  refine lv_aload_n hx hb dX5_mark_5 rfl (lv_at hl 0 rfl) ?_
  refine lv_iload_n hx hb dX5_mark_6 rfl (lv_at hl 2 rfl) ?_
  refine zdet_V ⟨rfl, rfl⟩ Z hD hS (zrunV (rest := []) Z hP hD hS hl.1 (m_X5_requireItem l G q σ κ (i) rfl (by omega) (by omega)) zY_X5_requireItem km_X5_150 (q0 := 0) rfl rfl rfl rfl ⟨⟨Nat.le_of_ble_eq_true rfl, Nat.le_of_ble_eq_true rfl⟩, Nat.le_of_ble_eq_true rfl, Nat.le_of_ble_eq_true rfl⟩ (Nat.le_of_ble_eq_true rfl) dX5_mark_7) (fun H locs hP hD hS => ?_)
  refine lv_aload_n hx hb dX5_mark_10 rfl (lv_at hl 0 rfl) ?_
  refine lv_iload_n hx hb dX5_mark_11 rfl (lv_at hl 1 rfl) ?_
  refine lv_iload_n hx hb dX5_mark_12 rfl (lv_at hl 2 rfl) ?_
  exact zxout (fun u => ()) (fun _ => rfl) Z ht hD hS (zrunXV (rest := []) Z hP hD hS hl.1 (m_X5_requireKnown_x l G hst q σ κ (d) rfl (i) rfl (by omega) (by omega) h3) zY_X5_requireKnown km_X5_256 (q0 := 0) rfl rfl rfl rfl ⟨⟨Nat.le_of_ble_eq_true rfl, Nat.le_of_ble_eq_true rfl⟩, Nat.le_of_ble_eq_true rfl, Nat.le_of_ble_eq_true rfl⟩ (Nat.le_of_ble_eq_true rfl) dX5_mark_13) ⟨Nat.le_refl _, Nat.le_refl _⟩ hQ
abbrev r_X5_markRiver : Room := { frames := 6, cells := 0, slots := 0, locals := 133 }
set_option maxHeartbeats 4000000 in
set_option maxRecDepth 100000 in
theorem m_X5_markRiver (l : Launch) (G : ZG) (q : Nat → Nat) (σ : St) (κ : KC) {e_d : Int} (d : Nat) (he_d : e_d = (d : Int)) {e_i : Int} (i : Nat) (he_i : e_i = (i : Int)) (hI : okC σ) (h1 : d < σ.1 7) (h2 : i < σ.1 6) :
    MC l G yX5_markRiver (wY yX5_markRiver cX5_markRiver 7 (some .int)) r_X5_markRiver (wC G q σ κ) [.ref (q 0), .int (zI e_d), .int (zI e_i)] (QI G (fun r9 (_ : Unit) => r9 = (zI ((mrC σ d (gth (shw σ i) (σ.2.1 10) (κ.1) (σ.1 4)).2 (gth (shw σ i) (σ.2.1 10) (κ.1) (σ.1 4)).1 : Nat) : Int))) (fun _ => wC G q (mrS σ d (gth (shw σ i) (σ.2.1 10) (κ.1) (σ.1 4)).2 (gth (shw σ i) (σ.2.1 10) (κ.1) (σ.1 4)).1) ((gth (shw σ i) (σ.2.1 10) (κ.1) (σ.1 4)).2, κ.2.1, κ.2.2))) := by
  subst he_d
  subst he_i
  refine MC.mk (by decide +kernel) (Nat.le_of_ble_eq_true rfl) ?_
  intro p e s m av below meth c A H locs ls Q Z hr hnm hQ hP hD hS hl
  have hx := Z.1
  have hb := Z.2.1
  have hown := Z.2.2.2.1
  have hW := Z.2.2.2.2.1
  have hl : lv_has ls 7 [(0, .ref (q 0)), (1, .int (zI ((d : Nat) : Int))), (2, .int (zI ((i : Nat) : Int)))] := hl
  obtain ⟨hn, hru, hrv, hdv, hsr, hmn, ht1, ht2, hwn, hv1, hv2, hmj, htm, hse, htg, hrt, hac, hk1, hk2, hkd, hmm, hmv, hord, hpo, hlo⟩ := id hI
  have hg9 := gth_le (shw σ i) (σ.2.1 10) κ.1 (σ.1 4)
  have hg8 := gth_el (p := shw σ i) (o := σ.2.1 10) (r0 := κ.1) (B := σ.1 4) (σ.1 4) hord
  refine lv_aload_n hx hb dX5_markRiver_0 rfl (lv_at hl 0 rfl) ?_
  refine lv_iload_n hx hb dX5_markRiver_1 rfl (lv_at hl 1 rfl) ?_
  refine zdet_V ⟨rfl, rfl⟩ Z hD hS (zrunV (rest := []) Z hP hD hS hl.1 (m_X5_requireDevice l G q σ κ (d) rfl (by omega) (by omega)) zY_X5_requireDevice km_X5_253 (q0 := 0) rfl rfl rfl rfl ⟨⟨Nat.le_of_ble_eq_true rfl, Nat.le_of_ble_eq_true rfl⟩, Nat.le_of_ble_eq_true rfl, Nat.le_of_ble_eq_true rfl⟩ (Nat.le_of_ble_eq_true rfl) dX5_markRiver_2) (fun H locs hP hD hS => ?_)
  refine lv_aload_n hx hb dX5_markRiver_5 rfl (lv_at hl 0 rfl) ?_
  refine lv_iload_n hx hb dX5_markRiver_6 rfl (lv_at hl 2 rfl) ?_
  refine zdet_V ⟨rfl, rfl⟩ Z hD hS (zrunV (rest := []) Z hP hD hS hl.1 (m_X5_requireRiver l G q σ κ (i) rfl (by omega) (by omega)) zY_X5_requireRiver km_X5_213 (q0 := 0) rfl rfl rfl rfl ⟨⟨Nat.le_of_ble_eq_true rfl, Nat.le_of_ble_eq_true rfl⟩, Nat.le_of_ble_eq_true rfl, Nat.le_of_ble_eq_true rfl⟩ (Nat.le_of_ble_eq_true rfl) dX5_markRiver_7) (fun H locs hP hD hS => ?_)
  refine lv_aload_n hx hb dX5_markRiver_10 rfl (lv_at hl 0 rfl) ?_
  refine lv_iload_n hx hb dX5_markRiver_11 rfl (lv_at hl 2 rfl) ?_
  refine lv_aload_n hx hb dX5_markRiver_12 rfl (lv_at hl 0 rfl) ?_
  refine gC_0_4 Z hP kf_X5_25 dX5_markRiver_13 ?_
  refine zfin_R ⟨rfl, rfl⟩ Z hD hS (zrunV (rest := [.int (zI ((i : Nat) : Int)), .ref (q 0)]) Z hP hD hS hl.1 (m_X1_keptOrder l G q σ κ) zY_X1_keptOrder km_X5_216 (q0 := 1) rfl rfl rfl rfl ⟨⟨Nat.le_of_ble_eq_true rfl, Nat.le_of_ble_eq_true rfl⟩, Nat.le_of_ble_eq_true rfl, Nat.le_of_ble_eq_true rfl⟩ (Nat.le_of_ble_eq_true rfl) dX5_markRiver_16) (fun u H locs hp hP hD hS => ?_)
  refine lv_aload_n hx hb dX5_markRiver_19 rfl (lv_at hl 0 rfl) ?_
  refine gC_0_9 Z hP kf_X5_57 dX5_markRiver_20 ?_
  refine zdet_I ⟨rfl, rfl⟩ Z hD hS (zrunV (rest := []) Z hP hD hS hl.1 (m_X5_gather_kk l G q σ κ (i) rfl hI (by omega)) zY_X5_gather km_X5_220 (q0 := 0) rfl rfl rfl rfl ⟨⟨Nat.le_of_ble_eq_true rfl, Nat.le_of_ble_eq_true rfl⟩, Nat.le_of_ble_eq_true rfl, Nat.le_of_ble_eq_true rfl⟩ (Nat.le_of_ble_eq_true rfl) dX5_markRiver_23) (fun H locs hP hD hS => ?_)
  refine lv_istore_n (lv' := [(3, .int (zI (((gth (shw σ i) (σ.2.1 10) (κ.1) (σ.1 4)).1 : Nat) : Int))), (0, .ref (q 0)), (1, .int (zI ((d : Nat) : Int))), (2, .int (zI ((i : Nat) : Int)))]) hx hb dX5_markRiver_26 rfl hl (by decide) rfl (fun ls hl => ?_)
  refine zr_iconst hx hb dX5_markRiver_27 ?_
  refine lv_istore (lv' := [(4, .int (zI (0 : Int))), (3, .int (zI (((gth (shw σ i) (σ.2.1 10) (κ.1) (σ.1 4)).1 : Nat) : Int))), (0, .ref (q 0)), (1, .int (zI ((d : Nat) : Int))), (2, .int (zI ((i : Nat) : Int)))]) hx hb dX5_markRiver_28 hl (by decide) rfl (fun ls hl => ?_)
  refine zr_iconst hx hb dX5_markRiver_30 ?_
  refine lv_istore (lv' := [(5, .int (zI (0 : Int))), (4, .int (zI (0 : Int))), (3, .int (zI (((gth (shw σ i) (σ.2.1 10) (κ.1) (σ.1 4)).1 : Nat) : Int))), (0, .ref (q 0)), (1, .int (zI ((d : Nat) : Int))), (2, .int (zI ((i : Nat) : Int)))]) hx hb dX5_markRiver_31 hl (by decide) rfl (fun ls hl => ?_)
  suffices LP33 : ∀ (f9 : Nat) (k : Nat), (gth (shw σ i) (σ.2.1 10) (κ.1) (σ.1 4)).1 < k + f9 → (k ≤ (gth (shw σ i) (σ.2.1 10) (κ.1) (σ.1 4)).1) → ∀ (H : Heap) (locs : List Loc) (ls : Array Slot), va_P G.1 vwCl (wC G q (mrS σ d (gth (shw σ i) (σ.2.1 10) (κ.1) (σ.1 4)).2 k) ((gth (shw σ i) (σ.2.1 10) (κ.1) (σ.1 4)).2, κ.2.1, κ.2.2)) H → va_D A (wC G q (mrS σ d (gth (shw σ i) (σ.2.1 10) (κ.1) (σ.1 4)).2 k) ((gth (shw σ i) (σ.2.1 10) (κ.1) (σ.1 4)).2, κ.2.1, κ.2.2)) → va_S A s.heap H locs → lv_has ls 7 [(5, .int (zI ((k : Nat) : Int))), (4, .int (zI ((mrC σ d (gth (shw σ i) (σ.2.1 10) (κ.1) (σ.1 4)).2 k : Nat) : Int))), (3, .int (zI (((gth (shw σ i) (σ.2.1 10) (κ.1) (σ.1 4)).1 : Nat) : Int))), (0, .ref (q 0)), (1, .int (zI ((d : Nat) : Int)))] → W p l e r_X5_markRiver s m av below meth c H locs 0 0 Q (F0 m 33 ls []) from LP33 ((gth (shw σ i) (σ.2.1 10) (κ.1) (σ.1 4)).1 + 1) (0) (by omega) (by omega) _ _ _ hP hD hS (lv_sub hl [0, 1, 2, 3, 4] rfl)
  intro f9
  induction f9 with
  | zero => intro k hf9 hk; exfalso; omega
  | succ f9 ih33 =>
    intro k hf9 hk H locs ls hP hD hS hl
    have hm9 := mrS_ok hI d (gth (shw σ i) (σ.2.1 10) (κ.1) (σ.1 4)).2 k
    have hc9 := mrC_le σ d (gth (shw σ i) (σ.2.1 10) (κ.1) (σ.1 4)).2 k
    refine lv_iload hx hb dX5_markRiver_33 (lv_at hl 0 rfl) ?_
    refine lv_iload_n hx hb dX5_markRiver_35 rfl (lv_at hl 2 rfl) ?_
    refine zc_ge (tgt := 81) hx hb ((k : Nat) : Int) (((gth (shw σ i) (σ.2.1 10) (κ.1) (σ.1 4)).1 : Nat) : Int) (zI_toInt (by omega)) (zI_toInt (by omega)) dX5_markRiver_36 (by decide) (fun c36 => ?_) (fun c36 => ?_)
    · skip
      refine lv_iload hx hb dX5_markRiver_81 (lv_at hl 1 rfl) ?_
      exact zret_I () Z hr hP hD hS (by rw [show k = (gth (shw σ i) (σ.2.1 10) (κ.1) (σ.1 4)).1 from by omega]) (by rw [show k = (gth (shw σ i) (σ.2.1 10) (κ.1) (σ.1 4)).1 from by omega]) ⟨Nat.le_refl _, Nat.le_refl _⟩ hQ dX5_markRiver_83
    · skip
      refine lv_aload_n hx hb dX5_markRiver_39 rfl (lv_at hl 3 rfl) ?_
      refine gC_0_9 Z hP kf_X5_57 dX5_markRiver_40 ?_
      refine lv_iload hx hb dX5_markRiver_43 (lv_at hl 0 rfl) ?_
      refine ldN Z hP 6 ((gth (shw σ i) (σ.2.1 10) (κ.1) (σ.1 4)).2) rfl (k) rfl (by omega) (by decide) dX5_markRiver_45 ?_
      have hg7 := hg8 k (by omega)
      refine lv_istore (lv' := [(6, .int (zI ((((gth (shw σ i) (σ.2.1 10) (κ.1) (σ.1 4)).2) (k) : Nat) : Int))), (5, .int (zI ((k : Nat) : Int))), (4, .int (zI ((mrC σ d (gth (shw σ i) (σ.2.1 10) (κ.1) (σ.1 4)).2 k : Nat) : Int))), (3, .int (zI (((gth (shw σ i) (σ.2.1 10) (κ.1) (σ.1 4)).1 : Nat) : Int))), (0, .ref (q 0)), (1, .int (zI ((d : Nat) : Int)))]) hx hb dX5_markRiver_46 hl (by decide) rfl (fun ls hl => ?_)
      refine lv_aload_n hx hb dX5_markRiver_48 rfl (lv_at hl 4 rfl) ?_
      refine gC_0_7 Z hP kf_X5_46 dX5_markRiver_49 ?_
      refine lv_iload_n hx hb dX5_markRiver_52 rfl (lv_at hl 5 rfl) ?_
      refine lv_iload hx hb dX5_markRiver_53 (lv_at hl 0 rfl) ?_
      refine zdet_I ⟨rfl, rfl⟩ Z hD hS (zrunV (rest := []) Z hP hD hS hl.1 (m_X0_knows l G q (mrS σ d (gth (shw σ i) (σ.2.1 10) (κ.1) (σ.1 4)).2 k) ((gth (shw σ i) (σ.2.1 10) (κ.1) (σ.1 4)).2, κ.2.1, κ.2.2) (d) rfl (((gth (shw σ i) (σ.2.1 10) (κ.1) (σ.1 4)).2) (k)) rfl (by omega) (by omega) (okC_k1 hm9.1 _)) zY_X0_knows km_X5_263 (q0 := 4) rfl rfl rfl rfl ⟨⟨Nat.le_of_ble_eq_true rfl, Nat.le_of_ble_eq_true rfl⟩, Nat.le_of_ble_eq_true rfl, Nat.le_of_ble_eq_true rfl⟩ (Nat.le_of_ble_eq_true rfl) dX5_markRiver_55) (fun H locs hP hD hS => ?_)
      refine zr_top (w := .int (tB (decide (0 < (((mrS σ d (gth (shw σ i) (σ.2.1 10) (κ.1) (σ.1 4)).2 k)).2.1 4) (30 * d + (((gth (shw σ i) (σ.2.1 10) (κ.1) (σ.1 4)).2) (k))))))) rfl ?_
      refine zb_eq (tgt := 75) hx hb dX5_markRiver_58 (by decide) (fun c58 => ?_) (fun c58 => ?_)
      · skip
        refine zr_iinc (lv' := [(5, .int (zI (((k : Nat) : Int) + (1 : Int)))), (6, .int (zI ((((gth (shw σ i) (σ.2.1 10) (κ.1) (σ.1 4)).2) (k) : Nat) : Int))), (4, .int (zI ((mrC σ d (gth (shw σ i) (σ.2.1 10) (κ.1) (σ.1 4)).2 k : Nat) : Int))), (3, .int (zI (((gth (shw σ i) (σ.2.1 10) (κ.1) (σ.1 4)).1 : Nat) : Int))), (0, .ref (q 0)), (1, .int (zI ((d : Nat) : Int)))]) hx hb 1 dX5_markRiver_75 hl rfl (by decide) rfl (fun ls hl => ?_)
        refine lv_goto (tgt := 33) hx hb dX5_markRiver_78 (by decide) ?_
        have h8 : mrS σ d (gth (shw σ i) (σ.2.1 10) (κ.1) (σ.1 4)).2 (k + 1) = mrS σ d (gth (shw σ i) (σ.2.1 10) (κ.1) (σ.1 4)).2 k := if_neg (of_decide_eq_false c58)
        have h9 : mrC σ d (gth (shw σ i) (σ.2.1 10) (κ.1) (σ.1 4)).2 (k + 1) = mrC σ d (gth (shw σ i) (σ.2.1 10) (κ.1) (σ.1 4)).2 k := if_neg (fun h => of_decide_eq_false c58 h.1)
        have hw9 : wC G q (mrS σ d (gth (shw σ i) (σ.2.1 10) (κ.1) (σ.1 4)).2 k) ((gth (shw σ i) (σ.2.1 10) (κ.1) (σ.1 4)).2, κ.2.1, κ.2.2) = wC G q (mrS σ d (gth (shw σ i) (σ.2.1 10) (κ.1) (σ.1 4)).2 (k + 1)) ((gth (shw σ i) (σ.2.1 10) (κ.1) (σ.1 4)).2, κ.2.1, κ.2.2) := (by rw [h8])
        rw [hw9] at hP hD
        exact ih33 (k + 1) (by omega) (by omega) _ _ _ hP hD hS (lv_sub hl [0, 2, 3, 4, 5] (by rw [h9]; rfl))
      · skip
        refine lv_aload_n hx hb dX5_markRiver_61 rfl (lv_at hl 4 rfl) ?_
        refine lv_iload_n hx hb dX5_markRiver_62 rfl (lv_at hl 5 rfl) ?_
        refine lv_iload hx hb dX5_markRiver_63 (lv_at hl 0 rfl) ?_
        refine zr_iconst hx hb dX5_markRiver_65 ?_
        refine zr_top (w := .int (tB (true))) (congrArg Value.int (tB_1 rfl)) ?_
        refine zdet_I ⟨rfl, rfl⟩ Z hD hS (zrunV (rest := []) Z hP hD hS hl.1 (m_X5_markKnown l G q (mrS σ d (gth (shw σ i) (σ.2.1 10) (κ.1) (σ.1 4)).2 k) ((gth (shw σ i) (σ.2.1 10) (κ.1) (σ.1 4)).2, κ.2.1, κ.2.2) (d) rfl (((gth (shw σ i) (σ.2.1 10) (κ.1) (σ.1 4)).2) (k)) rfl (true) hm9.1 (by omega) (by omega) (of_decide_eq_true c58)) zY_X5_markKnown km_X5_259 (q0 := 0) rfl rfl rfl rfl ⟨⟨Nat.le_of_ble_eq_true rfl, Nat.le_of_ble_eq_true rfl⟩, Nat.le_of_ble_eq_true rfl, Nat.le_of_ble_eq_true rfl⟩ (Nat.le_of_ble_eq_true rfl) dX5_markRiver_66) (fun H locs hP hD hS => ?_)
        refine zr_top (w := .int (tB (rdD ((mrS σ d (gth (shw σ i) (σ.2.1 10) (κ.1) (σ.1 4)).2 k)) d (((gth (shw σ i) (σ.2.1 10) (κ.1) (σ.1 4)).2) (k))))) rfl ?_
        refine zb_ne (tgt := 75) hx hb dX5_markRiver_69 (by decide) (fun c69 => ?_) (fun c69 => ?_)
        · skip
          refine zr_iinc (lv' := [(5, .int (zI (((k : Nat) : Int) + (1 : Int)))), (6, .int (zI ((((gth (shw σ i) (σ.2.1 10) (κ.1) (σ.1 4)).2) (k) : Nat) : Int))), (4, .int (zI ((mrC σ d (gth (shw σ i) (σ.2.1 10) (κ.1) (σ.1 4)).2 k : Nat) : Int))), (3, .int (zI (((gth (shw σ i) (σ.2.1 10) (κ.1) (σ.1 4)).1 : Nat) : Int))), (0, .ref (q 0)), (1, .int (zI ((d : Nat) : Int)))]) hx hb 1 dX5_markRiver_75 hl rfl (by decide) rfl (fun ls hl => ?_)
          refine lv_goto (tgt := 33) hx hb dX5_markRiver_78 (by decide) ?_
          have h8 : mrS σ d (gth (shw σ i) (σ.2.1 10) (κ.1) (σ.1 4)).2 (k + 1) = mkS (mrS σ d (gth (shw σ i) (σ.2.1 10) (κ.1) (σ.1 4)).2 k) d ((gth (shw σ i) (σ.2.1 10) (κ.1) (σ.1 4)).2 k) true := if_pos (of_decide_eq_true c58)
          have h9 : mrC σ d (gth (shw σ i) (σ.2.1 10) (κ.1) (σ.1 4)).2 (k + 1) = mrC σ d (gth (shw σ i) (σ.2.1 10) (κ.1) (σ.1 4)).2 k := if_neg (fun h => by rw [c69] at h; cases h.2)
          have hw9 : wC G q (mkS (mrS σ d (gth (shw σ i) (σ.2.1 10) (κ.1) (σ.1 4)).2 k) d (((gth (shw σ i) (σ.2.1 10) (κ.1) (σ.1 4)).2) (k)) (true)) ((gth (shw σ i) (σ.2.1 10) (κ.1) (σ.1 4)).2, κ.2.1, κ.2.2) = wC G q (mrS σ d (gth (shw σ i) (σ.2.1 10) (κ.1) (σ.1 4)).2 (k + 1)) ((gth (shw σ i) (σ.2.1 10) (κ.1) (σ.1 4)).2, κ.2.1, κ.2.2) := (by rw [h8])
          rw [hw9] at hP hD
          exact ih33 (k + 1) (by omega) (by omega) _ _ _ hP hD hS (lv_sub hl [0, 2, 3, 4, 5] (by rw [h9]; rfl))
        · skip
          refine zr_iinc (lv' := [(4, .int (zI (((mrC σ d (gth (shw σ i) (σ.2.1 10) (κ.1) (σ.1 4)).2 k : Nat) : Int) + (1 : Int)))), (6, .int (zI ((((gth (shw σ i) (σ.2.1 10) (κ.1) (σ.1 4)).2) (k) : Nat) : Int))), (5, .int (zI ((k : Nat) : Int))), (3, .int (zI (((gth (shw σ i) (σ.2.1 10) (κ.1) (σ.1 4)).1 : Nat) : Int))), (0, .ref (q 0)), (1, .int (zI ((d : Nat) : Int)))]) hx hb 2 dX5_markRiver_72 hl rfl (by decide) rfl (fun ls hl => ?_)
          refine zr_iinc (lv' := [(5, .int (zI (((k : Nat) : Int) + (1 : Int)))), (4, .int (zI (((mrC σ d (gth (shw σ i) (σ.2.1 10) (κ.1) (σ.1 4)).2 k : Nat) : Int) + (1 : Int)))), (6, .int (zI ((((gth (shw σ i) (σ.2.1 10) (κ.1) (σ.1 4)).2) (k) : Nat) : Int))), (3, .int (zI (((gth (shw σ i) (σ.2.1 10) (κ.1) (σ.1 4)).1 : Nat) : Int))), (0, .ref (q 0)), (1, .int (zI ((d : Nat) : Int)))]) hx hb 2 dX5_markRiver_75 hl rfl (by decide) rfl (fun ls hl => ?_)
          refine lv_goto (tgt := 33) hx hb dX5_markRiver_78 (by decide) ?_
          have h8 : mrS σ d (gth (shw σ i) (σ.2.1 10) (κ.1) (σ.1 4)).2 (k + 1) = mkS (mrS σ d (gth (shw σ i) (σ.2.1 10) (κ.1) (σ.1 4)).2 k) d ((gth (shw σ i) (σ.2.1 10) (κ.1) (σ.1 4)).2 k) true := if_pos (of_decide_eq_true c58)
          have h9 : mrC σ d (gth (shw σ i) (σ.2.1 10) (κ.1) (σ.1 4)).2 (k + 1) = mrC σ d (gth (shw σ i) (σ.2.1 10) (κ.1) (σ.1 4)).2 k + 1 := if_pos ⟨of_decide_eq_true c58, c69⟩
          have hw9 : wC G q (mkS (mrS σ d (gth (shw σ i) (σ.2.1 10) (κ.1) (σ.1 4)).2 k) d (((gth (shw σ i) (σ.2.1 10) (κ.1) (σ.1 4)).2) (k)) (true)) ((gth (shw σ i) (σ.2.1 10) (κ.1) (σ.1 4)).2, κ.2.1, κ.2.2) = wC G q (mrS σ d (gth (shw σ i) (σ.2.1 10) (κ.1) (σ.1 4)).2 (k + 1)) ((gth (shw σ i) (σ.2.1 10) (κ.1) (σ.1 4)).2, κ.2.1, κ.2.2) := (by rw [h8])
          rw [hw9] at hP hD
          exact ih33 (k + 1) (by omega) (by omega) _ _ _ hP hD hS (lv_sub hl [0, 1, 3, 4, 5] (by rw [h9]; rfl))
abbrev r_X5_markRiver_x1 : Room := { frames := 7, cells := 1, slots := 6, locals := 121 }
set_option maxHeartbeats 4000000 in
set_option maxRecDepth 100000 in
theorem m_X5_markRiver_x1 (l : Launch) (G : ZG) (hst : l.stackTraces = false) (q : Nat → Nat) (σ : St) (κ : KC) (d : Int) (i : Int) (hI : okC σ) (h1 : zR d) (h2 : d < 0 ∨ ((σ.1 7 : Nat) : Int) ≤ d) :
    MX l G yX5_markRiver (wY yX5_markRiver cX5_markRiver 7 (some .int)) r_X5_markRiver_x1 (wC G q σ κ) [.ref (q 0), .int (zI (d : Int)), .int (zI (i : Int))] (S := Unit) "java/lang/IndexOutOfBoundsException" (fun _ => wC G q σ κ) := by
  refine MX.mk (by decide +kernel) (Nat.le_of_ble_eq_true rfl) ?_
  intro p e s m av below meth c A H locs ls Q Z ht hQ hP hD hS hl
  have hx := Z.1
  have hb := Z.2.1
  have hown := Z.2.2.2.1
  have hW := Z.2.2.2.2.1
  have hl : lv_has ls 7 [(0, .ref (q 0)), (1, .int (zI (d : Int))), (2, .int (zI (i : Int)))] := hl
  obtain ⟨hn, hru, hrv, hdv, hsr, hmn, ht1, ht2, hwn, hv1, hv2, hmj, htm, hse, htg, hrt, hac, hk1, hk2, hkd, hmm, hmv, hord, hpo, hlo⟩ := id hI
  refine lv_aload_n hx hb dX5_markRiver_0 rfl (lv_at hl 0 rfl) ?_
  refine lv_iload_n hx hb dX5_markRiver_1 rfl (lv_at hl 1 rfl) ?_
  exact zxout (fun u => ()) (fun _ => rfl) Z ht hD hS (zrunXV (rest := []) Z hP hD hS hl.1 (m_X5_requireDevice_x l G hst q σ κ (d : Int) (by omega) (by omega) (by omega)) zY_X5_requireDevice km_X5_253 (q0 := 0) rfl rfl rfl rfl ⟨⟨Nat.le_of_ble_eq_true rfl, Nat.le_of_ble_eq_true rfl⟩, Nat.le_of_ble_eq_true rfl, Nat.le_of_ble_eq_true rfl⟩ (Nat.le_of_ble_eq_true rfl) dX5_markRiver_2) ⟨Nat.le_refl _, Nat.le_refl _⟩ hQ
abbrev r_X5_markRiver_x2 : Room := { frames := 7, cells := 1, slots := 6, locals := 121 }
set_option maxHeartbeats 4000000 in
set_option maxRecDepth 100000 in
theorem m_X5_markRiver_x2 (l : Launch) (G : ZG) (hst : l.stackTraces = false) (q : Nat → Nat) (σ : St) (κ : KC) {e_d : Int} (d : Nat) (he_d : e_d = (d : Int)) (i : Int) (hI : okC σ) (h4 : d < σ.1 7) (h1 : zR i) (h2 : i < 0 ∨ ((σ.1 6 : Nat) : Int) ≤ i) :
    MX l G yX5_markRiver (wY yX5_markRiver cX5_markRiver 7 (some .int)) r_X5_markRiver_x2 (wC G q σ κ) [.ref (q 0), .int (zI e_d), .int (zI (i : Int))] (S := Unit) "java/lang/IndexOutOfBoundsException" (fun _ => wC G q σ κ) := by
  subst he_d
  refine MX.mk (by decide +kernel) (Nat.le_of_ble_eq_true rfl) ?_
  intro p e s m av below meth c A H locs ls Q Z ht hQ hP hD hS hl
  have hx := Z.1
  have hb := Z.2.1
  have hown := Z.2.2.2.1
  have hW := Z.2.2.2.2.1
  have hl : lv_has ls 7 [(0, .ref (q 0)), (1, .int (zI ((d : Nat) : Int))), (2, .int (zI (i : Int)))] := hl
  obtain ⟨hn, hru, hrv, hdv, hsr, hmn, ht1, ht2, hwn, hv1, hv2, hmj, htm, hse, htg, hrt, hac, hk1, hk2, hkd, hmm, hmv, hord, hpo, hlo⟩ := id hI
  refine lv_aload_n hx hb dX5_markRiver_0 rfl (lv_at hl 0 rfl) ?_
  refine lv_iload_n hx hb dX5_markRiver_1 rfl (lv_at hl 1 rfl) ?_
  refine zdet_V ⟨rfl, rfl⟩ Z hD hS (zrunV (rest := []) Z hP hD hS hl.1 (m_X5_requireDevice l G q σ κ (d) rfl (by omega) (by omega)) zY_X5_requireDevice km_X5_253 (q0 := 0) rfl rfl rfl rfl ⟨⟨Nat.le_of_ble_eq_true rfl, Nat.le_of_ble_eq_true rfl⟩, Nat.le_of_ble_eq_true rfl, Nat.le_of_ble_eq_true rfl⟩ (Nat.le_of_ble_eq_true rfl) dX5_markRiver_2) (fun H locs hP hD hS => ?_)
  refine lv_aload_n hx hb dX5_markRiver_5 rfl (lv_at hl 0 rfl) ?_
  refine lv_iload_n hx hb dX5_markRiver_6 rfl (lv_at hl 2 rfl) ?_
  exact zxout (fun u => ()) (fun _ => rfl) Z ht hD hS (zrunXV (rest := []) Z hP hD hS hl.1 (m_X5_requireRiver_x l G hst q σ κ (i : Int) h1 h2 (by omega)) zY_X5_requireRiver km_X5_213 (q0 := 0) rfl rfl rfl rfl ⟨⟨Nat.le_of_ble_eq_true rfl, Nat.le_of_ble_eq_true rfl⟩, Nat.le_of_ble_eq_true rfl, Nat.le_of_ble_eq_true rfl⟩ (Nat.le_of_ble_eq_true rfl) dX5_markRiver_7) ⟨Nat.le_refl _, Nat.le_refl _⟩ hQ
abbrev r_X5_sync : Room := { frames := 2, cells := 0, slots := 0, locals := 47 }
set_option maxHeartbeats 4000000 in
set_option maxRecDepth 100000 in
theorem m_X5_sync (l : Launch) (G : ZG) (q : Nat → Nat) (σ : St) (κ : KC) {e_d : Int} (d : Nat) (he_d : e_d = (d : Int)) (hI : okC σ) (h1 : d < σ.1 7) :
    MC l G yX5_sync (wY yX5_sync cX5_sync 5 (some .int)) r_X5_sync (wC G q σ κ) [.ref (q 0), .int (zI e_d)] (QI G (fun r9 (_ : Unit) => r9 = (zI ((syC σ d (σ.1 4) : Nat) : Int))) (fun _ => wC G q (syS σ d (σ.1 4)) κ)) := by
  subst he_d
  refine MC.mk (by decide +kernel) (Nat.le_of_ble_eq_true rfl) ?_
  intro p e s m av below meth c A H locs ls Q Z hr hnm hQ hP hD hS hl
  have hx := Z.1
  have hb := Z.2.1
  have hown := Z.2.2.2.1
  have hW := Z.2.2.2.2.1
  have hl : lv_has ls 5 [(0, .ref (q 0)), (1, .int (zI ((d : Nat) : Int)))] := hl
  obtain ⟨hn, hru, hrv, hdv, hsr, hmn, ht1, ht2, hwn, hv1, hv2, hmj, htm, hse, htg, hrt, hac, hk1, hk2, hkd, hmm, hmv, hord, hpo, hlo⟩ := id hI
  refine lv_aload_n hx hb dX5_sync_0 rfl (lv_at hl 0 rfl) ?_
  refine lv_iload_n hx hb dX5_sync_1 rfl (lv_at hl 1 rfl) ?_
  refine zdet_V ⟨rfl, rfl⟩ Z hD hS (zrunV (rest := []) Z hP hD hS hl.1 (m_X5_requireDevice l G q σ κ (d) rfl (by omega) (by omega)) zY_X5_requireDevice km_X5_253 (q0 := 0) rfl rfl rfl rfl ⟨⟨Nat.le_of_ble_eq_true rfl, Nat.le_of_ble_eq_true rfl⟩, Nat.le_of_ble_eq_true rfl, Nat.le_of_ble_eq_true rfl⟩ (Nat.le_of_ble_eq_true rfl) dX5_sync_2) (fun H locs hP hD hS => ?_)
  refine zr_iconst hx hb dX5_sync_5 ?_
  refine lv_istore_n (lv' := [(2, .int (zI (0 : Int))), (0, .ref (q 0)), (1, .int (zI ((d : Nat) : Int)))]) hx hb dX5_sync_6 rfl hl (by decide) rfl (fun ls hl => ?_)
  refine zr_iconst hx hb dX5_sync_7 ?_
  refine lv_istore_n (lv' := [(3, .int (zI (0 : Int))), (2, .int (zI (0 : Int))), (0, .ref (q 0)), (1, .int (zI ((d : Nat) : Int)))]) hx hb dX5_sync_8 rfl hl (by decide) rfl (fun ls hl => ?_)
  suffices LP9 : ∀ (f9 : Nat) (k : Nat), σ.1 4 < k + f9 → (k ≤ σ.1 4) → ∀ (H : Heap) (locs : List Loc) (ls : Array Slot), va_P G.1 vwCl (wC G q (syS σ d k) κ) H → va_D A (wC G q (syS σ d k) κ) → va_S A s.heap H locs → lv_has ls 5 [(3, .int (zI ((k : Nat) : Int))), (2, .int (zI ((syC σ d k : Nat) : Int))), (0, .ref (q 0)), (1, .int (zI ((d : Nat) : Int)))] → W p l e r_X5_sync s m av below meth c H locs 0 0 Q (F0 m 9 ls []) from LP9 (σ.1 4 + 1) (0) (by omega) (by omega) _ _ _ hP hD hS (lv_sub hl [0, 1, 2, 3] rfl)
  intro f9
  induction f9 with
  | zero => intro k hf9 hk; exfalso; omega
  | succ f9 ih9 =>
    intro k hf9 hk H locs ls hP hD hS hl
    have hs9 := syS_ok hI d k
    have hN9 : (syS σ d k).1 4 = σ.1 4 := by rw [hs9.2]
    have hc9 := syC_le σ d k
    refine lv_iload_n hx hb dX5_sync_9 rfl (lv_at hl 0 rfl) ?_
    refine lv_aload_n hx hb dX5_sync_10 rfl (lv_at hl 2 rfl) ?_
    refine gC_0_4 Z hP kf_X5_25 dX5_sync_11 ?_
    refine zdet_I ⟨rfl, rfl⟩ Z hD hS (zrunV (rest := [.int (zI ((k : Nat) : Int))]) Z hP hD hS hl.1 (m_X1_size l G q (syS σ d k) κ) zY_X1_size km_X5_132 (q0 := 1) rfl rfl rfl rfl ⟨⟨Nat.le_of_ble_eq_true rfl, Nat.le_of_ble_eq_true rfl⟩, Nat.le_of_ble_eq_true rfl, Nat.le_of_ble_eq_true rfl⟩ (Nat.le_of_ble_eq_true rfl) dX5_sync_14) (fun H locs hP hD hS => ?_)
    refine zc_ge (tgt := 87) hx hb ((k : Nat) : Int) ((((syS σ d k)).1 4 : Nat) : Int) (zI_toInt (by omega)) (zI_toInt (by omega)) dX5_sync_17 (by decide) (fun c17 => ?_) (fun c17 => ?_)
    · skip
      refine lv_iload_n hx hb dX5_sync_87 rfl (lv_at hl 1 rfl) ?_
      exact zret_I () Z hr hP hD hS (by rw [show k = σ.1 4 from by omega]) (by rw [show k = σ.1 4 from by omega]) ⟨Nat.le_refl _, Nat.le_refl _⟩ hQ dX5_sync_88
    · skip
      refine lv_aload_n hx hb dX5_sync_20 rfl (lv_at hl 2 rfl) ?_
      refine lv_iload_n hx hb dX5_sync_21 rfl (lv_at hl 0 rfl) ?_
      refine zdet_I ⟨rfl, rfl⟩ Z hD hS (zrunV (rest := []) Z hP hD hS hl.1 (m_X5_isReadByReader l G q (syS σ d k) κ (k) rfl hs9.1 (by omega)) zY_X5_isReadByReader km_X5_236 (q0 := 0) rfl rfl rfl rfl ⟨⟨Nat.le_of_ble_eq_true rfl, Nat.le_of_ble_eq_true rfl⟩, Nat.le_of_ble_eq_true rfl, Nat.le_of_ble_eq_true rfl⟩ (Nat.le_of_ble_eq_true rfl) dX5_sync_22) (fun H locs hP hD hS => ?_)
      refine lv_istore (lv' := [(4, .int (tB (rdR ((syS σ d k)) k))), (3, .int (zI ((k : Nat) : Int))), (2, .int (zI ((syC σ d k : Nat) : Int))), (0, .ref (q 0)), (1, .int (zI ((d : Nat) : Int)))]) hx hb dX5_sync_25 hl (by decide) rfl (fun ls hl => ?_)
      refine lv_aload_n hx hb dX5_sync_27 rfl (lv_at hl 3 rfl) ?_
      refine gC_0_7 Z hP kf_X5_46 dX5_sync_28 ?_
      refine lv_iload_n hx hb dX5_sync_31 rfl (lv_at hl 4 rfl) ?_
      refine lv_iload_n hx hb dX5_sync_32 rfl (lv_at hl 1 rfl) ?_
      refine zdet_I ⟨rfl, rfl⟩ Z hD hS (zrunV (rest := []) Z hP hD hS hl.1 (m_X0_knows l G q (syS σ d k) κ (d) rfl (k) rfl (by omega) (by omega) (okC_k1 hs9.1 _)) zY_X0_knows km_X5_263 (q0 := 4) rfl rfl rfl rfl ⟨⟨Nat.le_of_ble_eq_true rfl, Nat.le_of_ble_eq_true rfl⟩, Nat.le_of_ble_eq_true rfl, Nat.le_of_ble_eq_true rfl⟩ (Nat.le_of_ble_eq_true rfl) dX5_sync_33) (fun H locs hP hD hS => ?_)
      refine zb_eq (tgt := 62) hx hb dX5_sync_36 (by decide) (fun c36 => ?_) (fun c36 => ?_)
      · skip
        refine lv_aload_n hx hb dX5_sync_62 rfl (lv_at hl 3 rfl) ?_
        refine lv_iload_n hx hb dX5_sync_63 rfl (lv_at hl 4 rfl) ?_
        refine lv_iload_n hx hb dX5_sync_64 rfl (lv_at hl 1 rfl) ?_
        refine zdet_V ⟨rfl, rfl⟩ Z hD hS (zrunV (rest := []) Z hP hD hS hl.1 (m_X5_bringUpToDate l G q (syS σ d k) κ (d) rfl (k) rfl (by omega) (by omega)) zY_X5_bringUpToDate km_X5_250 (q0 := 0) rfl rfl rfl rfl ⟨⟨Nat.le_of_ble_eq_true rfl, Nat.le_of_ble_eq_true rfl⟩, Nat.le_of_ble_eq_true rfl, Nat.le_of_ble_eq_true rfl⟩ (Nat.le_of_ble_eq_true rfl) dX5_sync_65) (fun H locs hP hD hS => ?_)
        refine lv_aload_n hx hb dX5_sync_68 rfl (lv_at hl 3 rfl) ?_
        refine lv_iload_n hx hb dX5_sync_69 rfl (lv_at hl 1 rfl) ?_
        refine zdet_I ⟨rfl, rfl⟩ Z hD hS (zrunV (rest := []) Z hP hD hS hl.1 (m_X5_isReadByReader l G q (bup (syS σ d k) d k) κ (k) rfl (okC_bup hs9.1 d k) (by show k < (syS σ d k).1 4; omega)) zY_X5_isReadByReader km_X5_236 (q0 := 0) rfl rfl rfl rfl ⟨⟨Nat.le_of_ble_eq_true rfl, Nat.le_of_ble_eq_true rfl⟩, Nat.le_of_ble_eq_true rfl, Nat.le_of_ble_eq_true rfl⟩ (Nat.le_of_ble_eq_true rfl) dX5_sync_70) (fun H locs hP hD hS => ?_)
        refine lv_iload hx hb dX5_sync_73 (lv_at hl 0 rfl) ?_
        refine zc_eq (tgt := 81) hx hb (if rdR ((bup (syS σ d k) d k)) k then 1 else 0 : Int) (if rdR ((syS σ d k)) k then 1 else 0 : Int) (by rw [tB_z]; exact zI_toInt (by split <;> decide)) (by rw [tB_z]; exact zI_toInt (by split <;> decide)) dX5_sync_75 (by decide) (fun c75 => ?_) (fun c75 => ?_)
        · skip
          refine zr_iinc (lv' := [(3, .int (zI (((k : Nat) : Int) + (1 : Int)))), (4, .int (tB (rdR ((syS σ d k)) k))), (2, .int (zI ((syC σ d k : Nat) : Int))), (0, .ref (q 0)), (1, .int (zI ((d : Nat) : Int)))]) hx hb 1 dX5_sync_81 hl rfl (by decide) rfl (fun ls hl => ?_)
          refine lv_goto (tgt := 9) hx hb dX5_sync_84 (by decide) ?_
          have h8 : syS σ d (k + 1) = bup (syS σ d k) d k := by
            show sy1 (syS σ d k) d k = _
            unfold sy1
            rw [if_neg (fun h => of_decide_eq_false c36 h.1)]
          have h9 : syC σ d (k + 1) = syC σ d k := if_pos (by rw [h8]; exact b01 c75)
          have hw9 : wC G q (bup (syS σ d k) d k) κ = wC G q (syS σ d (k + 1)) κ := (by rw [h8])
          rw [hw9] at hP hD
          exact ih9 (k + 1) (by omega) (by omega) _ _ _ hP hD hS (lv_sub hl [0, 2, 3, 4] (by rw [h9]; rfl))
        · skip
          refine zr_iinc (lv' := [(2, .int (zI (((syC σ d k : Nat) : Int) + (1 : Int)))), (4, .int (tB (rdR ((syS σ d k)) k))), (3, .int (zI ((k : Nat) : Int))), (0, .ref (q 0)), (1, .int (zI ((d : Nat) : Int)))]) hx hb 2 dX5_sync_78 hl rfl (by decide) rfl (fun ls hl => ?_)
          refine zr_iinc (lv' := [(3, .int (zI (((k : Nat) : Int) + (1 : Int)))), (2, .int (zI (((syC σ d k : Nat) : Int) + (1 : Int)))), (4, .int (tB (rdR ((syS σ d k)) k))), (0, .ref (q 0)), (1, .int (zI ((d : Nat) : Int)))]) hx hb 2 dX5_sync_81 hl rfl (by decide) rfl (fun ls hl => ?_)
          refine lv_goto (tgt := 9) hx hb dX5_sync_84 (by decide) ?_
          have h8 : syS σ d (k + 1) = bup (syS σ d k) d k := by
            show sy1 (syS σ d k) d k = _
            unfold sy1
            rw [if_neg (fun h => of_decide_eq_false c36 h.1)]
          have h9 : syC σ d (k + 1) = syC σ d k + 1 := if_neg (by rw [h8]; exact fun h => c75 (by rw [h]))
          have hw9 : wC G q (bup (syS σ d k) d k) κ = wC G q (syS σ d (k + 1)) κ := (by rw [h8])
          rw [hw9] at hP hD
          exact ih9 (k + 1) (by omega) (by omega) _ _ _ hP hD hS (lv_sub hl [0, 1, 3, 4] (by rw [h9]; rfl))
      · skip
        refine lv_aload_n hx hb dX5_sync_39 rfl (lv_at hl 3 rfl) ?_
        refine gC_0_8 Z hP kf_X5_53 dX5_sync_40 ?_
        refine lv_iload_n hx hb dX5_sync_43 rfl (lv_at hl 4 rfl) ?_
        refine zr_iconst hx hb dX5_sync_44 ?_
        refine lv_iload_n hx hb dX5_sync_45 rfl (lv_at hl 1 rfl) ?_
        refine zdet_I ⟨rfl, rfl⟩ Z hD hS (zrunV (rest := []) Z hP hD hS hl.1 (m_X2_beats l G q (syS σ d k) κ (d) rfl (4) (by omega) (k) rfl (by omega) (by omega) (by omega) (okC_kd hs9.1).1 (okC_kd hs9.1).2.1 (okC_kd hs9.1).2.2) zY_X2_beats km_X5_266 (q0 := 5) rfl rfl rfl rfl ⟨⟨Nat.le_of_ble_eq_true rfl, Nat.le_of_ble_eq_true rfl⟩, Nat.le_of_ble_eq_true rfl, Nat.le_of_ble_eq_true rfl⟩ (Nat.le_of_ble_eq_true rfl) dX5_sync_46) (fun H locs hP hD hS => ?_)
        refine zb_eq (tgt := 62) hx hb dX5_sync_49 (by decide) (fun c49 => ?_) (fun c49 => ?_)
        · skip
          refine lv_aload_n hx hb dX5_sync_62 rfl (lv_at hl 3 rfl) ?_
          refine lv_iload_n hx hb dX5_sync_63 rfl (lv_at hl 4 rfl) ?_
          refine lv_iload_n hx hb dX5_sync_64 rfl (lv_at hl 1 rfl) ?_
          refine zdet_V ⟨rfl, rfl⟩ Z hD hS (zrunV (rest := []) Z hP hD hS hl.1 (m_X5_bringUpToDate l G q (syS σ d k) κ (d) rfl (k) rfl (by omega) (by omega)) zY_X5_bringUpToDate km_X5_250 (q0 := 0) rfl rfl rfl rfl ⟨⟨Nat.le_of_ble_eq_true rfl, Nat.le_of_ble_eq_true rfl⟩, Nat.le_of_ble_eq_true rfl, Nat.le_of_ble_eq_true rfl⟩ (Nat.le_of_ble_eq_true rfl) dX5_sync_65) (fun H locs hP hD hS => ?_)
          refine lv_aload_n hx hb dX5_sync_68 rfl (lv_at hl 3 rfl) ?_
          refine lv_iload_n hx hb dX5_sync_69 rfl (lv_at hl 1 rfl) ?_
          refine zdet_I ⟨rfl, rfl⟩ Z hD hS (zrunV (rest := []) Z hP hD hS hl.1 (m_X5_isReadByReader l G q (bup (syS σ d k) d k) κ (k) rfl (okC_bup hs9.1 d k) (by show k < (syS σ d k).1 4; omega)) zY_X5_isReadByReader km_X5_236 (q0 := 0) rfl rfl rfl rfl ⟨⟨Nat.le_of_ble_eq_true rfl, Nat.le_of_ble_eq_true rfl⟩, Nat.le_of_ble_eq_true rfl, Nat.le_of_ble_eq_true rfl⟩ (Nat.le_of_ble_eq_true rfl) dX5_sync_70) (fun H locs hP hD hS => ?_)
          refine lv_iload hx hb dX5_sync_73 (lv_at hl 0 rfl) ?_
          refine zc_eq (tgt := 81) hx hb (if rdR ((bup (syS σ d k) d k)) k then 1 else 0 : Int) (if rdR ((syS σ d k)) k then 1 else 0 : Int) (by rw [tB_z]; exact zI_toInt (by split <;> decide)) (by rw [tB_z]; exact zI_toInt (by split <;> decide)) dX5_sync_75 (by decide) (fun c75 => ?_) (fun c75 => ?_)
          · skip
            refine zr_iinc (lv' := [(3, .int (zI (((k : Nat) : Int) + (1 : Int)))), (4, .int (tB (rdR ((syS σ d k)) k))), (2, .int (zI ((syC σ d k : Nat) : Int))), (0, .ref (q 0)), (1, .int (zI ((d : Nat) : Int)))]) hx hb 1 dX5_sync_81 hl rfl (by decide) rfl (fun ls hl => ?_)
            refine lv_goto (tgt := 9) hx hb dX5_sync_84 (by decide) ?_
            have h8 : syS σ d (k + 1) = bup (syS σ d k) d k := by
              show sy1 (syS σ d k) d k = _
              unfold sy1
              rw [if_neg (fun h => by rw [c49] at h; cases h.2)]
            have h9 : syC σ d (k + 1) = syC σ d k := if_pos (by rw [h8]; exact b01 c75)
            have hw9 : wC G q (bup (syS σ d k) d k) κ = wC G q (syS σ d (k + 1)) κ := (by rw [h8])
            rw [hw9] at hP hD
            exact ih9 (k + 1) (by omega) (by omega) _ _ _ hP hD hS (lv_sub hl [0, 2, 3, 4] (by rw [h9]; rfl))
          · skip
            refine zr_iinc (lv' := [(2, .int (zI (((syC σ d k : Nat) : Int) + (1 : Int)))), (4, .int (tB (rdR ((syS σ d k)) k))), (3, .int (zI ((k : Nat) : Int))), (0, .ref (q 0)), (1, .int (zI ((d : Nat) : Int)))]) hx hb 2 dX5_sync_78 hl rfl (by decide) rfl (fun ls hl => ?_)
            refine zr_iinc (lv' := [(3, .int (zI (((k : Nat) : Int) + (1 : Int)))), (2, .int (zI (((syC σ d k : Nat) : Int) + (1 : Int)))), (4, .int (tB (rdR ((syS σ d k)) k))), (0, .ref (q 0)), (1, .int (zI ((d : Nat) : Int)))]) hx hb 2 dX5_sync_81 hl rfl (by decide) rfl (fun ls hl => ?_)
            refine lv_goto (tgt := 9) hx hb dX5_sync_84 (by decide) ?_
            have h8 : syS σ d (k + 1) = bup (syS σ d k) d k := by
              show sy1 (syS σ d k) d k = _
              unfold sy1
              rw [if_neg (fun h => by rw [c49] at h; cases h.2)]
            have h9 : syC σ d (k + 1) = syC σ d k + 1 := if_neg (by rw [h8]; exact fun h => c75 (by rw [h]))
            have hw9 : wC G q (bup (syS σ d k) d k) κ = wC G q (syS σ d (k + 1)) κ := (by rw [h8])
            rw [hw9] at hP hD
            exact ih9 (k + 1) (by omega) (by omega) _ _ _ hP hD hS (lv_sub hl [0, 1, 3, 4] (by rw [h9]; rfl))
        · skip
          refine lv_aload_n hx hb dX5_sync_52 rfl (lv_at hl 3 rfl) ?_
          refine gC_0_8 Z hP kf_X5_53 dX5_sync_53 ?_
          refine lv_iload_n hx hb dX5_sync_56 rfl (lv_at hl 4 rfl) ?_
          refine zr_iconst hx hb dX5_sync_57 ?_
          refine lv_iload_n hx hb dX5_sync_58 rfl (lv_at hl 1 rfl) ?_
          refine zdet_V ⟨rfl, rfl⟩ Z hD hS (zrunV (rest := []) Z hP hD hS hl.1 (m_X2_copy l G q (syS σ d k) κ (d) rfl (4) (by omega) (k) rfl (by omega) (by omega) (by omega)) zY_X2_copy km_X5_270 (q0 := 5) rfl rfl rfl rfl ⟨⟨Nat.le_of_ble_eq_true rfl, Nat.le_of_ble_eq_true rfl⟩, Nat.le_of_ble_eq_true rfl, Nat.le_of_ble_eq_true rfl⟩ (Nat.le_of_ble_eq_true rfl) dX5_sync_59) (fun H locs hP hD hS => ?_)
          refine lv_aload_n hx hb dX5_sync_62 rfl (lv_at hl 3 rfl) ?_
          refine lv_iload_n hx hb dX5_sync_63 rfl (lv_at hl 4 rfl) ?_
          refine lv_iload_n hx hb dX5_sync_64 rfl (lv_at hl 1 rfl) ?_
          refine zdet_V ⟨rfl, rfl⟩ Z hD hS (zrunV (rest := []) Z hP hD hS hl.1 (m_X5_bringUpToDate l G q (cpM (syS σ d k) d 4 k) κ (d) rfl (k) rfl (by omega) (by omega)) zY_X5_bringUpToDate km_X5_250 (q0 := 0) rfl rfl rfl rfl ⟨⟨Nat.le_of_ble_eq_true rfl, Nat.le_of_ble_eq_true rfl⟩, Nat.le_of_ble_eq_true rfl, Nat.le_of_ble_eq_true rfl⟩ (Nat.le_of_ble_eq_true rfl) dX5_sync_65) (fun H locs hP hD hS => ?_)
          refine lv_aload_n hx hb dX5_sync_68 rfl (lv_at hl 3 rfl) ?_
          refine lv_iload_n hx hb dX5_sync_69 rfl (lv_at hl 1 rfl) ?_
          refine zdet_I ⟨rfl, rfl⟩ Z hD hS (zrunV (rest := []) Z hP hD hS hl.1 (m_X5_isReadByReader l G q (bup (cpM (syS σ d k) d 4 k) d k) κ (k) rfl (okC_bup (okC_cpM hs9.1 d 4 k) d k) (by show k < (syS σ d k).1 4; omega)) zY_X5_isReadByReader km_X5_236 (q0 := 0) rfl rfl rfl rfl ⟨⟨Nat.le_of_ble_eq_true rfl, Nat.le_of_ble_eq_true rfl⟩, Nat.le_of_ble_eq_true rfl, Nat.le_of_ble_eq_true rfl⟩ (Nat.le_of_ble_eq_true rfl) dX5_sync_70) (fun H locs hP hD hS => ?_)
          refine lv_iload hx hb dX5_sync_73 (lv_at hl 0 rfl) ?_
          refine zc_eq (tgt := 81) hx hb (if rdR ((bup (cpM (syS σ d k) d 4 k) d k)) k then 1 else 0 : Int) (if rdR ((syS σ d k)) k then 1 else 0 : Int) (by rw [tB_z]; exact zI_toInt (by split <;> decide)) (by rw [tB_z]; exact zI_toInt (by split <;> decide)) dX5_sync_75 (by decide) (fun c75 => ?_) (fun c75 => ?_)
          · skip
            refine zr_iinc (lv' := [(3, .int (zI (((k : Nat) : Int) + (1 : Int)))), (4, .int (tB (rdR ((syS σ d k)) k))), (2, .int (zI ((syC σ d k : Nat) : Int))), (0, .ref (q 0)), (1, .int (zI ((d : Nat) : Int)))]) hx hb 1 dX5_sync_81 hl rfl (by decide) rfl (fun ls hl => ?_)
            refine lv_goto (tgt := 9) hx hb dX5_sync_84 (by decide) ?_
            have h8 : syS σ d (k + 1) = bup (cpM (syS σ d k) d 4 k) d k := by
              show sy1 (syS σ d k) d k = _
              unfold sy1
              rw [if_pos ⟨of_decide_eq_true c36, c49⟩]
            have h9 : syC σ d (k + 1) = syC σ d k := if_pos (by rw [h8]; exact b01 c75)
            have hw9 : wC G q (bup (cpM (syS σ d k) d 4 k) d k) κ = wC G q (syS σ d (k + 1)) κ := (by rw [h8])
            rw [hw9] at hP hD
            exact ih9 (k + 1) (by omega) (by omega) _ _ _ hP hD hS (lv_sub hl [0, 2, 3, 4] (by rw [h9]; rfl))
          · skip
            refine zr_iinc (lv' := [(2, .int (zI (((syC σ d k : Nat) : Int) + (1 : Int)))), (4, .int (tB (rdR ((syS σ d k)) k))), (3, .int (zI ((k : Nat) : Int))), (0, .ref (q 0)), (1, .int (zI ((d : Nat) : Int)))]) hx hb 2 dX5_sync_78 hl rfl (by decide) rfl (fun ls hl => ?_)
            refine zr_iinc (lv' := [(3, .int (zI (((k : Nat) : Int) + (1 : Int)))), (2, .int (zI (((syC σ d k : Nat) : Int) + (1 : Int)))), (4, .int (tB (rdR ((syS σ d k)) k))), (0, .ref (q 0)), (1, .int (zI ((d : Nat) : Int)))]) hx hb 2 dX5_sync_81 hl rfl (by decide) rfl (fun ls hl => ?_)
            refine lv_goto (tgt := 9) hx hb dX5_sync_84 (by decide) ?_
            have h8 : syS σ d (k + 1) = bup (cpM (syS σ d k) d 4 k) d k := by
              show sy1 (syS σ d k) d k = _
              unfold sy1
              rw [if_pos ⟨of_decide_eq_true c36, c49⟩]
            have h9 : syC σ d (k + 1) = syC σ d k + 1 := if_neg (by rw [h8]; exact fun h => c75 (by rw [h]))
            have hw9 : wC G q (bup (cpM (syS σ d k) d 4 k) d k) κ = wC G q (syS σ d (k + 1)) κ := (by rw [h8])
            rw [hw9] at hP hD
            exact ih9 (k + 1) (by omega) (by omega) _ _ _ hP hD hS (lv_sub hl [0, 1, 3, 4] (by rw [h9]; rfl))
abbrev r_X5_sync_x : Room := { frames := 7, cells := 1, slots := 6, locals := 121 }
set_option maxHeartbeats 4000000 in
set_option maxRecDepth 100000 in
theorem m_X5_sync_x (l : Launch) (G : ZG) (hst : l.stackTraces = false) (q : Nat → Nat) (σ : St) (κ : KC) (d : Int) (hI : okC σ) (h1 : zR d) (h2 : d < 0 ∨ ((σ.1 7 : Nat) : Int) ≤ d) :
    MX l G yX5_sync (wY yX5_sync cX5_sync 5 (some .int)) r_X5_sync_x (wC G q σ κ) [.ref (q 0), .int (zI (d : Int))] (S := Unit) "java/lang/IndexOutOfBoundsException" (fun _ => wC G q σ κ) := by
  refine MX.mk (by decide +kernel) (Nat.le_of_ble_eq_true rfl) ?_
  intro p e s m av below meth c A H locs ls Q Z ht hQ hP hD hS hl
  have hx := Z.1
  have hb := Z.2.1
  have hown := Z.2.2.2.1
  have hW := Z.2.2.2.2.1
  have hl : lv_has ls 5 [(0, .ref (q 0)), (1, .int (zI (d : Int)))] := hl
  obtain ⟨hn, hru, hrv, hdv, hsr, hmn, ht1, ht2, hwn, hv1, hv2, hmj, htm, hse, htg, hrt, hac, hk1, hk2, hkd, hmm, hmv, hord, hpo, hlo⟩ := id hI
  refine lv_aload_n hx hb dX5_sync_0 rfl (lv_at hl 0 rfl) ?_
  refine lv_iload_n hx hb dX5_sync_1 rfl (lv_at hl 1 rfl) ?_
  exact zxout (fun u => ()) (fun _ => rfl) Z ht hD hS (zrunXV (rest := []) Z hP hD hS hl.1 (m_X5_requireDevice_x l G hst q σ κ (d : Int) (by omega) (by omega) (by omega)) zY_X5_requireDevice km_X5_253 (q0 := 0) rfl rfl rfl rfl ⟨⟨Nat.le_of_ble_eq_true rfl, Nat.le_of_ble_eq_true rfl⟩, Nat.le_of_ble_eq_true rfl, Nat.le_of_ble_eq_true rfl⟩ (Nat.le_of_ble_eq_true rfl) dX5_sync_2) ⟨Nat.le_refl _, Nat.le_refl _⟩ hQ
abbrev r_X5_isRead : Room := { frames := 2, cells := 0, slots := 0, locals := 45 }
set_option maxHeartbeats 4000000 in
set_option maxRecDepth 100000 in
theorem m_X5_isRead (l : Launch) (G : ZG) (q : Nat → Nat) (σ : St) (κ : KC) {e_i : Int} (i : Nat) (he_i : e_i = (i : Int)) (hI : okC σ) (h1 : i < σ.1 4) :
    MC l G yX5_isRead (wY yX5_isRead cX5_isRead 2 (some .boolean)) r_X5_isRead (wC G q σ κ) [.ref (q 0), .int (zI e_i)] (QI G (fun r9 (_ : Unit) => r9 = (tB (rdR σ i))) (fun _ => wC G q σ κ)) := by
  subst he_i
  refine MC.mk (by decide +kernel) (Nat.le_of_ble_eq_true rfl) ?_
  intro p e s m av below meth c A H locs ls Q Z hr hnm hQ hP hD hS hl
  have hx := Z.1
  have hb := Z.2.1
  have hown := Z.2.2.2.1
  have hW := Z.2.2.2.2.1
  have hl : lv_has ls 2 [(0, .ref (q 0)), (1, .int (zI ((i : Nat) : Int)))] := hl
  obtain ⟨hn, hru, hrv, hdv, hsr, hmn, ht1, ht2, hwn, hv1, hv2, hmj, htm, hse, htg, hrt, hac, hk1, hk2, hkd, hmm, hmv, hord, hpo, hlo⟩ := id hI
  refine lv_aload_n hx hb dX5_isRead_0 rfl (lv_at hl 0 rfl) ?_
  refine lv_iload_n hx hb dX5_isRead_1 rfl (lv_at hl 1 rfl) ?_
  refine zdet_V ⟨rfl, rfl⟩ Z hD hS (zrunV (rest := []) Z hP hD hS hl.1 (m_X5_requireItem l G q σ κ (i) rfl (by omega) (by omega)) zY_X5_requireItem km_X5_150 (q0 := 0) rfl rfl rfl rfl ⟨⟨Nat.le_of_ble_eq_true rfl, Nat.le_of_ble_eq_true rfl⟩, Nat.le_of_ble_eq_true rfl, Nat.le_of_ble_eq_true rfl⟩ (Nat.le_of_ble_eq_true rfl) dX5_isRead_2) (fun H locs hP hD hS => ?_)
  refine lv_aload_n hx hb dX5_isRead_5 rfl (lv_at hl 0 rfl) ?_
  refine lv_iload_n hx hb dX5_isRead_6 rfl (lv_at hl 1 rfl) ?_
  refine zdet_I ⟨rfl, rfl⟩ Z hD hS (zrunV (rest := []) Z hP hD hS hl.1 (m_X5_isReadByReader l G q σ κ (i) rfl hI (by omega)) zY_X5_isReadByReader km_X5_236 (q0 := 0) rfl rfl rfl rfl ⟨⟨Nat.le_of_ble_eq_true rfl, Nat.le_of_ble_eq_true rfl⟩, Nat.le_of_ble_eq_true rfl, Nat.le_of_ble_eq_true rfl⟩ (Nat.le_of_ble_eq_true rfl) dX5_isRead_7) (fun H locs hP hD hS => ?_)
  exact zret_B () Z hr (tB_n _) hP hD hS rfl rfl ⟨Nat.le_refl _, Nat.le_refl _⟩ hQ dX5_isRead_10
abbrev r_X5_isRead_x : Room := { frames := 7, cells := 1, slots := 6, locals := 121 }
set_option maxHeartbeats 4000000 in
set_option maxRecDepth 100000 in
theorem m_X5_isRead_x (l : Launch) (G : ZG) (hst : l.stackTraces = false) (q : Nat → Nat) (σ : St) (κ : KC) (i : Int) (hI : okC σ) (h1 : zR i) (h2 : i < 0 ∨ ((σ.1 4 : Nat) : Int) ≤ i) :
    MX l G yX5_isRead (wY yX5_isRead cX5_isRead 2 (some .boolean)) r_X5_isRead_x (wC G q σ κ) [.ref (q 0), .int (zI (i : Int))] (S := Unit) "java/lang/IndexOutOfBoundsException" (fun _ => wC G q σ κ) := by
  refine MX.mk (by decide +kernel) (Nat.le_of_ble_eq_true rfl) ?_
  intro p e s m av below meth c A H locs ls Q Z ht hQ hP hD hS hl
  have hx := Z.1
  have hb := Z.2.1
  have hown := Z.2.2.2.1
  have hW := Z.2.2.2.2.1
  have hl : lv_has ls 2 [(0, .ref (q 0)), (1, .int (zI (i : Int)))] := hl
  obtain ⟨hn, hru, hrv, hdv, hsr, hmn, ht1, ht2, hwn, hv1, hv2, hmj, htm, hse, htg, hrt, hac, hk1, hk2, hkd, hmm, hmv, hord, hpo, hlo⟩ := id hI
  refine lv_aload_n hx hb dX5_isRead_0 rfl (lv_at hl 0 rfl) ?_
  refine lv_iload_n hx hb dX5_isRead_1 rfl (lv_at hl 1 rfl) ?_
  exact zxout (fun u => ()) (fun _ => rfl) Z ht hD hS (zrunXV (rest := []) Z hP hD hS hl.1 (m_X5_requireItem_x l G hst q σ κ (i : Int) (by omega) (by omega) (by omega)) zY_X5_requireItem km_X5_150 (q0 := 0) rfl rfl rfl rfl ⟨⟨Nat.le_of_ble_eq_true rfl, Nat.le_of_ble_eq_true rfl⟩, Nat.le_of_ble_eq_true rfl, Nat.le_of_ble_eq_true rfl⟩ (Nat.le_of_ble_eq_true rfl) dX5_isRead_2) ⟨Nat.le_refl _, Nat.le_refl _⟩ hQ
abbrev r_X5_isReadOn : Room := { frames := 3, cells := 0, slots := 0, locals := 66 }
set_option maxHeartbeats 4000000 in
set_option maxRecDepth 100000 in
theorem m_X5_isReadOn (l : Launch) (G : ZG) (q : Nat → Nat) (σ : St) (κ : KC) {e_d : Int} (d : Nat) (he_d : e_d = (d : Int)) {e_i : Int} (i : Nat) (he_i : e_i = (i : Int)) (hI : okC σ) (h1 : i < σ.1 4) (h2 : d < σ.1 7) (h3 : 0 < σ.2.1 4 (30 * d + i)) :
    MC l G yX5_isReadOn (wY yX5_isReadOn cX5_isReadOn 3 (some .boolean)) r_X5_isReadOn (wC G q σ κ) [.ref (q 0), .int (zI e_d), .int (zI e_i)] (QI G (fun r9 (_ : Unit) => r9 = (tB (rdD σ d i))) (fun _ => wC G q σ κ)) := by
  subst he_d
  subst he_i
  refine MC.mk (by decide +kernel) (Nat.le_of_ble_eq_true rfl) ?_
  intro p e s m av below meth c A H locs ls Q Z hr hnm hQ hP hD hS hl
  have hx := Z.1
  have hb := Z.2.1
  have hown := Z.2.2.2.1
  have hW := Z.2.2.2.2.1
  have hl : lv_has ls 3 [(0, .ref (q 0)), (1, .int (zI ((d : Nat) : Int))), (2, .int (zI ((i : Nat) : Int)))] := hl
  obtain ⟨hn, hru, hrv, hdv, hsr, hmn, ht1, ht2, hwn, hv1, hv2, hmj, htm, hse, htg, hrt, hac, hk1, hk2, hkd, hmm, hmv, hord, hpo, hlo⟩ := id hI
  refine lv_aload_n hx hb dX5_isReadOn_0 rfl (lv_at hl 0 rfl) ?_
  refine lv_iload_n hx hb dX5_isReadOn_1 rfl (lv_at hl 1 rfl) ?_
  refine zdet_V ⟨rfl, rfl⟩ Z hD hS (zrunV (rest := []) Z hP hD hS hl.1 (m_X5_requireDevice l G q σ κ (d) rfl (by omega) (by omega)) zY_X5_requireDevice km_X5_253 (q0 := 0) rfl rfl rfl rfl ⟨⟨Nat.le_of_ble_eq_true rfl, Nat.le_of_ble_eq_true rfl⟩, Nat.le_of_ble_eq_true rfl, Nat.le_of_ble_eq_true rfl⟩ (Nat.le_of_ble_eq_true rfl) dX5_isReadOn_2) (fun H locs hP hD hS => ?_)
  refine lv_aload_n hx hb dX5_isReadOn_5 rfl (lv_at hl 0 rfl) ?_
  refine lv_iload_n hx hb dX5_isReadOn_6 rfl (lv_at hl 2 rfl) ?_
  refine zdet_V ⟨rfl, rfl⟩ Z hD hS (zrunV (rest := []) Z hP hD hS hl.1 (m_X5_requireItem l G q σ κ (i) rfl (by omega) (by omega)) zY_X5_requireItem km_X5_150 (q0 := 0) rfl rfl rfl rfl ⟨⟨Nat.le_of_ble_eq_true rfl, Nat.le_of_ble_eq_true rfl⟩, Nat.le_of_ble_eq_true rfl, Nat.le_of_ble_eq_true rfl⟩ (Nat.le_of_ble_eq_true rfl) dX5_isReadOn_7) (fun H locs hP hD hS => ?_)
  refine lv_aload_n hx hb dX5_isReadOn_10 rfl (lv_at hl 0 rfl) ?_
  refine lv_iload_n hx hb dX5_isReadOn_11 rfl (lv_at hl 1 rfl) ?_
  refine lv_iload_n hx hb dX5_isReadOn_12 rfl (lv_at hl 2 rfl) ?_
  refine zdet_V ⟨rfl, rfl⟩ Z hD hS (zrunV (rest := []) Z hP hD hS hl.1 (m_X5_requireKnown l G q σ κ (d) rfl (i) rfl (by omega) (by omega) h3 (hk1 _)) zY_X5_requireKnown km_X5_256 (q0 := 0) rfl rfl rfl rfl ⟨⟨Nat.le_of_ble_eq_true rfl, Nat.le_of_ble_eq_true rfl⟩, Nat.le_of_ble_eq_true rfl, Nat.le_of_ble_eq_true rfl⟩ (Nat.le_of_ble_eq_true rfl) dX5_isReadOn_13) (fun H locs hP hD hS => ?_)
  refine lv_aload_n hx hb dX5_isReadOn_16 rfl (lv_at hl 0 rfl) ?_
  refine lv_iload_n hx hb dX5_isReadOn_17 rfl (lv_at hl 1 rfl) ?_
  refine lv_iload_n hx hb dX5_isReadOn_18 rfl (lv_at hl 2 rfl) ?_
  refine zdet_I ⟨rfl, rfl⟩ Z hD hS (zrunV (rest := []) Z hP hD hS hl.1 (m_X5_isReadByDevice l G q σ κ (d) rfl (i) rfl hI (by omega) (by omega)) zY_X5_isReadByDevice km_X5_273 (q0 := 0) rfl rfl rfl rfl ⟨⟨Nat.le_of_ble_eq_true rfl, Nat.le_of_ble_eq_true rfl⟩, Nat.le_of_ble_eq_true rfl, Nat.le_of_ble_eq_true rfl⟩ (Nat.le_of_ble_eq_true rfl) dX5_isReadOn_19) (fun H locs hP hD hS => ?_)
  exact zret_B () Z hr (tB_n _) hP hD hS rfl rfl ⟨Nat.le_refl _, Nat.le_refl _⟩ hQ dX5_isReadOn_22
abbrev r_X5_isReadOn_x1 : Room := { frames := 7, cells := 1, slots := 6, locals := 121 }
set_option maxHeartbeats 4000000 in
set_option maxRecDepth 100000 in
theorem m_X5_isReadOn_x1 (l : Launch) (G : ZG) (hst : l.stackTraces = false) (q : Nat → Nat) (σ : St) (κ : KC) (d : Int) (i : Int) (hI : okC σ) (h1 : zR d) (h2 : d < 0 ∨ ((σ.1 7 : Nat) : Int) ≤ d) :
    MX l G yX5_isReadOn (wY yX5_isReadOn cX5_isReadOn 3 (some .boolean)) r_X5_isReadOn_x1 (wC G q σ κ) [.ref (q 0), .int (zI (d : Int)), .int (zI (i : Int))] (S := Unit) "java/lang/IndexOutOfBoundsException" (fun _ => wC G q σ κ) := by
  refine MX.mk (by decide +kernel) (Nat.le_of_ble_eq_true rfl) ?_
  intro p e s m av below meth c A H locs ls Q Z ht hQ hP hD hS hl
  have hx := Z.1
  have hb := Z.2.1
  have hown := Z.2.2.2.1
  have hW := Z.2.2.2.2.1
  have hl : lv_has ls 3 [(0, .ref (q 0)), (1, .int (zI (d : Int))), (2, .int (zI (i : Int)))] := hl
  obtain ⟨hn, hru, hrv, hdv, hsr, hmn, ht1, ht2, hwn, hv1, hv2, hmj, htm, hse, htg, hrt, hac, hk1, hk2, hkd, hmm, hmv, hord, hpo, hlo⟩ := id hI
  refine lv_aload_n hx hb dX5_isReadOn_0 rfl (lv_at hl 0 rfl) ?_
  refine lv_iload_n hx hb dX5_isReadOn_1 rfl (lv_at hl 1 rfl) ?_
  exact zxout (fun u => ()) (fun _ => rfl) Z ht hD hS (zrunXV (rest := []) Z hP hD hS hl.1 (m_X5_requireDevice_x l G hst q σ κ (d : Int) (by omega) (by omega) (by omega)) zY_X5_requireDevice km_X5_253 (q0 := 0) rfl rfl rfl rfl ⟨⟨Nat.le_of_ble_eq_true rfl, Nat.le_of_ble_eq_true rfl⟩, Nat.le_of_ble_eq_true rfl, Nat.le_of_ble_eq_true rfl⟩ (Nat.le_of_ble_eq_true rfl) dX5_isReadOn_2) ⟨Nat.le_refl _, Nat.le_refl _⟩ hQ
abbrev r_X5_isReadOn_x2 : Room := { frames := 7, cells := 1, slots := 6, locals := 121 }
set_option maxHeartbeats 4000000 in
set_option maxRecDepth 100000 in
theorem m_X5_isReadOn_x2 (l : Launch) (G : ZG) (hst : l.stackTraces = false) (q : Nat → Nat) (σ : St) (κ : KC) {e_d : Int} (d : Nat) (he_d : e_d = (d : Int)) (i : Int) (hI : okC σ) (h4 : d < σ.1 7) (h1 : zR i) (h2 : i < 0 ∨ ((σ.1 4 : Nat) : Int) ≤ i) :
    MX l G yX5_isReadOn (wY yX5_isReadOn cX5_isReadOn 3 (some .boolean)) r_X5_isReadOn_x2 (wC G q σ κ) [.ref (q 0), .int (zI e_d), .int (zI (i : Int))] (S := Unit) "java/lang/IndexOutOfBoundsException" (fun _ => wC G q σ κ) := by
  subst he_d
  refine MX.mk (by decide +kernel) (Nat.le_of_ble_eq_true rfl) ?_
  intro p e s m av below meth c A H locs ls Q Z ht hQ hP hD hS hl
  have hx := Z.1
  have hb := Z.2.1
  have hown := Z.2.2.2.1
  have hW := Z.2.2.2.2.1
  have hl : lv_has ls 3 [(0, .ref (q 0)), (1, .int (zI ((d : Nat) : Int))), (2, .int (zI (i : Int)))] := hl
  obtain ⟨hn, hru, hrv, hdv, hsr, hmn, ht1, ht2, hwn, hv1, hv2, hmj, htm, hse, htg, hrt, hac, hk1, hk2, hkd, hmm, hmv, hord, hpo, hlo⟩ := id hI
  refine lv_aload_n hx hb dX5_isReadOn_0 rfl (lv_at hl 0 rfl) ?_
  refine lv_iload_n hx hb dX5_isReadOn_1 rfl (lv_at hl 1 rfl) ?_
  refine zdet_V ⟨rfl, rfl⟩ Z hD hS (zrunV (rest := []) Z hP hD hS hl.1 (m_X5_requireDevice l G q σ κ (d) rfl (by omega) (by omega)) zY_X5_requireDevice km_X5_253 (q0 := 0) rfl rfl rfl rfl ⟨⟨Nat.le_of_ble_eq_true rfl, Nat.le_of_ble_eq_true rfl⟩, Nat.le_of_ble_eq_true rfl, Nat.le_of_ble_eq_true rfl⟩ (Nat.le_of_ble_eq_true rfl) dX5_isReadOn_2) (fun H locs hP hD hS => ?_)
  refine lv_aload_n hx hb dX5_isReadOn_5 rfl (lv_at hl 0 rfl) ?_
  refine lv_iload_n hx hb dX5_isReadOn_6 rfl (lv_at hl 2 rfl) ?_
  exact zxout (fun u => ()) (fun _ => rfl) Z ht hD hS (zrunXV (rest := []) Z hP hD hS hl.1 (m_X5_requireItem_x l G hst q σ κ (i : Int) h1 h2 (by omega)) zY_X5_requireItem km_X5_150 (q0 := 0) rfl rfl rfl rfl ⟨⟨Nat.le_of_ble_eq_true rfl, Nat.le_of_ble_eq_true rfl⟩, Nat.le_of_ble_eq_true rfl, Nat.le_of_ble_eq_true rfl⟩ (Nat.le_of_ble_eq_true rfl) dX5_isReadOn_7) ⟨Nat.le_refl _, Nat.le_refl _⟩ hQ
abbrev r_X5_isReadOn_x3 : Room := { frames := 7, cells := 1, slots := 6, locals := 122 }
set_option maxHeartbeats 4000000 in
set_option maxRecDepth 100000 in
theorem m_X5_isReadOn_x3 (l : Launch) (G : ZG) (hst : l.stackTraces = false) (q : Nat → Nat) (σ : St) (κ : KC) {e_d : Int} (d : Nat) (he_d : e_d = (d : Int)) {e_i : Int} (i : Nat) (he_i : e_i = (i : Int)) (hI : okC σ) (h1 : i < σ.1 4) (h2 : d < σ.1 7) (h3 : σ.2.1 4 (30 * d + i) = 0) :
    MX l G yX5_isReadOn (wY yX5_isReadOn cX5_isReadOn 3 (some .boolean)) r_X5_isReadOn_x3 (wC G q σ κ) [.ref (q 0), .int (zI e_d), .int (zI e_i)] (S := Unit) "java/lang/IllegalStateException" (fun _ => wC G q σ κ) := by
  subst he_d
  subst he_i
  refine MX.mk (by decide +kernel) (Nat.le_of_ble_eq_true rfl) ?_
  intro p e s m av below meth c A H locs ls Q Z ht hQ hP hD hS hl
  have hx := Z.1
  have hb := Z.2.1
  have hown := Z.2.2.2.1
  have hW := Z.2.2.2.2.1
  have hl : lv_has ls 3 [(0, .ref (q 0)), (1, .int (zI ((d : Nat) : Int))), (2, .int (zI ((i : Nat) : Int)))] := hl
  obtain ⟨hn, hru, hrv, hdv, hsr, hmn, ht1, ht2, hwn, hv1, hv2, hmj, htm, hse, htg, hrt, hac, hk1, hk2, hkd, hmm, hmv, hord, hpo, hlo⟩ := id hI
  refine lv_aload_n hx hb dX5_isReadOn_0 rfl (lv_at hl 0 rfl) ?_
  refine lv_iload_n hx hb dX5_isReadOn_1 rfl (lv_at hl 1 rfl) ?_
  refine zdet_V ⟨rfl, rfl⟩ Z hD hS (zrunV (rest := []) Z hP hD hS hl.1 (m_X5_requireDevice l G q σ κ (d) rfl (by omega) (by omega)) zY_X5_requireDevice km_X5_253 (q0 := 0) rfl rfl rfl rfl ⟨⟨Nat.le_of_ble_eq_true rfl, Nat.le_of_ble_eq_true rfl⟩, Nat.le_of_ble_eq_true rfl, Nat.le_of_ble_eq_true rfl⟩ (Nat.le_of_ble_eq_true rfl) dX5_isReadOn_2) (fun H locs hP hD hS => ?_)
  refine lv_aload_n hx hb dX5_isReadOn_5 rfl (lv_at hl 0 rfl) ?_
  refine lv_iload_n hx hb dX5_isReadOn_6 rfl (lv_at hl 2 rfl) ?_
  refine zdet_V ⟨rfl, rfl⟩ Z hD hS (zrunV (rest := []) Z hP hD hS hl.1 (m_X5_requireItem l G q σ κ (i) rfl (by omega) (by omega)) zY_X5_requireItem km_X5_150 (q0 := 0) rfl rfl rfl rfl ⟨⟨Nat.le_of_ble_eq_true rfl, Nat.le_of_ble_eq_true rfl⟩, Nat.le_of_ble_eq_true rfl, Nat.le_of_ble_eq_true rfl⟩ (Nat.le_of_ble_eq_true rfl) dX5_isReadOn_7) (fun H locs hP hD hS => ?_)
  refine lv_aload_n hx hb dX5_isReadOn_10 rfl (lv_at hl 0 rfl) ?_
  refine lv_iload_n hx hb dX5_isReadOn_11 rfl (lv_at hl 1 rfl) ?_
  refine lv_iload_n hx hb dX5_isReadOn_12 rfl (lv_at hl 2 rfl) ?_
  exact zxout (fun u => ()) (fun _ => rfl) Z ht hD hS (zrunXV (rest := []) Z hP hD hS hl.1 (m_X5_requireKnown_x l G hst q σ κ (d) rfl (i) rfl (by omega) (by omega) h3) zY_X5_requireKnown km_X5_256 (q0 := 0) rfl rfl rfl rfl ⟨⟨Nat.le_of_ble_eq_true rfl, Nat.le_of_ble_eq_true rfl⟩, Nat.le_of_ble_eq_true rfl, Nat.le_of_ble_eq_true rfl⟩ (Nat.le_of_ble_eq_true rfl) dX5_isReadOn_13) ⟨Nat.le_refl _, Nat.le_refl _⟩ hQ
abbrev r_X5_knownVersions : Room := { frames := 2, cells := 0, slots := 0, locals := 41 }
set_option maxHeartbeats 4000000 in
set_option maxRecDepth 100000 in
theorem m_X5_knownVersions (l : Launch) (G : ZG) (q : Nat → Nat) (σ : St) (κ : KC) {e_d : Int} (d : Nat) (he_d : e_d = (d : Int)) {e_i : Int} (i : Nat) (he_i : e_i = (i : Int)) (hI : okC σ) (h1 : i < σ.1 4) (h2 : d < σ.1 7) :
    MC l G yX5_knownVersions (wY yX5_knownVersions cX5_knownVersions 3 (some .int)) r_X5_knownVersions (wC G q σ κ) [.ref (q 0), .int (zI e_d), .int (zI e_i)] (QI G (fun r9 (_ : Unit) => r9 = (zI (((σ.2.1 4) (30 * d + i) : Nat) : Int))) (fun _ => wC G q σ κ)) := by
  subst he_d
  subst he_i
  refine MC.mk (by decide +kernel) (Nat.le_of_ble_eq_true rfl) ?_
  intro p e s m av below meth c A H locs ls Q Z hr hnm hQ hP hD hS hl
  have hx := Z.1
  have hb := Z.2.1
  have hown := Z.2.2.2.1
  have hW := Z.2.2.2.2.1
  have hl : lv_has ls 3 [(0, .ref (q 0)), (1, .int (zI ((d : Nat) : Int))), (2, .int (zI ((i : Nat) : Int)))] := hl
  obtain ⟨hn, hru, hrv, hdv, hsr, hmn, ht1, ht2, hwn, hv1, hv2, hmj, htm, hse, htg, hrt, hac, hk1, hk2, hkd, hmm, hmv, hord, hpo, hlo⟩ := id hI
  refine lv_aload_n hx hb dX5_knownVersions_0 rfl (lv_at hl 0 rfl) ?_
  refine lv_iload_n hx hb dX5_knownVersions_1 rfl (lv_at hl 1 rfl) ?_
  refine zdet_V ⟨rfl, rfl⟩ Z hD hS (zrunV (rest := []) Z hP hD hS hl.1 (m_X5_requireDevice l G q σ κ (d) rfl (by omega) (by omega)) zY_X5_requireDevice km_X5_253 (q0 := 0) rfl rfl rfl rfl ⟨⟨Nat.le_of_ble_eq_true rfl, Nat.le_of_ble_eq_true rfl⟩, Nat.le_of_ble_eq_true rfl, Nat.le_of_ble_eq_true rfl⟩ (Nat.le_of_ble_eq_true rfl) dX5_knownVersions_2) (fun H locs hP hD hS => ?_)
  refine lv_aload_n hx hb dX5_knownVersions_5 rfl (lv_at hl 0 rfl) ?_
  refine lv_iload_n hx hb dX5_knownVersions_6 rfl (lv_at hl 2 rfl) ?_
  refine zdet_V ⟨rfl, rfl⟩ Z hD hS (zrunV (rest := []) Z hP hD hS hl.1 (m_X5_requireItem l G q σ κ (i) rfl (by omega) (by omega)) zY_X5_requireItem km_X5_150 (q0 := 0) rfl rfl rfl rfl ⟨⟨Nat.le_of_ble_eq_true rfl, Nat.le_of_ble_eq_true rfl⟩, Nat.le_of_ble_eq_true rfl, Nat.le_of_ble_eq_true rfl⟩ (Nat.le_of_ble_eq_true rfl) dX5_knownVersions_7) (fun H locs hP hD hS => ?_)
  refine lv_aload_n hx hb dX5_knownVersions_10 rfl (lv_at hl 0 rfl) ?_
  refine gC_0_7 Z hP kf_X5_46 dX5_knownVersions_11 ?_
  refine lv_iload_n hx hb dX5_knownVersions_14 rfl (lv_at hl 1 rfl) ?_
  refine lv_iload_n hx hb dX5_knownVersions_15 rfl (lv_at hl 2 rfl) ?_
  refine zdet_I ⟨rfl, rfl⟩ Z hD hS (zrunV (rest := []) Z hP hD hS hl.1 (m_X0_versionCount l G q σ κ (d) rfl (i) rfl (by omega) (by omega)) zY_X0_versionCount km_X5_276 (q0 := 4) rfl rfl rfl rfl ⟨⟨Nat.le_of_ble_eq_true rfl, Nat.le_of_ble_eq_true rfl⟩, Nat.le_of_ble_eq_true rfl, Nat.le_of_ble_eq_true rfl⟩ (Nat.le_of_ble_eq_true rfl) dX5_knownVersions_16) (fun H locs hP hD hS => ?_)
  exact zret_I () Z hr hP hD hS rfl rfl ⟨Nat.le_refl _, Nat.le_refl _⟩ hQ dX5_knownVersions_19
abbrev r_X5_knownVersions_x1 : Room := { frames := 7, cells := 1, slots := 6, locals := 121 }
set_option maxHeartbeats 4000000 in
set_option maxRecDepth 100000 in
theorem m_X5_knownVersions_x1 (l : Launch) (G : ZG) (hst : l.stackTraces = false) (q : Nat → Nat) (σ : St) (κ : KC) (d : Int) (i : Int) (hI : okC σ) (h1 : zR d) (h2 : d < 0 ∨ ((σ.1 7 : Nat) : Int) ≤ d) :
    MX l G yX5_knownVersions (wY yX5_knownVersions cX5_knownVersions 3 (some .int)) r_X5_knownVersions_x1 (wC G q σ κ) [.ref (q 0), .int (zI (d : Int)), .int (zI (i : Int))] (S := Unit) "java/lang/IndexOutOfBoundsException" (fun _ => wC G q σ κ) := by
  refine MX.mk (by decide +kernel) (Nat.le_of_ble_eq_true rfl) ?_
  intro p e s m av below meth c A H locs ls Q Z ht hQ hP hD hS hl
  have hx := Z.1
  have hb := Z.2.1
  have hown := Z.2.2.2.1
  have hW := Z.2.2.2.2.1
  have hl : lv_has ls 3 [(0, .ref (q 0)), (1, .int (zI (d : Int))), (2, .int (zI (i : Int)))] := hl
  obtain ⟨hn, hru, hrv, hdv, hsr, hmn, ht1, ht2, hwn, hv1, hv2, hmj, htm, hse, htg, hrt, hac, hk1, hk2, hkd, hmm, hmv, hord, hpo, hlo⟩ := id hI
  refine lv_aload_n hx hb dX5_knownVersions_0 rfl (lv_at hl 0 rfl) ?_
  refine lv_iload_n hx hb dX5_knownVersions_1 rfl (lv_at hl 1 rfl) ?_
  exact zxout (fun u => ()) (fun _ => rfl) Z ht hD hS (zrunXV (rest := []) Z hP hD hS hl.1 (m_X5_requireDevice_x l G hst q σ κ (d : Int) (by omega) (by omega) (by omega)) zY_X5_requireDevice km_X5_253 (q0 := 0) rfl rfl rfl rfl ⟨⟨Nat.le_of_ble_eq_true rfl, Nat.le_of_ble_eq_true rfl⟩, Nat.le_of_ble_eq_true rfl, Nat.le_of_ble_eq_true rfl⟩ (Nat.le_of_ble_eq_true rfl) dX5_knownVersions_2) ⟨Nat.le_refl _, Nat.le_refl _⟩ hQ
abbrev r_X5_knownVersions_x2 : Room := { frames := 7, cells := 1, slots := 6, locals := 121 }
set_option maxHeartbeats 4000000 in
set_option maxRecDepth 100000 in
theorem m_X5_knownVersions_x2 (l : Launch) (G : ZG) (hst : l.stackTraces = false) (q : Nat → Nat) (σ : St) (κ : KC) {e_d : Int} (d : Nat) (he_d : e_d = (d : Int)) (i : Int) (hI : okC σ) (h4 : d < σ.1 7) (h1 : zR i) (h2 : i < 0 ∨ ((σ.1 4 : Nat) : Int) ≤ i) :
    MX l G yX5_knownVersions (wY yX5_knownVersions cX5_knownVersions 3 (some .int)) r_X5_knownVersions_x2 (wC G q σ κ) [.ref (q 0), .int (zI e_d), .int (zI (i : Int))] (S := Unit) "java/lang/IndexOutOfBoundsException" (fun _ => wC G q σ κ) := by
  subst he_d
  refine MX.mk (by decide +kernel) (Nat.le_of_ble_eq_true rfl) ?_
  intro p e s m av below meth c A H locs ls Q Z ht hQ hP hD hS hl
  have hx := Z.1
  have hb := Z.2.1
  have hown := Z.2.2.2.1
  have hW := Z.2.2.2.2.1
  have hl : lv_has ls 3 [(0, .ref (q 0)), (1, .int (zI ((d : Nat) : Int))), (2, .int (zI (i : Int)))] := hl
  obtain ⟨hn, hru, hrv, hdv, hsr, hmn, ht1, ht2, hwn, hv1, hv2, hmj, htm, hse, htg, hrt, hac, hk1, hk2, hkd, hmm, hmv, hord, hpo, hlo⟩ := id hI
  refine lv_aload_n hx hb dX5_knownVersions_0 rfl (lv_at hl 0 rfl) ?_
  refine lv_iload_n hx hb dX5_knownVersions_1 rfl (lv_at hl 1 rfl) ?_
  refine zdet_V ⟨rfl, rfl⟩ Z hD hS (zrunV (rest := []) Z hP hD hS hl.1 (m_X5_requireDevice l G q σ κ (d) rfl (by omega) (by omega)) zY_X5_requireDevice km_X5_253 (q0 := 0) rfl rfl rfl rfl ⟨⟨Nat.le_of_ble_eq_true rfl, Nat.le_of_ble_eq_true rfl⟩, Nat.le_of_ble_eq_true rfl, Nat.le_of_ble_eq_true rfl⟩ (Nat.le_of_ble_eq_true rfl) dX5_knownVersions_2) (fun H locs hP hD hS => ?_)
  refine lv_aload_n hx hb dX5_knownVersions_5 rfl (lv_at hl 0 rfl) ?_
  refine lv_iload_n hx hb dX5_knownVersions_6 rfl (lv_at hl 2 rfl) ?_
  exact zxout (fun u => ()) (fun _ => rfl) Z ht hD hS (zrunXV (rest := []) Z hP hD hS hl.1 (m_X5_requireItem_x l G hst q σ κ (i : Int) h1 h2 (by omega)) zY_X5_requireItem km_X5_150 (q0 := 0) rfl rfl rfl rfl ⟨⟨Nat.le_of_ble_eq_true rfl, Nat.le_of_ble_eq_true rfl⟩, Nat.le_of_ble_eq_true rfl, Nat.le_of_ble_eq_true rfl⟩ (Nat.le_of_ble_eq_true rfl) dX5_knownVersions_7) ⟨Nat.le_refl _, Nat.le_refl _⟩ hQ
abbrev r_X5_meanVersions : Room := { frames := 1, cells := 0, slots := 0, locals := 21 }
set_option maxHeartbeats 4000000 in
set_option maxRecDepth 100000 in
theorem m_X5_meanVersions (l : Launch) (G : ZG) (q : Nat → Nat) (σ : St) (κ : KC)  (hI : okC σ) (h1 : 0 < σ.1 4) :
    MC l G yX5_meanVersions (wY yX5_meanVersions cX5_meanVersions 4 (some .double)) r_X5_meanVersions (wC G q σ κ) [.ref (q 0)] (QD G (fun r9 (_ : Unit) => r9 = (FP.ddiv (FP.i2d (zI ((sumV σ (σ.1 4) : Nat) : Int))) (FP.i2d (zI ((σ.1 4 : Nat) : Int))))) (fun _ => wC G q σ κ)) := by
  refine MC.mk (by decide +kernel) (Nat.le_of_ble_eq_true rfl) ?_
  intro p e s m av below meth c A H locs ls Q Z hr hnm hQ hP hD hS hl
  have hx := Z.1
  have hb := Z.2.1
  have hown := Z.2.2.2.1
  have hW := Z.2.2.2.2.1
  have hl : lv_has ls 4 [(0, .ref (q 0))] := hl
  obtain ⟨hn, hru, hrv, hdv, hsr, hmn, ht1, ht2, hwn, hv1, hv2, hmj, htm, hse, htg, hrt, hac, hk1, hk2, hkd, hmm, hmv, hord, hpo, hlo⟩ := id hI
  refine lv_aload_n hx hb dX5_meanVersions_0 rfl (lv_at hl 0 rfl) ?_
  refine gC_0_4 Z hP kf_X5_25 dX5_meanVersions_1 ?_
  refine zdet_I ⟨rfl, rfl⟩ Z hD hS (zrunV (rest := []) Z hP hD hS hl.1 (m_X1_size l G q σ κ) zY_X1_size km_X5_132 (q0 := 1) rfl rfl rfl rfl ⟨⟨Nat.le_of_ble_eq_true rfl, Nat.le_of_ble_eq_true rfl⟩, Nat.le_of_ble_eq_true rfl, Nat.le_of_ble_eq_true rfl⟩ (Nat.le_of_ble_eq_true rfl) dX5_meanVersions_4) (fun H locs hP hD hS => ?_)
  refine lv_istore_n (lv' := [(1, .int (zI ((σ.1 4 : Nat) : Int))), (0, .ref (q 0))]) hx hb dX5_meanVersions_7 rfl hl (by decide) rfl (fun ls hl => ?_)
  refine lv_iload_n hx hb dX5_meanVersions_8 rfl (lv_at hl 0 rfl) ?_
  refine zc0_ne (tgt := 23) hx hb ((σ.1 4 : Nat) : Int) (zI_toInt (by omega)) dX5_meanVersions_9 (by decide) (fun c9 => ?_) (fun c9 => by exfalso; omega)
  refine zr_iconst hx hb dX5_meanVersions_23 ?_
  refine lv_istore_n (lv' := [(2, .int (zI (0 : Int))), (1, .int (zI ((σ.1 4 : Nat) : Int))), (0, .ref (q 0))]) hx hb dX5_meanVersions_24 rfl hl (by decide) rfl (fun ls hl => ?_)
  refine zr_iconst hx hb dX5_meanVersions_25 ?_
  refine lv_istore_n (lv' := [(3, .int (zI (0 : Int))), (2, .int (zI (0 : Int))), (1, .int (zI ((σ.1 4 : Nat) : Int))), (0, .ref (q 0))]) hx hb dX5_meanVersions_26 rfl hl (by decide) rfl (fun ls hl => ?_)
  suffices LP27 : ∀ (f9 : Nat) (k : Nat), σ.1 4 < k + f9 → (k ≤ σ.1 4) → ∀ (H : Heap) (locs : List Loc) (ls : Array Slot), va_P G.1 vwCl (wC G q σ κ) H → va_D A (wC G q σ κ) → va_S A s.heap H locs → lv_has ls 4 [(3, .int (zI ((k : Nat) : Int))), (2, .int (zI ((sumV σ k : Nat) : Int))), (0, .ref (q 0)), (1, .int (zI ((σ.1 4 : Nat) : Int)))] → W p l e r_X5_meanVersions s m av below meth c H locs 0 0 Q (F0 m 27 ls []) from LP27 (σ.1 4 + 1) (0) (by omega) (by omega) _ _ _ hP hD hS (lv_sub hl [0, 1, 3, 2] rfl)
  intro f9
  induction f9 with
  | zero => intro k hf9 hk; exfalso; omega
  | succ f9 ih27 =>
    intro k hf9 hk H locs ls hP hD hS hl
    have hv9 := sumV_le σ hv2 k
    refine lv_iload_n hx hb dX5_meanVersions_27 rfl (lv_at hl 0 rfl) ?_
    refine lv_iload_n hx hb dX5_meanVersions_28 rfl (lv_at hl 3 rfl) ?_
    refine zc_ge (tgt := 49) hx hb ((k : Nat) : Int) ((σ.1 4 : Nat) : Int) (zI_toInt (by omega)) (zI_toInt (by omega)) dX5_meanVersions_29 (by decide) (fun c29 => ?_) (fun c29 => ?_)
    · skip
      refine lv_iload_n hx hb dX5_meanVersions_49 rfl (lv_at hl 1 rfl) ?_
      refine lv_i2d hx hb dX5_meanVersions_50 ?_
      refine lv_iload_n hx hb dX5_meanVersions_51 rfl (lv_at hl 3 rfl) ?_
      refine lv_i2d hx hb dX5_meanVersions_52 ?_
      refine lv_ddiv hx hb dX5_meanVersions_53 (ddiv_ok (by omega) (by omega) (by omega)) ?_
      exact zret_D () Z hr hP hD hS (by rw [show k = σ.1 4 from by omega]) rfl ⟨Nat.le_refl _, Nat.le_refl _⟩ hQ dX5_meanVersions_54
    · skip
      refine lv_iload_n hx hb dX5_meanVersions_32 rfl (lv_at hl 1 rfl) ?_
      refine lv_aload_n hx hb dX5_meanVersions_33 rfl (lv_at hl 2 rfl) ?_
      refine gC_0_4 Z hP kf_X5_25 dX5_meanVersions_34 ?_
      refine lv_iload_n hx hb dX5_meanVersions_37 rfl (lv_at hl 0 rfl) ?_
      refine zdet_I ⟨rfl, rfl⟩ Z hD hS (zrunV (rest := [.int (zI ((sumV σ k : Nat) : Int))]) Z hP hD hS hl.1 (m_X1_versionCount l G q σ κ (k) rfl (by omega)) zY_X1_versionCount km_X5_164 (q0 := 1) rfl rfl rfl rfl ⟨⟨Nat.le_of_ble_eq_true rfl, Nat.le_of_ble_eq_true rfl⟩, Nat.le_of_ble_eq_true rfl, Nat.le_of_ble_eq_true rfl⟩ (Nat.le_of_ble_eq_true rfl) dX5_meanVersions_38) (fun H locs hP hD hS => ?_)
      refine zr_iadd hx hb dX5_meanVersions_41 ?_
      refine lv_istore_n (lv' := [(2, .int (zI (((sumV σ k : Nat) : Int) + (((σ.2.1 2) k : Nat) : Int)))), (3, .int (zI ((k : Nat) : Int))), (0, .ref (q 0)), (1, .int (zI ((σ.1 4 : Nat) : Int)))]) hx hb dX5_meanVersions_42 rfl hl (by decide) rfl (fun ls hl => ?_)
      refine zr_iinc (lv' := [(3, .int (zI (((k : Nat) : Int) + (1 : Int)))), (2, .int (zI (((sumV σ k : Nat) : Int) + (((σ.2.1 2) k : Nat) : Int)))), (0, .ref (q 0)), (1, .int (zI ((σ.1 4 : Nat) : Int)))]) hx hb 1 dX5_meanVersions_43 hl rfl (by decide) rfl (fun ls hl => ?_)
      refine lv_goto (tgt := 27) hx hb dX5_meanVersions_46 (by decide) ?_
      exact ih27 (k + 1) (by omega) (by omega) _ _ _ hP hD hS (lv_sub hl [0, 1, 2, 3] rfl)
abbrev r_X5_meanVersions_x : Room := { frames := 6, cells := 1, slots := 6, locals := 100 }
set_option maxHeartbeats 4000000 in
set_option maxRecDepth 100000 in
theorem m_X5_meanVersions_x (l : Launch) (G : ZG) (hst : l.stackTraces = false) (q : Nat → Nat) (σ : St) (κ : KC)  (hI : okC σ) (h1 : σ.1 4 = 0) :
    MX l G yX5_meanVersions (wY yX5_meanVersions cX5_meanVersions 4 (some .double)) r_X5_meanVersions_x (wC G q σ κ) [.ref (q 0)] (S := Unit) "java/lang/ArithmeticException" (fun _ => wC G q σ κ) := by
  refine MX.mk (by decide +kernel) (Nat.le_of_ble_eq_true rfl) ?_
  intro p e s m av below meth c A H locs ls Q Z ht hQ hP hD hS hl
  have hx := Z.1
  have hb := Z.2.1
  have hown := Z.2.2.2.1
  have hW := Z.2.2.2.2.1
  have hl : lv_has ls 4 [(0, .ref (q 0))] := hl
  obtain ⟨hn, hru, hrv, hdv, hsr, hmn, ht1, ht2, hwn, hv1, hv2, hmj, htm, hse, htg, hrt, hac, hk1, hk2, hkd, hmm, hmv, hord, hpo, hlo⟩ := id hI
  refine lv_aload_n hx hb dX5_meanVersions_0 rfl (lv_at hl 0 rfl) ?_
  refine gC_0_4 Z hP kf_X5_25 dX5_meanVersions_1 ?_
  refine zdet_I ⟨rfl, rfl⟩ Z hD hS (zrunV (rest := []) Z hP hD hS hl.1 (m_X1_size l G q σ κ) zY_X1_size km_X5_132 (q0 := 1) rfl rfl rfl rfl ⟨⟨Nat.le_of_ble_eq_true rfl, Nat.le_of_ble_eq_true rfl⟩, Nat.le_of_ble_eq_true rfl, Nat.le_of_ble_eq_true rfl⟩ (Nat.le_of_ble_eq_true rfl) dX5_meanVersions_4) (fun H locs hP hD hS => ?_)
  refine lv_istore_n (lv' := [(1, .int (zI ((σ.1 4 : Nat) : Int))), (0, .ref (q 0))]) hx hb dX5_meanVersions_7 rfl hl (by decide) rfl (fun ls hl => ?_)
  refine lv_iload_n hx hb dX5_meanVersions_8 rfl (lv_at hl 0 rfl) ?_
  refine zc0_ne (tgt := 23) hx hb ((σ.1 4 : Nat) : Int) (zI_toInt (by omega)) dX5_meanVersions_9 (by decide) (fun c9 => by exfalso; omega) (fun c9 => ?_)
  exact thw_ARE (()) "there are no items" hst Z ht hP hD hS hl.1 rfl (by decide +kernel) ⟨Nat.le_of_ble_eq_true rfl, Nat.le_of_ble_eq_true rfl, Nat.le_of_ble_eq_true rfl, Nat.le_of_ble_eq_true rfl⟩ hQ dX5_meanVersions_12 dX5_meanVersions_15 dX5_meanVersions_16 dX5_meanVersions_19 dX5_meanVersions_22
abbrev r_X5_isSoundRiver : Room := { frames := 6, cells := 0, slots := 0, locals := 133 }
set_option maxHeartbeats 4000000 in
set_option maxRecDepth 100000 in
theorem m_X5_isSoundRiver (l : Launch) (G : ZG) (q : Nat → Nat) (σ : St) (κ : KC) {e_i : Int} (i : Nat) (he_i : e_i = (i : Int)) (hI : okC σ) (h1 : i < σ.1 6) (h2 : ∀ y9, y9 < σ.1 4 → κ.2.2 y9 = σ.2.1 10 y9) (h3 : ∀ y9 z9, y9 < z9 → z9 < σ.1 4 → σ.2.1 10 y9 ≠ σ.2.1 10 z9) :
    MC l G yX5_isSoundRiver (wY yX5_isSoundRiver cX5_isSoundRiver 7 (some .boolean)) r_X5_isSoundRiver (wC G q σ κ) [.ref (q 0), .int (zI e_i), .ref (q 15)] (QI G (fun r9 (_ : Unit) => r9 = (tB (true))) (fun _ => wC G q σ ((gth (shw σ i) (σ.2.1 10) (κ.1) (σ.1 4)).2, (gth (shw σ i) (κ.2.2) (κ.2.1) (σ.1 4)).2, κ.2.2))) := by
  subst he_i
  refine MC.mk (by decide +kernel) (Nat.le_of_ble_eq_true rfl) ?_
  intro p e s m av below meth c A H locs ls Q Z hr hnm hQ hP hD hS hl
  have hx := Z.1
  have hb := Z.2.1
  have hown := Z.2.2.2.1
  have hW := Z.2.2.2.2.1
  have hl : lv_has ls 7 [(0, .ref (q 0)), (1, .int (zI ((i : Nat) : Int))), (2, .ref (q 15))] := hl
  obtain ⟨hn, hru, hrv, hdv, hsr, hmn, ht1, ht2, hwn, hv1, hv2, hmj, htm, hse, htg, hrt, hac, hk1, hk2, hkd, hmm, hmv, hord, hpo, hlo⟩ := id hI
  have hg9 := gth_le (shw σ i) (σ.2.1 10) κ.1 (σ.1 4)
  have hg8 := gth_el (p := shw σ i) (o := σ.2.1 10) (r0 := κ.1) (B := σ.1 4) (σ.1 4) hord
  have he9 := gth_eq (p := shw σ i) (o := σ.2.1 10) (o2 := κ.2.2) (r0 := κ.1) (r1 := κ.2.1) (σ.1 4) (fun j hj => (h2 j hj).symm)
  obtain ⟨fs, hf1, hf2⟩ := gth_src (p := shw σ i) (o := σ.2.1 10) (r0 := κ.1) (σ.1 4)
  refine lv_aload_n hx hb dX5_isSoundRiver_0 rfl (lv_at hl 0 rfl) ?_
  refine lv_iload_n hx hb dX5_isSoundRiver_1 rfl (lv_at hl 1 rfl) ?_
  refine lv_aload_n hx hb dX5_isSoundRiver_2 rfl (lv_at hl 0 rfl) ?_
  refine gC_0_4 Z hP kf_X5_25 dX5_isSoundRiver_3 ?_
  refine zfin_R ⟨rfl, rfl⟩ Z hD hS (zrunV (rest := [.int (zI ((i : Nat) : Int)), .ref (q 0)]) Z hP hD hS hl.1 (m_X1_keptOrder l G q σ κ) zY_X1_keptOrder km_X5_216 (q0 := 1) rfl rfl rfl rfl ⟨⟨Nat.le_of_ble_eq_true rfl, Nat.le_of_ble_eq_true rfl⟩, Nat.le_of_ble_eq_true rfl, Nat.le_of_ble_eq_true rfl⟩ (Nat.le_of_ble_eq_true rfl) dX5_isSoundRiver_6) (fun u H locs hp hP hD hS => ?_)
  refine lv_aload_n hx hb dX5_isSoundRiver_9 rfl (lv_at hl 0 rfl) ?_
  refine gC_0_9 Z hP kf_X5_57 dX5_isSoundRiver_10 ?_
  refine zdet_I ⟨rfl, rfl⟩ Z hD hS (zrunV (rest := []) Z hP hD hS hl.1 (m_X5_gather_kk l G q σ κ (i) rfl hI (by omega)) zY_X5_gather km_X5_220 (q0 := 0) rfl rfl rfl rfl ⟨⟨Nat.le_of_ble_eq_true rfl, Nat.le_of_ble_eq_true rfl⟩, Nat.le_of_ble_eq_true rfl, Nat.le_of_ble_eq_true rfl⟩ (Nat.le_of_ble_eq_true rfl) dX5_isSoundRiver_13) (fun H locs hP hD hS => ?_)
  refine lv_istore_n (lv' := [(3, .int (zI (((gth (shw σ i) (σ.2.1 10) (κ.1) (σ.1 4)).1 : Nat) : Int))), (0, .ref (q 0)), (1, .int (zI ((i : Nat) : Int))), (2, .ref (q 15))]) hx hb dX5_isSoundRiver_16 rfl hl (by decide) rfl (fun ls hl => ?_)
  refine lv_iload_n hx hb dX5_isSoundRiver_17 rfl (lv_at hl 0 rfl) ?_
  refine lv_aload_n hx hb dX5_isSoundRiver_18 rfl (lv_at hl 1 rfl) ?_
  refine lv_iload_n hx hb dX5_isSoundRiver_19 rfl (lv_at hl 2 rfl) ?_
  refine lv_aload_n hx hb dX5_isSoundRiver_20 rfl (lv_at hl 3 rfl) ?_
  refine lv_aload_n hx hb dX5_isSoundRiver_21 rfl (lv_at hl 1 rfl) ?_
  refine gC_0_10 Z hP kf_X5_61 dX5_isSoundRiver_22 ?_
  refine zdet_I ⟨rfl, rfl⟩ Z hD hS (zrunV (rest := [.int (zI (((gth (shw σ i) (σ.2.1 10) (κ.1) (σ.1 4)).1 : Nat) : Int))]) Z hP hD hS hl.1 (m_X5_gather_aa l G q σ ((gth (shw σ i) (σ.2.1 10) (κ.1) (σ.1 4)).2, κ.2.1, κ.2.2) (i) rfl hI (by omega) (fun y9 hy => by
      show κ.2.2 y9 < σ.1 4
      rw [h2 y9 hy]; exact hord y9 hy)) zY_X5_gather km_X5_220 (q0 := 0) rfl rfl rfl rfl ⟨⟨Nat.le_of_ble_eq_true rfl, Nat.le_of_ble_eq_true rfl⟩, Nat.le_of_ble_eq_true rfl, Nat.le_of_ble_eq_true rfl⟩ (Nat.le_of_ble_eq_true rfl) dX5_isSoundRiver_25) (fun H locs hP hD hS => ?_)
  refine zr_top (w := .int (zI (((gth (shw σ i) (κ.2.2) (κ.2.1) (σ.1 4)).1 : Nat) : Int))) rfl ?_
  refine zc_eq (tgt := 33) hx hb (((gth (shw σ i) (σ.2.1 10) (κ.1) (σ.1 4)).1 : Nat) : Int) (((gth (shw σ i) (κ.2.2) (κ.2.1) (σ.1 4)).1 : Nat) : Int) (zI_toInt (by omega)) (zI_toInt (by omega)) dX5_isSoundRiver_28 (by decide) (fun c28 => ?_) (fun c28 => by exfalso; omega)
  refine zr_iconst hx hb dX5_isSoundRiver_33 ?_
  refine lv_istore (lv' := [(4, .int (zI (0 : Int))), (3, .int (zI (((gth (shw σ i) (σ.2.1 10) (κ.1) (σ.1 4)).1 : Nat) : Int))), (0, .ref (q 0)), (1, .int (zI ((i : Nat) : Int))), (2, .ref (q 15))]) hx hb dX5_isSoundRiver_34 hl (by decide) rfl (fun ls hl => ?_)
  refine zr_iconst hx hb dX5_isSoundRiver_36 ?_
  refine lv_istore (lv' := [(5, .int (zI (0 : Int))), (4, .int (zI (0 : Int))), (3, .int (zI (((gth (shw σ i) (σ.2.1 10) (κ.1) (σ.1 4)).1 : Nat) : Int))), (0, .ref (q 0)), (1, .int (zI ((i : Nat) : Int))), (2, .ref (q 15))]) hx hb dX5_isSoundRiver_37 hl (by decide) rfl (fun ls hl => ?_)
  suffices LP39 : ∀ (f9 : Nat) (k : Nat) (mt : Int32), (gth (shw σ i) (σ.2.1 10) (κ.1) (σ.1 4)).1 < k + f9 → (k ≤ (gth (shw σ i) (σ.2.1 10) (κ.1) (σ.1 4)).1) → (∀ u9, tb mt u9 = true → ∃ j, j < k ∧ (gth (shw σ i) (σ.2.1 10) (κ.1) (σ.1 4)).2 j = u9) → ∀ (H : Heap) (locs : List Loc) (ls : Array Slot), va_P G.1 vwCl (wC G q σ ((gth (shw σ i) (σ.2.1 10) (κ.1) (σ.1 4)).2, (gth (shw σ i) (κ.2.2) (κ.2.1) (σ.1 4)).2, κ.2.2)) H → va_D A (wC G q σ ((gth (shw σ i) (σ.2.1 10) (κ.1) (σ.1 4)).2, (gth (shw σ i) (κ.2.2) (κ.2.1) (σ.1 4)).2, κ.2.2)) → va_S A s.heap H locs → lv_has ls 7 [(5, .int (zI ((k : Nat) : Int))), (4, .int (mt)), (3, .int (zI (((gth (shw σ i) (σ.2.1 10) (κ.1) (σ.1 4)).1 : Nat) : Int))), (0, .ref (q 0))] → W p l e r_X5_isSoundRiver s m av below meth c H locs 0 0 Q (F0 m 39 ls []) from LP39 ((gth (shw σ i) (σ.2.1 10) (κ.1) (σ.1 4)).1 + 1) (0) (zI (0 : Int)) (by omega) (by omega) (fun u9 h => by rw [tb_0] at h; cases h) _ _ _ hP hD hS (lv_sub hl [0, 1, 2, 3] rfl)
  intro f9
  induction f9 with
  | zero => intro k mt hf9 hk hmt; exfalso; omega
  | succ f9 ih39 =>
    intro k mt hf9 hk hmt H locs ls hP hD hS hl
    refine lv_iload hx hb dX5_isSoundRiver_39 (lv_at hl 0 rfl) ?_
    refine lv_iload_n hx hb dX5_isSoundRiver_41 rfl (lv_at hl 2 rfl) ?_
    refine zc_ge (tgt := 96) hx hb ((k : Nat) : Int) (((gth (shw σ i) (σ.2.1 10) (κ.1) (σ.1 4)).1 : Nat) : Int) (zI_toInt (by omega)) (zI_toInt (by omega)) dX5_isSoundRiver_42 (by decide) (fun c42 => ?_) (fun c42 => ?_)
    · skip
      refine zr_iconst hx hb dX5_isSoundRiver_96 ?_
      exact zret_B () Z hr (by decide +kernel) hP hD hS (tB_1 rfl) rfl ⟨Nat.le_refl _, Nat.le_refl _⟩ hQ dX5_isSoundRiver_97
    · skip
      have hg7 := hg8 k (by omega)
      have he8 := he9.2 k (by omega)
      refine zr_iconst hx hb dX5_isSoundRiver_45 ?_
      refine lv_aload_n hx hb dX5_isSoundRiver_46 rfl (lv_at hl 3 rfl) ?_
      refine gC_0_9 Z hP kf_X5_57 dX5_isSoundRiver_47 ?_
      refine lv_iload hx hb dX5_isSoundRiver_50 (lv_at hl 0 rfl) ?_
      refine ldN Z hP 6 ((gth (shw σ i) (σ.2.1 10) (κ.1) (σ.1 4)).2) rfl (k) rfl (by omega) (by decide) dX5_isSoundRiver_52 ?_
      refine lv_ishl hx hb dX5_isSoundRiver_53 ?_
      refine lv_istore (lv' := [(6, .int (zI (1 : Int) <<< (zI ((((gth (shw σ i) (σ.2.1 10) (κ.1) (σ.1 4)).2) (k) : Nat) : Int) &&& 31))), (5, .int (zI ((k : Nat) : Int))), (4, .int (mt)), (3, .int (zI (((gth (shw σ i) (σ.2.1 10) (κ.1) (σ.1 4)).1 : Nat) : Int))), (0, .ref (q 0))]) hx hb dX5_isSoundRiver_54 hl (by decide) rfl (fun ls hl => ?_)
      refine lv_aload_n hx hb dX5_isSoundRiver_56 rfl (lv_at hl 4 rfl) ?_
      refine gC_0_9 Z hP kf_X5_57 dX5_isSoundRiver_57 ?_
      refine lv_iload hx hb dX5_isSoundRiver_60 (lv_at hl 1 rfl) ?_
      refine ldN Z hP 6 ((gth (shw σ i) (σ.2.1 10) (κ.1) (σ.1 4)).2) rfl (k) rfl (by omega) (by decide) dX5_isSoundRiver_62 ?_
      refine lv_aload_n hx hb dX5_isSoundRiver_63 rfl (lv_at hl 4 rfl) ?_
      refine gC_0_10 Z hP kf_X5_61 dX5_isSoundRiver_64 ?_
      refine lv_iload hx hb dX5_isSoundRiver_67 (lv_at hl 1 rfl) ?_
      refine ldN Z hP 7 ((gth (shw σ i) (κ.2.2) (κ.2.1) (σ.1 4)).2) rfl (k) rfl (by omega) (by decide) dX5_isSoundRiver_69 ?_
      refine zc_ne (tgt := 81) hx hb ((((gth (shw σ i) (σ.2.1 10) (κ.1) (σ.1 4)).2) (k) : Nat) : Int) ((((gth (shw σ i) (κ.2.2) (κ.2.1) (σ.1 4)).2) (k) : Nat) : Int) (zI_toInt (by omega)) (zI_toInt (by omega)) dX5_isSoundRiver_70 (by decide) (fun c70 => by exfalso; omega) (fun c70 => ?_)
      refine lv_iload hx hb dX5_isSoundRiver_73 (lv_at hl 2 rfl) ?_
      refine lv_iload hx hb dX5_isSoundRiver_75 (lv_at hl 0 rfl) ?_
      refine lv_iand hx hb dX5_isSoundRiver_77 ?_
      refine lv_if_eq (tgt := 83) hx hb dX5_isSoundRiver_78 (by decide) (fun c78 => ?_) (fun c78 => by
          exfalso
          apply c78
          refine (tb_and mt _ (by omega)).mpr ?_
          cases h9 : tb mt ((gth (shw σ i) (σ.2.1 10) (κ.1) (σ.1 4)).2 k) with
          | false => rfl
          | true =>
            obtain ⟨j, hj, hje⟩ := hmt _ h9
            have a1 := hf1 j (by omega)
            have a2 := hf1 k (by omega)
            have a3 := hf2 j k hj (by omega)
            rw [a1.2.1, a2.2.1] at hje
            exact absurd hje (h3 _ _ a3 a2.1))
      refine lv_iload hx hb dX5_isSoundRiver_83 (lv_at hl 2 rfl) ?_
      refine lv_iload hx hb dX5_isSoundRiver_85 (lv_at hl 0 rfl) ?_
      refine lv_ior hx hb dX5_isSoundRiver_87 ?_
      refine lv_istore (lv' := [(4, .int ((mt) ||| (zI (1 : Int) <<< (zI ((((gth (shw σ i) (σ.2.1 10) (κ.1) (σ.1 4)).2) (k) : Nat) : Int) &&& 31)))), (6, .int (zI (1 : Int) <<< (zI ((((gth (shw σ i) (σ.2.1 10) (κ.1) (σ.1 4)).2) (k) : Nat) : Int) &&& 31))), (5, .int (zI ((k : Nat) : Int))), (3, .int (zI (((gth (shw σ i) (σ.2.1 10) (κ.1) (σ.1 4)).1 : Nat) : Int))), (0, .ref (q 0))]) hx hb dX5_isSoundRiver_88 hl (by decide) rfl (fun ls hl => ?_)
      refine zr_iinc (lv' := [(5, .int (zI (((k : Nat) : Int) + (1 : Int)))), (4, .int ((mt) ||| (zI (1 : Int) <<< (zI ((((gth (shw σ i) (σ.2.1 10) (κ.1) (σ.1 4)).2) (k) : Nat) : Int) &&& 31)))), (6, .int (zI (1 : Int) <<< (zI ((((gth (shw σ i) (σ.2.1 10) (κ.1) (σ.1 4)).2) (k) : Nat) : Int) &&& 31))), (3, .int (zI (((gth (shw σ i) (σ.2.1 10) (κ.1) (σ.1 4)).1 : Nat) : Int))), (0, .ref (q 0))]) hx hb 2 dX5_isSoundRiver_90 hl rfl (by decide) rfl (fun ls hl => ?_)
      refine lv_goto (tgt := 39) hx hb dX5_isSoundRiver_93 (by decide) ?_
      exact ih39 (k + 1) (mt ||| (zI (1 : Int) <<< (zI ((((gth (shw σ i) (σ.2.1 10) (κ.1) (σ.1 4)).2) (k) : Nat) : Int) &&& 31))) (by omega) (by omega) (fun u9 h => by
          rw [tb_or mt _ u9 (by omega)] at h
          simp only [Bool.or_eq_true, decide_eq_true_eq] at h
          rcases h with h | h
          · obtain ⟨j, hj, hje⟩ := hmt u9 h
            exact ⟨j, by omega, hje⟩
          · exact ⟨k, by omega, h.symm⟩) _ _ _ hP hD hS (lv_sub hl [0, 1, 3, 4] rfl)
abbrev r_X5_isSound : Room := { frames := 7, cells := 0, slots := 0, locals := 159 }
set_option maxHeartbeats 4000000 in
set_option maxRecDepth 100000 in
theorem m_X5_isSound (l : Launch) (G : ZG) (q : Nat → Nat) (σ : St) (κ : KC)  (hI : okC σ) (h2 : ∀ y9, y9 < σ.1 4 → anw1 (isAh σ) (σ.1 4) κ.2.2 (σ.1 4) y9 = σ.2.1 10 y9) (h3 : ∀ y9 z9, y9 < z9 → z9 < σ.1 4 → σ.2.1 10 y9 ≠ σ.2.1 10 z9) :
    MC l G yX5_isSound (wY yX5_isSound cX5_isSound 3 (some .boolean)) r_X5_isSound (wC G q σ κ) [.ref (q 0)] (QI G (S := KC) (fun r9 (_ : KC) => r9 = tB true) (fun u => wC G q σ u)) := by
  refine MC.mk (by decide +kernel) (Nat.le_of_ble_eq_true rfl) ?_
  intro p e s m av below meth c A H locs ls Q Z hr hnm hQ hP hD hS hl
  have hx := Z.1
  have hb := Z.2.1
  have hown := Z.2.2.2.1
  have hW := Z.2.2.2.2.1
  have hl : lv_has ls 3 [(0, .ref (q 0))] := hl
  obtain ⟨hn, hru, hrv, hdv, hsr, hmn, ht1, ht2, hwn, hv1, hv2, hmj, htm, hse, htg, hrt, hac, hk1, hk2, hkd, hmm, hmv, hord, hpo, hlo⟩ := id hI
  refine lv_aload_n hx hb dX5_isSound_0 rfl (lv_at hl 0 rfl) ?_
  refine gC_0_4 Z hP kf_X5_25 dX5_isSound_1 ?_
  refine zfin_R ⟨rfl, rfl⟩ Z hD hS (zrunV (rest := []) Z hP hD hS hl.1 (m_X1_orderAnew l G q σ κ hI) zY_X1_orderAnew km_X5_228 (q0 := 1) rfl rfl rfl rfl ⟨⟨Nat.le_of_ble_eq_true rfl, Nat.le_of_ble_eq_true rfl⟩, Nat.le_of_ble_eq_true rfl, Nat.le_of_ble_eq_true rfl⟩ (Nat.le_of_ble_eq_true rfl) dX5_isSound_4) (fun u H locs hp hP hD hS => ?_)
  refine lv_astore_n (lv' := [(1, .ref (q 15)), (0, .ref (q 0))]) hx hb dX5_isSound_7 rfl hl (by decide) rfl (fun ls hl => ?_)
  refine zr_iconst hx hb dX5_isSound_8 ?_
  refine lv_istore_n (lv' := [(2, .int (zI (0 : Int))), (1, .ref (q 15)), (0, .ref (q 0))]) hx hb dX5_isSound_9 rfl hl (by decide) rfl (fun ls hl => ?_)
  suffices LP10 : ∀ (f9 : Nat) (k : Nat) (κ9 : KC), σ.1 6 < k + f9 → (k ≤ σ.1 6) → (∀ y9, y9 < σ.1 4 → κ9.2.2 y9 = σ.2.1 10 y9) → ∀ (H : Heap) (locs : List Loc) (ls : Array Slot), va_P G.1 vwCl (wC G q σ κ9) H → va_D A (wC G q σ κ9) → va_S A s.heap H locs → lv_has ls 3 [(2, .int (zI ((k : Nat) : Int))), (0, .ref (q 0)), (1, .ref (q 15))] → W p l e r_X5_isSound s m av below meth c H locs 0 0 Q (F0 m 10 ls []) from LP10 (σ.1 6 + 1) (0) ((κ.1, κ.2.1, anw1 (isAh σ) (σ.1 4) κ.2.2 (σ.1 4))) (by omega) (by omega) h2 _ _ _ hP hD hS (lv_sub hl [0, 2, 1] rfl)
  intro f9
  induction f9 with
  | zero => intro k κ9 hf9 hk ha; exfalso; omega
  | succ f9 ih10 =>
    intro k κ9 hf9 hk ha H locs ls hP hD hS hl
    refine lv_iload_n hx hb dX5_isSound_10 rfl (lv_at hl 0 rfl) ?_
    refine lv_aload_n hx hb dX5_isSound_11 rfl (lv_at hl 1 rfl) ?_
    refine gC_0_6 Z hP kf_X5_39 dX5_isSound_12 ?_
    refine zdet_I ⟨rfl, rfl⟩ Z hD hS (zrunV (rest := [.int (zI ((k : Nat) : Int))]) Z hP hD hS hl.1 (m_X3_size l G q σ κ9) zY_X3_size km_X5_280 (q0 := 3) rfl rfl rfl rfl ⟨⟨Nat.le_of_ble_eq_true rfl, Nat.le_of_ble_eq_true rfl⟩, Nat.le_of_ble_eq_true rfl, Nat.le_of_ble_eq_true rfl⟩ (Nat.le_of_ble_eq_true rfl) dX5_isSound_15) (fun H locs hP hD hS => ?_)
    refine zc_ge (tgt := 38) hx hb ((k : Nat) : Int) ((σ.1 6 : Nat) : Int) (zI_toInt (by omega)) (zI_toInt (by omega)) dX5_isSound_18 (by decide) (fun c18 => ?_) (fun c18 => ?_)
    · skip
      refine zr_iconst hx hb dX5_isSound_38 ?_
      exact zret_B κ9 Z hr (by decide +kernel) hP hD hS (tB_1 rfl) rfl ⟨Nat.le_refl _, Nat.le_refl _⟩ hQ dX5_isSound_39
    · skip
      refine lv_aload_n hx hb dX5_isSound_21 rfl (lv_at hl 1 rfl) ?_
      refine lv_iload_n hx hb dX5_isSound_22 rfl (lv_at hl 0 rfl) ?_
      refine lv_aload_n hx hb dX5_isSound_23 rfl (lv_at hl 2 rfl) ?_
      refine zdet_I ⟨rfl, rfl⟩ Z hD hS (zrunV (rest := []) Z hP hD hS hl.1 (m_X5_isSoundRiver l G q σ κ9 (k) rfl hI (by omega) ha h3) zY_X5_isSoundRiver km_X5_281 (q0 := 0) rfl rfl rfl rfl ⟨⟨Nat.le_of_ble_eq_true rfl, Nat.le_of_ble_eq_true rfl⟩, Nat.le_of_ble_eq_true rfl, Nat.le_of_ble_eq_true rfl⟩ (Nat.le_of_ble_eq_true rfl) dX5_isSound_24) (fun H locs hP hD hS => ?_)
      refine zb_ne (tgt := 32) hx hb dX5_isSound_27 (by decide) (fun c27 => ?_) (fun c27 => by cases c27)
      refine zr_iinc (lv' := [(2, .int (zI (((k : Nat) : Int) + (1 : Int)))), (0, .ref (q 0)), (1, .ref (q 15))]) hx hb 0 dX5_isSound_32 hl rfl (by decide) rfl (fun ls hl => ?_)
      refine lv_goto (tgt := 10) hx hb dX5_isSound_35 (by decide) ?_
      exact ih10 (k + 1) (((gth (shw σ k) (σ.2.1 10) (κ9.1) (σ.1 4)).2, (gth (shw σ k) (κ9.2.2) (κ9.2.1) (σ.1 4)).2, κ9.2.2)) (by omega) (by omega) ha _ _ _ hP hD hS (lv_sub hl [0, 1, 2] rfl)
