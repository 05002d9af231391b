/-! from the law's entry: the classes, what the start says beside the heap, both objects, the two cells for answers -/
section ZStart
theorem xt_str : ∀ q ∈ xStr, Cond.stringRef RX5 q.1 q.2 ∈ lw_tbl := by
  intro q hq
  have h : xStr.map (fun q => Cond.stringRef RX5 q.1 q.2) = ([361, 398, 412, 420, 428, 445, 486, 496, 527, 563, 577, 594, 646, 651, 697, 702, 741, 768, 791, 804, 909, 589, 663, 714, 832, 845, 726] : List Nat).filterMap (fun i => lw_tbl[i]?) := by decide +kernel
  have h1 : Cond.stringRef RX5 q.1 q.2 ∈ xStr.map (fun q => Cond.stringRef RX5 q.1 q.2) := List.mem_map.mpr ⟨q, hq, rfl⟩
  rw [h] at h1
  obtain ⟨i, -, hi⟩ := List.mem_filterMap.mp h1
  exact List.mem_of_getElem? hi
theorem xt_nest : ∀ q ∈ xNest, Cond.methodLinkNest q.1 q.2.1 q.2.2.1 q.2.2.2 ∈ lw_tbl := by
  intro q hq
  have h : xNest.map (fun q => Cond.methodLinkNest q.1 q.2.1 q.2.2.1 q.2.2.2) = ([76, 118, 143, 159, 175, 297, 307, 514] : List Nat).filterMap (fun i => lw_tbl[i]?) := by decide +kernel
  have h1 : Cond.methodLinkNest q.1 q.2.1 q.2.2.1 q.2.2.2 ∈ xNest.map (fun q => Cond.methodLinkNest q.1 q.2.1 q.2.2.1 q.2.2.2) := List.mem_map.mpr ⟨q, hq, rfl⟩
  rw [h] at h1
  obtain ⟨i, -, hi⟩ := List.mem_filterMap.mp h1
  exact List.mem_of_getElem? hi
theorem xt_cast : ∀ q ∈ xCast, Cond.castable q.1 q.2 ∈ lw_tbl := by
  intro q hq
  have h : xCast.map (fun q => Cond.castable q.1 q.2) = ([319, 391, 479, 784, 556] : List Nat).filterMap (fun i => lw_tbl[i]?) := by decide +kernel
  have h1 : Cond.castable q.1 q.2 ∈ xCast.map (fun q => Cond.castable q.1 q.2) := List.mem_map.mpr ⟨q, hq, rfl⟩
  rw [h] at h1
  obtain ⟨i, -, hi⟩ := List.mem_filterMap.mp h1
  exact List.mem_of_getElem? hi
theorem xt_decl : ∀ q ∈ xDecl, Cond.declares q ∈ lw_tbl := by
  intro q hq
  have h : xDecl.map (fun q => Cond.declares q) = ([321, 323, 325] : List Nat).filterMap (fun i => lw_tbl[i]?) := by decide +kernel
  have h1 : Cond.declares q ∈ xDecl.map (fun q => Cond.declares q) := List.mem_map.mpr ⟨q, hq, rfl⟩
  rw [h] at h1
  obtain ⟨i, -, hi⟩ := List.mem_filterMap.mp h1
  exact List.mem_of_getElem? hi
theorem ku_J0 : ∀ w ∈ u_ws RJ0 TJ0 2, w ∈ lw_tbl := by
  intro w hw
  have h : u_ws RJ0 TJ0 2 = ([469, 471] : List Nat).filterMap (fun i => lw_tbl[i]?) := by decide +kernel
  rw [h] at hw
  obtain ⟨i, -, hi⟩ := List.mem_filterMap.mp hw
  exact List.mem_of_getElem? hi
theorem ku_Jx : ∀ w ∈ u_ws RJx00060 TJx00060 6, w ∈ lw_tbl := by
  intro w hw
  have h : u_ws RJx00060 TJx00060 6 = ([457, 458, 459, 460, 461, 462] : List Nat).filterMap (fun i => lw_tbl[i]?) := by decide +kernel
  rw [h] at hw
  obtain ⟨i, -, hi⟩ := List.mem_filterMap.mp hw
  exact List.mem_of_getElem? hi
set_option maxHeartbeats 4000000 in
set_option maxRecDepth 100000 in
theorem lw_xE {s : State} {b : Nat} {cur : ClassId} (hts : ∀ w ∈ lw_tbl, w.before #[Value.ref b] s = true) (hgv : (Jvm.Cond.and given_1 narrow_1).before #[Value.ref b] s = true) (hcur : s.vm.findClass RX5 = some cur) : xE (lwA s) s s.heap := by
  have hs := flat_of_before _ hgv
  refine ⟨fun q hq => va_Nw.of rfl (hts _ (xt_nest q hq)), fun q hq => va_Nw.of rfl (hts _ (xt_cast q hq)), fun q hq => va_Nw.of rfl (hts _ (xt_decl q hq)), ?_, fun q hq => ?_, vx_Zqof (hts _ (List.mem_of_getElem? (i := 344) (by decide +kernel))) (hts _ (List.mem_of_getElem? (i := 54) (by decide +kernel))) (hs _ (by decide +kernel)) (fun a ha => Nat.not_le.mpr ha), vx_Zqof (hts _ (List.mem_of_getElem? (i := 346) (by decide +kernel))) (hts _ (List.mem_of_getElem? (i := 54) (by decide +kernel))) (hs _ (by decide +kernel)) (fun a ha => Nat.not_le.mpr ha)⟩
  · have n0 : va_Nc "java/lang/IllegalStateException" "java/lang/IllegalArgumentException" s := va_Nc.of (hs _ (by decide +kernel))
    have n1 : va_Nc "java/lang/IllegalArgumentException" "java/lang/IndexOutOfBoundsException" s := va_Nc.of (hs _ (by decide +kernel))
    have n2 : va_Nc "java/lang/IllegalStateException" "java/lang/IndexOutOfBoundsException" s := va_Nc.of (hs _ (by decide +kernel))
    have n3 : va_Nc "java/util/NoSuchElementException" "java/lang/IndexOutOfBoundsException" s := va_Nc.of (hs _ (by decide +kernel))
    have n4 : va_Nc "java/lang/ArithmeticException" "java/lang/IndexOutOfBoundsException" s := va_Nc.of (hs _ (by decide +kernel))
    intro q hq
    unfold xNot at hq
    rcases List.mem_cons.mp hq with hq | hq
    · subst hq; exact n0
    rcases List.mem_cons.mp hq with hq | hq
    · subst hq; exact n1
    rcases List.mem_cons.mp hq with hq | hq
    · subst hq; exact n2
    rcases List.mem_cons.mp hq with hq | hq
    · subst hq; exact n3
    rcases List.mem_cons.mp hq with hq | hq
    · subst hq; exact n4
    exact absurd hq List.not_mem_nil
  · obtain ⟨k, cf, i, a, hk, hcf, hcp, -, hr, hev⟩ := Cond.stringRef_spec hcur (hts _ (xt_str q hq))
    exact ⟨a, vk_R.of (A := #[Value.ref b]) (hts _ (xt_str q hq)) hev⟩
set_option maxHeartbeats 4000000 in
set_option maxRecDepth 100000 in
theorem lw_G {s : State} {b : Nat} (hts : ∀ w ∈ lw_tbl, w.before #[Value.ref b] s = true) : ∃ G : ZG, va_K G.1 vwCl (zTy G) s := by
  have hW : ∀ w ∈ wAll, w.before #[Value.ref b] s = true := fun w h => hts w (wA_tbl h)
  obtain ⟨c0, i0, k0⟩ := u_known (C := RJ0) (T := TJ0) (N := 2) (n := 4) hts ku_J0 (hts _ (List.mem_of_getElem? (i := 468) (by decide +kernel)))
  obtain ⟨c1, i1, k1⟩ := u_known (C := RJx00060) (T := TJx00060) (N := 6) (n := 6) hts ku_Jx (hts _ (List.mem_of_getElem? (i := 450) (by decide +kernel)))
  obtain ⟨c2, i2, k2⟩ := u_known (C := RX0) (T := TX0) (N := 3) (n := 3) hW ku_X0 (hW _ kn_X0)
  obtain ⟨c3, i3, k3⟩ := u_known (C := RX1) (T := TX1) (N := 11) (n := 11) hW ku_X1 (hW _ kn_X1)
  obtain ⟨c4, i4, k4⟩ := u_known (C := RX2) (T := TX2) (N := 3) (n := 3) hW ku_X2 (hW _ kn_X2)
  obtain ⟨c5, i5, k5⟩ := u_known (C := RX3) (T := TX3) (N := 3) (n := 3) hW ku_X3 (hW _ kn_X3)
  obtain ⟨c6, i6, k6⟩ := u_known (C := RX4) (T := TX4) (N := 6) (n := 6) hW ku_X4 (hW _ kn_X4)
  obtain ⟨c7, i7, k7⟩ := u_known (C := RX5) (T := TX5) (N := 11) (n := 11) hW ku_X5 (hW _ kn_X5)
  obtain ⟨c8, i8, k8⟩ := u_known (C := RX6) (T := TX6) (N := 37) (n := 37) hW ku_X6 (hW _ kn_X6)
  obtain ⟨cI, kI, oI, fI1, fI2, fI3⟩ := Cond.arrayClass_spec (type := .int) (hW _ ka_int)
  obtain ⟨cL, kL, oL, fL1, fL2, fL3⟩ := Cond.arrayClass_spec (type := .long) (hW _ ka_long)
  obtain ⟨cD, kD, oD, fD1, fD2, fD3⟩ := Cond.arrayClass_spec (type := .double) (hW _ ka_double)
  refine ⟨((fun k => match k with | 0 => c0 | 1 => c1 | 2 => c2 | 3 => c3 | 4 => c4 | 5 => c5 | 6 => c6 | 7 => c7 | _ => c8, fun k => match k with | 0 => i0 | 1 => i1 | 2 => i2 | 3 => i3 | 4 => i4 | 5 => i5 | 6 => i6 | 7 => i7 | _ => i8), cI, cL, cD), ⟨fun k q hq => ?_, fun k q hq => ?_⟩⟩
  · match k, hq with
    | 0, hq => cases hq; exact k0
    | 1, hq => cases hq; exact k1
    | 2, hq => cases hq; exact k2
    | 3, hq => cases hq; exact k3
    | 4, hq => cases hq; exact k4
    | 5, hq => cases hq; exact k5
    | 6, hq => cases hq; exact k6
    | 7, hq => cases hq; exact k7
    | 8, hq => cases hq; exact k8
    | k + 9, hq => simp [vwCl] at hq
  · match k, hq with
    | 0, hq => cases hq; exact ⟨fun n z => ⟨fun k h => (by cases h), kI, fI2, oI, fI3⟩, fI1⟩
    | 1, hq => cases hq; exact ⟨fun n z => ⟨fun k h => (by cases h), kL, fL2, oL, fL3⟩, fL1⟩
    | 2, hq => cases hq; exact ⟨fun n z => ⟨fun k h => (by cases h), kD, fD2, oD, fD3⟩, fD1⟩
    | k + 3, hq => simp [zTy] at hq
set_option maxHeartbeats 8000000 in
set_option maxRecDepth 100000 in
theorem whole_start {p : Program} {e : Env} {s : State} {m : MethodId} {below : List Frame} {meth : Method} {c : Code} (l : Launch) (hflags : l.flags = flags0) {b L : Nat} {xs : Nat → Int32} (hL : L ≤ 4096) (C0 : lw_At p s m meth c b L xs) : W p l e room_1 s m #[Value.ref b] below meth c s.heap [] 0 0 (lw_Z below #[Value.ref b] s) (entryFrame m ([Value.ref b] : List Value).toArray 9) := by
  obtain ⟨hx, hb, hr, hml, hown, hts, hX, hbl, hlocks, hgv⟩ := id C0
  have hst : l.stackTraces = false := by unfold Launch.stackTraces; rw [hflags]; decide
  have hW : ∀ w ∈ wAll, w.before #[Value.ref b] s = true := fun w h => hts w (wA_tbl h)
  have hA : ∀ q, s.heap.size ≤ q → lwA s q := fun _ h => h
  obtain ⟨G, hK⟩ := lw_G hts
  have hE := lw_xE hts hgv (hK.1 7 _ rfl).2.1
  have Z : ZCtx p s m #[Value.ref b] meth c G cL_law 9 RL (lwA s) := ⟨hx, hb, hml, hown, hW, hA, hK, hE, hlocks⟩
  have C : LC p l s m meth c G b L xs := ⟨Z, hst, hX, hbl, hL⟩
  have hP : va_P G.1 vwCl [] s.heap := fun k q h => by simp at h
  have hD : va_D (lwA s) [] := ⟨fun i j p q h => by simp at h, fun k q h => by simp at h⟩
  have hS : va_S (lwA s) s.heap s.heap [] := va_S.rf
  have hl := lv_entry ([.ref b]) (n := 9) (Nat.le_of_ble_eq_true rfl)
  rw [lg_entry_eq]
  generalize (lg_sl ([.ref b]) ++ List.replicate (9 - (lg_sl ([.ref b])).length) Slot.unset).toArray = ls at hl ⊢
  have hl : lv_has ls 9 [(0, .ref b)] := hl
  refine va_new (D := G.1) (ci := 7) (fs := [.int (zI (0 : Int)), .int (zI (0 : Int)), .int (zI (0 : Int)), .int (zI (0 : Int)), .null, .null, .null, .null, .null, .null, .null]) (C := RX5) (T := TX5) (N := 11) hx hb hW ku_X5 tyX5 tyX5_ok hown (hW _ kc_L_8) (hW _ kn_X5) (hW _ ki_X5) hK hP hD hS hA rfl (fun j hj => by rcases (show j = 0 ∨ j = 1 ∨ j = 2 ∨ j = 3 ∨ j = 4 ∨ j = 5 ∨ j = 6 ∨ j = 7 ∨ j = 8 ∨ j = 9 ∨ j = 10 by omega) with rfl | rfl | rfl | rfl | rfl | rfl | rfl | rfl | rfl | rfl | rfl <;> rfl) (Nat.le_of_ble_eq_true rfl) (Nat.le_of_ble_eq_true rfl) dL_law_0 (fun qx H hP hD hS => ?_)
  have hP : va_P G.1 vwCl [(qx, .inr (7, [.int (zI (0 : Int)), .int (zI (0 : Int)), .int (zI (0 : Int)), .int (zI (0 : Int)), .null, .null, .null, .null, .null, .null, .null]))] H := hP
  have hD : va_D (lwA s) [(qx, .inr (7, [.int (zI (0 : Int)), .int (zI (0 : Int)), .int (zI (0 : Int)), .int (zI (0 : Int)), .null, .null, .null, .null, .null, .null, .null]))] := hD
  refine lv_dup hx hb dL_law_3 rfl ?_
  refine zfa_V Z hD hS (zrunI (rest := [.ref qx]) Z hP hD hS hl.1 (m_X5_init l G qx) zY_X5_init km_L_133 rfl rfl ⟨⟨Nat.le_of_ble_eq_true rfl, Nat.le_of_ble_eq_true rfl⟩, Nat.le_of_ble_eq_true rfl, Nat.le_of_ble_eq_true rfl⟩ (Nat.le_of_ble_eq_true rfl) dL_law_4) (fun u1 H locs hu hP1 hD1 hS => ?_)
  subst hu
  have hP := hP1
  have hD := hD1
  refine lv_astore_n (lv' := [(1, .ref (u1 0)), (0, .ref b)]) hx hb dL_law_7 rfl hl (by decide) rfl (fun ls hl => ?_)
  refine va_new (D := G.1) (ci := 8) (fs := [.null, .null, .null, .null, .null, .null, .null, .null, .null, .null, .null, .null, .null, .null, .null, .null, .null, .null, .null, .null, .null, .null, .null, .int (zI (0 : Int)), .int (zI (0 : Int)), .int (zI (0 : Int)), .int (zI (0 : Int)), .int (zI (0 : Int)), .int (zI (0 : Int)), .int (zI (0 : Int)), .int (zI (0 : Int)), .int (zI (0 : Int)), .int (zI (0 : Int)), .int (zI (0 : Int)), .int (zI (0 : Int)), .int (zI (0 : Int)), .int (zI (0 : Int))]) (C := RX6) (T := TX6) (N := 37) hx hb hW ku_X6 tyX6 tyX6_ok hown (hW _ kc_L_134) (hW _ kn_X6) (hW _ ki_X6) hK hP hD hS hA rfl (fun j hj => by rcases (show j = 0 ∨ j = 1 ∨ j = 2 ∨ j = 3 ∨ j = 4 ∨ j = 5 ∨ j = 6 ∨ j = 7 ∨ j = 8 ∨ j = 9 ∨ j = 10 ∨ j = 11 ∨ j = 12 ∨ j = 13 ∨ j = 14 ∨ j = 15 ∨ j = 16 ∨ j = 17 ∨ j = 18 ∨ j = 19 ∨ j = 20 ∨ j = 21 ∨ j = 22 ∨ j = 23 ∨ j = 24 ∨ j = 25 ∨ j = 26 ∨ j = 27 ∨ j = 28 ∨ j = 29 ∨ j = 30 ∨ j = 31 ∨ j = 32 ∨ j = 33 ∨ j = 34 ∨ j = 35 ∨ j = 36 by omega) with rfl | rfl | rfl | rfl | rfl | rfl | rfl | rfl | rfl | rfl | rfl | rfl | rfl | rfl | rfl | rfl | rfl | rfl | rfl | rfl | rfl | rfl | rfl | rfl | rfl | rfl | rfl | rfl | rfl | rfl | rfl | rfl | rfl | rfl | rfl | rfl | rfl <;> rfl) (Nat.le_of_ble_eq_true rfl) (Nat.le_of_ble_eq_true rfl) dL_law_8 (fun qm H hP hD hS => ?_)
  refine lv_dup hx hb dL_law_11 rfl ?_
  refine zfc_V Z (zP_l hP) (zD_sep hD).symm (zD_r hD) hS (zrunI (rest := [.ref qm]) Z (zP_r hP) (zD_r hD) hS hl.1 (m_X6_init l G qm) zY_X6_init km_L_136 rfl rfl ⟨⟨Nat.le_of_ble_eq_true rfl, Nat.le_of_ble_eq_true rfl⟩, Nat.le_of_ble_eq_true rfl, Nat.le_of_ble_eq_true rfl⟩ (Nat.le_of_ble_eq_true rfl) dL_law_12) (fun u2 H locs hu hP1 hD1 hP2 hs hS => ?_)
  subst hu
  have hP := hP2.app hP1
  have hD := va_D.app (zD_l hD) hD1 hs.symm
  refine lv_astore_n (lv' := [(2, .ref (u2 0)), (1, .ref (u1 0)), (0, .ref b)]) hx hb dL_law_15 rfl hl (by decide) rfl (fun ls hl => ?_)
  refine zr_iconst hx hb dL_law_16 ?_
  refine zr_newL (N := 1) Z hP hD hS ka_long rfl (by decide) (Nat.le_of_ble_eq_true rfl) (Nat.le_of_ble_eq_true rfl) dL_law_17 (fun oa H hP hD hS => ?_)
  refine lv_astore_n (lv' := [(3, .ref oa), (2, .ref (u2 0)), (1, .ref (u1 0)), (0, .ref b)]) hx hb dL_law_19 rfl hl (by decide) rfl (fun ls hl => ?_)
  refine zr_iconst hx hb dL_law_20 ?_
  refine zr_newD (N := 1) Z hP hD hS ka_double rfl (by decide) (Nat.le_of_ble_eq_true rfl) (Nat.le_of_ble_eq_true rfl) dL_law_21 (fun od H hP hD hS => ?_)
  refine lv_astore (lv' := [(4, .ref od), (3, .ref oa), (2, .ref (u2 0)), (1, .ref (u1 0)), (0, .ref b)]) hx hb dL_law_23 hl (by decide) rfl (fun ls hl => ?_)
  refine zr_iconst hx hb dL_law_25 ?_
  refine lv_istore (lv' := [(5, .int (zI (0 : Int))), (4, .ref od), (3, .ref oa), (2, .ref (u2 0)), (1, .ref (u1 0)), (0, .ref b)]) hx hb dL_law_26 hl (by decide) rfl (fun ls hl => ?_)
  refine W.widen (k := 1000 + 0) (n := 50000 + 6 * 0) (Nat.le_of_ble_eq_true rfl) (Nat.le_of_ble_eq_true rfl) ?_
  have hsx := zD_sep hD
  have hsy := zD_sep (zD_l hD)
  have hsz := zD_sep (zD_l (zD_l hD))
  exact lw_loop C hr (Nat.le_refl _) (by decide) (L + 1) 0 (by omega) (Nat.zero_le _) s0 s0 k0C (fun _ => 0) k0M (fun _ => 0) H _ ls s0_Inv ⟨⟨zP_l (zP_l (zP_l hP)), zP_r (zP_l hP), zP_r (zP_l (zP_l hP)), zP_r hP⟩, ⟨zD_l (zD_l (zD_l hD)), zD_r (zD_l hD), zD_r (zD_l (zD_l hD)), zD_r hD⟩, zSep_l1 hsy, hsz, zSep_l1 (zSep_l1 hsx), (zSep_l2 hsy).symm, zSep_l2 hsx, zSep_l2 (zSep_l1 hsx)⟩ hS (lv_sub hl [0, 5, 4, 3, 2, 1] rfl)
end ZStart
