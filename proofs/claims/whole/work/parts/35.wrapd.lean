section ZDbl
variable {p : Program} {l : Launch} {e : Env} {R : Room} {s : State} {m : MethodId} {args : Array Value} {below : List Frame} {meth : Method} {c : Code} {H : Heap} {locs : List Loc} {cells slots : Nat} {Q : State → Prop}
variable {cc : ByteArray} {pc nL : Nat} {ls : Array Slot} {rest : List Value} {G : ZG} {own : String} {A : Nat → Prop} {ws : va_W}
abbrev aD (G : ZG) (a n : Nat) (f : Nat → UInt64) : Nat × va_E := (a, .inl (G.2.2.2, n, .inr (.inr (.inr (.inl f)))))
theorem stD {a N : Nat} {e9 : Int} {ws1 : va_W} (Z : ZCtx p s m args meth c G cc nL own A) (hP : va_P G.1 vwCl ws H) (hD : va_D A ws) (hS : va_S A s.heap H locs) (q0 : Nat) (f : Nat → UInt64) (ha : ws[q0]? = some (aD G a N f)) (k : Nat) (he : e9 = (k : Int)) (hk : k < N) (hN : N ≤ 100000) {v : UInt64} (hw : ws.set q0 (aD G a N (vf_upd f k v)) = ws1) (hdg : decode cc pc = .ok (.dastore, 1))
    (kk : ∀ (H1 : Heap) (locs1 : List Loc), va_P G.1 vwCl ws1 H1 → va_D A ws1 → va_S A s.heap H1 locs1 → W p l e R s m args below meth c H1 locs1 cells slots Q (F0 m (pc + 1) ls rest)) : W p l e R s m args below meth c H locs cells slots Q (F0 m pc ls (.double v :: .int (zI e9) :: .ref a :: rest)) := by
  subst he
  refine va_dast Z.1 Z.2.1 Z.2.2.2.2.2.2.1 hP hD hS q0 2 ha rfl (zI_in rfl hk hN) hdg (fun H1 locs1 h1 h2 h3 => ?_)
  have h9 : (zI (k : Int)).toNatClampNeg = k := by rw [zI_clamp ⟨by omega, by omega⟩]; exact Int.toNat_natCast k
  rw [h9] at h1 h2
  subst hw
  exact kk H1 locs1 h1 h2 h3
end ZDbl
abbrev r_L_meanVersions : Room := { frames := 2, cells := 0, slots := 0, locals := 44 }
set_option maxHeartbeats 4000000 in
set_option maxRecDepth 100000 in
theorem m_L_meanVersions (l : Launch) (G : ZG) (q : Nat → Nat) (σ : St) (κ : KC) (oa : Nat) (f : Nat → UInt64)  (hI : okC σ) (h1 : 0 < σ.1 4) :
  MC l G yL_meanVersions (wYW yL_meanVersions cL_meanVersions 3 (some .int) [(0, 7, 10, 104)]) r_L_meanVersions (wC G q σ κ ++ [aD G oa 1 f]) [.ref (q 0), .ref (oa)] (QI G (fun r9 (_ : Unit) => r9 = zI (0 : Int)) (fun _ => wC G q σ κ ++ [aD G oa 1 (vf_upd f 0 (FP.ddiv (FP.i2d (zI ((sumV σ (σ.1 4) : Nat) : Int))) (FP.i2d (zI ((σ.1 4 : Nat) : Int)))))])) := by
  refine MC.mkW (by decide +kernel) (Nat.le_of_ble_eq_true rfl) ?_
  intro p e s m av below meth c A H locs ls Q Z ht hr hnm hQ hP hD hS hl
  have hx := Z.1
  have hb := Z.2.1
  have hl : lv_has ls 3 [(0, .ref (q 0)), (1, .ref (oa))] := hl
  refine lv_aload_n hx hb dL_meanVersions_0 rfl (lv_at hl 1 rfl) ?_
  refine zr_iconst hx hb dL_meanVersions_1 ?_
  refine lv_aload_n hx hb dL_meanVersions_2 rfl (lv_at hl 0 rfl) ?_
  refine zfr_D ⟨rfl, rfl⟩ Z (zP_r hP) (zD_sep hD) (zD_l hD) hS (zrunV (rest := [.int (zI (0 : Int)), .ref oa]) Z (zP_l hP) (zD_l hD) hS hl.1 (m_X5_meanVersions l G q σ κ  hI h1) zY_X5_meanVersions km_L_129 (q0 := 0) rfl rfl rfl rfl ⟨⟨Nat.le_of_ble_eq_true rfl, Nat.le_of_ble_eq_true rfl⟩, Nat.le_of_ble_eq_true rfl, Nat.le_of_ble_eq_true rfl⟩ (Nat.le_of_ble_eq_true rfl) dL_meanVersions_3) (fun r u H locs hp hP1 hD1 hP2 hs hS => ?_)
  obtain rfl : r = (FP.ddiv (FP.i2d (zI ((sumV σ (σ.1 4) : Nat) : Int))) (FP.i2d (zI ((σ.1 4 : Nat) : Int)))) := hp
  have hPn := hP1.app hP2
  have hDn := va_D.app hD1 (zD_r hD) hs
  refine stD (ws1 := wC G q σ κ ++ [aD G oa 1 (vf_upd f 0 (FP.ddiv (FP.i2d (zI ((sumV σ (σ.1 4) : Nat) : Int))) (FP.i2d (zI ((σ.1 4 : Nat) : Int)))))]) Z hPn hDn hS 30 f rfl 0 rfl (by decide) (by decide) rfl dL_meanVersions_6 (fun H locs hP hD hS => ?_)
  refine lv_goto (tgt := 13) hx hb dL_meanVersions_7 (by decide) ?_
  refine zr_iconst hx hb dL_meanVersions_13 ?_
  exact zret_I () Z hr hP hD hS rfl rfl ⟨Nat.le_of_ble_eq_true rfl, Nat.le_of_ble_eq_true rfl⟩ hQ dL_meanVersions_14
abbrev r_L_meanVersions_x : Room := { frames := 7, cells := 1, slots := 6, locals := 123 }
set_option maxHeartbeats 4000000 in
set_option maxRecDepth 100000 in
theorem m_L_meanVersions_x (l : Launch) (G : ZG) (hst : l.stackTraces = false) (q : Nat → Nat) (σ : St) (κ : KC) (oa : Nat) (f : Nat → UInt64)  (hI : okC σ) (h1 : σ.1 4 = 0) :
  MC l G yL_meanVersions (wYW yL_meanVersions cL_meanVersions 3 (some .int) [(0, 7, 10, 104)]) r_L_meanVersions_x (wC G q σ κ ++ [aD G oa 1 f]) [.ref (q 0), .ref (oa)] (QI G (fun r9 (_ : Unit) => r9 = zI (1 : Int)) (fun _ => wC G q σ κ ++ [aD G oa 1 f])) := by
  refine MC.mkW (by decide +kernel) (Nat.le_of_ble_eq_true rfl) ?_
  intro p e s m av below meth c A H locs ls Q Z ht hr hnm hQ hP hD hS hl
  have hx := Z.1
  have hb := Z.2.1
  have hl : lv_has ls 3 [(0, .ref (q 0)), (1, .ref (oa))] := hl
  refine lv_aload_n hx hb dL_meanVersions_0 rfl (lv_at hl 1 rfl) ?_
  refine zr_iconst hx hb dL_meanVersions_1 ?_
  refine lv_aload_n hx hb dL_meanVersions_2 rfl (lv_at hl 0 rfl) ?_
  refine zcatch Z (zP_r hP) (zD_sep hD) (zD_l hD) hS (zrunXV (rest := [.int (zI (0 : Int)), .ref oa]) Z (zP_l hP) (zD_l hD) hS hl.1 (m_X5_meanVersions_x l G hst q σ κ  hI h1) zY_X5_meanVersions km_L_129 (q0 := 0) rfl rfl rfl rfl ⟨⟨Nat.le_of_ble_eq_true rfl, Nat.le_of_ble_eq_true rfl⟩, Nat.le_of_ble_eq_true rfl, Nat.le_of_ble_eq_true rfl⟩ (Nat.le_of_ble_eq_true rfl) dL_meanVersions_3) [] ⟨0, 7, 10, 104⟩ [] ht (fun z hz => by cases hz) (by decide) (by decide) kc_L_104 (by decide +kernel) (fun u q9 H locs hP1 hD1 hP2 hs hS => ?_)
  have hP := hP1.app hP2
  have hD := va_D.app hD1 (zD_r hD) hs
  refine lv_astore_n (lv' := [(2, .ref (q9)), (0, .ref (q 0)), (1, .ref (oa))]) hx hb dL_meanVersions_10 rfl hl (by decide) rfl (fun ls hl => ?_)
  refine zr_iconst hx hb dL_meanVersions_11 ?_
  exact zret_I () Z hr hP hD hS rfl rfl ⟨Nat.le_of_ble_eq_true rfl, Nat.le_of_ble_eq_true rfl⟩ hQ dL_meanVersions_12
abbrev r_L_readShare : Room := { frames := 7, cells := 0, slots := 0, locals := 155 }
set_option maxHeartbeats 4000000 in
set_option maxRecDepth 100000 in
theorem m_L_readShare (l : Launch) (G : ZG) (q : Nat → Nat) (σ : St) (κ : KC) (oa : Nat) (f : Nat → UInt64) {e_i : Int} (i : Nat) (he_i : e_i = (i : Int)) (hI : okC σ) (h1 : i < σ.1 6) (h2 : 0 < (gth (shw σ i) (σ.2.1 10) (κ.1) (σ.1 4)).1) :
  MC l G yL_readShare (wYW yL_readShare cL_readShare 4 (some .int) [(0, 9, 12, 35), (0, 9, 15, 104)]) r_L_readShare (wC G q σ κ ++ [aD G oa 1 f]) [.ref (q 0), .int (zI e_i), .ref (oa)] (QI G (fun r9 (_ : Unit) => r9 = zI (0 : Int)) (fun _ => wC G q σ ((gth (shw σ i) (σ.2.1 10) (κ.1) (σ.1 4)).2, κ.2.1, κ.2.2) ++ [aD G oa 1 (vf_upd f 0 (FP.f2d (FP.fdiv (FP.i2f (zI ((((gth (shw σ i) (σ.2.1 10) (κ.1) (σ.1 4)).1 - cnt (fun y9 => !rdR σ ((gth (shw σ i) (σ.2.1 10) (κ.1) (σ.1 4)).2 y9)) (gth (shw σ i) (σ.2.1 10) (κ.1) (σ.1 4)).1 : Nat)) : Int))) (FP.i2f (zI (((gth (shw σ i) (σ.2.1 10) (κ.1) (σ.1 4)).1 : Nat) : Int))))))])) := by
  subst he_i
  refine MC.mkW (by decide +kernel) (Nat.le_of_ble_eq_true rfl) ?_
  intro p e s m av below meth c A H locs ls Q Z ht hr hnm hQ hP hD hS hl
  have hx := Z.1
  have hb := Z.2.1
  have hl : lv_has ls 4 [(0, .ref (q 0)), (1, .int (zI ((i : Nat) : Int))), (2, .ref (oa))] := hl
  refine lv_aload_n hx hb dL_readShare_0 rfl (lv_at hl 2 rfl) ?_
  refine zr_iconst hx hb dL_readShare_1 ?_
  refine lv_aload_n hx hb dL_readShare_2 rfl (lv_at hl 0 rfl) ?_
  refine lv_iload_n hx hb dL_readShare_3 rfl (lv_at hl 1 rfl) ?_
  refine zfr_F ⟨rfl, rfl⟩ Z (zP_r hP) (zD_sep hD) (zD_l hD) hS (zrunV (rest := [.int (zI (0 : Int)), .ref oa]) Z (zP_l hP) (zD_l hD) hS hl.1 (m_X5_readShare l G q σ κ i rfl hI h1 h2) zY_X5_readShare km_L_100 (q0 := 0) rfl rfl rfl rfl ⟨⟨Nat.le_of_ble_eq_true rfl, Nat.le_of_ble_eq_true rfl⟩, Nat.le_of_ble_eq_true rfl, Nat.le_of_ble_eq_true rfl⟩ (Nat.le_of_ble_eq_true rfl) dL_readShare_4) (fun r u H locs hp hP1 hD1 hP2 hs hS => ?_)
  obtain rfl : r = (FP.fdiv (FP.i2f (zI ((((gth (shw σ i) (σ.2.1 10) (κ.1) (σ.1 4)).1 - cnt (fun y9 => !rdR σ ((gth (shw σ i) (σ.2.1 10) (κ.1) (σ.1 4)).2 y9)) (gth (shw σ i) (σ.2.1 10) (κ.1) (σ.1 4)).1 : Nat)) : Int))) (FP.i2f (zI (((gth (shw σ i) (σ.2.1 10) (κ.1) (σ.1 4)).1 : Nat) : Int)))) := hp
  have hPn := hP1.app hP2
  have hDn := va_D.app hD1 (zD_r hD) hs
  have hg9 := gth_le (shw σ i) (σ.2.1 10) κ.1 (σ.1 4)
  have hn9 := hI.1
  refine lv_f2d hx hb dL_readShare_7 (f2d_ok (by omega) (by omega) (Nat.sub_le _ _)) ?_
  refine stD (ws1 := wC G q σ ((gth (shw σ i) (σ.2.1 10) (κ.1) (σ.1 4)).2, κ.2.1, κ.2.2) ++ [aD G oa 1 (vf_upd f 0 (FP.f2d (FP.fdiv (FP.i2f (zI ((((gth (shw σ i) (σ.2.1 10) (κ.1) (σ.1 4)).1 - cnt (fun y9 => !rdR σ ((gth (shw σ i) (σ.2.1 10) (κ.1) (σ.1 4)).2 y9)) (gth (shw σ i) (σ.2.1 10) (κ.1) (σ.1 4)).1 : Nat)) : Int))) (FP.i2f (zI (((gth (shw σ i) (σ.2.1 10) (κ.1) (σ.1 4)).1 : Nat) : Int))))))]) Z hPn hDn hS 30 f rfl 0 rfl (by decide) (by decide) rfl dL_readShare_8 (fun H locs hP hD hS => ?_)
  refine lv_goto (tgt := 18) hx hb dL_readShare_9 (by decide) ?_
  refine zr_iconst hx hb dL_readShare_18 ?_
  exact zret_I () Z hr hP hD hS rfl rfl ⟨Nat.le_of_ble_eq_true rfl, Nat.le_of_ble_eq_true rfl⟩ hQ dL_readShare_19
abbrev r_L_readShare_x1 : Room := { frames := 8, cells := 1, slots := 6, locals := 143 }
set_option maxHeartbeats 4000000 in
set_option maxRecDepth 100000 in
theorem m_L_readShare_x1 (l : Launch) (G : ZG) (hst : l.stackTraces = false) (q : Nat → Nat) (σ : St) (κ : KC) (oa : Nat) (f : Nat → UInt64) (i : Int) (hI : okC σ) (h1 : zR i) (h2 : i < 0 ∨ ((σ.1 6 : Nat) : Int) ≤ i) :
  MC l G yL_readShare (wYW yL_readShare cL_readShare 4 (some .int) [(0, 9, 12, 35), (0, 9, 15, 104)]) r_L_readShare_x1 (wC G q σ κ ++ [aD G oa 1 f]) [.ref (q 0), .int (zI (i : Int)), .ref (oa)] (QI G (fun r9 (_ : KC) => r9 = zI (1 : Int)) (fun u => wC G q σ u ++ [aD G oa 1 f])) := by
  refine MC.mkW (by decide +kernel) (Nat.le_of_ble_eq_true rfl) ?_
  intro p e s m av below meth c A H locs ls Q Z ht hr hnm hQ hP hD hS hl
  have hx := Z.1
  have hb := Z.2.1
  have hl : lv_has ls 4 [(0, .ref (q 0)), (1, .int (zI (i : Int))), (2, .ref (oa))] := hl
  refine lv_aload_n hx hb dL_readShare_0 rfl (lv_at hl 2 rfl) ?_
  refine zr_iconst hx hb dL_readShare_1 ?_
  refine lv_aload_n hx hb dL_readShare_2 rfl (lv_at hl 0 rfl) ?_
  refine lv_iload_n hx hb dL_readShare_3 rfl (lv_at hl 1 rfl) ?_
  refine zcatch Z (zP_r hP) (zD_sep hD) (zD_l hD) hS (zrunXV (rest := [.int (zI (0 : Int)), .ref oa]) Z (zP_l hP) (zD_l hD) hS hl.1 (m_X5_readShare_x1 l G hst q σ κ i hI h1 h2) zY_X5_readShare km_L_100 (q0 := 0) rfl rfl rfl rfl ⟨⟨Nat.le_of_ble_eq_true rfl, Nat.le_of_ble_eq_true rfl⟩, Nat.le_of_ble_eq_true rfl, Nat.le_of_ble_eq_true rfl⟩ (Nat.le_of_ble_eq_true rfl) dL_readShare_4) [] ⟨0, 9, 12, 35⟩ [⟨0, 9, 15, 104⟩] ht (fun z hz => by cases hz) (by decide) (by decide) kc_L_35 (by decide +kernel) (fun u q9 H locs hP1 hD1 hP2 hs hS => ?_)
  have hP := hP1.app hP2
  have hD := va_D.app hD1 (zD_r hD) hs
  refine lv_astore_n (lv' := [(3, .ref (q9)), (0, .ref (q 0)), (1, .int (zI (i : Int))), (2, .ref (oa))]) hx hb dL_readShare_12 rfl hl (by decide) rfl (fun ls hl => ?_)
  refine zr_iconst hx hb dL_readShare_13 ?_
  exact zret_I u Z hr hP hD hS rfl rfl ⟨Nat.le_of_ble_eq_true rfl, Nat.le_of_ble_eq_true rfl⟩ hQ dL_readShare_14
abbrev r_L_readShare_x2 : Room := { frames := 7, cells := 1, slots := 6, locals := 155 }
set_option maxHeartbeats 4000000 in
set_option maxRecDepth 100000 in
theorem m_L_readShare_x2 (l : Launch) (G : ZG) (hst : l.stackTraces = false) (q : Nat → Nat) (σ : St) (κ : KC) (oa : Nat) (f : Nat → UInt64) {e_i : Int} (i : Nat) (he_i : e_i = (i : Int)) (hI : okC σ) (h1 : i < σ.1 6) (h2 : (gth (shw σ i) (σ.2.1 10) (κ.1) (σ.1 4)).1 = 0) :
  MC l G yL_readShare (wYW yL_readShare cL_readShare 4 (some .int) [(0, 9, 12, 35), (0, 9, 15, 104)]) r_L_readShare_x2 (wC G q σ κ ++ [aD G oa 1 f]) [.ref (q 0), .int (zI e_i), .ref (oa)] (QI G (fun r9 (_ : KC) => r9 = zI (2 : Int)) (fun u => wC G q σ u ++ [aD G oa 1 f])) := by
  subst he_i
  refine MC.mkW (by decide +kernel) (Nat.le_of_ble_eq_true rfl) ?_
  intro p e s m av below meth c A H locs ls Q Z ht hr hnm hQ hP hD hS hl
  have hx := Z.1
  have hb := Z.2.1
  have hl : lv_has ls 4 [(0, .ref (q 0)), (1, .int (zI ((i : Nat) : Int))), (2, .ref (oa))] := hl
  refine lv_aload_n hx hb dL_readShare_0 rfl (lv_at hl 2 rfl) ?_
  refine zr_iconst hx hb dL_readShare_1 ?_
  refine lv_aload_n hx hb dL_readShare_2 rfl (lv_at hl 0 rfl) ?_
  refine lv_iload_n hx hb dL_readShare_3 rfl (lv_at hl 1 rfl) ?_
  refine zcatch Z (zP_r hP) (zD_sep hD) (zD_l hD) hS (zrunXV (rest := [.int (zI (0 : Int)), .ref oa]) Z (zP_l hP) (zD_l hD) hS hl.1 (m_X5_readShare_x2 l G hst q σ κ i rfl hI h1 h2) zY_X5_readShare km_L_100 (q0 := 0) rfl rfl rfl rfl ⟨⟨Nat.le_of_ble_eq_true rfl, Nat.le_of_ble_eq_true rfl⟩, Nat.le_of_ble_eq_true rfl, Nat.le_of_ble_eq_true rfl⟩ (Nat.le_of_ble_eq_true rfl) dL_readShare_4) [⟨0, 9, 12, 35⟩] ⟨0, 9, 15, 104⟩ [] ht (fun z hz => by
    rw [List.mem_singleton] at hz; subst hz; exact Or.inr ⟨by decide, "java/lang/IndexOutOfBoundsException", kc_L_35, by decide +kernel⟩) (by decide) (by decide) kc_L_104 (by decide +kernel) (fun u q9 H locs hP1 hD1 hP2 hs hS => ?_)
  have hP := hP1.app hP2
  have hD := va_D.app hD1 (zD_r hD) hs
  refine lv_astore_n (lv' := [(3, .ref (q9)), (0, .ref (q 0)), (1, .int (zI ((i : Nat) : Int))), (2, .ref (oa))]) hx hb dL_readShare_15 rfl hl (by decide) rfl (fun ls hl => ?_)
  refine zr_iconst hx hb dL_readShare_16 ?_
  exact zret_I u Z hr hP hD hS rfl rfl ⟨Nat.le_of_ble_eq_true rfl, Nat.le_of_ble_eq_true rfl⟩ hQ dL_readShare_17
