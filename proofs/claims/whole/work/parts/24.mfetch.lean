section ZPure9
theorem chg_N (σ : St) (i : Nat) (t : Int64) : (chg σ i t).1 = σ.1 := by
  unfold chg
  split
  · rfl
  · split <;> rfl
theorem okM_adS {σ : St} (h : okM σ) {t : Int64} (td : Int) (h1 : σ.1 4 < 30) (h2 : t ≠ 0) (h3 : td ≤ 99999) : okM (adS σ t td) := by
  obtain ⟨hn, hru, hrv, hdv, hsr, hmn, ht1, ht2, hwn, hv1, hv2, hmj, htm, hse, htg, hrt, hac, hk1, hk2, hkd, hmm, hmv, hpp, hpl, hp3, hp4, hp6, hp5, hp7, hnz⟩ := h
  have htf : tmF σ td < 1000000 := by unfold tmF; split <;> omega
  refine ⟨?_, hru, hrv, hdv, hsr, hmn, ht1, ht2, hwn, fun k hk => ?_, fun k => ?_, fun k => ?_, fun k => ?_, fun k => ?_, htg, hrt, hac, hk1, hk2, hkd, hmm, hmv, hpp, hpl, hp3, hp4, hp6, fun k hk => ?_, fun k hk => ?_, fun k hk => ?_⟩
  · show σ.1 4 + 1 ≤ 30
    omega
  · have hk' : k < σ.1 4 + 1 := hk
    show 1 ≤ va_up (σ.2.1 2) (σ.1 4) 1 k
    unfold va_up; split
    · omega
    · exact hv1 k (by omega)
  · show va_up (σ.2.1 2) (σ.1 4) 1 k < 1000000
    unfold va_up; split
    · omega
    · exact hv2 k
  · show va_up (σ.2.1 3) (σ.1 4) 0 k < 1000000
    unfold va_up; split
    · omega
    · exact hmj k
  · show va_up (σ.2.1 1) (σ.1 4) (tmF σ td) k < 1000000
    unfold va_up; split
    · exact htf
    · exact htm k
  · show va_up (σ.2.1 0) (σ.1 4) (σ.1 0) k < 1000000
    unfold va_up; split
    · omega
    · exact hse k
  · have := hp5 k hk
    show σ.2.1 15 k < σ.1 4 + 1
    omega
  · have := hp7 k hk
    show σ.2.1 17 k < σ.1 4 + 1
    omega
  · have hk' : k < σ.1 4 + 1 := hk
    show va_up (σ.2.2.2 0) (4 * σ.1 4) t (4 * k + (va_up (σ.2.1 2) (σ.1 4) 1 k - 1) % 4) ≠ 0
    by_cases e : k = σ.1 4
    · rw [e, va_up_self, show 4 * σ.1 4 + (1 - 1) % 4 = 4 * σ.1 4 from by omega, va_up_self]
      exact h2
    · rw [va_up_ne _ _ e, va_up_ne _ _ (by omega)]
      exact hnz k (by omega)
theorem okM_chg {σ : St} (h : okM σ) {i : Nat} {t : Int64} (h1 : i < σ.1 4) (h2 : t ≠ 0) (h3 : σ.2.1 2 i < 999999) : okM (chg σ i t) := by
  have h9 := h
  obtain ⟨hn, hru, hrv, hdv, hsr, hmn, ht1, ht2, hwn, hv1, hv2, hmj, htm, hse, htg, hrt, hac, hk1, hk2, hkd, hmm, hmv, hpp, hpl, hp3, hp4, hp6, hp5, hp7, hnz⟩ := h
  have hv : ∀ k, va_up (σ.2.1 2) i (σ.2.1 2 i + 1) k < 1000000 := fun k => by
    unfold va_up; split
    · omega
    · exact hv2 k
  have hw : ∀ k, k < σ.1 4 → 1 ≤ va_up (σ.2.1 2) i (σ.2.1 2 i + 1) k := fun k hk => by
    unfold va_up; split
    · omega
    · exact hv1 k hk
  have hz : ∀ k, k < σ.1 4 → va_up (σ.2.2.2 0) (4 * i + σ.2.1 2 i % 4) t (4 * k + (va_up (σ.2.1 2) i (σ.2.1 2 i + 1) k - 1) % 4) ≠ 0 := fun k hk => by
    by_cases e : k = i
    · rw [e, va_up_self, show σ.2.1 2 i + 1 - 1 = σ.2.1 2 i from by omega, va_up_self]
      exact h2
    · rw [va_up_ne _ _ e, va_up_ne _ _ (by omega)]
      exact hnz k hk
  unfold chg
  split
  · exact h9
  · split
    · refine ⟨hn, hru, hrv, hdv, hsr, hmn, ht1, ht2, hwn, hw, hv, fun k => ?_, htm, hse, htg, hrt, hac, hk1, hk2, hkd, hmm, hmv, hpp, hpl, hp3, hp4, hp6, hp5, hp7, hz⟩
      show va_up (σ.2.1 3) i (σ.2.1 2 i) k < 1000000
      unfold va_up; split
      · exact hv2 i
      · exact hmj k
    · exact ⟨hn, hru, hrv, hdv, hsr, hmn, ht1, ht2, hwn, hw, hv, hmj, htm, hse, htg, hrt, hac, hk1, hk2, hkd, hmm, hmv, hpp, hpl, hp3, hp4, hp6, hp5, hp7, hz⟩
theorem okM_addT {σ : St} (h : okM σ) (i sr : Nat) : okM (addT σ i sr) := h
/-- a pair behind the others -/
def prS (σ : St) (i sr : Nat) (b : Int) : St := sN (sA (sA (sA σ 13 (va_up (σ.2.1 13) (σ.1 8) sr)) 14 (va_up (σ.2.1 14) (σ.1 8) b.toNat)) 15 (va_up (σ.2.1 15) (σ.1 8) i)) 8 (σ.1 8 + 1)
def lkS (σ : St) (i : Nat) (b : Int) : St := sN (sA (sA σ 16 (va_up (σ.2.1 16) (σ.1 9) b.toNat)) 17 (va_up (σ.2.1 17) (σ.1 9) i)) 9 (σ.1 9 + 1)
def clPM (σ : St) (i sr : Nat) (b : Int) : St := if b ≠ -1 ∧ pat σ ((sr : Nat) : Int) b < 0 then prS σ i sr b else σ
def clLM (σ : St) (i : Nat) (b : Int) : St := if b ≠ -1 ∧ lkt σ b < 0 then lkS σ i b else σ
theorem okM_prS {σ : St} (h : okM σ) {i sr : Nat} {b : Int} (h1 : i < σ.1 4) (h2 : sr < 6) (h3 : b ≤ 999) (h4 : σ.1 8 < 600) : okM (prS σ i sr b) := by
  obtain ⟨hn, hru, hrv, hdv, hsr, hmn, ht1, ht2, hwn, hv1, hv2, hmj, htm, hse, htg, hrt, hac, hk1, hk2, hkd, hmm, hmv, hpp, hpl, hp3, hp4, hp6, hp5, hp7, hnz⟩ := h
  refine ⟨hn, hru, hrv, hdv, hsr, hmn, ht1, ht2, hwn, hv1, hv2, hmj, htm, hse, htg, hrt, hac, hk1, hk2, hkd, hmm, hmv, ?_, hpl, fun k => ?_, fun k => ?_, hp6, fun k hk => ?_, hp7, hnz⟩
  · show σ.1 8 + 1 ≤ 600
    omega
  · show va_up (σ.2.1 13) (σ.1 8) sr k < 1000000
    unfold va_up; split
    · omega
    · exact hp3 k
  · show va_up (σ.2.1 14) (σ.1 8) b.toNat k < 1000000
    unfold va_up; split
    · omega
    · exact hp4 k
  · have hk' : k < σ.1 8 + 1 := hk
    show va_up (σ.2.1 15) (σ.1 8) i k < σ.1 4
    unfold va_up; split
    · exact h1
    · exact hp5 k (by omega)
theorem okM_lkS {σ : St} (h : okM σ) {i : Nat} {b : Int} (h1 : i < σ.1 4) (h3 : b ≤ 999) (h4 : σ.1 9 < 600) : okM (lkS σ i b) := by
  obtain ⟨hn, hru, hrv, hdv, hsr, hmn, ht1, ht2, hwn, hv1, hv2, hmj, htm, hse, htg, hrt, hac, hk1, hk2, hkd, hmm, hmv, hpp, hpl, hp3, hp4, hp6, hp5, hp7, hnz⟩ := h
  refine ⟨hn, hru, hrv, hdv, hsr, hmn, ht1, ht2, hwn, hv1, hv2, hmj, htm, hse, htg, hrt, hac, hk1, hk2, hkd, hmm, hmv, hpp, ?_, hp3, hp4, fun k => ?_, hp5, fun k hk => ?_, hnz⟩
  · show σ.1 9 + 1 ≤ 600
    omega
  · show va_up (σ.2.1 16) (σ.1 9) b.toNat k < 1000000
    unfold va_up; split
    · omega
    · exact hp6 k
  · have hk' : k < σ.1 9 + 1 := hk
    show va_up (σ.2.1 17) (σ.1 9) i k < σ.1 4
    unfold va_up; split
    · exact h1
    · exact hp7 k (by omega)
def fitM (σ : St) (sr id lk : Int) (t : Int64) : Nat := if fndM σ sr id lk t = -1 then σ.1 4 else (fndM σ sr id lk t).toNat
def fst1M (σ : St) (sr id lk : Int) (t : Int64) (td : Int) : St := if fndM σ sr id lk t = -1 then adS σ t td else chg σ (fndM σ sr id lk t).toNat t
def fetM (σ : St) (sr : Nat) (id lk : Int) (t : Int64) (td : Int) : St :=
  clLM (clPM (addT (fst1M σ sr id lk t td) (fitM σ sr id lk t) sr) (fitM σ sr id lk t) sr id) (fitM σ sr id lk t) lk
theorem okM_fetM {σ : St} (h : okM σ) {sr : Nat} {id lk : Int} {t : Int64} {td : Int} (h1 : sr < 6) (h2 : id ≤ 999) (h3 : lk ≤ 999) (h4 : td ≤ 99999) (h5 : t ≠ 0) (h6 : fndM σ sr id lk t = -1 → σ.1 4 < 30) (h7 : σ.1 8 < 600) (h8 : σ.1 9 < 600) (h9 : ∀ k, σ.2.1 2 k < 999999) : okM (fetM σ sr id lk t td) := by
  have hf := fndM_in h sr id lk t
  have hs : okM (fst1M σ sr id lk t td) ∧ fitM σ sr id lk t < (fst1M σ sr id lk t td).1 4 ∧ (fst1M σ sr id lk t td).1 8 < 600 ∧ (fst1M σ sr id lk t td).1 9 < 600 := by
    unfold fst1M fitM
    split
    · rename_i e
      exact ⟨okM_adS h td (h6 e) h5 h4, by show σ.1 4 < σ.1 4 + 1; omega, h7, h8⟩
    · exact ⟨okM_chg h (by omega) h5 (h9 _), by rw [chg_N]; omega, by rw [chg_N]; exact h7, by rw [chg_N]; exact h8⟩
  have hp : okM (clPM (addT (fst1M σ sr id lk t td) (fitM σ sr id lk t) sr) (fitM σ sr id lk t) sr id) ∧ fitM σ sr id lk t < (clPM (addT (fst1M σ sr id lk t td) (fitM σ sr id lk t) sr) (fitM σ sr id lk t) sr id).1 4 ∧ (clPM (addT (fst1M σ sr id lk t td) (fitM σ sr id lk t) sr) (fitM σ sr id lk t) sr id).1 9 < 600 := by
    unfold clPM
    split
    · exact ⟨okM_prS (okM_addT hs.1 _ _) hs.2.1 h1 h2 hs.2.2.1, hs.2.1, hs.2.2.2⟩
    · exact ⟨okM_addT hs.1 _ _, hs.2.1, hs.2.2.2⟩
  unfold fetM clLM
  split
  · exact okM_lkS hp.1 hp.2.1 h3 hp.2.2
  · exact hp.1
end ZPure9
abbrev r_X6_fetch : Room := { frames := 4, cells := 0, slots := 0, locals := 97 }
set_option maxHeartbeats 4000000 in
set_option maxRecDepth 100000 in
theorem m_X6_fetch (l : Launch) (G : ZG) (q : Nat → Nat) (σ : St) (κ : KM) {e_sr : Int} (sr : Nat) (he_sr : e_sr = (sr : Int)) (idn : Int) (lk : Int) (t : Int64) (td : Int) (hI : okM σ) (h1 : sr < σ.1 3) (h2 : -1 ≤ idn ∧ idn ≤ 999) (h3 : -1 ≤ lk ∧ lk ≤ 999) (h4 : -1 ≤ td ∧ td ≤ 99999) (h5 : ¬ t = 0) (h6 : fndM σ ((sr : Nat) : Int) idn lk t = -1 → σ.1 4 < 30) (h7 : σ.1 8 < 600) (h8 : σ.1 9 < 600) (h9 : ∀ y9, σ.2.1 2 y9 < 999999) :
    MC l G yX6_fetch (wY yX6_fetch cX6_fetch 8 (some .int)) r_X6_fetch (wM G q σ κ) [.ref (q 0), .int (zI e_sr), .int (zI (idn : Int)), .int (zI (lk : Int)), .long (t), .int (zI (td : Int))] (QI G (fun r9 (_ : Unit) => r9 = (zI ((fitM σ ((sr : Nat) : Int) idn lk t : Nat) : Int))) (fun _ => wM G q (fetM σ sr idn lk t td) ((0 : Int), κ.2.1, κ.2.2.1, κ.2.2.2))) := by
  subst he_sr
  refine MC.mk (by decide +kernel) (Nat.le_of_ble_eq_true rfl) ?_
  intro p e s m av below meth c A H locs ls Q Z hr hnm hQ hP hD hS hl
  have hx := Z.1
  have hb := Z.2.1
  have hown := Z.2.2.2.1
  have hW := Z.2.2.2.2.1
  have hl : lv_has ls 8 [(0, .ref (q 0)), (1, .int (zI ((sr : Nat) : Int))), (2, .int (zI (idn : Int))), (3, .int (zI (lk : Int))), (4, .long (t)), (6, .int (zI (td : Int)))] := hl
  obtain ⟨hn, hru, hrv, hdv, hsr, hmn, ht1, ht2, hwn, hv1, hv2, hmj, htm, hse, htg, hrt, hac, hk1, hk2, hkd, hmm, hmv, hpp, hpl, hp3, hp4, hp6, hp5, hp7, hnz⟩ := id hI
  have hf9 := fndM_in hI ((sr : Nat) : Int) idn lk t
  refine lv_aload_n hx hb dX6_fetch_0 rfl (lv_at hl 0 rfl) ?_
  refine lv_iload_n hx hb dX6_fetch_1 rfl (lv_at hl 1 rfl) ?_
  refine zr_iconst hx hb dX6_fetch_2 ?_
  refine lv_aload_n hx hb dX6_fetch_3 rfl (lv_at hl 0 rfl) ?_
  refine gM_0_27 Z hP kf_X6_93 dX6_fetch_4 ?_
  refine zr_iconst hx hb dX6_fetch_7 ?_
  refine zr_isub hx hb dX6_fetch_8 ?_
  refine zdet_I ⟨rfl, rfl⟩ Z hD hS (zrunS (rest := [.ref (q 0)]) Z hP hD hS hl.1 (m_X6_in l G (wM G q σ κ) ((sr : Nat) : Int) (0 : Int) (((σ.1 3 : Nat) : Int) - (1 : Int)) (by omega) (by omega) (by omega)) zY_X6_in km_X6_128 rfl rfl ⟨⟨Nat.le_of_ble_eq_true rfl, Nat.le_of_ble_eq_true rfl⟩, Nat.le_of_ble_eq_true rfl, Nat.le_of_ble_eq_true rfl⟩ (Nat.le_of_ble_eq_true rfl) dX6_fetch_9) (fun H locs hP hD hS => ?_)
  refine zb_ne (tgt := 19) hx hb dX6_fetch_12 (by decide) (fun c12 => ?_) (fun c12 => by exfalso; have h9 := of_decide_eq_false c12; omega)
  refine lv_iload_n hx hb dX6_fetch_19 rfl (lv_at hl 2 rfl) ?_
  refine zr_iconst hx hb dX6_fetch_20 ?_
  refine zr_sipush hx hb dX6_fetch_21 (by decide) ?_
  refine zdet_I ⟨rfl, rfl⟩ Z hD hS (zrunS (rest := [.ref (q 0)]) Z hP hD hS hl.1 (m_X6_in l G (wM G q σ κ) (idn : Int) (-1 : Int) (999 : Int) (by omega) (by omega) (by omega)) zY_X6_in km_X6_128 rfl rfl ⟨⟨Nat.le_of_ble_eq_true rfl, Nat.le_of_ble_eq_true rfl⟩, Nat.le_of_ble_eq_true rfl, Nat.le_of_ble_eq_true rfl⟩ (Nat.le_of_ble_eq_true rfl) dX6_fetch_24) (fun H locs hP hD hS => ?_)
  refine zb_eq (tgt := 59) hx hb dX6_fetch_27 (by decide) (fun c27 => by exfalso; have h9 := of_decide_eq_false c27; omega) (fun c27 => ?_)
  refine lv_iload_n hx hb dX6_fetch_30 rfl (lv_at hl 3 rfl) ?_
  refine zr_iconst hx hb dX6_fetch_31 ?_
  refine zr_sipush hx hb dX6_fetch_32 (by decide) ?_
  refine zdet_I ⟨rfl, rfl⟩ Z hD hS (zrunS (rest := [.ref (q 0)]) Z hP hD hS hl.1 (m_X6_in l G (wM G q σ κ) (lk : Int) (-1 : Int) (999 : Int) (by omega) (by omega) (by omega)) zY_X6_in km_X6_128 rfl rfl ⟨⟨Nat.le_of_ble_eq_true rfl, Nat.le_of_ble_eq_true rfl⟩, Nat.le_of_ble_eq_true rfl, Nat.le_of_ble_eq_true rfl⟩ (Nat.le_of_ble_eq_true rfl) dX6_fetch_35) (fun H locs hP hD hS => ?_)
  refine zb_eq (tgt := 59) hx hb dX6_fetch_38 (by decide) (fun c38 => by exfalso; have h9 := of_decide_eq_false c38; omega) (fun c38 => ?_)
  refine lv_iload hx hb dX6_fetch_41 (lv_at hl 5 rfl) ?_
  refine zr_iconst hx hb dX6_fetch_43 ?_
  refine zr_ldc hx hb 99999 (by decide) hown (hW _ kk_X6_132) dX6_fetch_44 ?_
  refine zdet_I ⟨rfl, rfl⟩ Z hD hS (zrunS (rest := [.ref (q 0)]) Z hP hD hS hl.1 (m_X6_in l G (wM G q σ κ) (td : Int) (-1 : Int) (99999 : Int) (by omega) (by omega) (by omega)) zY_X6_in km_X6_128 rfl rfl ⟨⟨Nat.le_of_ble_eq_true rfl, Nat.le_of_ble_eq_true rfl⟩, Nat.le_of_ble_eq_true rfl, Nat.le_of_ble_eq_true rfl⟩ (Nat.le_of_ble_eq_true rfl) dX6_fetch_46) (fun H locs hP hD hS => ?_)
  refine zb_eq (tgt := 59) hx hb dX6_fetch_49 (by decide) (fun c49 => by exfalso; have h9 := of_decide_eq_false c49; omega) (fun c49 => ?_)
  refine lv_lload hx hb dX6_fetch_52 (lv_at hl 4 rfl) ?_
  refine lv_lconst (v := 0) hx hb dX6_fetch_54 (by decide) ?_
  refine zl_ne (tgt := 63) hx hb dX6_fetch_55 dX6_fetch_56 (by decide) (fun c55 => ?_) (fun c55 => absurd c55 h5)
  refine zr_iconst hx hb dX6_fetch_63 ?_
  refine pM_0_23 Z hP hD hS kf_X6_80 dX6_fetch_64 (fun H locs hP hD hS => ?_)
  refine lv_aload_n hx hb dX6_fetch_67 rfl (lv_at hl 0 rfl) ?_
  refine gM_0_23 Z hP kf_X6_80 dX6_fetch_68 ?_
  refine zr_top (w := .int (zI (0 : Int))) rfl ?_
  refine zc0_le (tgt := 76) hx hb (0 : Int) (zI_toInt (by decide)) dX6_fetch_71 (by decide) (fun c71 => ?_) (fun c71 => by exfalso; omega)
  refine lv_aload_n hx hb dX6_fetch_76 rfl (lv_at hl 0 rfl) ?_
  refine lv_iload_n hx hb dX6_fetch_77 rfl (lv_at hl 1 rfl) ?_
  refine lv_iload_n hx hb dX6_fetch_78 rfl (lv_at hl 2 rfl) ?_
  refine lv_iload_n hx hb dX6_fetch_79 rfl (lv_at hl 3 rfl) ?_
  refine lv_lload hx hb dX6_fetch_80 (lv_at hl 4 rfl) ?_
  refine zdet_I ⟨rfl, rfl⟩ Z hD hS (zrunV (rest := []) Z hP hD hS hl.1 (m_X6_found l G q σ ((0 : Int), κ.2.1, κ.2.2.1, κ.2.2.2) ((sr : Nat) : Int) (idn : Int) (lk : Int) (t) hI (by omega) (by omega) (by omega) h5) zY_X6_found km_X6_159 (q0 := 0) rfl rfl rfl rfl ⟨⟨Nat.le_of_ble_eq_true rfl, Nat.le_of_ble_eq_true rfl⟩, Nat.le_of_ble_eq_true rfl, Nat.le_of_ble_eq_true rfl⟩ (Nat.le_of_ble_eq_true rfl) dX6_fetch_82) (fun H locs hP hD hS => ?_)
  refine zr_top (w := .int (zI (fndM σ ((sr : Nat) : Int) (idn : Int) (lk : Int) (t) : Int))) rfl ?_
  refine lv_istore (lv' := [(7, .int (zI (fndM σ ((sr : Nat) : Int) (idn : Int) (lk : Int) (t) : Int))), (0, .ref (q 0)), (1, .int (zI ((sr : Nat) : Int))), (2, .int (zI (idn : Int))), (3, .int (zI (lk : Int))), (4, .long (t)), (6, .int (zI (td : Int)))]) hx hb dX6_fetch_85 hl (by decide) rfl (fun ls hl => ?_)
  refine lv_aload_n hx hb dX6_fetch_87 rfl (lv_at hl 1 rfl) ?_
  refine lv_iload hx hb dX6_fetch_88 (lv_at hl 0 rfl) ?_
  refine zc0_ge (tgt := 106) hx hb (fndM σ ((sr : Nat) : Int) (idn : Int) (lk : Int) (t) : Int) (zI_toInt (by omega)) dX6_fetch_90 (by decide) (fun c90 => ?_) (fun c90 => ?_)
  · skip
    refine zr_iconst hx hb dX6_fetch_106 ?_
    refine pM_0_23 Z hP hD hS kf_X6_80 dX6_fetch_107 (fun H locs hP hD hS => ?_)
    refine lv_aload_n hx hb dX6_fetch_110 rfl (lv_at hl 1 rfl) ?_
    refine gM_0_23 Z hP kf_X6_80 dX6_fetch_111 ?_
    refine zr_top (w := .int (zI (0 : Int))) rfl ?_
    refine zc0_le (tgt := 119) hx hb (0 : Int) (zI_toInt (by decide)) dX6_fetch_114 (by decide) (fun c114 => ?_) (fun c114 => by exfalso; omega)
    refine lv_iload hx hb dX6_fetch_119 (lv_at hl 0 rfl) ?_
    refine zc0_ge (tgt := 141) hx hb (fndM σ ((sr : Nat) : Int) (idn : Int) (lk : Int) (t) : Int) (zI_toInt (by omega)) dX6_fetch_121 (by decide) (fun c121 => ?_) (fun c121 => by exfalso; omega)
    refine lv_aload_n hx hb dX6_fetch_141 rfl (lv_at hl 1 rfl) ?_
    refine lv_iload hx hb dX6_fetch_142 (lv_at hl 0 rfl) ?_
    refine lv_lload hx hb dX6_fetch_144 (lv_at hl 5 rfl) ?_
    refine zdet_V ⟨rfl, rfl⟩ Z hD hS (zrunV (rest := []) Z hP hD hS hl.1 (m_X6_changes l G q σ ((0 : Int), κ.2.1, κ.2.2.1, κ.2.2.2) ((fndM σ ((sr : Nat) : Int) idn lk t).toNat) (by omega) (t) hI (by omega)) zY_X6_changes km_X6_167 (q0 := 0) rfl rfl rfl rfl ⟨⟨Nat.le_of_ble_eq_true rfl, Nat.le_of_ble_eq_true rfl⟩, Nat.le_of_ble_eq_true rfl, Nat.le_of_ble_eq_true rfl⟩ (Nat.le_of_ble_eq_true rfl) dX6_fetch_146) (fun H locs hP hD hS => ?_)
    refine lv_aload_n hx hb dX6_fetch_149 rfl (lv_at hl 1 rfl) ?_
    refine gM_0_5 Z hP kf_X6_26 dX6_fetch_150 ?_
    refine lv_iload hx hb dX6_fetch_153 (lv_at hl 0 rfl) ?_
    refine lv_dup2_11 hx hb dX6_fetch_155 rfl rfl ?_
    refine ldI Z hP 6 (((chg σ ((fndM σ ((sr : Nat) : Int) idn lk t).toNat) (t))).2.2.1 0) rfl ((fndM σ ((sr : Nat) : Int) idn lk t).toNat) (by omega) (by omega) (by decide) dX6_fetch_156 ?_
    refine zr_iconst hx hb dX6_fetch_157 ?_
    refine lv_iload_n hx hb dX6_fetch_158 rfl (lv_at hl 2 rfl) ?_
    refine lv_ishl hx hb dX6_fetch_159 ?_
    refine lv_ior hx hb dX6_fetch_160 ?_
    refine stI (ws1 := wM G q (sI (chg σ ((fndM σ ((sr : Nat) : Int) idn lk t).toNat) (t)) 0 (va_up (((chg σ ((fndM σ ((sr : Nat) : Int) idn lk t).toNat) (t))).2.2.1 0) ((fndM σ ((sr : Nat) : Int) idn lk t).toNat) (((((chg σ ((fndM σ ((sr : Nat) : Int) idn lk t).toNat) (t))).2.2.1 0) ((fndM σ ((sr : Nat) : Int) idn lk t).toNat)) ||| (zI (1 : Int) <<< (zI ((sr : Nat) : Int) &&& 31))))) ((0 : Int), κ.2.1, κ.2.2.1, κ.2.2.2)) Z hP hD hS 6 (((chg σ ((fndM σ ((sr : Nat) : Int) idn lk t).toNat) (t))).2.2.1 0) rfl ((fndM σ ((sr : Nat) : Int) idn lk t).toNat) (by omega) (by omega) (by decide) rfl dX6_fetch_161 (fun H locs hP hD hS => ?_)
    have hP : va_P G.1 vwCl (wM G q (addT (chg σ (fndM σ ((sr : Nat) : Int) idn lk t).toNat t) (fndM σ ((sr : Nat) : Int) idn lk t).toNat sr) ((0 : Int), κ.2.1, κ.2.2.1, κ.2.2.2)) H := hP
    have hD : va_D A (wM G q (addT (chg σ (fndM σ ((sr : Nat) : Int) idn lk t).toNat t) (fndM σ ((sr : Nat) : Int) idn lk t).toNat sr) ((0 : Int), κ.2.1, κ.2.2.1, κ.2.2.2)) := hD
    have hok : okM (addT (chg σ (fndM σ ((sr : Nat) : Int) idn lk t).toNat t) (fndM σ ((sr : Nat) : Int) idn lk t).toNat sr) := okM_addT (okM_chg hI (by omega) h5 (h9 _)) ((fndM σ ((sr : Nat) : Int) idn lk t).toNat) sr
    have hN8 : (addT (chg σ (fndM σ ((sr : Nat) : Int) idn lk t).toNat t) (fndM σ ((sr : Nat) : Int) idn lk t).toNat sr).1 8 = σ.1 8 := (by show (chg σ (fndM σ ((sr : Nat) : Int) idn lk t).toNat t).1 8 = _; rw [chg_N])
    have hN9 : (addT (chg σ (fndM σ ((sr : Nat) : Int) idn lk t).toNat t) (fndM σ ((sr : Nat) : Int) idn lk t).toNat sr).1 9 = σ.1 9 := (by show (chg σ (fndM σ ((sr : Nat) : Int) idn lk t).toNat t).1 9 = _; rw [chg_N])
    have hN4 : (fndM σ ((sr : Nat) : Int) idn lk t).toNat < (addT (chg σ (fndM σ ((sr : Nat) : Int) idn lk t).toNat t) (fndM σ ((sr : Nat) : Int) idn lk t).toNat sr).1 4 := (by show _ < (chg σ (fndM σ ((sr : Nat) : Int) idn lk t).toNat t).1 4; rw [chg_N]; omega)
    have hq9 := pat_in hok ((sr : Nat) : Int) idn
    have hq7 := hok.1
    refine lv_iload_n hx hb dX6_fetch_162 rfl (lv_at hl 3 rfl) ?_
    refine zr_iconst hx hb dX6_fetch_163 ?_
    refine zc_eq (tgt := 217) hx hb (idn : Int) (-1 : Int) (zI_toInt (by omega)) (zI_toInt (by decide)) dX6_fetch_164 (by decide) (fun c164 => ?_) (fun c164 => ?_)
    · skip
      have hP : va_P G.1 vwCl (wM G q (addT (chg σ (fndM σ ((sr : Nat) : Int) idn lk t).toNat t) (fndM σ ((sr : Nat) : Int) idn lk t).toNat sr) ((0 : Int), κ.2.1, κ.2.2.1, κ.2.2.2)) H := hP
      have hD : va_D A (wM G q (addT (chg σ (fndM σ ((sr : Nat) : Int) idn lk t).toNat t) (fndM σ ((sr : Nat) : Int) idn lk t).toNat sr) ((0 : Int), κ.2.1, κ.2.2.1, κ.2.2.2)) := hD
      have hok2 : okM (addT (chg σ (fndM σ ((sr : Nat) : Int) idn lk t).toNat t) (fndM σ ((sr : Nat) : Int) idn lk t).toNat sr) := hok
      have hM9 : (addT (chg σ (fndM σ ((sr : Nat) : Int) idn lk t).toNat t) (fndM σ ((sr : Nat) : Int) idn lk t).toNat sr).1 9 = σ.1 9 := hN9
      have hq8 := lkt_in hok2 lk
      have hq6 := hok2.1
      refine lv_iload_n hx hb dX6_fetch_217 rfl (lv_at hl 4 rfl) ?_
      refine zr_iconst hx hb dX6_fetch_218 ?_
      refine zc_eq (tgt := 261) hx hb (lk : Int) (-1 : Int) (zI_toInt (by omega)) (zI_toInt (by decide)) dX6_fetch_219 (by decide) (fun c219 => ?_) (fun c219 => ?_)
      · skip
        refine lv_iload hx hb dX6_fetch_261 (lv_at hl 0 rfl) ?_
        exact zret_I () Z hr hP hD hS (congrArg zI (by unfold fitM; rw [if_neg (by omega)]; omega)) (by
            have e1 : fst1M σ ((sr : Nat) : Int) idn lk t td = (chg σ (fndM σ ((sr : Nat) : Int) idn lk t).toNat t) := if_neg (by omega)
            have e2 : fitM σ ((sr : Nat) : Int) idn lk t = (fndM σ ((sr : Nat) : Int) idn lk t).toNat := if_neg (by omega)
            have e3 : clPM (addT (chg σ (fndM σ ((sr : Nat) : Int) idn lk t).toNat t) (fndM σ ((sr : Nat) : Int) idn lk t).toNat sr) (fndM σ ((sr : Nat) : Int) idn lk t).toNat sr idn = (addT (chg σ (fndM σ ((sr : Nat) : Int) idn lk t).toNat t) (fndM σ ((sr : Nat) : Int) idn lk t).toNat sr) := if_neg (fun h => h.1 c164)
            have e4 : clLM (addT (chg σ (fndM σ ((sr : Nat) : Int) idn lk t).toNat t) (fndM σ ((sr : Nat) : Int) idn lk t).toNat sr) (fndM σ ((sr : Nat) : Int) idn lk t).toNat lk = (addT (chg σ (fndM σ ((sr : Nat) : Int) idn lk t).toNat t) (fndM σ ((sr : Nat) : Int) idn lk t).toNat sr) := if_neg (fun h => h.1 c219)
            unfold fetM; rw [e1, e2, e3, e4] <;> rfl) ⟨Nat.le_refl _, Nat.le_refl _⟩ hQ dX6_fetch_263
      · skip
        refine lv_aload_n hx hb dX6_fetch_222 rfl (lv_at hl 1 rfl) ?_
        refine lv_iload_n hx hb dX6_fetch_223 rfl (lv_at hl 4 rfl) ?_
        refine zdet_I ⟨rfl, rfl⟩ Z hD hS (zrunV (rest := []) Z hP hD hS hl.1 (m_X6_linkAt l G q (addT (chg σ (fndM σ ((sr : Nat) : Int) idn lk t).toNat t) (fndM σ ((sr : Nat) : Int) idn lk t).toNat sr) ((0 : Int), κ.2.1, κ.2.2.1, κ.2.2.2) (lk : Int) hok2 (by omega)) zY_X6_linkAt km_X6_153 (q0 := 0) rfl rfl rfl rfl ⟨⟨Nat.le_of_ble_eq_true rfl, Nat.le_of_ble_eq_true rfl⟩, Nat.le_of_ble_eq_true rfl, Nat.le_of_ble_eq_true rfl⟩ (Nat.le_of_ble_eq_true rfl) dX6_fetch_224) (fun H locs hP hD hS => ?_)
        refine zr_top (w := .int (zI (lkt ((addT (chg σ (fndM σ ((sr : Nat) : Int) idn lk t).toNat t) (fndM σ ((sr : Nat) : Int) idn lk t).toNat sr)) (lk : Int) : Int))) rfl ?_
        refine zc0_ge (tgt := 261) hx hb (lkt ((addT (chg σ (fndM σ ((sr : Nat) : Int) idn lk t).toNat t) (fndM σ ((sr : Nat) : Int) idn lk t).toNat sr)) (lk : Int) : Int) (zI_toInt (by omega)) dX6_fetch_227 (by decide) (fun c227 => ?_) (fun c227 => ?_)
        · skip
          refine lv_iload hx hb dX6_fetch_261 (lv_at hl 0 rfl) ?_
          exact zret_I () Z hr hP hD hS (congrArg zI (by unfold fitM; rw [if_neg (by omega)]; omega)) (by
              have e1 : fst1M σ ((sr : Nat) : Int) idn lk t td = (chg σ (fndM σ ((sr : Nat) : Int) idn lk t).toNat t) := if_neg (by omega)
              have e2 : fitM σ ((sr : Nat) : Int) idn lk t = (fndM σ ((sr : Nat) : Int) idn lk t).toNat := if_neg (by omega)
              have e3 : clPM (addT (chg σ (fndM σ ((sr : Nat) : Int) idn lk t).toNat t) (fndM σ ((sr : Nat) : Int) idn lk t).toNat sr) (fndM σ ((sr : Nat) : Int) idn lk t).toNat sr idn = (addT (chg σ (fndM σ ((sr : Nat) : Int) idn lk t).toNat t) (fndM σ ((sr : Nat) : Int) idn lk t).toNat sr) := if_neg (fun h => h.1 c164)
              have e4 : clLM (addT (chg σ (fndM σ ((sr : Nat) : Int) idn lk t).toNat t) (fndM σ ((sr : Nat) : Int) idn lk t).toNat sr) (fndM σ ((sr : Nat) : Int) idn lk t).toNat lk = (addT (chg σ (fndM σ ((sr : Nat) : Int) idn lk t).toNat t) (fndM σ ((sr : Nat) : Int) idn lk t).toNat sr) := if_neg (fun h => absurd h.2 (Int.not_lt.mpr c227))
              unfold fetM; rw [e1, e2, e3, e4] <;> rfl) ⟨Nat.le_refl _, Nat.le_refl _⟩ hQ dX6_fetch_263
        · skip
          refine lv_aload_n hx hb dX6_fetch_230 rfl (lv_at hl 1 rfl) ?_
          refine gM_0_11 Z hP kf_X6_44 dX6_fetch_231 ?_
          refine lv_aload_n hx hb dX6_fetch_234 rfl (lv_at hl 1 rfl) ?_
          refine gM_0_30 Z hP kf_X6_102 dX6_fetch_235 ?_
          refine zr_top (w := .int (zI ((((addT (chg σ (fndM σ ((sr : Nat) : Int) idn lk t).toNat t) (fndM σ ((sr : Nat) : Int) idn lk t).toNat sr)).1 9 : Nat) : Int))) rfl ?_
          refine lv_iload_n hx hb dX6_fetch_238 rfl (lv_at hl 4 rfl) ?_
          refine stN (ws1 := wM G q (sA (addT (chg σ (fndM σ ((sr : Nat) : Int) idn lk t).toNat t) (fndM σ ((sr : Nat) : Int) idn lk t).toNat sr) 16 (va_up (((addT (chg σ (fndM σ ((sr : Nat) : Int) idn lk t).toNat t) (fndM σ ((sr : Nat) : Int) idn lk t).toNat sr)).2.1 16) (((addT (chg σ (fndM σ ((sr : Nat) : Int) idn lk t).toNat t) (fndM σ ((sr : Nat) : Int) idn lk t).toNat sr)).1 9) (lk.toNat))) ((0 : Int), κ.2.1, κ.2.2.1, κ.2.2.2)) Z hP hD hS 12 (((addT (chg σ (fndM σ ((sr : Nat) : Int) idn lk t).toNat t) (fndM σ ((sr : Nat) : Int) idn lk t).toNat sr)).2.1 16) rfl (((addT (chg σ (fndM σ ((sr : Nat) : Int) idn lk t).toNat t) (fndM σ ((sr : Nat) : Int) idn lk t).toNat sr)).1 9) rfl (by omega) (by decide) (lk.toNat) (by omega) rfl dX6_fetch_239 (fun H locs hP hD hS => ?_)
          refine lv_aload_n hx hb dX6_fetch_240 rfl (lv_at hl 1 rfl) ?_
          refine gM_0_12 Z hP kf_X6_47 dX6_fetch_241 ?_
          refine lv_aload_n hx hb dX6_fetch_244 rfl (lv_at hl 1 rfl) ?_
          refine gM_0_30 Z hP kf_X6_102 dX6_fetch_245 ?_
          refine zr_top (w := .int (zI ((((addT (chg σ (fndM σ ((sr : Nat) : Int) idn lk t).toNat t) (fndM σ ((sr : Nat) : Int) idn lk t).toNat sr)).1 9 : Nat) : Int))) rfl ?_
          refine lv_iload hx hb dX6_fetch_248 (lv_at hl 0 rfl) ?_
          refine stN (ws1 := wM G q (sA (sA (addT (chg σ (fndM σ ((sr : Nat) : Int) idn lk t).toNat t) (fndM σ ((sr : Nat) : Int) idn lk t).toNat sr) 16 (va_up (((addT (chg σ (fndM σ ((sr : Nat) : Int) idn lk t).toNat t) (fndM σ ((sr : Nat) : Int) idn lk t).toNat sr)).2.1 16) (((addT (chg σ (fndM σ ((sr : Nat) : Int) idn lk t).toNat t) (fndM σ ((sr : Nat) : Int) idn lk t).toNat sr)).1 9) (lk.toNat))) 17 (va_up (((addT (chg σ (fndM σ ((sr : Nat) : Int) idn lk t).toNat t) (fndM σ ((sr : Nat) : Int) idn lk t).toNat sr)).2.1 17) (((addT (chg σ (fndM σ ((sr : Nat) : Int) idn lk t).toNat t) (fndM σ ((sr : Nat) : Int) idn lk t).toNat sr)).1 9) ((fndM σ ((sr : Nat) : Int) idn lk t).toNat))) ((0 : Int), κ.2.1, κ.2.2.1, κ.2.2.2)) Z hP hD hS 13 (((addT (chg σ (fndM σ ((sr : Nat) : Int) idn lk t).toNat t) (fndM σ ((sr : Nat) : Int) idn lk t).toNat sr)).2.1 17) rfl (((addT (chg σ (fndM σ ((sr : Nat) : Int) idn lk t).toNat t) (fndM σ ((sr : Nat) : Int) idn lk t).toNat sr)).1 9) rfl (by omega) (by decide) ((fndM σ ((sr : Nat) : Int) idn lk t).toNat) (by omega) rfl dX6_fetch_250 (fun H locs hP hD hS => ?_)
          refine lv_aload_n hx hb dX6_fetch_251 rfl (lv_at hl 1 rfl) ?_
          refine lv_dup hx hb dX6_fetch_252 rfl ?_
          refine gM_0_30 Z hP kf_X6_102 dX6_fetch_253 ?_
          refine zr_top (w := .int (zI ((((addT (chg σ (fndM σ ((sr : Nat) : Int) idn lk t).toNat t) (fndM σ ((sr : Nat) : Int) idn lk t).toNat sr)).1 9 : Nat) : Int))) rfl ?_
          refine zr_iconst hx hb dX6_fetch_256 ?_
          refine zr_iadd hx hb dX6_fetch_257 ?_
          refine pM_0_30 Z hP hD hS ((((addT (chg σ (fndM σ ((sr : Nat) : Int) idn lk t).toNat t) (fndM σ ((sr : Nat) : Int) idn lk t).toNat sr)).1 9 + 1)) (by omega) kf_X6_102 dX6_fetch_258 (fun H locs hP hD hS => ?_)
          refine lv_iload hx hb dX6_fetch_261 (lv_at hl 0 rfl) ?_
          exact zret_I () Z hr hP hD hS (congrArg zI (by unfold fitM; rw [if_neg (by omega)]; omega)) (by
              have e1 : fst1M σ ((sr : Nat) : Int) idn lk t td = (chg σ (fndM σ ((sr : Nat) : Int) idn lk t).toNat t) := if_neg (by omega)
              have e2 : fitM σ ((sr : Nat) : Int) idn lk t = (fndM σ ((sr : Nat) : Int) idn lk t).toNat := if_neg (by omega)
              have e3 : clPM (addT (chg σ (fndM σ ((sr : Nat) : Int) idn lk t).toNat t) (fndM σ ((sr : Nat) : Int) idn lk t).toNat sr) (fndM σ ((sr : Nat) : Int) idn lk t).toNat sr idn = (addT (chg σ (fndM σ ((sr : Nat) : Int) idn lk t).toNat t) (fndM σ ((sr : Nat) : Int) idn lk t).toNat sr) := if_neg (fun h => h.1 c164)
              have e4 : clLM (addT (chg σ (fndM σ ((sr : Nat) : Int) idn lk t).toNat t) (fndM σ ((sr : Nat) : Int) idn lk t).toNat sr) (fndM σ ((sr : Nat) : Int) idn lk t).toNat lk = (lkS (addT (chg σ (fndM σ ((sr : Nat) : Int) idn lk t).toNat t) (fndM σ ((sr : Nat) : Int) idn lk t).toNat sr) (fndM σ ((sr : Nat) : Int) idn lk t).toNat lk) := if_pos ⟨c219, c227⟩
              unfold fetM; rw [e1, e2, e3, e4] <;> rfl) ⟨Nat.le_refl _, Nat.le_refl _⟩ hQ dX6_fetch_263
    · skip
      refine lv_aload_n hx hb dX6_fetch_167 rfl (lv_at hl 1 rfl) ?_
      refine lv_iload_n hx hb dX6_fetch_168 rfl (lv_at hl 2 rfl) ?_
      refine lv_iload_n hx hb dX6_fetch_169 rfl (lv_at hl 3 rfl) ?_
      refine zdet_I ⟨rfl, rfl⟩ Z hD hS (zrunV (rest := []) Z hP hD hS hl.1 (m_X6_pairAt l G q (addT (chg σ (fndM σ ((sr : Nat) : Int) idn lk t).toNat t) (fndM σ ((sr : Nat) : Int) idn lk t).toNat sr) ((0 : Int), κ.2.1, κ.2.2.1, κ.2.2.2) ((sr : Nat) : Int) (idn : Int) hok (by omega) (by omega)) zY_X6_pairAt km_X6_149 (q0 := 0) rfl rfl rfl rfl ⟨⟨Nat.le_of_ble_eq_true rfl, Nat.le_of_ble_eq_true rfl⟩, Nat.le_of_ble_eq_true rfl, Nat.le_of_ble_eq_true rfl⟩ (Nat.le_of_ble_eq_true rfl) dX6_fetch_170) (fun H locs hP hD hS => ?_)
      refine zr_top (w := .int (zI (pat ((addT (chg σ (fndM σ ((sr : Nat) : Int) idn lk t).toNat t) (fndM σ ((sr : Nat) : Int) idn lk t).toNat sr)) ((sr : Nat) : Int) (idn : Int) : Int))) rfl ?_
      refine zc0_ge (tgt := 217) hx hb (pat ((addT (chg σ (fndM σ ((sr : Nat) : Int) idn lk t).toNat t) (fndM σ ((sr : Nat) : Int) idn lk t).toNat sr)) ((sr : Nat) : Int) (idn : Int) : Int) (zI_toInt (by omega)) dX6_fetch_173 (by decide) (fun c173 => ?_) (fun c173 => ?_)
      · skip
        have hP : va_P G.1 vwCl (wM G q (addT (chg σ (fndM σ ((sr : Nat) : Int) idn lk t).toNat t) (fndM σ ((sr : Nat) : Int) idn lk t).toNat sr) ((0 : Int), κ.2.1, κ.2.2.1, κ.2.2.2)) H := hP
        have hD : va_D A (wM G q (addT (chg σ (fndM σ ((sr : Nat) : Int) idn lk t).toNat t) (fndM σ ((sr : Nat) : Int) idn lk t).toNat sr) ((0 : Int), κ.2.1, κ.2.2.1, κ.2.2.2)) := hD
        have hok2 : okM (addT (chg σ (fndM σ ((sr : Nat) : Int) idn lk t).toNat t) (fndM σ ((sr : Nat) : Int) idn lk t).toNat sr) := hok
        have hM9 : (addT (chg σ (fndM σ ((sr : Nat) : Int) idn lk t).toNat t) (fndM σ ((sr : Nat) : Int) idn lk t).toNat sr).1 9 = σ.1 9 := hN9
        have hq8 := lkt_in hok2 lk
        have hq6 := hok2.1
        refine lv_iload_n hx hb dX6_fetch_217 rfl (lv_at hl 4 rfl) ?_
        refine zr_iconst hx hb dX6_fetch_218 ?_
        refine zc_eq (tgt := 261) hx hb (lk : Int) (-1 : Int) (zI_toInt (by omega)) (zI_toInt (by decide)) dX6_fetch_219 (by decide) (fun c219 => ?_) (fun c219 => ?_)
        · skip
          refine lv_iload hx hb dX6_fetch_261 (lv_at hl 0 rfl) ?_
          exact zret_I () Z hr hP hD hS (congrArg zI (by unfold fitM; rw [if_neg (by omega)]; omega)) (by
              have e1 : fst1M σ ((sr : Nat) : Int) idn lk t td = (chg σ (fndM σ ((sr : Nat) : Int) idn lk t).toNat t) := if_neg (by omega)
              have e2 : fitM σ ((sr : Nat) : Int) idn lk t = (fndM σ ((sr : Nat) : Int) idn lk t).toNat := if_neg (by omega)
              have e3 : clPM (addT (chg σ (fndM σ ((sr : Nat) : Int) idn lk t).toNat t) (fndM σ ((sr : Nat) : Int) idn lk t).toNat sr) (fndM σ ((sr : Nat) : Int) idn lk t).toNat sr idn = (addT (chg σ (fndM σ ((sr : Nat) : Int) idn lk t).toNat t) (fndM σ ((sr : Nat) : Int) idn lk t).toNat sr) := if_neg (fun h => absurd h.2 (Int.not_lt.mpr c173))
              have e4 : clLM (addT (chg σ (fndM σ ((sr : Nat) : Int) idn lk t).toNat t) (fndM σ ((sr : Nat) : Int) idn lk t).toNat sr) (fndM σ ((sr : Nat) : Int) idn lk t).toNat lk = (addT (chg σ (fndM σ ((sr : Nat) : Int) idn lk t).toNat t) (fndM σ ((sr : Nat) : Int) idn lk t).toNat sr) := if_neg (fun h => h.1 c219)
              unfold fetM; rw [e1, e2, e3, e4] <;> rfl) ⟨Nat.le_refl _, Nat.le_refl _⟩ hQ dX6_fetch_263
        · skip
          refine lv_aload_n hx hb dX6_fetch_222 rfl (lv_at hl 1 rfl) ?_
          refine lv_iload_n hx hb dX6_fetch_223 rfl (lv_at hl 4 rfl) ?_
          refine zdet_I ⟨rfl, rfl⟩ Z hD hS (zrunV (rest := []) Z hP hD hS hl.1 (m_X6_linkAt l G q (addT (chg σ (fndM σ ((sr : Nat) : Int) idn lk t).toNat t) (fndM σ ((sr : Nat) : Int) idn lk t).toNat sr) ((0 : Int), κ.2.1, κ.2.2.1, κ.2.2.2) (lk : Int) hok2 (by omega)) zY_X6_linkAt km_X6_153 (q0 := 0) rfl rfl rfl rfl ⟨⟨Nat.le_of_ble_eq_true rfl, Nat.le_of_ble_eq_true rfl⟩, Nat.le_of_ble_eq_true rfl, Nat.le_of_ble_eq_true rfl⟩ (Nat.le_of_ble_eq_true rfl) dX6_fetch_224) (fun H locs hP hD hS => ?_)
          refine zr_top (w := .int (zI (lkt ((addT (chg σ (fndM σ ((sr : Nat) : Int) idn lk t).toNat t) (fndM σ ((sr : Nat) : Int) idn lk t).toNat sr)) (lk : Int) : Int))) rfl ?_
          refine zc0_ge (tgt := 261) hx hb (lkt ((addT (chg σ (fndM σ ((sr : Nat) : Int) idn lk t).toNat t) (fndM σ ((sr : Nat) : Int) idn lk t).toNat sr)) (lk : Int) : Int) (zI_toInt (by omega)) dX6_fetch_227 (by decide) (fun c227 => ?_) (fun c227 => ?_)
          · skip
            refine lv_iload hx hb dX6_fetch_261 (lv_at hl 0 rfl) ?_
            exact zret_I () Z hr hP hD hS (congrArg zI (by unfold fitM; rw [if_neg (by omega)]; omega)) (by
                have e1 : fst1M σ ((sr : Nat) : Int) idn lk t td = (chg σ (fndM σ ((sr : Nat) : Int) idn lk t).toNat t) := if_neg (by omega)
                have e2 : fitM σ ((sr : Nat) : Int) idn lk t = (fndM σ ((sr : Nat) : Int) idn lk t).toNat := if_neg (by omega)
                have e3 : clPM (addT (chg σ (fndM σ ((sr : Nat) : Int) idn lk t).toNat t) (fndM σ ((sr : Nat) : Int) idn lk t).toNat sr) (fndM σ ((sr : Nat) : Int) idn lk t).toNat sr idn = (addT (chg σ (fndM σ ((sr : Nat) : Int) idn lk t).toNat t) (fndM σ ((sr : Nat) : Int) idn lk t).toNat sr) := if_neg (fun h => absurd h.2 (Int.not_lt.mpr c173))
                have e4 : clLM (addT (chg σ (fndM σ ((sr : Nat) : Int) idn lk t).toNat t) (fndM σ ((sr : Nat) : Int) idn lk t).toNat sr) (fndM σ ((sr : Nat) : Int) idn lk t).toNat lk = (addT (chg σ (fndM σ ((sr : Nat) : Int) idn lk t).toNat t) (fndM σ ((sr : Nat) : Int) idn lk t).toNat sr) := if_neg (fun h => absurd h.2 (Int.not_lt.mpr c227))
                unfold fetM; rw [e1, e2, e3, e4] <;> rfl) ⟨Nat.le_refl _, Nat.le_refl _⟩ hQ dX6_fetch_263
          · skip
            refine lv_aload_n hx hb dX6_fetch_230 rfl (lv_at hl 1 rfl) ?_
            refine gM_0_11 Z hP kf_X6_44 dX6_fetch_231 ?_
            refine lv_aload_n hx hb dX6_fetch_234 rfl (lv_at hl 1 rfl) ?_
            refine gM_0_30 Z hP kf_X6_102 dX6_fetch_235 ?_
            refine zr_top (w := .int (zI ((((addT (chg σ (fndM σ ((sr : Nat) : Int) idn lk t).toNat t) (fndM σ ((sr : Nat) : Int) idn lk t).toNat sr)).1 9 : Nat) : Int))) rfl ?_
            refine lv_iload_n hx hb dX6_fetch_238 rfl (lv_at hl 4 rfl) ?_
            refine stN (ws1 := wM G q (sA (addT (chg σ (fndM σ ((sr : Nat) : Int) idn lk t).toNat t) (fndM σ ((sr : Nat) : Int) idn lk t).toNat sr) 16 (va_up (((addT (chg σ (fndM σ ((sr : Nat) : Int) idn lk t).toNat t) (fndM σ ((sr : Nat) : Int) idn lk t).toNat sr)).2.1 16) (((addT (chg σ (fndM σ ((sr : Nat) : Int) idn lk t).toNat t) (fndM σ ((sr : Nat) : Int) idn lk t).toNat sr)).1 9) (lk.toNat))) ((0 : Int), κ.2.1, κ.2.2.1, κ.2.2.2)) Z hP hD hS 12 (((addT (chg σ (fndM σ ((sr : Nat) : Int) idn lk t).toNat t) (fndM σ ((sr : Nat) : Int) idn lk t).toNat sr)).2.1 16) rfl (((addT (chg σ (fndM σ ((sr : Nat) : Int) idn lk t).toNat t) (fndM σ ((sr : Nat) : Int) idn lk t).toNat sr)).1 9) rfl (by omega) (by decide) (lk.toNat) (by omega) rfl dX6_fetch_239 (fun H locs hP hD hS => ?_)
            refine lv_aload_n hx hb dX6_fetch_240 rfl (lv_at hl 1 rfl) ?_
            refine gM_0_12 Z hP kf_X6_47 dX6_fetch_241 ?_
            refine lv_aload_n hx hb dX6_fetch_244 rfl (lv_at hl 1 rfl) ?_
            refine gM_0_30 Z hP kf_X6_102 dX6_fetch_245 ?_
            refine zr_top (w := .int (zI ((((addT (chg σ (fndM σ ((sr : Nat) : Int) idn lk t).toNat t) (fndM σ ((sr : Nat) : Int) idn lk t).toNat sr)).1 9 : Nat) : Int))) rfl ?_
            refine lv_iload hx hb dX6_fetch_248 (lv_at hl 0 rfl) ?_
            refine stN (ws1 := wM G q (sA (sA (addT (chg σ (fndM σ ((sr : Nat) : Int) idn lk t).toNat t) (fndM σ ((sr : Nat) : Int) idn lk t).toNat sr) 16 (va_up (((addT (chg σ (fndM σ ((sr : Nat) : Int) idn lk t).toNat t) (fndM σ ((sr : Nat) : Int) idn lk t).toNat sr)).2.1 16) (((addT (chg σ (fndM σ ((sr : Nat) : Int) idn lk t).toNat t) (fndM σ ((sr : Nat) : Int) idn lk t).toNat sr)).1 9) (lk.toNat))) 17 (va_up (((addT (chg σ (fndM σ ((sr : Nat) : Int) idn lk t).toNat t) (fndM σ ((sr : Nat) : Int) idn lk t).toNat sr)).2.1 17) (((addT (chg σ (fndM σ ((sr : Nat) : Int) idn lk t).toNat t) (fndM σ ((sr : Nat) : Int) idn lk t).toNat sr)).1 9) ((fndM σ ((sr : Nat) : Int) idn lk t).toNat))) ((0 : Int), κ.2.1, κ.2.2.1, κ.2.2.2)) Z hP hD hS 13 (((addT (chg σ (fndM σ ((sr : Nat) : Int) idn lk t).toNat t) (fndM σ ((sr : Nat) : Int) idn lk t).toNat sr)).2.1 17) rfl (((addT (chg σ (fndM σ ((sr : Nat) : Int) idn lk t).toNat t) (fndM σ ((sr : Nat) : Int) idn lk t).toNat sr)).1 9) rfl (by omega) (by decide) ((fndM σ ((sr : Nat) : Int) idn lk t).toNat) (by omega) rfl dX6_fetch_250 (fun H locs hP hD hS => ?_)
            refine lv_aload_n hx hb dX6_fetch_251 rfl (lv_at hl 1 rfl) ?_
            refine lv_dup hx hb dX6_fetch_252 rfl ?_
            refine gM_0_30 Z hP kf_X6_102 dX6_fetch_253 ?_
            refine zr_top (w := .int (zI ((((addT (chg σ (fndM σ ((sr : Nat) : Int) idn lk t).toNat t) (fndM σ ((sr : Nat) : Int) idn lk t).toNat sr)).1 9 : Nat) : Int))) rfl ?_
            refine zr_iconst hx hb dX6_fetch_256 ?_
            refine zr_iadd hx hb dX6_fetch_257 ?_
            refine pM_0_30 Z hP hD hS ((((addT (chg σ (fndM σ ((sr : Nat) : Int) idn lk t).toNat t) (fndM σ ((sr : Nat) : Int) idn lk t).toNat sr)).1 9 + 1)) (by omega) kf_X6_102 dX6_fetch_258 (fun H locs hP hD hS => ?_)
            refine lv_iload hx hb dX6_fetch_261 (lv_at hl 0 rfl) ?_
            exact zret_I () Z hr hP hD hS (congrArg zI (by unfold fitM; rw [if_neg (by omega)]; omega)) (by
                have e1 : fst1M σ ((sr : Nat) : Int) idn lk t td = (chg σ (fndM σ ((sr : Nat) : Int) idn lk t).toNat t) := if_neg (by omega)
                have e2 : fitM σ ((sr : Nat) : Int) idn lk t = (fndM σ ((sr : Nat) : Int) idn lk t).toNat := if_neg (by omega)
                have e3 : clPM (addT (chg σ (fndM σ ((sr : Nat) : Int) idn lk t).toNat t) (fndM σ ((sr : Nat) : Int) idn lk t).toNat sr) (fndM σ ((sr : Nat) : Int) idn lk t).toNat sr idn = (addT (chg σ (fndM σ ((sr : Nat) : Int) idn lk t).toNat t) (fndM σ ((sr : Nat) : Int) idn lk t).toNat sr) := if_neg (fun h => absurd h.2 (Int.not_lt.mpr c173))
                have e4 : clLM (addT (chg σ (fndM σ ((sr : Nat) : Int) idn lk t).toNat t) (fndM σ ((sr : Nat) : Int) idn lk t).toNat sr) (fndM σ ((sr : Nat) : Int) idn lk t).toNat lk = (lkS (addT (chg σ (fndM σ ((sr : Nat) : Int) idn lk t).toNat t) (fndM σ ((sr : Nat) : Int) idn lk t).toNat sr) (fndM σ ((sr : Nat) : Int) idn lk t).toNat lk) := if_pos ⟨c219, c227⟩
                unfold fetM; rw [e1, e2, e3, e4] <;> rfl) ⟨Nat.le_refl _, Nat.le_refl _⟩ hQ dX6_fetch_263
      · skip
        refine lv_aload_n hx hb dX6_fetch_176 rfl (lv_at hl 1 rfl) ?_
        refine gM_0_8 Z hP kf_X6_35 dX6_fetch_177 ?_
        refine lv_aload_n hx hb dX6_fetch_180 rfl (lv_at hl 1 rfl) ?_
        refine gM_0_29 Z hP kf_X6_99 dX6_fetch_181 ?_
        refine zr_top (w := .int (zI ((((addT (chg σ (fndM σ ((sr : Nat) : Int) idn lk t).toNat t) (fndM σ ((sr : Nat) : Int) idn lk t).toNat sr)).1 8 : Nat) : Int))) rfl ?_
        refine lv_iload_n hx hb dX6_fetch_184 rfl (lv_at hl 2 rfl) ?_
        refine stN (ws1 := wM G q (sA (addT (chg σ (fndM σ ((sr : Nat) : Int) idn lk t).toNat t) (fndM σ ((sr : Nat) : Int) idn lk t).toNat sr) 13 (va_up (((addT (chg σ (fndM σ ((sr : Nat) : Int) idn lk t).toNat t) (fndM σ ((sr : Nat) : Int) idn lk t).toNat sr)).2.1 13) (((addT (chg σ (fndM σ ((sr : Nat) : Int) idn lk t).toNat t) (fndM σ ((sr : Nat) : Int) idn lk t).toNat sr)).1 8) (sr))) ((0 : Int), κ.2.1, κ.2.2.1, κ.2.2.2)) Z hP hD hS 9 (((addT (chg σ (fndM σ ((sr : Nat) : Int) idn lk t).toNat t) (fndM σ ((sr : Nat) : Int) idn lk t).toNat sr)).2.1 13) rfl (((addT (chg σ (fndM σ ((sr : Nat) : Int) idn lk t).toNat t) (fndM σ ((sr : Nat) : Int) idn lk t).toNat sr)).1 8) rfl (by omega) (by decide) (sr) rfl rfl dX6_fetch_185 (fun H locs hP hD hS => ?_)
        refine lv_aload_n hx hb dX6_fetch_186 rfl (lv_at hl 1 rfl) ?_
        refine gM_0_9 Z hP kf_X6_38 dX6_fetch_187 ?_
        refine lv_aload_n hx hb dX6_fetch_190 rfl (lv_at hl 1 rfl) ?_
        refine gM_0_29 Z hP kf_X6_99 dX6_fetch_191 ?_
        refine zr_top (w := .int (zI ((((addT (chg σ (fndM σ ((sr : Nat) : Int) idn lk t).toNat t) (fndM σ ((sr : Nat) : Int) idn lk t).toNat sr)).1 8 : Nat) : Int))) rfl ?_
        refine lv_iload_n hx hb dX6_fetch_194 rfl (lv_at hl 3 rfl) ?_
        refine stN (ws1 := wM G q (sA (sA (addT (chg σ (fndM σ ((sr : Nat) : Int) idn lk t).toNat t) (fndM σ ((sr : Nat) : Int) idn lk t).toNat sr) 13 (va_up (((addT (chg σ (fndM σ ((sr : Nat) : Int) idn lk t).toNat t) (fndM σ ((sr : Nat) : Int) idn lk t).toNat sr)).2.1 13) (((addT (chg σ (fndM σ ((sr : Nat) : Int) idn lk t).toNat t) (fndM σ ((sr : Nat) : Int) idn lk t).toNat sr)).1 8) (sr))) 14 (va_up (((addT (chg σ (fndM σ ((sr : Nat) : Int) idn lk t).toNat t) (fndM σ ((sr : Nat) : Int) idn lk t).toNat sr)).2.1 14) (((addT (chg σ (fndM σ ((sr : Nat) : Int) idn lk t).toNat t) (fndM σ ((sr : Nat) : Int) idn lk t).toNat sr)).1 8) (idn.toNat))) ((0 : Int), κ.2.1, κ.2.2.1, κ.2.2.2)) Z hP hD hS 10 (((addT (chg σ (fndM σ ((sr : Nat) : Int) idn lk t).toNat t) (fndM σ ((sr : Nat) : Int) idn lk t).toNat sr)).2.1 14) rfl (((addT (chg σ (fndM σ ((sr : Nat) : Int) idn lk t).toNat t) (fndM σ ((sr : Nat) : Int) idn lk t).toNat sr)).1 8) rfl (by omega) (by decide) (idn.toNat) (by omega) rfl dX6_fetch_195 (fun H locs hP hD hS => ?_)
        refine lv_aload_n hx hb dX6_fetch_196 rfl (lv_at hl 1 rfl) ?_
        refine gM_0_10 Z hP kf_X6_41 dX6_fetch_197 ?_
        refine lv_aload_n hx hb dX6_fetch_200 rfl (lv_at hl 1 rfl) ?_
        refine gM_0_29 Z hP kf_X6_99 dX6_fetch_201 ?_
        refine zr_top (w := .int (zI ((((addT (chg σ (fndM σ ((sr : Nat) : Int) idn lk t).toNat t) (fndM σ ((sr : Nat) : Int) idn lk t).toNat sr)).1 8 : Nat) : Int))) rfl ?_
        refine lv_iload hx hb dX6_fetch_204 (lv_at hl 0 rfl) ?_
        refine stN (ws1 := wM G q (sA (sA (sA (addT (chg σ (fndM σ ((sr : Nat) : Int) idn lk t).toNat t) (fndM σ ((sr : Nat) : Int) idn lk t).toNat sr) 13 (va_up (((addT (chg σ (fndM σ ((sr : Nat) : Int) idn lk t).toNat t) (fndM σ ((sr : Nat) : Int) idn lk t).toNat sr)).2.1 13) (((addT (chg σ (fndM σ ((sr : Nat) : Int) idn lk t).toNat t) (fndM σ ((sr : Nat) : Int) idn lk t).toNat sr)).1 8) (sr))) 14 (va_up (((addT (chg σ (fndM σ ((sr : Nat) : Int) idn lk t).toNat t) (fndM σ ((sr : Nat) : Int) idn lk t).toNat sr)).2.1 14) (((addT (chg σ (fndM σ ((sr : Nat) : Int) idn lk t).toNat t) (fndM σ ((sr : Nat) : Int) idn lk t).toNat sr)).1 8) (idn.toNat))) 15 (va_up (((addT (chg σ (fndM σ ((sr : Nat) : Int) idn lk t).toNat t) (fndM σ ((sr : Nat) : Int) idn lk t).toNat sr)).2.1 15) (((addT (chg σ (fndM σ ((sr : Nat) : Int) idn lk t).toNat t) (fndM σ ((sr : Nat) : Int) idn lk t).toNat sr)).1 8) ((fndM σ ((sr : Nat) : Int) idn lk t).toNat))) ((0 : Int), κ.2.1, κ.2.2.1, κ.2.2.2)) Z hP hD hS 11 (((addT (chg σ (fndM σ ((sr : Nat) : Int) idn lk t).toNat t) (fndM σ ((sr : Nat) : Int) idn lk t).toNat sr)).2.1 15) rfl (((addT (chg σ (fndM σ ((sr : Nat) : Int) idn lk t).toNat t) (fndM σ ((sr : Nat) : Int) idn lk t).toNat sr)).1 8) rfl (by omega) (by decide) ((fndM σ ((sr : Nat) : Int) idn lk t).toNat) (by omega) rfl dX6_fetch_206 (fun H locs hP hD hS => ?_)
        refine lv_aload_n hx hb dX6_fetch_207 rfl (lv_at hl 1 rfl) ?_
        refine lv_dup hx hb dX6_fetch_208 rfl ?_
        refine gM_0_29 Z hP kf_X6_99 dX6_fetch_209 ?_
        refine zr_top (w := .int (zI ((((addT (chg σ (fndM σ ((sr : Nat) : Int) idn lk t).toNat t) (fndM σ ((sr : Nat) : Int) idn lk t).toNat sr)).1 8 : Nat) : Int))) rfl ?_
        refine zr_iconst hx hb dX6_fetch_212 ?_
        refine zr_iadd hx hb dX6_fetch_213 ?_
        refine pM_0_29 Z hP hD hS ((((addT (chg σ (fndM σ ((sr : Nat) : Int) idn lk t).toNat t) (fndM σ ((sr : Nat) : Int) idn lk t).toNat sr)).1 8 + 1)) (by omega) kf_X6_99 dX6_fetch_214 (fun H locs hP hD hS => ?_)
        have hP : va_P G.1 vwCl (wM G q (prS (addT (chg σ (fndM σ ((sr : Nat) : Int) idn lk t).toNat t) (fndM σ ((sr : Nat) : Int) idn lk t).toNat sr) (fndM σ ((sr : Nat) : Int) idn lk t).toNat sr idn) ((0 : Int), κ.2.1, κ.2.2.1, κ.2.2.2)) H := hP
        have hD : va_D A (wM G q (prS (addT (chg σ (fndM σ ((sr : Nat) : Int) idn lk t).toNat t) (fndM σ ((sr : Nat) : Int) idn lk t).toNat sr) (fndM σ ((sr : Nat) : Int) idn lk t).toNat sr idn) ((0 : Int), κ.2.1, κ.2.2.1, κ.2.2.2)) := hD
        have hok2 : okM (prS (addT (chg σ (fndM σ ((sr : Nat) : Int) idn lk t).toNat t) (fndM σ ((sr : Nat) : Int) idn lk t).toNat sr) (fndM σ ((sr : Nat) : Int) idn lk t).toNat sr idn) := (okM_prS hok hN4 (by omega) (by omega) (by omega))
        have hM9 : (prS (addT (chg σ (fndM σ ((sr : Nat) : Int) idn lk t).toNat t) (fndM σ ((sr : Nat) : Int) idn lk t).toNat sr) (fndM σ ((sr : Nat) : Int) idn lk t).toNat sr idn).1 9 = σ.1 9 := hN9
        have hq8 := lkt_in hok2 lk
        have hq6 := hok2.1
        refine lv_iload_n hx hb dX6_fetch_217 rfl (lv_at hl 4 rfl) ?_
        refine zr_iconst hx hb dX6_fetch_218 ?_
        refine zc_eq (tgt := 261) hx hb (lk : Int) (-1 : Int) (zI_toInt (by omega)) (zI_toInt (by decide)) dX6_fetch_219 (by decide) (fun c219 => ?_) (fun c219 => ?_)
        · skip
          refine lv_iload hx hb dX6_fetch_261 (lv_at hl 0 rfl) ?_
          exact zret_I () Z hr hP hD hS (congrArg zI (by unfold fitM; rw [if_neg (by omega)]; omega)) (by
              have e1 : fst1M σ ((sr : Nat) : Int) idn lk t td = (chg σ (fndM σ ((sr : Nat) : Int) idn lk t).toNat t) := if_neg (by omega)
              have e2 : fitM σ ((sr : Nat) : Int) idn lk t = (fndM σ ((sr : Nat) : Int) idn lk t).toNat := if_neg (by omega)
              have e3 : clPM (addT (chg σ (fndM σ ((sr : Nat) : Int) idn lk t).toNat t) (fndM σ ((sr : Nat) : Int) idn lk t).toNat sr) (fndM σ ((sr : Nat) : Int) idn lk t).toNat sr idn = (prS (addT (chg σ (fndM σ ((sr : Nat) : Int) idn lk t).toNat t) (fndM σ ((sr : Nat) : Int) idn lk t).toNat sr) (fndM σ ((sr : Nat) : Int) idn lk t).toNat sr idn) := if_pos ⟨c164, c173⟩
              have e4 : clLM (prS (addT (chg σ (fndM σ ((sr : Nat) : Int) idn lk t).toNat t) (fndM σ ((sr : Nat) : Int) idn lk t).toNat sr) (fndM σ ((sr : Nat) : Int) idn lk t).toNat sr idn) (fndM σ ((sr : Nat) : Int) idn lk t).toNat lk = (prS (addT (chg σ (fndM σ ((sr : Nat) : Int) idn lk t).toNat t) (fndM σ ((sr : Nat) : Int) idn lk t).toNat sr) (fndM σ ((sr : Nat) : Int) idn lk t).toNat sr idn) := if_neg (fun h => h.1 c219)
              unfold fetM; rw [e1, e2, e3, e4] <;> rfl) ⟨Nat.le_refl _, Nat.le_refl _⟩ hQ dX6_fetch_263
        · skip
          refine lv_aload_n hx hb dX6_fetch_222 rfl (lv_at hl 1 rfl) ?_
          refine lv_iload_n hx hb dX6_fetch_223 rfl (lv_at hl 4 rfl) ?_
          refine zdet_I ⟨rfl, rfl⟩ Z hD hS (zrunV (rest := []) Z hP hD hS hl.1 (m_X6_linkAt l G q (prS (addT (chg σ (fndM σ ((sr : Nat) : Int) idn lk t).toNat t) (fndM σ ((sr : Nat) : Int) idn lk t).toNat sr) (fndM σ ((sr : Nat) : Int) idn lk t).toNat sr idn) ((0 : Int), κ.2.1, κ.2.2.1, κ.2.2.2) (lk : Int) hok2 (by omega)) zY_X6_linkAt km_X6_153 (q0 := 0) rfl rfl rfl rfl ⟨⟨Nat.le_of_ble_eq_true rfl, Nat.le_of_ble_eq_true rfl⟩, Nat.le_of_ble_eq_true rfl, Nat.le_of_ble_eq_true rfl⟩ (Nat.le_of_ble_eq_true rfl) dX6_fetch_224) (fun H locs hP hD hS => ?_)
          refine zr_top (w := .int (zI (lkt ((prS (addT (chg σ (fndM σ ((sr : Nat) : Int) idn lk t).toNat t) (fndM σ ((sr : Nat) : Int) idn lk t).toNat sr) (fndM σ ((sr : Nat) : Int) idn lk t).toNat sr idn)) (lk : Int) : Int))) rfl ?_
          refine zc0_ge (tgt := 261) hx hb (lkt ((prS (addT (chg σ (fndM σ ((sr : Nat) : Int) idn lk t).toNat t) (fndM σ ((sr : Nat) : Int) idn lk t).toNat sr) (fndM σ ((sr : Nat) : Int) idn lk t).toNat sr idn)) (lk : Int) : Int) (zI_toInt (by omega)) dX6_fetch_227 (by decide) (fun c227 => ?_) (fun c227 => ?_)
          · skip
            refine lv_iload hx hb dX6_fetch_261 (lv_at hl 0 rfl) ?_
            exact zret_I () Z hr hP hD hS (congrArg zI (by unfold fitM; rw [if_neg (by omega)]; omega)) (by
                have e1 : fst1M σ ((sr : Nat) : Int) idn lk t td = (chg σ (fndM σ ((sr : Nat) : Int) idn lk t).toNat t) := if_neg (by omega)
                have e2 : fitM σ ((sr : Nat) : Int) idn lk t = (fndM σ ((sr : Nat) : Int) idn lk t).toNat := if_neg (by omega)
                have e3 : clPM (addT (chg σ (fndM σ ((sr : Nat) : Int) idn lk t).toNat t) (fndM σ ((sr : Nat) : Int) idn lk t).toNat sr) (fndM σ ((sr : Nat) : Int) idn lk t).toNat sr idn = (prS (addT (chg σ (fndM σ ((sr : Nat) : Int) idn lk t).toNat t) (fndM σ ((sr : Nat) : Int) idn lk t).toNat sr) (fndM σ ((sr : Nat) : Int) idn lk t).toNat sr idn) := if_pos ⟨c164, c173⟩
                have e4 : clLM (prS (addT (chg σ (fndM σ ((sr : Nat) : Int) idn lk t).toNat t) (fndM σ ((sr : Nat) : Int) idn lk t).toNat sr) (fndM σ ((sr : Nat) : Int) idn lk t).toNat sr idn) (fndM σ ((sr : Nat) : Int) idn lk t).toNat lk = (prS (addT (chg σ (fndM σ ((sr : Nat) : Int) idn lk t).toNat t) (fndM σ ((sr : Nat) : Int) idn lk t).toNat sr) (fndM σ ((sr : Nat) : Int) idn lk t).toNat sr idn) := if_neg (fun h => absurd h.2 (Int.not_lt.mpr c227))
                unfold fetM; rw [e1, e2, e3, e4] <;> rfl) ⟨Nat.le_refl _, Nat.le_refl _⟩ hQ dX6_fetch_263
          · skip
            refine lv_aload_n hx hb dX6_fetch_230 rfl (lv_at hl 1 rfl) ?_
            refine gM_0_11 Z hP kf_X6_44 dX6_fetch_231 ?_
            refine lv_aload_n hx hb dX6_fetch_234 rfl (lv_at hl 1 rfl) ?_
            refine gM_0_30 Z hP kf_X6_102 dX6_fetch_235 ?_
            refine zr_top (w := .int (zI ((((prS (addT (chg σ (fndM σ ((sr : Nat) : Int) idn lk t).toNat t) (fndM σ ((sr : Nat) : Int) idn lk t).toNat sr) (fndM σ ((sr : Nat) : Int) idn lk t).toNat sr idn)).1 9 : Nat) : Int))) rfl ?_
            refine lv_iload_n hx hb dX6_fetch_238 rfl (lv_at hl 4 rfl) ?_
            refine stN (ws1 := wM G q (sA (prS (addT (chg σ (fndM σ ((sr : Nat) : Int) idn lk t).toNat t) (fndM σ ((sr : Nat) : Int) idn lk t).toNat sr) (fndM σ ((sr : Nat) : Int) idn lk t).toNat sr idn) 16 (va_up (((prS (addT (chg σ (fndM σ ((sr : Nat) : Int) idn lk t).toNat t) (fndM σ ((sr : Nat) : Int) idn lk t).toNat sr) (fndM σ ((sr : Nat) : Int) idn lk t).toNat sr idn)).2.1 16) (((prS (addT (chg σ (fndM σ ((sr : Nat) : Int) idn lk t).toNat t) (fndM σ ((sr : Nat) : Int) idn lk t).toNat sr) (fndM σ ((sr : Nat) : Int) idn lk t).toNat sr idn)).1 9) (lk.toNat))) ((0 : Int), κ.2.1, κ.2.2.1, κ.2.2.2)) Z hP hD hS 12 (((prS (addT (chg σ (fndM σ ((sr : Nat) : Int) idn lk t).toNat t) (fndM σ ((sr : Nat) : Int) idn lk t).toNat sr) (fndM σ ((sr : Nat) : Int) idn lk t).toNat sr idn)).2.1 16) rfl (((prS (addT (chg σ (fndM σ ((sr : Nat) : Int) idn lk t).toNat t) (fndM σ ((sr : Nat) : Int) idn lk t).toNat sr) (fndM σ ((sr : Nat) : Int) idn lk t).toNat sr idn)).1 9) rfl (by omega) (by decide) (lk.toNat) (by omega) rfl dX6_fetch_239 (fun H locs hP hD hS => ?_)
            refine lv_aload_n hx hb dX6_fetch_240 rfl (lv_at hl 1 rfl) ?_
            refine gM_0_12 Z hP kf_X6_47 dX6_fetch_241 ?_
            refine lv_aload_n hx hb dX6_fetch_244 rfl (lv_at hl 1 rfl) ?_
            refine gM_0_30 Z hP kf_X6_102 dX6_fetch_245 ?_
            refine zr_top (w := .int (zI ((((prS (addT (chg σ (fndM σ ((sr : Nat) : Int) idn lk t).toNat t) (fndM σ ((sr : Nat) : Int) idn lk t).toNat sr) (fndM σ ((sr : Nat) : Int) idn lk t).toNat sr idn)).1 9 : Nat) : Int))) rfl ?_
            refine lv_iload hx hb dX6_fetch_248 (lv_at hl 0 rfl) ?_
            refine stN (ws1 := wM G q (sA (sA (prS (addT (chg σ (fndM σ ((sr : Nat) : Int) idn lk t).toNat t) (fndM σ ((sr : Nat) : Int) idn lk t).toNat sr) (fndM σ ((sr : Nat) : Int) idn lk t).toNat sr idn) 16 (va_up (((prS (addT (chg σ (fndM σ ((sr : Nat) : Int) idn lk t).toNat t) (fndM σ ((sr : Nat) : Int) idn lk t).toNat sr) (fndM σ ((sr : Nat) : Int) idn lk t).toNat sr idn)).2.1 16) (((prS (addT (chg σ (fndM σ ((sr : Nat) : Int) idn lk t).toNat t) (fndM σ ((sr : Nat) : Int) idn lk t).toNat sr) (fndM σ ((sr : Nat) : Int) idn lk t).toNat sr idn)).1 9) (lk.toNat))) 17 (va_up (((prS (addT (chg σ (fndM σ ((sr : Nat) : Int) idn lk t).toNat t) (fndM σ ((sr : Nat) : Int) idn lk t).toNat sr) (fndM σ ((sr : Nat) : Int) idn lk t).toNat sr idn)).2.1 17) (((prS (addT (chg σ (fndM σ ((sr : Nat) : Int) idn lk t).toNat t) (fndM σ ((sr : Nat) : Int) idn lk t).toNat sr) (fndM σ ((sr : Nat) : Int) idn lk t).toNat sr idn)).1 9) ((fndM σ ((sr : Nat) : Int) idn lk t).toNat))) ((0 : Int), κ.2.1, κ.2.2.1, κ.2.2.2)) Z hP hD hS 13 (((prS (addT (chg σ (fndM σ ((sr : Nat) : Int) idn lk t).toNat t) (fndM σ ((sr : Nat) : Int) idn lk t).toNat sr) (fndM σ ((sr : Nat) : Int) idn lk t).toNat sr idn)).2.1 17) rfl (((prS (addT (chg σ (fndM σ ((sr : Nat) : Int) idn lk t).toNat t) (fndM σ ((sr : Nat) : Int) idn lk t).toNat sr) (fndM σ ((sr : Nat) : Int) idn lk t).toNat sr idn)).1 9) rfl (by omega) (by decide) ((fndM σ ((sr : Nat) : Int) idn lk t).toNat) (by omega) rfl dX6_fetch_250 (fun H locs hP hD hS => ?_)
            refine lv_aload_n hx hb dX6_fetch_251 rfl (lv_at hl 1 rfl) ?_
            refine lv_dup hx hb dX6_fetch_252 rfl ?_
            refine gM_0_30 Z hP kf_X6_102 dX6_fetch_253 ?_
            refine zr_top (w := .int (zI ((((prS (addT (chg σ (fndM σ ((sr : Nat) : Int) idn lk t).toNat t) (fndM σ ((sr : Nat) : Int) idn lk t).toNat sr) (fndM σ ((sr : Nat) : Int) idn lk t).toNat sr idn)).1 9 : Nat) : Int))) rfl ?_
            refine zr_iconst hx hb dX6_fetch_256 ?_
            refine zr_iadd hx hb dX6_fetch_257 ?_
            refine pM_0_30 Z hP hD hS ((((prS (addT (chg σ (fndM σ ((sr : Nat) : Int) idn lk t).toNat t) (fndM σ ((sr : Nat) : Int) idn lk t).toNat sr) (fndM σ ((sr : Nat) : Int) idn lk t).toNat sr idn)).1 9 + 1)) (by omega) kf_X6_102 dX6_fetch_258 (fun H locs hP hD hS => ?_)
            refine lv_iload hx hb dX6_fetch_261 (lv_at hl 0 rfl) ?_
            exact zret_I () Z hr hP hD hS (congrArg zI (by unfold fitM; rw [if_neg (by omega)]; omega)) (by
                have e1 : fst1M σ ((sr : Nat) : Int) idn lk t td = (chg σ (fndM σ ((sr : Nat) : Int) idn lk t).toNat t) := if_neg (by omega)
                have e2 : fitM σ ((sr : Nat) : Int) idn lk t = (fndM σ ((sr : Nat) : Int) idn lk t).toNat := if_neg (by omega)
                have e3 : clPM (addT (chg σ (fndM σ ((sr : Nat) : Int) idn lk t).toNat t) (fndM σ ((sr : Nat) : Int) idn lk t).toNat sr) (fndM σ ((sr : Nat) : Int) idn lk t).toNat sr idn = (prS (addT (chg σ (fndM σ ((sr : Nat) : Int) idn lk t).toNat t) (fndM σ ((sr : Nat) : Int) idn lk t).toNat sr) (fndM σ ((sr : Nat) : Int) idn lk t).toNat sr idn) := if_pos ⟨c164, c173⟩
                have e4 : clLM (prS (addT (chg σ (fndM σ ((sr : Nat) : Int) idn lk t).toNat t) (fndM σ ((sr : Nat) : Int) idn lk t).toNat sr) (fndM σ ((sr : Nat) : Int) idn lk t).toNat sr idn) (fndM σ ((sr : Nat) : Int) idn lk t).toNat lk = (lkS (prS (addT (chg σ (fndM σ ((sr : Nat) : Int) idn lk t).toNat t) (fndM σ ((sr : Nat) : Int) idn lk t).toNat sr) (fndM σ ((sr : Nat) : Int) idn lk t).toNat sr idn) (fndM σ ((sr : Nat) : Int) idn lk t).toNat lk) := if_pos ⟨c219, c227⟩
                unfold fetM; rw [e1, e2, e3, e4] <;> rfl) ⟨Nat.le_refl _, Nat.le_refl _⟩ hQ dX6_fetch_263
  · skip
    refine lv_aload_n hx hb dX6_fetch_93 rfl (lv_at hl 1 rfl) ?_
    refine gM_0_28 Z hP kf_X6_96 dX6_fetch_94 ?_
    refine zr_top (w := .int (zI ((σ.1 4 : Nat) : Int))) rfl ?_
    refine zr_bipush hx hb dX6_fetch_97 (by decide) ?_
    refine zc_ne (tgt := 106) hx hb ((σ.1 4 : Nat) : Int) (30 : Int) (zI_toInt (by omega)) (zI_toInt (by decide)) dX6_fetch_99 (by decide) (fun c99 => ?_) (fun c99 => by exfalso; omega)
    refine zr_iconst hx hb dX6_fetch_106 ?_
    refine pM_0_23 Z hP hD hS kf_X6_80 dX6_fetch_107 (fun H locs hP hD hS => ?_)
    refine lv_aload_n hx hb dX6_fetch_110 rfl (lv_at hl 1 rfl) ?_
    refine gM_0_23 Z hP kf_X6_80 dX6_fetch_111 ?_
    refine zr_top (w := .int (zI (0 : Int))) rfl ?_
    refine zc0_le (tgt := 119) hx hb (0 : Int) (zI_toInt (by decide)) dX6_fetch_114 (by decide) (fun c114 => ?_) (fun c114 => by exfalso; omega)
    refine lv_iload hx hb dX6_fetch_119 (lv_at hl 0 rfl) ?_
    refine zc0_ge (tgt := 141) hx hb (fndM σ ((sr : Nat) : Int) (idn : Int) (lk : Int) (t) : Int) (zI_toInt (by omega)) dX6_fetch_121 (by decide) (fun c121 => by exfalso; omega) (fun c121 => ?_)
    refine lv_aload_n hx hb dX6_fetch_124 rfl (lv_at hl 1 rfl) ?_
    refine gM_0_28 Z hP kf_X6_96 dX6_fetch_125 ?_
    refine zr_top (w := .int (zI ((σ.1 4 : Nat) : Int))) rfl ?_
    refine lv_istore (lv' := [(7, .int (zI ((σ.1 4 : Nat) : Int))), (0, .ref (q 0)), (1, .int (zI ((sr : Nat) : Int))), (2, .int (zI (idn : Int))), (3, .int (zI (lk : Int))), (4, .long (t)), (6, .int (zI (td : Int)))]) hx hb dX6_fetch_128 hl (by decide) rfl (fun ls hl => ?_)
    refine lv_aload_n hx hb dX6_fetch_130 rfl (lv_at hl 1 rfl) ?_
    refine lv_lload hx hb dX6_fetch_131 (lv_at hl 5 rfl) ?_
    refine lv_iload hx hb dX6_fetch_133 (lv_at hl 6 rfl) ?_
    refine zdet_V ⟨rfl, rfl⟩ Z hD hS (zrunV (rest := []) Z hP hD hS hl.1 (m_X6_adds l G q σ ((0 : Int), κ.2.1, κ.2.2.1, κ.2.2.2) (t) (td : Int) hI (by omega) (by omega) h4.1) zY_X6_adds km_X6_163 (q0 := 0) rfl rfl rfl rfl ⟨⟨Nat.le_of_ble_eq_true rfl, Nat.le_of_ble_eq_true rfl⟩, Nat.le_of_ble_eq_true rfl, Nat.le_of_ble_eq_true rfl⟩ (Nat.le_of_ble_eq_true rfl) dX6_fetch_135) (fun H locs hP hD hS => ?_)
    refine lv_goto (tgt := 149) hx hb dX6_fetch_138 (by decide) ?_
    refine lv_aload_n hx hb dX6_fetch_149 rfl (lv_at hl 1 rfl) ?_
    refine gM_0_5 Z hP kf_X6_26 dX6_fetch_150 ?_
    refine lv_iload hx hb dX6_fetch_153 (lv_at hl 0 rfl) ?_
    refine lv_dup2_11 hx hb dX6_fetch_155 rfl rfl ?_
    refine ldI Z hP 6 (((adS σ (t) (td : Int))).2.2.1 0) rfl (σ.1 4) rfl (by omega) (by decide) dX6_fetch_156 ?_
    refine zr_iconst hx hb dX6_fetch_157 ?_
    refine lv_iload_n hx hb dX6_fetch_158 rfl (lv_at hl 2 rfl) ?_
    refine lv_ishl hx hb dX6_fetch_159 ?_
    refine lv_ior hx hb dX6_fetch_160 ?_
    refine stI (ws1 := wM G q (sI (adS σ (t) (td : Int)) 0 (va_up (((adS σ (t) (td : Int))).2.2.1 0) (σ.1 4) (((((adS σ (t) (td : Int))).2.2.1 0) (σ.1 4)) ||| (zI (1 : Int) <<< (zI ((sr : Nat) : Int) &&& 31))))) ((0 : Int), κ.2.1, κ.2.2.1, κ.2.2.2)) Z hP hD hS 6 (((adS σ (t) (td : Int))).2.2.1 0) rfl (σ.1 4) rfl (by omega) (by decide) rfl dX6_fetch_161 (fun H locs hP hD hS => ?_)
    have hP : va_P G.1 vwCl (wM G q (addT (adS σ t td) (σ.1 4) sr) ((0 : Int), κ.2.1, κ.2.2.1, κ.2.2.2)) H := hP
    have hD : va_D A (wM G q (addT (adS σ t td) (σ.1 4) sr) ((0 : Int), κ.2.1, κ.2.2.1, κ.2.2.2)) := hD
    have hok : okM (addT (adS σ t td) (σ.1 4) sr) := okM_addT (okM_adS hI td (by omega) h5 h4.2) (σ.1 4) sr
    have hN8 : (addT (adS σ t td) (σ.1 4) sr).1 8 = σ.1 8 := rfl
    have hN9 : (addT (adS σ t td) (σ.1 4) sr).1 9 = σ.1 9 := rfl
    have hN4 : (σ.1 4) < (addT (adS σ t td) (σ.1 4) sr).1 4 := (by show σ.1 4 < σ.1 4 + 1; omega)
    have hq9 := pat_in hok ((sr : Nat) : Int) idn
    have hq7 := hok.1
    refine lv_iload_n hx hb dX6_fetch_162 rfl (lv_at hl 3 rfl) ?_
    refine zr_iconst hx hb dX6_fetch_163 ?_
    refine zc_eq (tgt := 217) hx hb (idn : Int) (-1 : Int) (zI_toInt (by omega)) (zI_toInt (by decide)) dX6_fetch_164 (by decide) (fun c164 => ?_) (fun c164 => ?_)
    · skip
      have hP : va_P G.1 vwCl (wM G q (addT (adS σ t td) (σ.1 4) sr) ((0 : Int), κ.2.1, κ.2.2.1, κ.2.2.2)) H := hP
      have hD : va_D A (wM G q (addT (adS σ t td) (σ.1 4) sr) ((0 : Int), κ.2.1, κ.2.2.1, κ.2.2.2)) := hD
      have hok2 : okM (addT (adS σ t td) (σ.1 4) sr) := hok
      have hM9 : (addT (adS σ t td) (σ.1 4) sr).1 9 = σ.1 9 := hN9
      have hq8 := lkt_in hok2 lk
      have hq6 := hok2.1
      refine lv_iload_n hx hb dX6_fetch_217 rfl (lv_at hl 4 rfl) ?_
      refine zr_iconst hx hb dX6_fetch_218 ?_
      refine zc_eq (tgt := 261) hx hb (lk : Int) (-1 : Int) (zI_toInt (by omega)) (zI_toInt (by decide)) dX6_fetch_219 (by decide) (fun c219 => ?_) (fun c219 => ?_)
      · skip
        refine lv_iload hx hb dX6_fetch_261 (lv_at hl 0 rfl) ?_
        exact zret_I () Z hr hP hD hS (congrArg zI (by unfold fitM; rw [if_pos (by omega)])) (by
            have e1 : fst1M σ ((sr : Nat) : Int) idn lk t td = (adS σ t td) := if_pos (by omega)
            have e2 : fitM σ ((sr : Nat) : Int) idn lk t = (σ.1 4) := if_pos (by omega)
            have e3 : clPM (addT (adS σ t td) (σ.1 4) sr) (σ.1 4) sr idn = (addT (adS σ t td) (σ.1 4) sr) := if_neg (fun h => h.1 c164)
            have e4 : clLM (addT (adS σ t td) (σ.1 4) sr) (σ.1 4) lk = (addT (adS σ t td) (σ.1 4) sr) := if_neg (fun h => h.1 c219)
            unfold fetM; rw [e1, e2, e3, e4] <;> rfl) ⟨Nat.le_refl _, Nat.le_refl _⟩ hQ dX6_fetch_263
      · skip
        refine lv_aload_n hx hb dX6_fetch_222 rfl (lv_at hl 1 rfl) ?_
        refine lv_iload_n hx hb dX6_fetch_223 rfl (lv_at hl 4 rfl) ?_
        refine zdet_I ⟨rfl, rfl⟩ Z hD hS (zrunV (rest := []) Z hP hD hS hl.1 (m_X6_linkAt l G q (addT (adS σ t td) (σ.1 4) sr) ((0 : Int), κ.2.1, κ.2.2.1, κ.2.2.2) (lk : Int) hok2 (by omega)) zY_X6_linkAt km_X6_153 (q0 := 0) rfl rfl rfl rfl ⟨⟨Nat.le_of_ble_eq_true rfl, Nat.le_of_ble_eq_true rfl⟩, Nat.le_of_ble_eq_true rfl, Nat.le_of_ble_eq_true rfl⟩ (Nat.le_of_ble_eq_true rfl) dX6_fetch_224) (fun H locs hP hD hS => ?_)
        refine zr_top (w := .int (zI (lkt ((addT (adS σ t td) (σ.1 4) sr)) (lk : Int) : Int))) rfl ?_
        refine zc0_ge (tgt := 261) hx hb (lkt ((addT (adS σ t td) (σ.1 4) sr)) (lk : Int) : Int) (zI_toInt (by omega)) dX6_fetch_227 (by decide) (fun c227 => ?_) (fun c227 => ?_)
        · skip
          refine lv_iload hx hb dX6_fetch_261 (lv_at hl 0 rfl) ?_
          exact zret_I () Z hr hP hD hS (congrArg zI (by unfold fitM; rw [if_pos (by omega)])) (by
              have e1 : fst1M σ ((sr : Nat) : Int) idn lk t td = (adS σ t td) := if_pos (by omega)
              have e2 : fitM σ ((sr : Nat) : Int) idn lk t = (σ.1 4) := if_pos (by omega)
              have e3 : clPM (addT (adS σ t td) (σ.1 4) sr) (σ.1 4) sr idn = (addT (adS σ t td) (σ.1 4) sr) := if_neg (fun h => h.1 c164)
              have e4 : clLM (addT (adS σ t td) (σ.1 4) sr) (σ.1 4) lk = (addT (adS σ t td) (σ.1 4) sr) := if_neg (fun h => absurd h.2 (Int.not_lt.mpr c227))
              unfold fetM; rw [e1, e2, e3, e4] <;> rfl) ⟨Nat.le_refl _, Nat.le_refl _⟩ hQ dX6_fetch_263
        · skip
          refine lv_aload_n hx hb dX6_fetch_230 rfl (lv_at hl 1 rfl) ?_
          refine gM_0_11 Z hP kf_X6_44 dX6_fetch_231 ?_
          refine lv_aload_n hx hb dX6_fetch_234 rfl (lv_at hl 1 rfl) ?_
          refine gM_0_30 Z hP kf_X6_102 dX6_fetch_235 ?_
          refine zr_top (w := .int (zI ((((addT (adS σ t td) (σ.1 4) sr)).1 9 : Nat) : Int))) rfl ?_
          refine lv_iload_n hx hb dX6_fetch_238 rfl (lv_at hl 4 rfl) ?_
          refine stN (ws1 := wM G q (sA (addT (adS σ t td) (σ.1 4) sr) 16 (va_up (((addT (adS σ t td) (σ.1 4) sr)).2.1 16) (((addT (adS σ t td) (σ.1 4) sr)).1 9) (lk.toNat))) ((0 : Int), κ.2.1, κ.2.2.1, κ.2.2.2)) Z hP hD hS 12 (((addT (adS σ t td) (σ.1 4) sr)).2.1 16) rfl (((addT (adS σ t td) (σ.1 4) sr)).1 9) rfl (by omega) (by decide) (lk.toNat) (by omega) rfl dX6_fetch_239 (fun H locs hP hD hS => ?_)
          refine lv_aload_n hx hb dX6_fetch_240 rfl (lv_at hl 1 rfl) ?_
          refine gM_0_12 Z hP kf_X6_47 dX6_fetch_241 ?_
          refine lv_aload_n hx hb dX6_fetch_244 rfl (lv_at hl 1 rfl) ?_
          refine gM_0_30 Z hP kf_X6_102 dX6_fetch_245 ?_
          refine zr_top (w := .int (zI ((((addT (adS σ t td) (σ.1 4) sr)).1 9 : Nat) : Int))) rfl ?_
          refine lv_iload hx hb dX6_fetch_248 (lv_at hl 0 rfl) ?_
          refine stN (ws1 := wM G q (sA (sA (addT (adS σ t td) (σ.1 4) sr) 16 (va_up (((addT (adS σ t td) (σ.1 4) sr)).2.1 16) (((addT (adS σ t td) (σ.1 4) sr)).1 9) (lk.toNat))) 17 (va_up (((addT (adS σ t td) (σ.1 4) sr)).2.1 17) (((addT (adS σ t td) (σ.1 4) sr)).1 9) (σ.1 4))) ((0 : Int), κ.2.1, κ.2.2.1, κ.2.2.2)) Z hP hD hS 13 (((addT (adS σ t td) (σ.1 4) sr)).2.1 17) rfl (((addT (adS σ t td) (σ.1 4) sr)).1 9) rfl (by omega) (by decide) (σ.1 4) rfl rfl dX6_fetch_250 (fun H locs hP hD hS => ?_)
          refine lv_aload_n hx hb dX6_fetch_251 rfl (lv_at hl 1 rfl) ?_
          refine lv_dup hx hb dX6_fetch_252 rfl ?_
          refine gM_0_30 Z hP kf_X6_102 dX6_fetch_253 ?_
          refine zr_top (w := .int (zI ((((addT (adS σ t td) (σ.1 4) sr)).1 9 : Nat) : Int))) rfl ?_
          refine zr_iconst hx hb dX6_fetch_256 ?_
          refine zr_iadd hx hb dX6_fetch_257 ?_
          refine pM_0_30 Z hP hD hS ((((addT (adS σ t td) (σ.1 4) sr)).1 9 + 1)) (by omega) kf_X6_102 dX6_fetch_258 (fun H locs hP hD hS => ?_)
          refine lv_iload hx hb dX6_fetch_261 (lv_at hl 0 rfl) ?_
          exact zret_I () Z hr hP hD hS (congrArg zI (by unfold fitM; rw [if_pos (by omega)])) (by
              have e1 : fst1M σ ((sr : Nat) : Int) idn lk t td = (adS σ t td) := if_pos (by omega)
              have e2 : fitM σ ((sr : Nat) : Int) idn lk t = (σ.1 4) := if_pos (by omega)
              have e3 : clPM (addT (adS σ t td) (σ.1 4) sr) (σ.1 4) sr idn = (addT (adS σ t td) (σ.1 4) sr) := if_neg (fun h => h.1 c164)
              have e4 : clLM (addT (adS σ t td) (σ.1 4) sr) (σ.1 4) lk = (lkS (addT (adS σ t td) (σ.1 4) sr) (σ.1 4) lk) := if_pos ⟨c219, c227⟩
              unfold fetM; rw [e1, e2, e3, e4] <;> rfl) ⟨Nat.le_refl _, Nat.le_refl _⟩ hQ dX6_fetch_263
    · skip
      refine lv_aload_n hx hb dX6_fetch_167 rfl (lv_at hl 1 rfl) ?_
      refine lv_iload_n hx hb dX6_fetch_168 rfl (lv_at hl 2 rfl) ?_
      refine lv_iload_n hx hb dX6_fetch_169 rfl (lv_at hl 3 rfl) ?_
      refine zdet_I ⟨rfl, rfl⟩ Z hD hS (zrunV (rest := []) Z hP hD hS hl.1 (m_X6_pairAt l G q (addT (adS σ t td) (σ.1 4) sr) ((0 : Int), κ.2.1, κ.2.2.1, κ.2.2.2) ((sr : Nat) : Int) (idn : Int) hok (by omega) (by omega)) zY_X6_pairAt km_X6_149 (q0 := 0) rfl rfl rfl rfl ⟨⟨Nat.le_of_ble_eq_true rfl, Nat.le_of_ble_eq_true rfl⟩, Nat.le_of_ble_eq_true rfl, Nat.le_of_ble_eq_true rfl⟩ (Nat.le_of_ble_eq_true rfl) dX6_fetch_170) (fun H locs hP hD hS => ?_)
      refine zr_top (w := .int (zI (pat ((addT (adS σ t td) (σ.1 4) sr)) ((sr : Nat) : Int) (idn : Int) : Int))) rfl ?_
      refine zc0_ge (tgt := 217) hx hb (pat ((addT (adS σ t td) (σ.1 4) sr)) ((sr : Nat) : Int) (idn : Int) : Int) (zI_toInt (by omega)) dX6_fetch_173 (by decide) (fun c173 => ?_) (fun c173 => ?_)
      · skip
        have hP : va_P G.1 vwCl (wM G q (addT (adS σ t td) (σ.1 4) sr) ((0 : Int), κ.2.1, κ.2.2.1, κ.2.2.2)) H := hP
        have hD : va_D A (wM G q (addT (adS σ t td) (σ.1 4) sr) ((0 : Int), κ.2.1, κ.2.2.1, κ.2.2.2)) := hD
        have hok2 : okM (addT (adS σ t td) (σ.1 4) sr) := hok
        have hM9 : (addT (adS σ t td) (σ.1 4) sr).1 9 = σ.1 9 := hN9
        have hq8 := lkt_in hok2 lk
        have hq6 := hok2.1
        refine lv_iload_n hx hb dX6_fetch_217 rfl (lv_at hl 4 rfl) ?_
        refine zr_iconst hx hb dX6_fetch_218 ?_
        refine zc_eq (tgt := 261) hx hb (lk : Int) (-1 : Int) (zI_toInt (by omega)) (zI_toInt (by decide)) dX6_fetch_219 (by decide) (fun c219 => ?_) (fun c219 => ?_)
        · skip
          refine lv_iload hx hb dX6_fetch_261 (lv_at hl 0 rfl) ?_
          exact zret_I () Z hr hP hD hS (congrArg zI (by unfold fitM; rw [if_pos (by omega)])) (by
              have e1 : fst1M σ ((sr : Nat) : Int) idn lk t td = (adS σ t td) := if_pos (by omega)
              have e2 : fitM σ ((sr : Nat) : Int) idn lk t = (σ.1 4) := if_pos (by omega)
              have e3 : clPM (addT (adS σ t td) (σ.1 4) sr) (σ.1 4) sr idn = (addT (adS σ t td) (σ.1 4) sr) := if_neg (fun h => absurd h.2 (Int.not_lt.mpr c173))
              have e4 : clLM (addT (adS σ t td) (σ.1 4) sr) (σ.1 4) lk = (addT (adS σ t td) (σ.1 4) sr) := if_neg (fun h => h.1 c219)
              unfold fetM; rw [e1, e2, e3, e4] <;> rfl) ⟨Nat.le_refl _, Nat.le_refl _⟩ hQ dX6_fetch_263
        · skip
          refine lv_aload_n hx hb dX6_fetch_222 rfl (lv_at hl 1 rfl) ?_
          refine lv_iload_n hx hb dX6_fetch_223 rfl (lv_at hl 4 rfl) ?_
          refine zdet_I ⟨rfl, rfl⟩ Z hD hS (zrunV (rest := []) Z hP hD hS hl.1 (m_X6_linkAt l G q (addT (adS σ t td) (σ.1 4) sr) ((0 : Int), κ.2.1, κ.2.2.1, κ.2.2.2) (lk : Int) hok2 (by omega)) zY_X6_linkAt km_X6_153 (q0 := 0) rfl rfl rfl rfl ⟨⟨Nat.le_of_ble_eq_true rfl, Nat.le_of_ble_eq_true rfl⟩, Nat.le_of_ble_eq_true rfl, Nat.le_of_ble_eq_true rfl⟩ (Nat.le_of_ble_eq_true rfl) dX6_fetch_224) (fun H locs hP hD hS => ?_)
          refine zr_top (w := .int (zI (lkt ((addT (adS σ t td) (σ.1 4) sr)) (lk : Int) : Int))) rfl ?_
          refine zc0_ge (tgt := 261) hx hb (lkt ((addT (adS σ t td) (σ.1 4) sr)) (lk : Int) : Int) (zI_toInt (by omega)) dX6_fetch_227 (by decide) (fun c227 => ?_) (fun c227 => ?_)
          · skip
            refine lv_iload hx hb dX6_fetch_261 (lv_at hl 0 rfl) ?_
            exact zret_I () Z hr hP hD hS (congrArg zI (by unfold fitM; rw [if_pos (by omega)])) (by
                have e1 : fst1M σ ((sr : Nat) : Int) idn lk t td = (adS σ t td) := if_pos (by omega)
                have e2 : fitM σ ((sr : Nat) : Int) idn lk t = (σ.1 4) := if_pos (by omega)
                have e3 : clPM (addT (adS σ t td) (σ.1 4) sr) (σ.1 4) sr idn = (addT (adS σ t td) (σ.1 4) sr) := if_neg (fun h => absurd h.2 (Int.not_lt.mpr c173))
                have e4 : clLM (addT (adS σ t td) (σ.1 4) sr) (σ.1 4) lk = (addT (adS σ t td) (σ.1 4) sr) := if_neg (fun h => absurd h.2 (Int.not_lt.mpr c227))
                unfold fetM; rw [e1, e2, e3, e4] <;> rfl) ⟨Nat.le_refl _, Nat.le_refl _⟩ hQ dX6_fetch_263
          · skip
            refine lv_aload_n hx hb dX6_fetch_230 rfl (lv_at hl 1 rfl) ?_
            refine gM_0_11 Z hP kf_X6_44 dX6_fetch_231 ?_
            refine lv_aload_n hx hb dX6_fetch_234 rfl (lv_at hl 1 rfl) ?_
            refine gM_0_30 Z hP kf_X6_102 dX6_fetch_235 ?_
            refine zr_top (w := .int (zI ((((addT (adS σ t td) (σ.1 4) sr)).1 9 : Nat) : Int))) rfl ?_
            refine lv_iload_n hx hb dX6_fetch_238 rfl (lv_at hl 4 rfl) ?_
            refine stN (ws1 := wM G q (sA (addT (adS σ t td) (σ.1 4) sr) 16 (va_up (((addT (adS σ t td) (σ.1 4) sr)).2.1 16) (((addT (adS σ t td) (σ.1 4) sr)).1 9) (lk.toNat))) ((0 : Int), κ.2.1, κ.2.2.1, κ.2.2.2)) Z hP hD hS 12 (((addT (adS σ t td) (σ.1 4) sr)).2.1 16) rfl (((addT (adS σ t td) (σ.1 4) sr)).1 9) rfl (by omega) (by decide) (lk.toNat) (by omega) rfl dX6_fetch_239 (fun H locs hP hD hS => ?_)
            refine lv_aload_n hx hb dX6_fetch_240 rfl (lv_at hl 1 rfl) ?_
            refine gM_0_12 Z hP kf_X6_47 dX6_fetch_241 ?_
            refine lv_aload_n hx hb dX6_fetch_244 rfl (lv_at hl 1 rfl) ?_
            refine gM_0_30 Z hP kf_X6_102 dX6_fetch_245 ?_
            refine zr_top (w := .int (zI ((((addT (adS σ t td) (σ.1 4) sr)).1 9 : Nat) : Int))) rfl ?_
            refine lv_iload hx hb dX6_fetch_248 (lv_at hl 0 rfl) ?_
            refine stN (ws1 := wM G q (sA (sA (addT (adS σ t td) (σ.1 4) sr) 16 (va_up (((addT (adS σ t td) (σ.1 4) sr)).2.1 16) (((addT (adS σ t td) (σ.1 4) sr)).1 9) (lk.toNat))) 17 (va_up (((addT (adS σ t td) (σ.1 4) sr)).2.1 17) (((addT (adS σ t td) (σ.1 4) sr)).1 9) (σ.1 4))) ((0 : Int), κ.2.1, κ.2.2.1, κ.2.2.2)) Z hP hD hS 13 (((addT (adS σ t td) (σ.1 4) sr)).2.1 17) rfl (((addT (adS σ t td) (σ.1 4) sr)).1 9) rfl (by omega) (by decide) (σ.1 4) rfl rfl dX6_fetch_250 (fun H locs hP hD hS => ?_)
            refine lv_aload_n hx hb dX6_fetch_251 rfl (lv_at hl 1 rfl) ?_
            refine lv_dup hx hb dX6_fetch_252 rfl ?_
            refine gM_0_30 Z hP kf_X6_102 dX6_fetch_253 ?_
            refine zr_top (w := .int (zI ((((addT (adS σ t td) (σ.1 4) sr)).1 9 : Nat) : Int))) rfl ?_
            refine zr_iconst hx hb dX6_fetch_256 ?_
            refine zr_iadd hx hb dX6_fetch_257 ?_
            refine pM_0_30 Z hP hD hS ((((addT (adS σ t td) (σ.1 4) sr)).1 9 + 1)) (by omega) kf_X6_102 dX6_fetch_258 (fun H locs hP hD hS => ?_)
            refine lv_iload hx hb dX6_fetch_261 (lv_at hl 0 rfl) ?_
            exact zret_I () Z hr hP hD hS (congrArg zI (by unfold fitM; rw [if_pos (by omega)])) (by
                have e1 : fst1M σ ((sr : Nat) : Int) idn lk t td = (adS σ t td) := if_pos (by omega)
                have e2 : fitM σ ((sr : Nat) : Int) idn lk t = (σ.1 4) := if_pos (by omega)
                have e3 : clPM (addT (adS σ t td) (σ.1 4) sr) (σ.1 4) sr idn = (addT (adS σ t td) (σ.1 4) sr) := if_neg (fun h => absurd h.2 (Int.not_lt.mpr c173))
                have e4 : clLM (addT (adS σ t td) (σ.1 4) sr) (σ.1 4) lk = (lkS (addT (adS σ t td) (σ.1 4) sr) (σ.1 4) lk) := if_pos ⟨c219, c227⟩
                unfold fetM; rw [e1, e2, e3, e4] <;> rfl) ⟨Nat.le_refl _, Nat.le_refl _⟩ hQ dX6_fetch_263
      · skip
        refine lv_aload_n hx hb dX6_fetch_176 rfl (lv_at hl 1 rfl) ?_
        refine gM_0_8 Z hP kf_X6_35 dX6_fetch_177 ?_
        refine lv_aload_n hx hb dX6_fetch_180 rfl (lv_at hl 1 rfl) ?_
        refine gM_0_29 Z hP kf_X6_99 dX6_fetch_181 ?_
        refine zr_top (w := .int (zI ((((addT (adS σ t td) (σ.1 4) sr)).1 8 : Nat) : Int))) rfl ?_
        refine lv_iload_n hx hb dX6_fetch_184 rfl (lv_at hl 2 rfl) ?_
        refine stN (ws1 := wM G q (sA (addT (adS σ t td) (σ.1 4) sr) 13 (va_up (((addT (adS σ t td) (σ.1 4) sr)).2.1 13) (((addT (adS σ t td) (σ.1 4) sr)).1 8) (sr))) ((0 : Int), κ.2.1, κ.2.2.1, κ.2.2.2)) Z hP hD hS 9 (((addT (adS σ t td) (σ.1 4) sr)).2.1 13) rfl (((addT (adS σ t td) (σ.1 4) sr)).1 8) rfl (by omega) (by decide) (sr) rfl rfl dX6_fetch_185 (fun H locs hP hD hS => ?_)
        refine lv_aload_n hx hb dX6_fetch_186 rfl (lv_at hl 1 rfl) ?_
        refine gM_0_9 Z hP kf_X6_38 dX6_fetch_187 ?_
        refine lv_aload_n hx hb dX6_fetch_190 rfl (lv_at hl 1 rfl) ?_
        refine gM_0_29 Z hP kf_X6_99 dX6_fetch_191 ?_
        refine zr_top (w := .int (zI ((((addT (adS σ t td) (σ.1 4) sr)).1 8 : Nat) : Int))) rfl ?_
        refine lv_iload_n hx hb dX6_fetch_194 rfl (lv_at hl 3 rfl) ?_
        refine stN (ws1 := wM G q (sA (sA (addT (adS σ t td) (σ.1 4) sr) 13 (va_up (((addT (adS σ t td) (σ.1 4) sr)).2.1 13) (((addT (adS σ t td) (σ.1 4) sr)).1 8) (sr))) 14 (va_up (((addT (adS σ t td) (σ.1 4) sr)).2.1 14) (((addT (adS σ t td) (σ.1 4) sr)).1 8) (idn.toNat))) ((0 : Int), κ.2.1, κ.2.2.1, κ.2.2.2)) Z hP hD hS 10 (((addT (adS σ t td) (σ.1 4) sr)).2.1 14) rfl (((addT (adS σ t td) (σ.1 4) sr)).1 8) rfl (by omega) (by decide) (idn.toNat) (by omega) rfl dX6_fetch_195 (fun H locs hP hD hS => ?_)
        refine lv_aload_n hx hb dX6_fetch_196 rfl (lv_at hl 1 rfl) ?_
        refine gM_0_10 Z hP kf_X6_41 dX6_fetch_197 ?_
        refine lv_aload_n hx hb dX6_fetch_200 rfl (lv_at hl 1 rfl) ?_
        refine gM_0_29 Z hP kf_X6_99 dX6_fetch_201 ?_
        refine zr_top (w := .int (zI ((((addT (adS σ t td) (σ.1 4) sr)).1 8 : Nat) : Int))) rfl ?_
        refine lv_iload hx hb dX6_fetch_204 (lv_at hl 0 rfl) ?_
        refine stN (ws1 := wM G q (sA (sA (sA (addT (adS σ t td) (σ.1 4) sr) 13 (va_up (((addT (adS σ t td) (σ.1 4) sr)).2.1 13) (((addT (adS σ t td) (σ.1 4) sr)).1 8) (sr))) 14 (va_up (((addT (adS σ t td) (σ.1 4) sr)).2.1 14) (((addT (adS σ t td) (σ.1 4) sr)).1 8) (idn.toNat))) 15 (va_up (((addT (adS σ t td) (σ.1 4) sr)).2.1 15) (((addT (adS σ t td) (σ.1 4) sr)).1 8) (σ.1 4))) ((0 : Int), κ.2.1, κ.2.2.1, κ.2.2.2)) Z hP hD hS 11 (((addT (adS σ t td) (σ.1 4) sr)).2.1 15) rfl (((addT (adS σ t td) (σ.1 4) sr)).1 8) rfl (by omega) (by decide) (σ.1 4) rfl rfl dX6_fetch_206 (fun H locs hP hD hS => ?_)
        refine lv_aload_n hx hb dX6_fetch_207 rfl (lv_at hl 1 rfl) ?_
        refine lv_dup hx hb dX6_fetch_208 rfl ?_
        refine gM_0_29 Z hP kf_X6_99 dX6_fetch_209 ?_
        refine zr_top (w := .int (zI ((((addT (adS σ t td) (σ.1 4) sr)).1 8 : Nat) : Int))) rfl ?_
        refine zr_iconst hx hb dX6_fetch_212 ?_
        refine zr_iadd hx hb dX6_fetch_213 ?_
        refine pM_0_29 Z hP hD hS ((((addT (adS σ t td) (σ.1 4) sr)).1 8 + 1)) (by omega) kf_X6_99 dX6_fetch_214 (fun H locs hP hD hS => ?_)
        have hP : va_P G.1 vwCl (wM G q (prS (addT (adS σ t td) (σ.1 4) sr) (σ.1 4) sr idn) ((0 : Int), κ.2.1, κ.2.2.1, κ.2.2.2)) H := hP
        have hD : va_D A (wM G q (prS (addT (adS σ t td) (σ.1 4) sr) (σ.1 4) sr idn) ((0 : Int), κ.2.1, κ.2.2.1, κ.2.2.2)) := hD
        have hok2 : okM (prS (addT (adS σ t td) (σ.1 4) sr) (σ.1 4) sr idn) := (okM_prS hok hN4 (by omega) (by omega) (by omega))
        have hM9 : (prS (addT (adS σ t td) (σ.1 4) sr) (σ.1 4) sr idn).1 9 = σ.1 9 := hN9
        have hq8 := lkt_in hok2 lk
        have hq6 := hok2.1
        refine lv_iload_n hx hb dX6_fetch_217 rfl (lv_at hl 4 rfl) ?_
        refine zr_iconst hx hb dX6_fetch_218 ?_
        refine zc_eq (tgt := 261) hx hb (lk : Int) (-1 : Int) (zI_toInt (by omega)) (zI_toInt (by decide)) dX6_fetch_219 (by decide) (fun c219 => ?_) (fun c219 => ?_)
        · skip
          refine lv_iload hx hb dX6_fetch_261 (lv_at hl 0 rfl) ?_
          exact zret_I () Z hr hP hD hS (congrArg zI (by unfold fitM; rw [if_pos (by omega)])) (by
              have e1 : fst1M σ ((sr : Nat) : Int) idn lk t td = (adS σ t td) := if_pos (by omega)
              have e2 : fitM σ ((sr : Nat) : Int) idn lk t = (σ.1 4) := if_pos (by omega)
              have e3 : clPM (addT (adS σ t td) (σ.1 4) sr) (σ.1 4) sr idn = (prS (addT (adS σ t td) (σ.1 4) sr) (σ.1 4) sr idn) := if_pos ⟨c164, c173⟩
              have e4 : clLM (prS (addT (adS σ t td) (σ.1 4) sr) (σ.1 4) sr idn) (σ.1 4) lk = (prS (addT (adS σ t td) (σ.1 4) sr) (σ.1 4) sr idn) := if_neg (fun h => h.1 c219)
              unfold fetM; rw [e1, e2, e3, e4] <;> rfl) ⟨Nat.le_refl _, Nat.le_refl _⟩ hQ dX6_fetch_263
        · skip
          refine lv_aload_n hx hb dX6_fetch_222 rfl (lv_at hl 1 rfl) ?_
          refine lv_iload_n hx hb dX6_fetch_223 rfl (lv_at hl 4 rfl) ?_
          refine zdet_I ⟨rfl, rfl⟩ Z hD hS (zrunV (rest := []) Z hP hD hS hl.1 (m_X6_linkAt l G q (prS (addT (adS σ t td) (σ.1 4) sr) (σ.1 4) sr idn) ((0 : Int), κ.2.1, κ.2.2.1, κ.2.2.2) (lk : Int) hok2 (by omega)) zY_X6_linkAt km_X6_153 (q0 := 0) rfl rfl rfl rfl ⟨⟨Nat.le_of_ble_eq_true rfl, Nat.le_of_ble_eq_true rfl⟩, Nat.le_of_ble_eq_true rfl, Nat.le_of_ble_eq_true rfl⟩ (Nat.le_of_ble_eq_true rfl) dX6_fetch_224) (fun H locs hP hD hS => ?_)
          refine zr_top (w := .int (zI (lkt ((prS (addT (adS σ t td) (σ.1 4) sr) (σ.1 4) sr idn)) (lk : Int) : Int))) rfl ?_
          refine zc0_ge (tgt := 261) hx hb (lkt ((prS (addT (adS σ t td) (σ.1 4) sr) (σ.1 4) sr idn)) (lk : Int) : Int) (zI_toInt (by omega)) dX6_fetch_227 (by decide) (fun c227 => ?_) (fun c227 => ?_)
          · skip
            refine lv_iload hx hb dX6_fetch_261 (lv_at hl 0 rfl) ?_
            exact zret_I () Z hr hP hD hS (congrArg zI (by unfold fitM; rw [if_pos (by omega)])) (by
                have e1 : fst1M σ ((sr : Nat) : Int) idn lk t td = (adS σ t td) := if_pos (by omega)
                have e2 : fitM σ ((sr : Nat) : Int) idn lk t = (σ.1 4) := if_pos (by omega)
                have e3 : clPM (addT (adS σ t td) (σ.1 4) sr) (σ.1 4) sr idn = (prS (addT (adS σ t td) (σ.1 4) sr) (σ.1 4) sr idn) := if_pos ⟨c164, c173⟩
                have e4 : clLM (prS (addT (adS σ t td) (σ.1 4) sr) (σ.1 4) sr idn) (σ.1 4) lk = (prS (addT (adS σ t td) (σ.1 4) sr) (σ.1 4) sr idn) := if_neg (fun h => absurd h.2 (Int.not_lt.mpr c227))
                unfold fetM; rw [e1, e2, e3, e4] <;> rfl) ⟨Nat.le_refl _, Nat.le_refl _⟩ hQ dX6_fetch_263
          · skip
            refine lv_aload_n hx hb dX6_fetch_230 rfl (lv_at hl 1 rfl) ?_
            refine gM_0_11 Z hP kf_X6_44 dX6_fetch_231 ?_
            refine lv_aload_n hx hb dX6_fetch_234 rfl (lv_at hl 1 rfl) ?_
            refine gM_0_30 Z hP kf_X6_102 dX6_fetch_235 ?_
            refine zr_top (w := .int (zI ((((prS (addT (adS σ t td) (σ.1 4) sr) (σ.1 4) sr idn)).1 9 : Nat) : Int))) rfl ?_
            refine lv_iload_n hx hb dX6_fetch_238 rfl (lv_at hl 4 rfl) ?_
            refine stN (ws1 := wM G q (sA (prS (addT (adS σ t td) (σ.1 4) sr) (σ.1 4) sr idn) 16 (va_up (((prS (addT (adS σ t td) (σ.1 4) sr) (σ.1 4) sr idn)).2.1 16) (((prS (addT (adS σ t td) (σ.1 4) sr) (σ.1 4) sr idn)).1 9) (lk.toNat))) ((0 : Int), κ.2.1, κ.2.2.1, κ.2.2.2)) Z hP hD hS 12 (((prS (addT (adS σ t td) (σ.1 4) sr) (σ.1 4) sr idn)).2.1 16) rfl (((prS (addT (adS σ t td) (σ.1 4) sr) (σ.1 4) sr idn)).1 9) rfl (by omega) (by decide) (lk.toNat) (by omega) rfl dX6_fetch_239 (fun H locs hP hD hS => ?_)
            refine lv_aload_n hx hb dX6_fetch_240 rfl (lv_at hl 1 rfl) ?_
            refine gM_0_12 Z hP kf_X6_47 dX6_fetch_241 ?_
            refine lv_aload_n hx hb dX6_fetch_244 rfl (lv_at hl 1 rfl) ?_
            refine gM_0_30 Z hP kf_X6_102 dX6_fetch_245 ?_
            refine zr_top (w := .int (zI ((((prS (addT (adS σ t td) (σ.1 4) sr) (σ.1 4) sr idn)).1 9 : Nat) : Int))) rfl ?_
            refine lv_iload hx hb dX6_fetch_248 (lv_at hl 0 rfl) ?_
            refine stN (ws1 := wM G q (sA (sA (prS (addT (adS σ t td) (σ.1 4) sr) (σ.1 4) sr idn) 16 (va_up (((prS (addT (adS σ t td) (σ.1 4) sr) (σ.1 4) sr idn)).2.1 16) (((prS (addT (adS σ t td) (σ.1 4) sr) (σ.1 4) sr idn)).1 9) (lk.toNat))) 17 (va_up (((prS (addT (adS σ t td) (σ.1 4) sr) (σ.1 4) sr idn)).2.1 17) (((prS (addT (adS σ t td) (σ.1 4) sr) (σ.1 4) sr idn)).1 9) (σ.1 4))) ((0 : Int), κ.2.1, κ.2.2.1, κ.2.2.2)) Z hP hD hS 13 (((prS (addT (adS σ t td) (σ.1 4) sr) (σ.1 4) sr idn)).2.1 17) rfl (((prS (addT (adS σ t td) (σ.1 4) sr) (σ.1 4) sr idn)).1 9) rfl (by omega) (by decide) (σ.1 4) rfl rfl dX6_fetch_250 (fun H locs hP hD hS => ?_)
            refine lv_aload_n hx hb dX6_fetch_251 rfl (lv_at hl 1 rfl) ?_
            refine lv_dup hx hb dX6_fetch_252 rfl ?_
            refine gM_0_30 Z hP kf_X6_102 dX6_fetch_253 ?_
            refine zr_top (w := .int (zI ((((prS (addT (adS σ t td) (σ.1 4) sr) (σ.1 4) sr idn)).1 9 : Nat) : Int))) rfl ?_
            refine zr_iconst hx hb dX6_fetch_256 ?_
            refine zr_iadd hx hb dX6_fetch_257 ?_
            refine pM_0_30 Z hP hD hS ((((prS (addT (adS σ t td) (σ.1 4) sr) (σ.1 4) sr idn)).1 9 + 1)) (by omega) kf_X6_102 dX6_fetch_258 (fun H locs hP hD hS => ?_)
            refine lv_iload hx hb dX6_fetch_261 (lv_at hl 0 rfl) ?_
            exact zret_I () Z hr hP hD hS (congrArg zI (by unfold fitM; rw [if_pos (by omega)])) (by
                have e1 : fst1M σ ((sr : Nat) : Int) idn lk t td = (adS σ t td) := if_pos (by omega)
                have e2 : fitM σ ((sr : Nat) : Int) idn lk t = (σ.1 4) := if_pos (by omega)
                have e3 : clPM (addT (adS σ t td) (σ.1 4) sr) (σ.1 4) sr idn = (prS (addT (adS σ t td) (σ.1 4) sr) (σ.1 4) sr idn) := if_pos ⟨c164, c173⟩
                have e4 : clLM (prS (addT (adS σ t td) (σ.1 4) sr) (σ.1 4) sr idn) (σ.1 4) lk = (lkS (prS (addT (adS σ t td) (σ.1 4) sr) (σ.1 4) sr idn) (σ.1 4) lk) := if_pos ⟨c219, c227⟩
                unfold fetM; rw [e1, e2, e3, e4] <;> rfl) ⟨Nat.le_refl _, Nat.le_refl _⟩ hQ dX6_fetch_263
abbrev r_X6_fetch_t1 : Room := { frames := 4, cells := 0, slots := 0, locals := 97 }
set_option maxHeartbeats 4000000 in
set_option maxRecDepth 100000 in
theorem m_X6_fetch_t1 (l : Launch) (G : ZG) (q : Nat → Nat) (σ : St) (κ : KM) (sr : Int) (idn : Int) (lk : Int) (t : Int64) (td : Int) (hI : okM σ) (h1 : zR sr) (h2 : sr < 0 ∨ ((σ.1 3 : Nat) : Int) ≤ sr) :
    MC l G yX6_fetch (wY yX6_fetch cX6_fetch 8 (some .int)) r_X6_fetch_t1 (wM G q σ κ) [.ref (q 0), .int (zI (sr : Int)), .int (zI (idn : Int)), .int (zI (lk : Int)), .long (t), .int (zI (td : Int))] (QI G (fun r9 (_ : Unit) => r9 = (zI (0 : Int))) (fun _ => wM G q σ ((1 : Int), κ.2.1, κ.2.2.1, κ.2.2.2))) := by
  refine MC.mk (by decide +kernel) (Nat.le_of_ble_eq_true rfl) ?_
  intro p e s m av below meth c A H locs ls Q Z hr hnm hQ hP hD hS hl
  have hx := Z.1
  have hb := Z.2.1
  have hown := Z.2.2.2.1
  have hW := Z.2.2.2.2.1
  have hl : lv_has ls 8 [(0, .ref (q 0)), (1, .int (zI (sr : Int))), (2, .int (zI (idn : Int))), (3, .int (zI (lk : Int))), (4, .long (t)), (6, .int (zI (td : Int)))] := hl
  obtain ⟨hn, hru, hrv, hdv, hsr, hmn, ht1, ht2, hwn, hv1, hv2, hmj, htm, hse, htg, hrt, hac, hk1, hk2, hkd, hmm, hmv, hpp, hpl, hp3, hp4, hp6, hp5, hp7, hnz⟩ := id hI
  refine lv_aload_n hx hb dX6_fetch_0 rfl (lv_at hl 0 rfl) ?_
  refine lv_iload_n hx hb dX6_fetch_1 rfl (lv_at hl 1 rfl) ?_
  refine zr_iconst hx hb dX6_fetch_2 ?_
  refine lv_aload_n hx hb dX6_fetch_3 rfl (lv_at hl 0 rfl) ?_
  refine gM_0_27 Z hP kf_X6_93 dX6_fetch_4 ?_
  refine zr_iconst hx hb dX6_fetch_7 ?_
  refine zr_isub hx hb dX6_fetch_8 ?_
  refine zdet_I ⟨rfl, rfl⟩ Z hD hS (zrunS (rest := [.ref (q 0)]) Z hP hD hS hl.1 (m_X6_in l G (wM G q σ κ) (sr : Int) (0 : Int) (((σ.1 3 : Nat) : Int) - (1 : Int)) (by omega) (by omega) (by omega)) zY_X6_in km_X6_128 rfl rfl ⟨⟨Nat.le_of_ble_eq_true rfl, Nat.le_of_ble_eq_true rfl⟩, Nat.le_of_ble_eq_true rfl, Nat.le_of_ble_eq_true rfl⟩ (Nat.le_of_ble_eq_true rfl) dX6_fetch_9) (fun H locs hP hD hS => ?_)
  refine zb_ne (tgt := 19) hx hb dX6_fetch_12 (by decide) (fun c12 => by exfalso; have h9 := of_decide_eq_true c12; omega) (fun c12 => ?_)
  refine zr_iconst hx hb dX6_fetch_15 ?_
  refine lv_goto (tgt := 64) hx hb dX6_fetch_16 (by decide) ?_
  refine pM_0_23 Z hP hD hS kf_X6_80 dX6_fetch_64 (fun H locs hP hD hS => ?_)
  refine lv_aload_n hx hb dX6_fetch_67 rfl (lv_at hl 0 rfl) ?_
  refine gM_0_23 Z hP kf_X6_80 dX6_fetch_68 ?_
  refine zr_top (w := .int (zI (1 : Int))) rfl ?_
  refine zc0_le (tgt := 76) hx hb (1 : Int) (zI_toInt (by decide)) dX6_fetch_71 (by decide) (fun c71 => by exfalso; omega) (fun c71 => ?_)
  refine zr_iconst hx hb dX6_fetch_74 ?_
  exact zret_I () Z hr hP hD hS rfl rfl ⟨Nat.le_refl _, Nat.le_refl _⟩ hQ dX6_fetch_75
abbrev r_X6_fetch_t2 : Room := { frames := 4, cells := 0, slots := 0, locals := 97 }
set_option maxHeartbeats 4000000 in
set_option maxRecDepth 100000 in
theorem m_X6_fetch_t2 (l : Launch) (G : ZG) (q : Nat → Nat) (σ : St) (κ : KM) {e_sr : Int} (sr : Nat) (he_sr : e_sr = (sr : Int)) (idn : Int) (lk : Int) (t : Int64) (td : Int) (hI : okM σ) (h1 : sr < σ.1 3) (h7 : zR idn ∧ zR lk ∧ zR td) (h2 : ¬ ((-1 ≤ idn ∧ idn ≤ 999) ∧ (-1 ≤ lk ∧ lk ≤ 999) ∧ (-1 ≤ td ∧ td ≤ 99999) ∧ ¬ t = 0)) :
    MC l G yX6_fetch (wY yX6_fetch cX6_fetch 8 (some .int)) r_X6_fetch_t2 (wM G q σ κ) [.ref (q 0), .int (zI e_sr), .int (zI (idn : Int)), .int (zI (lk : Int)), .long (t), .int (zI (td : Int))] (QI G (fun r9 (_ : Unit) => r9 = (zI (0 : Int))) (fun _ => wM G q σ ((2 : Int), κ.2.1, κ.2.2.1, κ.2.2.2))) := by
  subst he_sr
  refine MC.mk (by decide +kernel) (Nat.le_of_ble_eq_true rfl) ?_
  intro p e s m av below meth c A H locs ls Q Z hr hnm hQ hP hD hS hl
  have hx := Z.1
  have hb := Z.2.1
  have hown := Z.2.2.2.1
  have hW := Z.2.2.2.2.1
  have hl : lv_has ls 8 [(0, .ref (q 0)), (1, .int (zI ((sr : Nat) : Int))), (2, .int (zI (idn : Int))), (3, .int (zI (lk : Int))), (4, .long (t)), (6, .int (zI (td : Int)))] := hl
  obtain ⟨hn, hru, hrv, hdv, hsr, hmn, ht1, ht2, hwn, hv1, hv2, hmj, htm, hse, htg, hrt, hac, hk1, hk2, hkd, hmm, hmv, hpp, hpl, hp3, hp4, hp6, hp5, hp7, hnz⟩ := id hI
  refine lv_aload_n hx hb dX6_fetch_0 rfl (lv_at hl 0 rfl) ?_
  refine lv_iload_n hx hb dX6_fetch_1 rfl (lv_at hl 1 rfl) ?_
  refine zr_iconst hx hb dX6_fetch_2 ?_
  refine lv_aload_n hx hb dX6_fetch_3 rfl (lv_at hl 0 rfl) ?_
  refine gM_0_27 Z hP kf_X6_93 dX6_fetch_4 ?_
  refine zr_iconst hx hb dX6_fetch_7 ?_
  refine zr_isub hx hb dX6_fetch_8 ?_
  refine zdet_I ⟨rfl, rfl⟩ Z hD hS (zrunS (rest := [.ref (q 0)]) Z hP hD hS hl.1 (m_X6_in l G (wM G q σ κ) ((sr : Nat) : Int) (0 : Int) (((σ.1 3 : Nat) : Int) - (1 : Int)) (by omega) (by omega) (by omega)) zY_X6_in km_X6_128 rfl rfl ⟨⟨Nat.le_of_ble_eq_true rfl, Nat.le_of_ble_eq_true rfl⟩, Nat.le_of_ble_eq_true rfl, Nat.le_of_ble_eq_true rfl⟩ (Nat.le_of_ble_eq_true rfl) dX6_fetch_9) (fun H locs hP hD hS => ?_)
  refine zb_ne (tgt := 19) hx hb dX6_fetch_12 (by decide) (fun c12 => ?_) (fun c12 => by exfalso; have h9 := of_decide_eq_false c12; omega)
  refine lv_iload_n hx hb dX6_fetch_19 rfl (lv_at hl 2 rfl) ?_
  refine zr_iconst hx hb dX6_fetch_20 ?_
  refine zr_sipush hx hb dX6_fetch_21 (by decide) ?_
  refine zdet_I ⟨rfl, rfl⟩ Z hD hS (zrunS (rest := [.ref (q 0)]) Z hP hD hS hl.1 (m_X6_in l G (wM G q σ κ) (idn : Int) (-1 : Int) (999 : Int) (by omega) (by omega) (by omega)) zY_X6_in km_X6_128 rfl rfl ⟨⟨Nat.le_of_ble_eq_true rfl, Nat.le_of_ble_eq_true rfl⟩, Nat.le_of_ble_eq_true rfl, Nat.le_of_ble_eq_true rfl⟩ (Nat.le_of_ble_eq_true rfl) dX6_fetch_24) (fun H locs hP hD hS => ?_)
  refine zb_eq (tgt := 59) hx hb dX6_fetch_27 (by decide) (fun c27 => ?_) (fun c27 => ?_)
  · skip
    refine zr_iconst hx hb dX6_fetch_59 ?_
    refine lv_goto (tgt := 64) hx hb dX6_fetch_60 (by decide) ?_
    refine pM_0_23 Z hP hD hS kf_X6_80 dX6_fetch_64 (fun H locs hP hD hS => ?_)
    refine lv_aload_n hx hb dX6_fetch_67 rfl (lv_at hl 0 rfl) ?_
    refine gM_0_23 Z hP kf_X6_80 dX6_fetch_68 ?_
    refine zr_top (w := .int (zI (2 : Int))) rfl ?_
    refine zc0_le (tgt := 76) hx hb (2 : Int) (zI_toInt (by decide)) dX6_fetch_71 (by decide) (fun c71 => by exfalso; omega) (fun c71 => ?_)
    refine zr_iconst hx hb dX6_fetch_74 ?_
    exact zret_I () Z hr hP hD hS rfl rfl ⟨Nat.le_refl _, Nat.le_refl _⟩ hQ dX6_fetch_75
  · skip
    refine lv_iload_n hx hb dX6_fetch_30 rfl (lv_at hl 3 rfl) ?_
    refine zr_iconst hx hb dX6_fetch_31 ?_
    refine zr_sipush hx hb dX6_fetch_32 (by decide) ?_
    refine zdet_I ⟨rfl, rfl⟩ Z hD hS (zrunS (rest := [.ref (q 0)]) Z hP hD hS hl.1 (m_X6_in l G (wM G q σ κ) (lk : Int) (-1 : Int) (999 : Int) (by omega) (by omega) (by omega)) zY_X6_in km_X6_128 rfl rfl ⟨⟨Nat.le_of_ble_eq_true rfl, Nat.le_of_ble_eq_true rfl⟩, Nat.le_of_ble_eq_true rfl, Nat.le_of_ble_eq_true rfl⟩ (Nat.le_of_ble_eq_true rfl) dX6_fetch_35) (fun H locs hP hD hS => ?_)
    refine zb_eq (tgt := 59) hx hb dX6_fetch_38 (by decide) (fun c38 => ?_) (fun c38 => ?_)
    · skip
      refine zr_iconst hx hb dX6_fetch_59 ?_
      refine lv_goto (tgt := 64) hx hb dX6_fetch_60 (by decide) ?_
      refine pM_0_23 Z hP hD hS kf_X6_80 dX6_fetch_64 (fun H locs hP hD hS => ?_)
      refine lv_aload_n hx hb dX6_fetch_67 rfl (lv_at hl 0 rfl) ?_
      refine gM_0_23 Z hP kf_X6_80 dX6_fetch_68 ?_
      refine zr_top (w := .int (zI (2 : Int))) rfl ?_
      refine zc0_le (tgt := 76) hx hb (2 : Int) (zI_toInt (by decide)) dX6_fetch_71 (by decide) (fun c71 => by exfalso; omega) (fun c71 => ?_)
      refine zr_iconst hx hb dX6_fetch_74 ?_
      exact zret_I () Z hr hP hD hS rfl rfl ⟨Nat.le_refl _, Nat.le_refl _⟩ hQ dX6_fetch_75
    · skip
      refine lv_iload hx hb dX6_fetch_41 (lv_at hl 5 rfl) ?_
      refine zr_iconst hx hb dX6_fetch_43 ?_
      refine zr_ldc hx hb 99999 (by decide) hown (hW _ kk_X6_132) dX6_fetch_44 ?_
      refine zdet_I ⟨rfl, rfl⟩ Z hD hS (zrunS (rest := [.ref (q 0)]) Z hP hD hS hl.1 (m_X6_in l G (wM G q σ κ) (td : Int) (-1 : Int) (99999 : Int) (by omega) (by omega) (by omega)) zY_X6_in km_X6_128 rfl rfl ⟨⟨Nat.le_of_ble_eq_true rfl, Nat.le_of_ble_eq_true rfl⟩, Nat.le_of_ble_eq_true rfl, Nat.le_of_ble_eq_true rfl⟩ (Nat.le_of_ble_eq_true rfl) dX6_fetch_46) (fun H locs hP hD hS => ?_)
      refine zb_eq (tgt := 59) hx hb dX6_fetch_49 (by decide) (fun c49 => ?_) (fun c49 => ?_)
      · skip
        refine zr_iconst hx hb dX6_fetch_59 ?_
        refine lv_goto (tgt := 64) hx hb dX6_fetch_60 (by decide) ?_
        refine pM_0_23 Z hP hD hS kf_X6_80 dX6_fetch_64 (fun H locs hP hD hS => ?_)
        refine lv_aload_n hx hb dX6_fetch_67 rfl (lv_at hl 0 rfl) ?_
        refine gM_0_23 Z hP kf_X6_80 dX6_fetch_68 ?_
        refine zr_top (w := .int (zI (2 : Int))) rfl ?_
        refine zc0_le (tgt := 76) hx hb (2 : Int) (zI_toInt (by decide)) dX6_fetch_71 (by decide) (fun c71 => by exfalso; omega) (fun c71 => ?_)
        refine zr_iconst hx hb dX6_fetch_74 ?_
        exact zret_I () Z hr hP hD hS rfl rfl ⟨Nat.le_refl _, Nat.le_refl _⟩ hQ dX6_fetch_75
      · skip
        refine lv_lload hx hb dX6_fetch_52 (lv_at hl 4 rfl) ?_
        refine lv_lconst (v := 0) hx hb dX6_fetch_54 (by decide) ?_
        refine zl_ne (tgt := 63) hx hb dX6_fetch_55 dX6_fetch_56 (by decide) (fun c55 => by exfalso; exact h2 ⟨of_decide_eq_true c27, of_decide_eq_true c38, of_decide_eq_true c49, c55⟩) (fun c55 => ?_)
        refine zr_iconst hx hb dX6_fetch_59 ?_
        refine lv_goto (tgt := 64) hx hb dX6_fetch_60 (by decide) ?_
        refine pM_0_23 Z hP hD hS kf_X6_80 dX6_fetch_64 (fun H locs hP hD hS => ?_)
        refine lv_aload_n hx hb dX6_fetch_67 rfl (lv_at hl 0 rfl) ?_
        refine gM_0_23 Z hP kf_X6_80 dX6_fetch_68 ?_
        refine zr_top (w := .int (zI (2 : Int))) rfl ?_
        refine zc0_le (tgt := 76) hx hb (2 : Int) (zI_toInt (by decide)) dX6_fetch_71 (by decide) (fun c71 => by exfalso; omega) (fun c71 => ?_)
        refine zr_iconst hx hb dX6_fetch_74 ?_
        exact zret_I () Z hr hP hD hS rfl rfl ⟨Nat.le_refl _, Nat.le_refl _⟩ hQ dX6_fetch_75
abbrev r_X6_fetch_t3 : Room := { frames := 4, cells := 0, slots := 0, locals := 97 }
set_option maxHeartbeats 4000000 in
set_option maxRecDepth 100000 in
theorem m_X6_fetch_t3 (l : Launch) (G : ZG) (q : Nat → Nat) (σ : St) (κ : KM) {e_sr : Int} (sr : Nat) (he_sr : e_sr = (sr : Int)) (idn : Int) (lk : Int) (t : Int64) (td : Int) (hI : okM σ) (h1 : sr < σ.1 3) (h2 : -1 ≤ idn ∧ idn ≤ 999) (h3 : -1 ≤ lk ∧ lk ≤ 999) (h4 : -1 ≤ td ∧ td ≤ 99999) (h5 : ¬ t = 0) (h6 : fndM σ ((sr : Nat) : Int) idn lk t = -1) (h7 : σ.1 4 = 30) :
    MC l G yX6_fetch (wY yX6_fetch cX6_fetch 8 (some .int)) r_X6_fetch_t3 (wM G q σ κ) [.ref (q 0), .int (zI e_sr), .int (zI (idn : Int)), .int (zI (lk : Int)), .long (t), .int (zI (td : Int))] (QI G (fun r9 (_ : Unit) => r9 = (zI (0 : Int))) (fun _ => wM G q σ ((3 : Int), κ.2.1, κ.2.2.1, κ.2.2.2))) := by
  subst he_sr
  refine MC.mk (by decide +kernel) (Nat.le_of_ble_eq_true rfl) ?_
  intro p e s m av below meth c A H locs ls Q Z hr hnm hQ hP hD hS hl
  have hx := Z.1
  have hb := Z.2.1
  have hown := Z.2.2.2.1
  have hW := Z.2.2.2.2.1
  have hl : lv_has ls 8 [(0, .ref (q 0)), (1, .int (zI ((sr : Nat) : Int))), (2, .int (zI (idn : Int))), (3, .int (zI (lk : Int))), (4, .long (t)), (6, .int (zI (td : Int)))] := hl
  obtain ⟨hn, hru, hrv, hdv, hsr, hmn, ht1, ht2, hwn, hv1, hv2, hmj, htm, hse, htg, hrt, hac, hk1, hk2, hkd, hmm, hmv, hpp, hpl, hp3, hp4, hp6, hp5, hp7, hnz⟩ := id hI
  have hf9 := fndM_in hI ((sr : Nat) : Int) idn lk t
  refine lv_aload_n hx hb dX6_fetch_0 rfl (lv_at hl 0 rfl) ?_
  refine lv_iload_n hx hb dX6_fetch_1 rfl (lv_at hl 1 rfl) ?_
  refine zr_iconst hx hb dX6_fetch_2 ?_
  refine lv_aload_n hx hb dX6_fetch_3 rfl (lv_at hl 0 rfl) ?_
  refine gM_0_27 Z hP kf_X6_93 dX6_fetch_4 ?_
  refine zr_iconst hx hb dX6_fetch_7 ?_
  refine zr_isub hx hb dX6_fetch_8 ?_
  refine zdet_I ⟨rfl, rfl⟩ Z hD hS (zrunS (rest := [.ref (q 0)]) Z hP hD hS hl.1 (m_X6_in l G (wM G q σ κ) ((sr : Nat) : Int) (0 : Int) (((σ.1 3 : Nat) : Int) - (1 : Int)) (by omega) (by omega) (by omega)) zY_X6_in km_X6_128 rfl rfl ⟨⟨Nat.le_of_ble_eq_true rfl, Nat.le_of_ble_eq_true rfl⟩, Nat.le_of_ble_eq_true rfl, Nat.le_of_ble_eq_true rfl⟩ (Nat.le_of_ble_eq_true rfl) dX6_fetch_9) (fun H locs hP hD hS => ?_)
  refine zb_ne (tgt := 19) hx hb dX6_fetch_12 (by decide) (fun c12 => ?_) (fun c12 => by exfalso; have h9 := of_decide_eq_false c12; omega)
  refine lv_iload_n hx hb dX6_fetch_19 rfl (lv_at hl 2 rfl) ?_
  refine zr_iconst hx hb dX6_fetch_20 ?_
  refine zr_sipush hx hb dX6_fetch_21 (by decide) ?_
  refine zdet_I ⟨rfl, rfl⟩ Z hD hS (zrunS (rest := [.ref (q 0)]) Z hP hD hS hl.1 (m_X6_in l G (wM G q σ κ) (idn : Int) (-1 : Int) (999 : Int) (by omega) (by omega) (by omega)) zY_X6_in km_X6_128 rfl rfl ⟨⟨Nat.le_of_ble_eq_true rfl, Nat.le_of_ble_eq_true rfl⟩, Nat.le_of_ble_eq_true rfl, Nat.le_of_ble_eq_true rfl⟩ (Nat.le_of_ble_eq_true rfl) dX6_fetch_24) (fun H locs hP hD hS => ?_)
  refine zb_eq (tgt := 59) hx hb dX6_fetch_27 (by decide) (fun c27 => by exfalso; have h9 := of_decide_eq_false c27; omega) (fun c27 => ?_)
  refine lv_iload_n hx hb dX6_fetch_30 rfl (lv_at hl 3 rfl) ?_
  refine zr_iconst hx hb dX6_fetch_31 ?_
  refine zr_sipush hx hb dX6_fetch_32 (by decide) ?_
  refine zdet_I ⟨rfl, rfl⟩ Z hD hS (zrunS (rest := [.ref (q 0)]) Z hP hD hS hl.1 (m_X6_in l G (wM G q σ κ) (lk : Int) (-1 : Int) (999 : Int) (by omega) (by omega) (by omega)) zY_X6_in km_X6_128 rfl rfl ⟨⟨Nat.le_of_ble_eq_true rfl, Nat.le_of_ble_eq_true rfl⟩, Nat.le_of_ble_eq_true rfl, Nat.le_of_ble_eq_true rfl⟩ (Nat.le_of_ble_eq_true rfl) dX6_fetch_35) (fun H locs hP hD hS => ?_)
  refine zb_eq (tgt := 59) hx hb dX6_fetch_38 (by decide) (fun c38 => by exfalso; have h9 := of_decide_eq_false c38; omega) (fun c38 => ?_)
  refine lv_iload hx hb dX6_fetch_41 (lv_at hl 5 rfl) ?_
  refine zr_iconst hx hb dX6_fetch_43 ?_
  refine zr_ldc hx hb 99999 (by decide) hown (hW _ kk_X6_132) dX6_fetch_44 ?_
  refine zdet_I ⟨rfl, rfl⟩ Z hD hS (zrunS (rest := [.ref (q 0)]) Z hP hD hS hl.1 (m_X6_in l G (wM G q σ κ) (td : Int) (-1 : Int) (99999 : Int) (by omega) (by omega) (by omega)) zY_X6_in km_X6_128 rfl rfl ⟨⟨Nat.le_of_ble_eq_true rfl, Nat.le_of_ble_eq_true rfl⟩, Nat.le_of_ble_eq_true rfl, Nat.le_of_ble_eq_true rfl⟩ (Nat.le_of_ble_eq_true rfl) dX6_fetch_46) (fun H locs hP hD hS => ?_)
  refine zb_eq (tgt := 59) hx hb dX6_fetch_49 (by decide) (fun c49 => by exfalso; have h9 := of_decide_eq_false c49; omega) (fun c49 => ?_)
  refine lv_lload hx hb dX6_fetch_52 (lv_at hl 4 rfl) ?_
  refine lv_lconst (v := 0) hx hb dX6_fetch_54 (by decide) ?_
  refine zl_ne (tgt := 63) hx hb dX6_fetch_55 dX6_fetch_56 (by decide) (fun c55 => ?_) (fun c55 => absurd c55 h5)
  refine zr_iconst hx hb dX6_fetch_63 ?_
  refine pM_0_23 Z hP hD hS kf_X6_80 dX6_fetch_64 (fun H locs hP hD hS => ?_)
  refine lv_aload_n hx hb dX6_fetch_67 rfl (lv_at hl 0 rfl) ?_
  refine gM_0_23 Z hP kf_X6_80 dX6_fetch_68 ?_
  refine zr_top (w := .int (zI (0 : Int))) rfl ?_
  refine zc0_le (tgt := 76) hx hb (0 : Int) (zI_toInt (by decide)) dX6_fetch_71 (by decide) (fun c71 => ?_) (fun c71 => by exfalso; omega)
  refine lv_aload_n hx hb dX6_fetch_76 rfl (lv_at hl 0 rfl) ?_
  refine lv_iload_n hx hb dX6_fetch_77 rfl (lv_at hl 1 rfl) ?_
  refine lv_iload_n hx hb dX6_fetch_78 rfl (lv_at hl 2 rfl) ?_
  refine lv_iload_n hx hb dX6_fetch_79 rfl (lv_at hl 3 rfl) ?_
  refine lv_lload hx hb dX6_fetch_80 (lv_at hl 4 rfl) ?_
  refine zdet_I ⟨rfl, rfl⟩ Z hD hS (zrunV (rest := []) Z hP hD hS hl.1 (m_X6_found l G q σ ((0 : Int), κ.2.1, κ.2.2.1, κ.2.2.2) ((sr : Nat) : Int) (idn : Int) (lk : Int) (t) hI (by omega) (by omega) (by omega) h5) zY_X6_found km_X6_159 (q0 := 0) rfl rfl rfl rfl ⟨⟨Nat.le_of_ble_eq_true rfl, Nat.le_of_ble_eq_true rfl⟩, Nat.le_of_ble_eq_true rfl, Nat.le_of_ble_eq_true rfl⟩ (Nat.le_of_ble_eq_true rfl) dX6_fetch_82) (fun H locs hP hD hS => ?_)
  refine zr_top (w := .int (zI (fndM σ ((sr : Nat) : Int) (idn : Int) (lk : Int) (t) : Int))) rfl ?_
  refine lv_istore (lv' := [(7, .int (zI (fndM σ ((sr : Nat) : Int) (idn : Int) (lk : Int) (t) : Int))), (0, .ref (q 0)), (1, .int (zI ((sr : Nat) : Int))), (2, .int (zI (idn : Int))), (3, .int (zI (lk : Int))), (4, .long (t)), (6, .int (zI (td : Int)))]) hx hb dX6_fetch_85 hl (by decide) rfl (fun ls hl => ?_)
  refine lv_aload_n hx hb dX6_fetch_87 rfl (lv_at hl 1 rfl) ?_
  refine lv_iload hx hb dX6_fetch_88 (lv_at hl 0 rfl) ?_
  refine zc0_ge (tgt := 106) hx hb (fndM σ ((sr : Nat) : Int) (idn : Int) (lk : Int) (t) : Int) (zI_toInt (by omega)) dX6_fetch_90 (by decide) (fun c90 => by exfalso; omega) (fun c90 => ?_)
  refine lv_aload_n hx hb dX6_fetch_93 rfl (lv_at hl 1 rfl) ?_
  refine gM_0_28 Z hP kf_X6_96 dX6_fetch_94 ?_
  refine zr_top (w := .int (zI ((σ.1 4 : Nat) : Int))) rfl ?_
  refine zr_bipush hx hb dX6_fetch_97 (by decide) ?_
  refine zc_ne (tgt := 106) hx hb ((σ.1 4 : Nat) : Int) (30 : Int) (zI_toInt (by omega)) (zI_toInt (by decide)) dX6_fetch_99 (by decide) (fun c99 => by exfalso; omega) (fun c99 => ?_)
  refine zr_iconst hx hb dX6_fetch_102 ?_
  refine lv_goto (tgt := 107) hx hb dX6_fetch_103 (by decide) ?_
  refine pM_0_23 Z hP hD hS kf_X6_80 dX6_fetch_107 (fun H locs hP hD hS => ?_)
  refine lv_aload_n hx hb dX6_fetch_110 rfl (lv_at hl 1 rfl) ?_
  refine gM_0_23 Z hP kf_X6_80 dX6_fetch_111 ?_
  refine zr_top (w := .int (zI (3 : Int))) rfl ?_
  refine zc0_le (tgt := 119) hx hb (3 : Int) (zI_toInt (by decide)) dX6_fetch_114 (by decide) (fun c114 => by exfalso; omega) (fun c114 => ?_)
  refine zr_iconst hx hb dX6_fetch_117 ?_
  exact zret_I () Z hr hP hD hS rfl rfl ⟨Nat.le_refl _, Nat.le_refl _⟩ hQ dX6_fetch_118
