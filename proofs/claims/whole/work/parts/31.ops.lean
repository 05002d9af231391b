/-! the calls that change something, one by one -/
section ZOps
theorem clP_N4 (σ : St) (i : Nat) (sr b : Int) : (clP σ i sr b).1 4 = σ.1 4 := by rw [clP_N]
theorem clPM_N9 (τ : St) (i sr : Nat) (b : Int) : (clPM τ i sr b).1 9 = τ.1 9 := by
  unfold clPM
  split <;> rfl
theorem Inv.fetch {c : Nat} {σ τ : St} (h : Inv c σ τ) (hc : c < 600) {sr : Nat} {id lk td : Int} {t : Int64} (h1 : sr < σ.1 3) (h2 : -1 ≤ id ∧ id ≤ 999) (h3 : -1 ≤ lk ∧ lk ≤ 999) (h4 : td ≤ 99999) (h5 : t ≠ 0) (h6 : fnd σ ((sr : Nat) : Int) id lk t = -1 → σ.1 4 < 30) :
    Inv (c + 1) (fet σ sr id lk t td) (fetM τ sr id lk t td) ∧ fit σ ((sr : Nat) : Int) id lk t = fitM τ ((sr : Nat) : Int) id lk t := by
  have hM := Inv_okM h
  have hF := fnd_eq h ((sr : Nat) : Int) id lk t
  have hfi := fnd_in h.2.1 sr id lk t
  have hn := h.1.1 4 (by omega)
  have h3s := h.1.1 3 (by omega)
  have hC := h.2.2.2.2.2.2.2
  have e2 := h.1.2.1 2 (by omega)
  have hsr : sr < 6 := by
    obtain ⟨a1, a2, a3, a4, a5, _⟩ := h.2.1
    omega
  have hfit : fit σ ((sr : Nat) : Int) id lk t = fitM τ ((sr : Nat) : Int) id lk t := by
    unfold fit fitM
    rw [hF, hn]
  have h9 : ∀ k, τ.2.1 2 k < 999999 := fun k => by
    have := hC.1 k
    rw [e2] at this
    omega
  have hok := okM_fetM hM (sr := sr) (id := id) (lk := lk) (t := t) (td := td) hsr h2.2 h3.2 h4 h5 (by rw [← hF, ← hn]; exact h6) (by have := hC.2.1; omega) (by have := hC.2.2; omega) h9
  -- the first stage
  have hs1 : Inw (c + 1) (fst1 σ ((sr : Nat) : Int) id lk t td) (fst1M τ ((sr : Nat) : Int) id lk t td) ∧ fit σ ((sr : Nat) : Int) id lk t < (fst1 σ ((sr : Nat) : Int) id lk t td).1 4 ∧ (fst1M τ ((sr : Nat) : Int) id lk t td).1 8 = τ.1 8 ∧ (fst1M τ ((sr : Nat) : Int) id lk t td).1 9 = τ.1 9 := by
    unfold fst1 fst1M fit
    rw [← hF]
    by_cases c1 : fnd σ ((sr : Nat) : Int) id lk t = -1
    · rw [if_pos c1, if_pos c1, if_pos c1]
      exact ⟨Inw_app h t td, by show σ.1 4 < σ.1 4 + 1; omega, rfl, rfl⟩
    · rw [if_neg c1, if_neg c1, if_neg c1]
      exact ⟨Inw_rnw h (by omega) t, by rw [rnw_N]; omega, by rw [chg_N], by rw [chg_N]⟩
  obtain ⟨w1, w2, w3, w4⟩ := hs1
  have w5 := Inw_addT w1 w2 sr
  have w6 := Inw_clP (sr := sr) (b := id) w5 (i := fit σ ((sr : Nat) : Int) id lk t) w2 hsr h2 (by show (fst1M τ ((sr : Nat) : Int) id lk t td).1 8 < c + 1; rw [w3]; have := hC.2.1; omega)
  have w7 := Inw_clL (b := lk) w6 (i := fit σ ((sr : Nat) : Int) id lk t) (by rw [clP_N4]; exact w2) h3 (by rw [clPM_N9]; show (fst1M τ ((sr : Nat) : Int) id lk t td).1 9 < c + 1; rw [w4]; have := hC.2.2; omega)
  refine ⟨?_, hfit⟩
  unfold fet fetM
  unfold fetM at hok
  rw [← hfit] at hok ⊢
  exact Inv_of w7.1 hok w7.2.1 w7.2.2.1 w7.2.2.2.1 w7.2.2.2.2.1 w7.2.2.2.2.2.1 w7.2.2.2.2.2.2
-- rules and rivers
theorem mvd_le {f : Nat → Nat} {B r : Nat} (h : ∀ k, f k ≤ B) : ∀ n k, mvd f r n k ≤ B
  | 0, k => h k
  | n + 1, k => by
    show va_up _ _ _ k ≤ B
    unfold va_up; split
    · exact mvd_le h n _
    · exact mvd_le h n k
theorem up_le {f : Nat → Nat} {B x v : Nat} (h : ∀ k, f k ≤ B) (hv : v ≤ B) (k : Nat) : va_up f x v k ≤ B := by
  unfold va_up; split
  · exact hv
  · exact h k
theorem Inv.addR {c : Nat} {σ τ : St} (h : Inv c σ τ) (h5 : σ.1 5 < 6) (al an : Int64) (sr : Int32) {tg ac : Nat} (ht : tg ≤ 8) (ha : ac ≤ 9) : Inv c (addR σ al an sr tg ac) (addR τ al an sr tg ac) := by
  obtain ⟨s1, s2, s3, s4, s5', s6, s7, s8⟩ := h
  have en := s1.1 5 (by omega)
  refine ⟨⟨fun k hk => up_c (s1.1 k hk) (by rw [en]), fun a ha => ?_, ?_, s1.2.2.2.1, fun a ha => up_c (s1.2.2.2.2.1 a ha) (by rw [en, s1.2.2.2.2.1 1 (by omega)]), fun a ha => ?_⟩, ?_, s3, s4, s5', s6, s7, s8⟩
  · show va_up (va_up σ.2.1 18 _) 9 _ a = va_up (va_up τ.2.1 18 _) 9 _ a
    refine up_c ?_ (by rw [en, s1.2.1 9 (by omega)])
    rw [va_up_ne _ _ (by omega), va_up_ne _ _ (by omega)]; exact s1.2.1 a ha
  · show va_up (σ.2.1 18) _ _ = va_up (τ.2.1 18) _ _
    rw [en, s1.2.2.1]
  · refine up_c (up_c (s1.2.2.2.2.2 a ha) ?_) ?_
    · rw [en, s1.2.2.2.2.2 1 (by omega)]
    · rw [en, s1.2.2.2.2.2 2 (by omega)]
  · obtain ⟨hn, hru, hrv, hdv, hsr, hmn, ht1, ht2, hwn, hv1, hv2, hmj, htm, hse, htg, hrt, hac, hR⟩ := s2
    exact ⟨hn, by show σ.1 5 + 1 ≤ 6; omega, hrv, hdv, hsr, hmn, ht1, ht2, hwn, hv1, hv2, hmj, htm, hse, up_le htg ht, hrt, up_le hac ha, hR⟩
theorem Inv.drp {c : Nat} {σ τ : St} (h : Inv c σ τ) (r n : Nat) : Inv c (drp σ r n) (drp τ r n) := by
  obtain ⟨s1, s2, s3, s4, s5', s6, s7, s8⟩ := h
  have en := s1.1 5 (by omega)
  refine ⟨⟨fun k hk => up_c (s1.1 k hk) (by rw [en]), fun a ha => ?_, ?_, s1.2.2.2.1, fun a ha => up_c (s1.2.2.2.2.1 a ha) (by rw [s1.2.2.2.2.1 1 (by omega)]), fun a ha => ?_⟩, ?_, s3, s4, s5', s6, s7, s8⟩
  · show va_up (va_up σ.2.1 18 _) 9 _ a = va_up (va_up τ.2.1 18 _) 9 _ a
    refine up_c ?_ (by rw [s1.2.1 9 (by omega)])
    rw [va_up_ne _ _ (by omega), va_up_ne _ _ (by omega)]; exact s1.2.1 a ha
  · show mvd (σ.2.1 18) _ _ = mvd (τ.2.1 18) _ _
    rw [s1.2.2.1]
  · refine up_c (up_c (s1.2.2.2.2.2 a ha) ?_) ?_
    · rw [s1.2.2.2.2.2 1 (by omega)]
    · rw [s1.2.2.2.2.2 2 (by omega)]
  · obtain ⟨hn, hru, hrv, hdv, hsr, hmn, ht1, ht2, hwn, hv1, hv2, hmj, htm, hse, htg, hrt, hac, hR⟩ := s2
    exact ⟨hn, by show σ.1 5 - 1 ≤ 6; omega, hrv, hdv, hsr, hmn, ht1, ht2, hwn, hv1, hv2, hmj, htm, hse, mvd_le htg n, hrt, mvd_le hac n, hR⟩
theorem Inv.addV {c : Nat} {σ τ : St} (h : Inv c σ τ) (h5 : σ.1 6 < 4) (sr : Int32) {tg : Nat} (ht : tg ≤ 8) : Inv c (addV σ sr tg) (addV τ sr tg) := by
  obtain ⟨s1, s2, s3, s4, s5', s6, s7, s8⟩ := h
  have en := s1.1 6 (by omega)
  refine ⟨⟨fun k hk => up_c (s1.1 k hk) (by rw [en]), fun a ha => ?_, s1.2.2.1, ?_, fun a ha => up_c (s1.2.2.2.2.1 a ha) (by rw [en, s1.2.2.2.2.1 2 (by omega)]), s1.2.2.2.2.2⟩, ?_, s3, s4, s5', s6, s7, s8⟩
  · show va_up σ.2.1 19 _ a = va_up τ.2.1 19 _ a
    rw [va_up_ne _ _ (by omega), va_up_ne _ _ (by omega)]; exact s1.2.1 a ha
  · show va_up (σ.2.1 19) _ _ = va_up (τ.2.1 19) _ _
    rw [en, s1.2.2.2.1]
  · obtain ⟨hn, hru, hrv, hdv, hsr, hmn, ht1, ht2, hwn, hv1, hv2, hmj, htm, hse, htg, hrt, hR⟩ := s2
    exact ⟨hn, hru, by show σ.1 6 + 1 ≤ 4; omega, hdv, hsr, hmn, ht1, ht2, hwn, hv1, hv2, hmj, htm, hse, htg, up_le hrt ht, hR⟩
-- scalars
theorem okC_now {σ : St} (h : okC σ) {v : Nat} (hv : v ≤ 99999) : okC (sN σ 0 v) := by
  obtain ⟨hn, hru, hrv, hdv, hsr, hmn, hR⟩ := h
  exact ⟨hn, hru, hrv, hdv, hsr, hv, hR⟩
theorem okC_thr {σ : St} (h : okC σ) {v : Nat} (h1 : 1 ≤ v) (h2 : v ≤ 100) : okC (sN σ 1 v) := by
  obtain ⟨hn, hru, hrv, hdv, hsr, hmn, ht1, ht2, hR⟩ := h
  exact ⟨hn, hru, hrv, hdv, hsr, hmn, h1, h2, hR⟩
theorem okC_win {σ : St} (h : okC σ) {v : Nat} (h1 : v ≤ 1440) : okC (sN σ 2 v) := by
  obtain ⟨hn, hru, hrv, hdv, hsr, hmn, ht1, ht2, hwn, hR⟩ := h
  exact ⟨hn, hru, hrv, hdv, hsr, hmn, ht1, ht2, h1, hR⟩
theorem okC_src {σ : St} (h : okC σ) {v : Nat} (h1 : v ≤ 6) : okC (sN σ 3 v) := by
  obtain ⟨hn, hru, hrv, hdv, hsr, hR⟩ := h
  exact ⟨hn, hru, hrv, hdv, h1, hR⟩
-- what both answer
section
theorem Inv.tags {c : Nat} {σ τ : St} (h : Inv c σ τ) (i : Nat) : out σ i &&& zI 255 = (goI τ i).1 ∧ tb (out σ i) 8 = (goI τ i).2.2 := by
  obtain ⟨hn, hru, hrv, hdv, hsr, hmn, ht1, ht2, hwn, hv1, hv2, hmj, htm, hse, htg, hrt, hac, hR⟩ := h.2.1
  rw [← Sh_goI h.1]
  exact ⟨out_tags hac htg hru i, out_off hac htg hru i⟩
theorem Inv.matches {c : Nat} {σ τ : St} (h : Inv c σ τ) {r : Nat} (hr : r < σ.1 5) : cnt (mtc σ r) (σ.1 4) = cnt (fun y9 => tb (goI τ y9).2.1 r) (τ.1 4) := by
  obtain ⟨hn, hru, hrv, hdv, hsr, hmn, ht1, ht2, hwn, hv1, hv2, hmj, htm, hse, htg, hrt, hac, hR⟩ := h.2.1
  rw [← h.1.1 4 (by omega), ← Sh_goI h.1]
  exact cnt_congr (fun k _ => (out_mtc hac htg hru hr k).symm)
theorem Inv.size {c : Nat} {σ τ : St} (h : Inv c σ τ) (rv : Nat) (r0 : Nat → Nat) : (gth (shw σ rv) (σ.2.1 10) r0 (σ.1 4)).1 = cnt (shM τ rv) (τ.1 4) := by
  rw [gth_size h.2.2.2.1.1, Sh_shw h, h.1.1 4 (by omega)]
theorem Inv_ahM {c : Nat} {σ τ : St} (h : Inv c σ τ) (rv b : Nat) : ahM τ rv b = cnt (fun k => isAh σ k b && shw σ rv k) (σ.1 4) := by
  unfold ahM
  rw [Sh_isAh h.1, Sh_shw h, h.1.1 4 (by omega)]
theorem Inv.at {c : Nat} {σ τ : St} (h : Inv c σ τ) (rv : Nat) (r0 : Nat → Nat) {j : Nat} (hj : j < (gth (shw σ rv) (σ.2.1 10) r0 (σ.1 4)).1) : itA τ rv ((j : Nat) : Int) = (((gth (shw σ rv) (σ.2.1 10) r0 (σ.1 4)).2 j : Nat) : Int) := by
  rw [← it_at (isAh_ord σ) h.2.2.2.1.1 h.2.2.2.1.2 hj]
  unfold itA
  rw [← h.1.1 4 (by omega), ← Sh_shw h]
  congr 1
  funext y
  rw [Inv_ahM h]
theorem Inv.no {c : Nat} {σ τ : St} (h : Inv c σ τ) (rv : Nat) (r0 : Nat → Nat) {rk : Int} (hj : rk < 0 ∨ (((gth (shw σ rv) (σ.2.1 10) r0 (σ.1 4)).1 : Nat) : Int) ≤ rk) : itA τ rv rk = -1 := by
  rw [← it_no (isAh_ord σ) h.2.2.2.1.1 h.2.2.2.1.2 hj]
  unfold itA
  rw [← h.1.1 4 (by omega), ← Sh_shw h]
  congr 1
  funext y
  rw [Inv_ahM h]
theorem Inv.unread {c : Nat} {σ τ : St} (h : Inv c σ τ) (rv : Nat) (r0 : Nat → Nat) : cnt (fun y9 => !rdR σ ((gth (shw σ rv) (σ.2.1 10) r0 (σ.1 4)).2 y9)) (gth (shw σ rv) (σ.2.1 10) r0 (σ.1 4)).1 = cnt (fun y9 => shM τ rv y9 && !rdR τ y9) (τ.1 4) := by
  rw [gth_all h.2.2.2.1.1 (fun x => !rdR σ x), Sh_shw h, Sh_rdR h.1, h.1.1 4 (by omega)]
theorem Inv.anew {c : Nat} {σ τ : St} (h : Inv c σ τ) (r : Nat → Nat) : (∀ y9, y9 < σ.1 4 → anw1 (isAh σ) (σ.1 4) r (σ.1 4) y9 = σ.2.1 10 y9) ∧ ∀ y9 z9, y9 < z9 → z9 < σ.1 4 → σ.2.1 10 y9 ≠ σ.2.1 10 z9 :=
  ⟨fun y hy => anw_eq (isAh_ord σ) h.2.2.2.1.1 h.2.2.2.1.2 r hy, fun y z h1 h2 he => by
    have := h.2.2.2.1.2.inj (isAh_ord σ) (by omega) h2 he
    omega⟩
end
end ZOps
