/-! a river marked read: the class goes by the kept order, the reference by the items' numbers -/
section ZMarkR
/-- what a list of marks makes of a place -/
def Hit (σ σ' : St) (y : Nat) (P : Prop) : Prop := (P ∧ 0 < σ.2.1 4 y → σ'.2.1 6 y = 2 ∧ σ'.2.1 7 y = σ.1 0 ∧ σ'.2.1 8 y = σ.2.1 4 y - 1) ∧ (¬ (P ∧ 0 < σ.2.1 4 y) → σ'.2.1 6 y = σ.2.1 6 y ∧ σ'.2.1 7 y = σ.2.1 7 y ∧ σ'.2.1 8 y = σ.2.1 8 y)
theorem mkS_rows (ρ : St) (d i y : Nat) : (y = 30 * d + i → (mkS ρ d i true).2.1 6 y = 2 ∧ (mkS ρ d i true).2.1 7 y = ρ.1 0 ∧ (mkS ρ d i true).2.1 8 y = ρ.2.1 4 (30 * d + i) - 1) ∧ (y ≠ 30 * d + i → (mkS ρ d i true).2.1 6 y = ρ.2.1 6 y ∧ (mkS ρ d i true).2.1 7 y = ρ.2.1 7 y ∧ (mkS ρ d i true).2.1 8 y = ρ.2.1 8 y) := by
  constructor
  · intro h
    subst h
    exact ⟨va_up_self _ _ _, va_up_self _ _ _, va_up_self _ _ _⟩
  · intro h
    exact ⟨va_up_ne _ _ h, va_up_ne _ _ h, va_up_ne _ _ h⟩
theorem Mk_mkS (σ : St) (d i : Nat) (b : Bool) : Mk σ (mkS σ d i b) := Mk_putM _ _ _ _ _ _
theorem mrS_all (σ : St) (d : Nat) (R : Nat → Nat) : ∀ k, Mk σ (mrS σ d R k) ∧ (mrS σ d R k).2.1 4 = σ.2.1 4 ∧ (mrS σ d R k).2.1 5 = σ.2.1 5 ∧ ∀ y, Hit σ (mrS σ d R k) y (∃ j, j < k ∧ y = 30 * d + R j)
  | 0 => ⟨Mk.refl _, rfl, rfl, fun y => ⟨fun h => by obtain ⟨⟨j, hj, _⟩, _⟩ := h; omega, fun _ => ⟨rfl, rfl, rfl⟩⟩⟩
  | k + 1 => by
    obtain ⟨h1, h2, h3, h4⟩ := mrS_all σ d R k
    have e : mrS σ d R (k + 1) = if 0 < (mrS σ d R k).2.1 4 (30 * d + R k) then mkS (mrS σ d R k) d (R k) true else mrS σ d R k := rfl
    rw [e]
    split
    · rename_i hc
      rw [h2] at hc
      refine ⟨h1.trans (Mk_mkS _ _ _ _), h2, h3, fun y => ⟨fun h => ?_, fun h => ?_⟩⟩
      · by_cases ey : y = 30 * d + R k
        · have := (mkS_rows (mrS σ d R k) d (R k) y).1 ey
          rw [h1.1, h2] at this
          rw [ey] at this ⊢
          exact this
        · have := (mkS_rows (mrS σ d R k) d (R k) y).2 ey
          rw [this.1, this.2.1, this.2.2]
          obtain ⟨⟨j, hj, hy⟩, h0⟩ := h
          refine (h4 y).1 ⟨⟨j, ?_, hy⟩, h0⟩
          by_cases ej : j = k
          · subst ej; exact absurd hy ey
          · omega
      · have ey : y ≠ 30 * d + R k := fun ey => h ⟨⟨k, by omega, ey⟩, by rw [ey]; exact hc⟩
        have := (mkS_rows (mrS σ d R k) d (R k) y).2 ey
        rw [this.1, this.2.1, this.2.2]
        exact (h4 y).2 (fun h9 => h (by obtain ⟨⟨j, hj, hy⟩, h0⟩ := h9; exact ⟨⟨j, by omega, hy⟩, h0⟩))
    · rename_i hc
      rw [h2] at hc
      refine ⟨h1, h2, h3, fun y => ⟨fun h => (h4 y).1 ?_, fun h => (h4 y).2 (fun h9 => h ?_)⟩⟩
      · obtain ⟨⟨j, hj, hy⟩, h0⟩ := h
        refine ⟨⟨j, ?_, hy⟩, h0⟩
        by_cases ej : j = k
        · subst ej; rw [hy] at h0; exact absurd h0 hc
        · omega
      · obtain ⟨⟨j, hj, hy⟩, h0⟩ := h9
        exact ⟨⟨j, by omega, hy⟩, h0⟩
theorem Mk_shM {τ τ' : St} (h : Mk τ τ') : shM τ' = shM τ := by
  have hl : lat τ' = lat τ := by funext i; unfold lat; rw [h.2.1 2 (by omega), h.2.2]
  have hh : hold τ' = hold τ := by funext r t te st; unfold hold; rw [h.2.1 18 (by omega), h.2.2]
  have hg : ∀ t te k, goS τ' t te k = goS τ t te k := fun t te k => by
    induction k with
    | zero => rfl
    | succ k ih => unfold goS; rw [hh, ih, h.2.1 9 (by omega)]
  funext r i
  unfold shM goI
  rw [hl, hg, h.2.1 19 (by omega), h.2.2, h.1]
theorem mrSM_all (τ : St) (d rv : Nat) : ∀ k, Mk τ (mrSM τ d rv k) ∧ (mrSM τ d rv k).2.1 4 = τ.2.1 4 ∧ (mrSM τ d rv k).2.1 5 = τ.2.1 5 ∧ ∀ y, Hit τ (mrSM τ d rv k) y (∃ j, j < k ∧ shM τ rv j = true ∧ y = 30 * d + j)
  | 0 => ⟨Mk.refl _, rfl, rfl, fun y => ⟨fun h => by obtain ⟨⟨j, hj, _⟩, _⟩ := h; omega, fun _ => ⟨rfl, rfl, rfl⟩⟩⟩
  | k + 1 => by
    obtain ⟨h1, h2, h3, h4⟩ := mrSM_all τ d rv k
    have e : mrSM τ d rv (k + 1) = if shM (mrSM τ d rv k) rv k = true ∧ 0 < (mrSM τ d rv k).2.1 4 (30 * d + k) then mkS (mrSM τ d rv k) d k true else mrSM τ d rv k := rfl
    rw [e, Mk_shM h1, h2]
    split
    · rename_i hc
      refine ⟨h1.trans (Mk_mkS _ _ _ _), h2, h3, fun y => ⟨fun h => ?_, fun h => ?_⟩⟩
      · by_cases ey : y = 30 * d + k
        · have := (mkS_rows (mrSM τ d rv k) d k y).1 ey
          rw [h1.1, h2] at this
          rw [ey] at this ⊢
          exact this
        · have := (mkS_rows (mrSM τ d rv k) d k y).2 ey
          rw [this.1, this.2.1, this.2.2]
          obtain ⟨⟨j, hj, hs, hy⟩, h0⟩ := h
          refine (h4 y).1 ⟨⟨j, ?_, hs, hy⟩, h0⟩
          by_cases ej : j = k
          · subst ej; exact absurd hy ey
          · omega
      · have ey : y ≠ 30 * d + k := fun ey => h ⟨⟨k, by omega, hc.1, ey⟩, by rw [ey]; exact hc.2⟩
        have := (mkS_rows (mrSM τ d rv k) d k y).2 ey
        rw [this.1, this.2.1, this.2.2]
        exact (h4 y).2 (fun h9 => h (by obtain ⟨⟨j, hj, hs, hy⟩, h0⟩ := h9; exact ⟨⟨j, by omega, hs, hy⟩, h0⟩))
    · rename_i hc
      refine ⟨h1, h2, h3, fun y => ⟨fun h => (h4 y).1 ?_, fun h => (h4 y).2 (fun h9 => h ?_)⟩⟩
      · obtain ⟨⟨j, hj, hs, hy⟩, h0⟩ := h
        refine ⟨⟨j, ?_, hs, hy⟩, h0⟩
        by_cases ej : j = k
        · subst ej; rw [hy] at h0; exact absurd ⟨hs, h0⟩ hc
        · omega
      · obtain ⟨⟨j, hj, hs, hy⟩, h0⟩ := h9
        exact ⟨⟨j, by omega, hs, hy⟩, h0⟩
theorem rdD_of {σ σ' : St} {d i : Nat} (h6 : σ'.2.1 6 (30 * d + i) = σ.2.1 6 (30 * d + i)) (h8 : σ'.2.1 8 (30 * d + i) = σ.2.1 8 (30 * d + i)) (h5 : σ'.2.1 5 = σ.2.1 5) : rdD σ' d i = rdD σ d i := by
  unfold rdD rdBy
  rw [h6, h8, h5]
theorem mrC_cnt (σ : St) (d : Nat) (R : Nat → Nat) (sz : Nat) (hi : ∀ a b, a < sz → b < sz → R a = R b → a = b) : ∀ k, k ≤ sz → mrC σ d R k = cnt (fun j => decide (0 < σ.2.1 4 (30 * d + R j)) && !rdD σ d (R j)) k
  | 0, _ => rfl
  | k + 1, hk => by
    obtain ⟨h1, h2, h3, h4⟩ := mrS_all σ d R k
    have ih := mrC_cnt σ d R sz hi k (by omega)
    have hno : ¬ ((∃ j, j < k ∧ 30 * d + R k = 30 * d + R j) ∧ 0 < σ.2.1 4 (30 * d + R k)) := fun h => by
      obtain ⟨⟨j, hj, hy⟩, _⟩ := h
      have := hi k j (by omega) (by omega) (by omega)
      omega
    have hr := (h4 (30 * d + R k)).2 hno
    have e : mrC σ d R (k + 1) = if 0 < (mrS σ d R k).2.1 4 (30 * d + R k) ∧ rdD (mrS σ d R k) d (R k) = false then mrC σ d R k + 1 else mrC σ d R k := rfl
    rw [e, h2, rdD_of hr.1 hr.2.2 h3, ih]
    split
    · rename_i hc
      rw [cnt_yes (p := fun j => decide (0 < σ.2.1 4 (30 * d + R j)) && !rdD σ d (R j))]
      simp [hc.1, hc.2]
    · rename_i hc
      rw [cnt_no (p := fun j => decide (0 < σ.2.1 4 (30 * d + R j)) && !rdD σ d (R j))]
      cases h5 : rdD σ d (R k) with
      | true => simp
      | false => simp; have : ¬ 0 < σ.2.1 4 (30 * d + R k) := fun h6 => hc ⟨h6, h5⟩
                 omega
theorem mrCM_cnt (τ : St) (d rv : Nat) : ∀ k, mrCM τ d rv k = cnt (fun j => shM τ rv j && (decide (0 < τ.2.1 4 (30 * d + j)) && !rdD τ d j)) k
  | 0 => rfl
  | k + 1 => by
    obtain ⟨h1, h2, h3, h4⟩ := mrSM_all τ d rv k
    have ih := mrCM_cnt τ d rv k
    have hr := (h4 (30 * d + k)).2 (fun h => by obtain ⟨⟨j, hj, _, hy⟩, _⟩ := h; omega)
    have e : mrCM τ d rv (k + 1) = if (shM (mrSM τ d rv k) rv k = true ∧ 0 < (mrSM τ d rv k).2.1 4 (30 * d + k)) ∧ rdD (mrSM τ d rv k) d k = false then mrCM τ d rv k + 1 else mrCM τ d rv k := rfl
    rw [e, Mk_shM h1, h2, rdD_of hr.1 hr.2.2 h3, ih]
    split
    · rename_i hc
      rw [cnt_yes (p := fun j => shM τ rv j && (decide (0 < τ.2.1 4 (30 * d + j)) && !rdD τ d j))]
      simp [hc.1, hc.2]
    · rename_i hc
      rw [cnt_no (p := fun j => shM τ rv j && (decide (0 < τ.2.1 4 (30 * d + j)) && !rdD τ d j))]
      cases h5 : rdD τ d k with
      | true => simp
      | false =>
        cases h6 : shM τ rv k with
        | false => simp
        | true => simp; have : ¬ 0 < τ.2.1 4 (30 * d + k) := fun h7 => hc ⟨⟨h6, h7⟩, h5⟩
                  omega
theorem Kd_mrS {σ : St} (h : Kd σ) (d : Nat) (R : Nat → Nat) : ∀ k, Kd (mrS σ d R k)
  | 0 => h
  | k + 1 => by
    have e : mrS σ d R (k + 1) = if 0 < (mrS σ d R k).2.1 4 (30 * d + R k) then mkS (mrS σ d R k) d (R k) true else mrS σ d R k := rfl
    rw [e]
    split
    · exact Kd_mkS (Kd_mrS h d R k) d _ true
    · exact Kd_mrS h d R k
theorem Inv.markRiver {c : Nat} {σ τ : St} (h : Inv c σ τ) (d rv : Nat) (r0 : Nat → Nat) :
    Inv c (mrS σ d (gth (shw σ rv) (σ.2.1 10) r0 (σ.1 4)).2 (gth (shw σ rv) (σ.2.1 10) r0 (σ.1 4)).1) (mrSM τ d rv (τ.1 4)) ∧ mrC σ d (gth (shw σ rv) (σ.2.1 10) r0 (σ.1 4)).2 (gth (shw σ rv) (σ.2.1 10) r0 (σ.1 4)).1 = mrCM τ d rv (τ.1 4) := by
  have hn : σ.1 4 = τ.1 4 := h.1.1 4 (by omega)
  have hO := isAh_ord σ
  obtain ⟨hp, hs⟩ := h.2.2.2.1
  have hw : shw σ rv = shM τ rv := Sh_shw h
  obtain ⟨s1, s2, s3, s4⟩ := mrS_all σ d (gth (shw σ rv) (σ.2.1 10) r0 (σ.1 4)).2 (gth (shw σ rv) (σ.2.1 10) r0 (σ.1 4)).1
  obtain ⟨t1, t2, t3, t4⟩ := mrSM_all τ d rv (τ.1 4)
  have e4 := h.1.2.1 4 (by omega)
  have hiff : ∀ y, (∃ j, j < (gth (shw σ rv) (σ.2.1 10) r0 (σ.1 4)).1 ∧ y = 30 * d + (gth (shw σ rv) (σ.2.1 10) r0 (σ.1 4)).2 j) ↔ (∃ j, j < τ.1 4 ∧ shM τ rv j = true ∧ y = 30 * d + j) := fun y => by
    constructor
    · rintro ⟨j, hj, hy⟩
      have := gth_in hp hj
      exact ⟨_, by rw [← hn]; exact this.1, by rw [← hw]; exact this.2, hy⟩
    · rintro ⟨x, hx, hpx, hy⟩
      obtain ⟨j, hj, he⟩ := gth_mem (r0 := r0) (p := shw σ rv) hp (by rw [hn]; exact hx) (by rw [hw]; exact hpx)
      exact ⟨j, hj, by rw [he]; exact hy⟩
  constructor
  · refine h.marks s1 t1 (fun a ha hb => ?_) (mrS_ok h.2.1 d _ _).1 (Kd_mrS h.2.2.2.2.1 d _ _)
    by_cases e : a = 4 ∨ a = 5
    · rcases e with rfl | rfl
      · rw [s2, t2, e4]
      · rw [s3, t3, h.1.2.1 5 (by omega)]
    · have h678 : a = 6 ∨ a = 7 ∨ a = 8 := by omega
      funext y
      have hsy := s4 y
      have hty := t4 y
      unfold Hit at hsy hty
      rw [hiff y] at hsy
      rw [e4] at hsy
      rw [h.1.1 0 (by omega), h.1.2.1 6 (by omega), h.1.2.1 7 (by omega), h.1.2.1 8 (by omega)] at hsy
      by_cases hc : (∃ j, j < τ.1 4 ∧ shM τ rv j = true ∧ y = 30 * d + j) ∧ 0 < τ.2.1 4 y
      · have q1 := hsy.1 hc
        have q2 := hty.1 hc
        rcases h678 with rfl | rfl | rfl
        · rw [q1.1, q2.1]
        · rw [q1.2.1, q2.2.1]
        · rw [q1.2.2, q2.2.2]
      · have q1 := hsy.2 hc
        have q2 := hty.2 hc
        rcases h678 with rfl | rfl | rfl
        · rw [q1.1, q2.1]
        · rw [q1.2.1, q2.2.1]
        · rw [q1.2.2, q2.2.2]
  · rw [mrC_cnt σ d _ _ (fun a b ha hb he => gth_inj hO hs ha hb he) _ (Nat.le_refl _), mrCM_cnt, ← hn]
    rw [gth_all (r0 := r0) (p := shw σ rv) hp (fun x => decide (0 < σ.2.1 4 (30 * d + x)) && !rdD σ d x)]
    rw [hw, e4, Sh_rdD h.1]
end ZMarkR
