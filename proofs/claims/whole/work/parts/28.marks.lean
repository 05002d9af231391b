/-! marks: sync, a new device, a river marked read -/
section ZMarks
def lr1 (f v : Nat → Nat) (d : Nat) : Nat → (Nat → Nat)
  | 0 => f
  | k + 1 => va_up (lr1 f v d k) (30 * d + k) (v k)
theorem lr1_at (f v : Nat → Nat) (d : Nat) {i : Nat} : ∀ k, k ≤ i → lr1 f v d k (30 * d + i) = f (30 * d + i)
  | 0, _ => rfl
  | k + 1, h => by
    show va_up _ _ _ _ = _
    rw [va_up_ne _ _ (by omega)]
    exact lr1_at f v d k (by omega)
theorem lrN_all (ρ : St) (d : Nat) : ∀ k, Mk ρ (lrN ρ d k) ∧ (lrN ρ d k).2.1 4 = lr1 (ρ.2.1 4) (ρ.2.1 2) d k ∧ (lrN ρ d k).2.1 5 = lr1 (ρ.2.1 5) (ρ.2.1 3) d k ∧ ∀ a, 5 < a → (lrN ρ d k).2.1 a = ρ.2.1 a
  | 0 => ⟨Mk.refl _, rfl, rfl, fun _ _ => rfl⟩
  | k + 1 => by
    obtain ⟨h1, h2, h3, h4⟩ := lrN_all ρ d k
    refine ⟨h1.trans (Mk_lrn _ _ _ _ _), ?_, ?_, fun a ha => ?_⟩
    · show va_up ((lrN ρ d k).2.1 4) (30 * d + k) ((lrN ρ d k).2.1 2 k) = va_up _ _ _
      rw [h2, h1.2.1 2 (by omega)]
    · show va_up ((lrN ρ d k).2.1 5) (30 * d + k) ((lrN ρ d k).2.1 3 k) = va_up _ _ _
      rw [h3, h1.2.1 3 (by omega)]
    · show va_up (va_up (lrN ρ d k).2.1 4 _) 5 _ a = _
      rw [va_up_ne _ _ (by omega), va_up_ne _ _ (by omega)]
      exact h4 a ha
theorem up_self2 (f : Nat → Nat) (x y : Nat) : va_up (va_up f x (f y)) y (va_up f x (f y) x) = va_up f x (f y) := by
  funext j
  rw [va_up_self]
  unfold va_up
  split
  · rename_i e; subst e; split <;> rfl
  · rfl
theorem up_id (f : Nat → Nat) (x : Nat) : va_up f x (f x) = f := by
  funext j
  unfold va_up
  split
  · rename_i e; rw [e]
  · rfl
theorem up_id2 (f : Nat → Nat) (x v : Nat) (h : f x = v) : va_up f x v = f := by rw [← h]; exact up_id f x
theorem bts_win {A : St} {d k : Nat} (h : ¬ (A.2.1 6 (30 * d + k) = 0 ∧ A.2.1 6 (120 + k) = 0)) : bts A d 4 k = winM A d k := by
  have e : 30 * 4 + k = 120 + k := by omega
  unfold bts winM
  rw [e]
  split
  · rename_i h1
    by_cases e1 : A.2.1 6 (30 * d + k) = 0
    · have : ¬ A.2.1 6 (120 + k) = 0 := fun h2 => h ⟨e1, h2⟩
      simp [e1, this]
    · have : A.2.1 6 (120 + k) = 0 := by omega
      simp [e1, this]
  · rfl
theorem winM_rows {A B : St} (hr : ∀ a, 5 < a → a < 9 → A.2.1 a = B.2.1 a) (d k : Nat) : winM A d k = winM B d k := by
  unfold winM
  rw [hr 6 (by omega) (by omega), hr 7 (by omega) (by omega), hr 8 (by omega) (by omega)]
theorem cpM_row (A : St) (f t i : Nat) {a : Nat} (h1 : 5 < a) (h2 : a < 9) : (cpM A f t i).2.1 a = va_up (A.2.1 a) (30 * t + i) (A.2.1 a (30 * f + i)) := by
  rcases (by omega : a = 6 ∨ a = 7 ∨ a = 8) with rfl | rfl | rfl <;> rfl
theorem bup_row (A : St) (d i : Nat) {a : Nat} (h1 : 5 < a) (h2 : a < 9) : (bup A d i).2.1 a = va_up (A.2.1 a) (30 * d + i) (A.2.1 a (30 * 4 + i)) := by
  rcases (by omega : a = 6 ∨ a = 7 ∨ a = 8) with rfl | rfl | rfl <;> rfl
theorem Kd_bup {σ : St} (h : Kd σ) (d i : Nat) : Kd (bup σ d i) := Kd_cpM h 4 d i
theorem Mk_bup (σ : St) (d i : Nat) : Mk σ (bup σ d i) := (Mk_putM _ _ _ _ _ _).trans (Mk_lrn _ _ _ _ _)
theorem sy_step {A B : St} (hr : ∀ a, 5 < a → a < 9 → A.2.1 a = B.2.1 a) (hK : Kd A) (d k : Nat) (hn : A.2.1 4 (30 * d + k) = B.2.1 4 (30 * d + k)) {a : Nat} (h1 : 5 < a) (h2 : a < 9) :
    (sy1 A d k).2.1 a = (if 0 < B.2.1 4 (30 * d + k) ∧ winM B d k = true then cpM B d 4 k else cpM B 4 d k).2.1 a := by
  rw [← winM_rows hr, ← hn]
  unfold sy1
  rw [bup_row _ _ _ h1 h2]
  by_cases hz : A.2.1 6 (30 * d + k) = 0 ∧ A.2.1 6 (120 + k) = 0
  · -- neither has a mark: nothing changes on either side
    have za : A.2.1 a (30 * d + k) = 0 ∧ A.2.1 a (120 + k) = 0 := by
      have p1 := hK _ hz.1
      have p2 := hK _ hz.2
      rcases (by omega : a = 6 ∨ a = 7 ∨ a = 8) with rfl | rfl | rfl
      · exact hz
      · exact ⟨p1.1, p2.1⟩
      · exact ⟨p1.2, p2.2⟩
    have hb : bts A d 4 k = false := by unfold bts; rw [if_pos (Or.inl hz.1), hz.1]; rfl
    rw [if_neg (fun h => by rw [hb] at h; cases h.2)]
    rw [show A.2.1 a (30 * 4 + k) = 0 from za.2, up_id2 _ _ _ za.1]
    split
    · rw [cpM_row _ _ _ _ h1 h2, ← hr a h1 h2, za.1]
      exact (up_id2 _ _ _ za.2).symm
    · rw [cpM_row _ _ _ _ h1 h2, ← hr a h1 h2, show A.2.1 a (30 * 4 + k) = 0 from za.2]
      exact (up_id2 _ _ _ za.1).symm
  · rw [bts_win hz]
    split
    · rw [cpM_row _ _ _ _ h1 h2, cpM_row _ _ _ _ h1 h2, ← hr a h1 h2]
      exact up_self2 _ _ _
    · rw [cpM_row _ _ _ _ h1 h2, ← hr a h1 h2]
theorem sy_all {c : Nat} {σ τ : St} (h : Inv c σ τ) (d : Nat) : ∀ k, (∀ a, 5 < a → a < 9 → (syS σ d k).2.1 a = (sySM τ d k).2.1 a) ∧ (syS σ d k).2.1 4 = lr1 (σ.2.1 4) (σ.2.1 2) d k ∧ (syS σ d k).2.1 5 = lr1 (σ.2.1 5) (σ.2.1 3) d k ∧ (sySM τ d k).2.1 4 = τ.2.1 4 ∧ (sySM τ d k).2.1 5 = τ.2.1 5 ∧ Mk σ (syS σ d k) ∧ Mk τ (sySM τ d k) ∧ Kd (syS σ d k) ∧ syC σ d k = syCM τ d k
  | 0 => ⟨fun a h1 h2 => h.1.2.1 a (by omega), rfl, rfl, rfl, rfl, Mk.refl _, Mk.refl _, h.2.2.2.2.1, rfl⟩
  | k + 1 => by
    obtain ⟨h1, h2, h3, h4, h5, h6, h7, h8, h9⟩ := sy_all h d k
    have hn : (syS σ d k).2.1 4 (30 * d + k) = (sySM τ d k).2.1 4 (30 * d + k) := by
      rw [h2, lr1_at _ _ _ _ (Nat.le_refl _), h4, h.1.2.1 4 (by omega)]
    have hr : ∀ a, 5 < a → a < 9 → (syS σ d (k + 1)).2.1 a = (sySM τ d (k + 1)).2.1 a := fun a ha hb => sy_step h1 h8 d k hn ha hb
    have m1 : Mk (syS σ d k) (syS σ d (k + 1)) := by
      show Mk (syS σ d k) (sy1 (syS σ d k) d k)
      unfold sy1
      split
      · exact (Mk_putM _ _ _ _ _ _).trans (Mk_bup _ _ _)
      · exact Mk_bup _ _ _
    have m2 : Mk (sySM τ d k) (sySM τ d (k + 1)) ∧ (sySM τ d (k + 1)).2.1 4 = (sySM τ d k).2.1 4 ∧ (sySM τ d (k + 1)).2.1 5 = (sySM τ d k).2.1 5 := by
      have e : sySM τ d (k + 1) = if 0 < (sySM τ d k).2.1 4 (30 * d + k) ∧ winM (sySM τ d k) d k = true then cpM (sySM τ d k) d 4 k else cpM (sySM τ d k) 4 d k := rfl
      rw [e]
      split
      · exact ⟨Mk_putM _ _ _ _ _ _, rfl, rfl⟩
      · exact ⟨Mk_putM _ _ _ _ _ _, rfl, rfl⟩
    have hrd : ∀ x, rdR (syS σ d (k + 1)) x = rdR (sySM τ d (k + 1)) x := fun x => by
      unfold rdR rdBy
      rw [hr 6 (by omega) (by omega), hr 8 (by omega) (by omega), (h6.trans m1).2.1 3 (by omega), (h7.trans m2.1).2.1 3 (by omega), h.1.2.1 3 (by omega)]
    have hrd0 : ∀ x, rdR (syS σ d k) x = rdR (sySM τ d k) x := fun x => by
      unfold rdR rdBy
      rw [h1 6 (by omega) (by omega), h1 8 (by omega) (by omega), h6.2.1 3 (by omega), h7.2.1 3 (by omega), h.1.2.1 3 (by omega)]
    refine ⟨hr, ?_, ?_, m2.2.1.trans h4, m2.2.2.trans h5, h6.trans m1, h7.trans m2.1, ?_, ?_⟩
    · have e : (syS σ d (k + 1)).2.1 4 = va_up ((syS σ d k).2.1 4) (30 * d + k) ((syS σ d k).2.1 2 k) := by
        show (sy1 (syS σ d k) d k).2.1 4 = _
        unfold sy1
        split <;> rfl
      rw [e, h2, h6.2.1 2 (by omega)]; rfl
    · have e : (syS σ d (k + 1)).2.1 5 = va_up ((syS σ d k).2.1 5) (30 * d + k) ((syS σ d k).2.1 3 k) := by
        show (sy1 (syS σ d k) d k).2.1 5 = _
        unfold sy1
        split <;> rfl
      rw [e, h3, h6.2.1 3 (by omega)]; rfl
    · show Kd (sy1 (syS σ d k) d k)
      unfold sy1
      split
      · exact Kd_bup (Kd_cpM h8 d 4 k) d k
      · exact Kd_bup h8 d k
    · show (if rdR (syS σ d (k + 1)) k = rdR (syS σ d k) k then syC σ d k else syC σ d k + 1) = (if rdR (sySM τ d (k + 1)) k = rdR (sySM τ d k) k then syCM τ d k else syCM τ d k + 1)
      rw [hrd, hrd0, h9]
theorem Inv.sync {c : Nat} {σ τ : St} (h : Inv c σ τ) (d : Nat) : Inv c (syS σ d (σ.1 4)) (sysM τ d) ∧ syC σ d (σ.1 4) = syCM τ d (τ.1 4) := by
  have hn : σ.1 4 = τ.1 4 := h.1.1 4 (by omega)
  obtain ⟨h1, h2, h3, h4, h5, h6, h7, h8, h9⟩ := sy_all h d (σ.1 4)
  obtain ⟨l1, l2, l3, l4⟩ := lrN_all (sySM τ d (τ.1 4)) d (τ.1 4)
  rw [← hn] at l1 l2 l3 l4
  refine ⟨?_, by rw [h9, hn]⟩
  unfold sysM
  rw [← hn]
  refine h.marks h6 (h7.trans l1) (fun a ha hb => ?_) (syS_ok h.2.1 d _).1 h8
  by_cases e : 5 < a
  · rw [l4 a e]; exact h1 a e hb
  · rcases (by omega : a = 4 ∨ a = 5) with rfl | rfl
    · rw [h2, l2, h4, h7.2.1 2 (by omega), h.1.2.1 4 (by omega), h.1.2.1 2 (by omega)]
    · rw [h3, l3, h5, h7.2.1 3 (by omega), h.1.2.1 5 (by omega), h.1.2.1 3 (by omega)]
-- a new device
theorem Inv.set7 {c : Nat} {σ τ : St} (h : Inv c σ τ) {v : Nat} (hv : okC (sN σ 7 v)) : Inv c (sN σ 7 v) (sN τ 7 v) := by
  obtain ⟨h1, h2, h3, h4, h5, h6, h7, h8⟩ := h
  exact ⟨Sh_sN h1 _ _, hv, h3, h4, h5, h6, h7, h8⟩
theorem bu_all {σ τ : St} (h : ∀ a, 5 < a → a < 9 → σ.2.1 a = τ.2.1 a) (hk : Kd σ) (ho : okC σ) (d : Nat) : ∀ k, (∀ a, 5 < a → a < 9 → (bupN σ d k).2.1 a = (cpN τ d k).2.1 a) ∧ (bupN σ d k).2.1 4 = lr1 (σ.2.1 4) (σ.2.1 2) d k ∧ (bupN σ d k).2.1 5 = lr1 (σ.2.1 5) (σ.2.1 3) d k ∧ (cpN τ d k).2.1 4 = τ.2.1 4 ∧ (cpN τ d k).2.1 5 = τ.2.1 5 ∧ Mk σ (bupN σ d k) ∧ Mk τ (cpN τ d k) ∧ Kd (bupN σ d k) ∧ okC (bupN σ d k)
  | 0 => ⟨h, rfl, rfl, rfl, rfl, Mk.refl _, Mk.refl _, hk, ho⟩
  | k + 1 => by
    obtain ⟨h1, h2, h3, h4, h5, h6, h7, h8, h9⟩ := bu_all h hk ho d k
    refine ⟨fun a ha hb => ?_, ?_, ?_, h4, h5, h6.trans (Mk_bup _ _ _), h7.trans (Mk_putM _ _ _ _ _ _), Kd_bup h8 d k, okC_bup h9 d k⟩
    · show (bup (bupN σ d k) d k).2.1 a = (cpM (cpN τ d k) 4 d k).2.1 a
      rw [bup_row _ _ _ ha hb, cpM_row _ _ _ _ ha hb, h1 a ha hb]
    · show va_up ((bupN σ d k).2.1 4) (30 * d + k) ((bupN σ d k).2.1 2 k) = va_up _ _ _
      rw [h2, h6.2.1 2 (by omega)]
    · show va_up ((bupN σ d k).2.1 5) (30 * d + k) ((bupN σ d k).2.1 3 k) = va_up _ _ _
      rw [h3, h6.2.1 3 (by omega)]
theorem Inv.addDevice {c : Nat} {σ τ : St} (h : Inv c σ τ) (h4 : σ.1 7 < 4) : Inv c (bupN (sN σ 7 (σ.1 7 + 1)) (σ.1 7) (σ.1 4)) (advM τ) := by
  have hn : σ.1 4 = τ.1 4 := h.1.1 4 (by omega)
  have hd : σ.1 7 = τ.1 7 := h.1.1 7 (by omega)
  have ho : okC (sN σ 7 (σ.1 7 + 1)) := by
    obtain ⟨hn, hru, hrv, hdv, hsr, hmn, ht1, ht2, hwn, hR⟩ := h.2.1
    exact ⟨hn, hru, hrv, by show σ.1 7 + 1 ≤ 4; omega, hsr, hmn, ht1, ht2, hwn, hR⟩
  have h0 := h.set7 ho
  unfold advM
  rw [← hn, ← hd]
  obtain ⟨b1, b2, b3, b4, b5, b6, b7, b8, b9⟩ := bu_all (σ := sN σ 7 (σ.1 7 + 1)) (τ := τ) (fun a _ hb => h.1.2.1 a (by omega)) h0.2.2.2.2.1 ho (σ.1 7) (σ.1 4)
  obtain ⟨l1, l2, l3, l4⟩ := lrN_all (cpN τ (σ.1 7) (σ.1 4)) (σ.1 7) (σ.1 4)
  have m := b7.trans l1
  refine h0.marks b6 ⟨by show va_up (lrN (cpN τ (σ.1 7) (σ.1 4)) (σ.1 7) (σ.1 4)).1 7 _ = _; rw [m.1], m.2⟩ (fun a ha hb => ?_) b9 b8
  show _ = (lrN (cpN τ (σ.1 7) (σ.1 4)) (σ.1 7) (σ.1 4)).2.1 a
  by_cases e : 5 < a
  · rw [l4 a e]; exact b1 a e hb
  · rcases (by omega : a = 4 ∨ a = 5) with rfl | rfl
    · rw [b2, l2, b4, b7.2.1 2 (by omega)]
      show lr1 (σ.2.1 4) (σ.2.1 2) _ _ = _
      rw [h.1.2.1 4 (by omega), h.1.2.1 2 (by omega)]
    · rw [b3, l3, b5, b7.2.1 3 (by omega)]
      show lr1 (σ.2.1 5) (σ.2.1 3) _ _ = _
      rw [h.1.2.1 5 (by omega), h.1.2.1 3 (by omega)]
end ZMarks
