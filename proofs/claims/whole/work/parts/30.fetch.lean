/-! a fetch: the two states stay side by side -/
section ZFetch
def Pw (σ : St) : Prop := (∀ k, σ.2.1 11 k ≤ σ.1 4) ∧ (∀ k, σ.2.1 12 k ≤ σ.1 4)
theorem okX_of {τ : St} (h : okM τ) : okX τ := by
  obtain ⟨hn, hru, hrv, hdv, hsr, hmn, ht1, ht2, hwn, hv1, hv2, hmj, htm, hse, htg, hrt, hac, hk1, hk2, hkd, hmm, hmv, h2⟩ := h
  exact h2
theorem Sh_symm {σ τ : St} (h : Sh σ τ) : Sh τ σ := ⟨fun k hk => (h.1 k hk).symm, fun k hk => (h.2.1 k hk).symm, h.2.2.1.symm, h.2.2.2.1.symm, fun k hk => (h.2.2.2.2.1 k hk).symm, fun k hk => (h.2.2.2.2.2 k hk).symm⟩
theorem Inv_of {c : Nat} {σ τ : St} (h : Sh σ τ) (h1 : okM τ) (h2 : Od σ) (h3 : Kd σ) (h4 : Nw σ) (h5 : PL σ τ) (h6 : Cn c σ τ) (h7 : Pw σ) : Inv c σ τ := by
  refine ⟨h, ?_, okX_of h1, h2, h3, h4, h5, h6⟩
  obtain ⟨hn, hru, hrv, hdv, hsr, hmn, ht1, ht2, hwn, hv1, hv2, hmj, htm, hse, htg, hrt, hac, hk1, hk2, hkd, hmm, hmv, hX⟩ := h1
  obtain ⟨a1, a2, a18, a19, a3, a4⟩ := Sh_symm h
  rw [a1 4 (by omega)] at hn hv1
  rw [a1 5 (by omega)] at hru
  rw [a1 6 (by omega)] at hrv
  rw [a1 7 (by omega)] at hdv
  rw [a1 3 (by omega)] at hsr
  rw [a1 0 (by omega)] at hmn
  rw [a1 1 (by omega)] at ht1 ht2
  rw [a1 2 (by omega)] at hwn
  rw [a2 2 (by omega)] at hv1 hv2
  rw [a2 3 (by omega)] at hmj
  rw [a2 1 (by omega)] at htm
  rw [a2 0 (by omega)] at hse
  rw [a18] at htg
  rw [a19] at hrt
  rw [a2 9 (by omega)] at hac
  rw [a2 4 (by omega)] at hk1
  rw [a2 5 (by omega)] at hk2
  rw [a2 6 (by omega)] at hkd
  rw [a2 7 (by omega)] at hmm
  rw [a2 8 (by omega)] at hmv
  exact ⟨hn, hru, hrv, hdv, hsr, hmn, ht1, ht2, hwn, hv1, hv2, hmj, htm, hse, htg, hrt, hac, hk1, hk2, hkd, hmm, hmv, fun k hk => h2.1.lt hk, h7.1, h7.2⟩
theorem Inv_Pw {c : Nat} {σ τ : St} (h : Inv c σ τ) : Pw σ := by
  obtain ⟨hn, hru, hrv, hdv, hsr, hmn, ht1, ht2, hwn, hv1, hv2, hmj, htm, hse, htg, hrt, hac, hk1, hk2, hkd, hmm, hmv, hord, hpo, hlo⟩ := h.2.1
  exact ⟨hpo, hlo⟩
/-- all but the bounds -/
def Inw (c : Nat) (σ τ : St) : Prop := Sh σ τ ∧ Od σ ∧ Kd σ ∧ Nw σ ∧ PL σ τ ∧ Cn c σ τ ∧ Pw σ
theorem own_ge (σ : St) (a b : Int) : -1 ≤ own σ a b := by unfold own; split <;> omega
theorem ownL_ge (σ : St) (a : Int) : -1 ≤ ownL σ a := by unfold ownL; split <;> omega
theorem fnd_eq {c : Nat} {σ τ : St} (h : Inv c σ τ) (sr id lk : Int) (t : Int64) : fnd σ sr id lk t = fndM τ sr id lk t := by
  obtain ⟨p1, p2⟩ := h.2.2.2.2.2.2.1
  have g1 := own_ge σ sr id
  have g2 := ownL_ge σ lk
  have e1 : fndP τ sr id = own σ sr id := by
    unfold fndP
    split
    · rename_i e
      rw [e]; unfold own; rw [if_neg (by omega)]
    · exact (p1 sr id).symm
  have e2 : fndQ τ sr id lk = if own σ sr id ≠ -1 then own σ sr id else ownL σ lk := by
    unfold fndQ
    rw [e1]
    by_cases c1 : own σ sr id = -1
    · rw [if_neg (show ¬ own σ sr id ≠ -1 by omega)]
      by_cases c2 : lk = -1
      · rw [if_neg (by omega), c1, c2]
        unfold ownL; rw [if_neg (by omega)]
      · rw [if_pos (by omega)]; exact (p2 lk).symm
    · rw [if_neg (by omega), if_pos c1]
  unfold fnd fndM
  rw [e2, show bstM τ t (τ.1 4) = bst σ t (((σ.1 0 : Nat) : Int) - ((σ.1 2 : Nat) : Int)) (σ.1 1) (σ.1 4) from by unfold bstM; rw [h.1.1 0 (by omega), h.1.1 2 (by omega), h.1.1 1 (by omega), h.1.1 4 (by omega), Sh_bst h.1]]
  by_cases c1 : own σ sr id = -1
  · simp only [c1, ne_eq, not_true, if_false]
    by_cases c2 : ownL σ lk = -1
    · rw [if_neg (show ¬ ¬ ownL σ lk = -1 by omega), if_pos (by omega)]
    · rw [if_pos c2, if_neg (by omega)]
  · rw [if_pos c1, if_pos c1, if_neg (by omega)]
-- a new item
theorem Inw_app {c : Nat} {σ τ : St} (h : Inv c σ τ) (t : Int64) (td : Int) : Inw (c + 1) (app σ t (σ.1 0) (tmF σ td)) (adS τ t td) := by
  have hPw := Inv_Pw h
  obtain ⟨h1, h2, h3, h4, h5, h6, h7, h8⟩ := h
  have hn := h1.1 4 (by omega)
  have q3 := h6 (σ.1 4) (Nat.le_refl _)
  have e3 := h1.2.1 3 (by omega)
  have eI := h1.2.2.2.2.1 0 (by omega)
  refine ⟨⟨fun k hk => ?_, fun a ha => ?_, h1.2.2.1, h1.2.2.2.1, fun a ha => ?_, fun a ha => ?_⟩, ?_, h5, fun k hk => h6 k ?_, h7, ⟨fun k => ?_, Nat.le_succ_of_le h8.2.1, Nat.le_succ_of_le h8.2.2⟩, fun k => Nat.le_succ_of_le (hPw.1 k), fun k => Nat.le_succ_of_le (hPw.2 k)⟩
  · show va_up σ.1 4 (σ.1 4 + 1) k = va_up τ.1 4 (τ.1 4 + 1) k
    exact up_c (h1.1 k hk) (by rw [hn])
  · show va_up (va_up (va_up (va_up σ.2.1 0 _) 1 _) 2 _) 10 _ a = va_up (va_up (va_up (va_up τ.2.1 0 _) 1 _) 2 _) 3 _ a
    rw [va_up_ne _ _ (by omega)]
    by_cases e : a = 3
    · subst e
      rw [va_up_self, va_up_ne _ _ (by omega), va_up_ne _ _ (by omega), va_up_ne _ _ (by omega), ← hn, ← e3]
      exact (up_id2 _ _ _ q3.1).symm
    · rw [va_up_ne (va_up (va_up (va_up τ.2.1 0 _) 1 _) 2 _) _ e]
      refine up_c (up_c (up_c (h1.2.1 a ha) ?_) ?_) ?_
      · rw [hn, h1.1 0 (by omega), h1.2.1 0 (by omega)]
      · rw [hn, Sh_tmF h1, h1.2.1 1 (by omega)]
      · rw [hn, h1.2.1 2 (by omega)]
  · show σ.2.2.1 a = va_up τ.2.2.1 0 (va_up (τ.2.2.1 0) (τ.1 4) (zI (0 : Int))) a
    by_cases e : a = 0
    · subst e
      rw [va_up_self, ← hn, ← eI]
      funext j
      unfold va_up
      split
      · rename_i e2; rw [e2]; exact q3.2
      · rfl
    · rw [va_up_ne _ _ e]; exact h1.2.2.2.2.1 a ha
  · show va_up σ.2.2.2 0 (va_up (σ.2.2.2 0) (4 * σ.1 4 + 0 % 4) t) a = va_up τ.2.2.2 0 (va_up (τ.2.2.2 0) (4 * τ.1 4) t) a
    refine up_c (h1.2.2.2.2.2 a ha) ?_
    rw [hn, h1.2.2.2.2.2 0 (by omega)]; rfl
  · have hO := isAh_ord (app4 σ t (σ.1 0) (tmF σ td))
    have hag : ∀ i j, i < σ.1 4 → j < σ.1 4 → isAh (app4 σ t (σ.1 0) (tmF σ td)) i j = isAh σ i j := fun i j hi hj => by
      have r : ∀ x, x < σ.1 4 → (app4 σ t (σ.1 0) (tmF σ td)).2.1 1 x = σ.2.1 1 x := fun x hx => va_up_ne _ _ (by omega)
      unfold isAh
      rw [r i hi, r j hj]
    have hs : SrO (isAh (app4 σ t (σ.1 0) (tmF σ td))) (σ.1 4) (σ.2.1 10) := fun i j hij hj => by
      rw [hag _ _ (h4.1.lt (by omega)) (h4.1.lt hj)]
      exact h4.2 i j hij hj
    exact ⟨ins_Pm h4.1, ins_Sr hO hs (fun j hj => h4.1.lt hj)⟩
  · have : σ.1 4 + 1 ≤ k := hk
    omega
  · show va_up (σ.2.1 2) (σ.1 4) 1 k ≤ c + 1
    unfold va_up; split
    · omega
    · exact Nat.le_succ_of_le (h8.1 k)
-- another version
theorem Inw_rnw {c : Nat} {σ τ : St} (h : Inv c σ τ) {i : Nat} (hi : i < σ.1 4) (t : Int64) : Inw (c + 1) (rnw σ i t (σ.1 1)) (chg τ i t) := by
  have hPw := Inv_Pw h
  have h0 := h
  obtain ⟨h1, h2, h3, h4, h5, h6, h7, h8⟩ := h
  have hl := Sh_lat h1
  have e2 := h1.2.1 2 (by omega)
  have e3 := h1.2.1 3 (by omega)
  have eL := h1.2.2.2.2.2 0 (by omega)
  have hc2 : ∀ k, va_up (σ.2.1 2) i (σ.2.1 2 i + 1) k ≤ c + 1 := fun k => by
    unfold va_up; split
    · have := h8.1 i; omega
    · exact Nat.le_succ_of_le (h8.1 k)
  unfold rnw chg
  rw [hl]
  by_cases c1 : t = lat τ i
  · rw [if_pos c1, if_pos c1.symm]
    exact ⟨h1, h4, h5, h6, h7, h8.mono, hPw⟩
  · rw [if_neg c1]
    have c3 : ¬ lat τ i = t := fun e => c1 e.symm
    have e1 := h1.1 1 (by omega)
    by_cases c2 : σ.1 1 ≤ like t (lat τ i)
    · rw [if_pos c2, if_neg c3, like_comm (lat τ i) t, if_neg (by omega)]
      refine ⟨⟨h1.1, fun a ha => ?_, h1.2.2.1, h1.2.2.2.1, h1.2.2.2.2.1, fun a ha => ?_⟩, h4, h5, h6, h7, ⟨hc2, Nat.le_succ_of_le h8.2.1, Nat.le_succ_of_le h8.2.2⟩, hPw⟩
      · exact up_c (h1.2.1 a ha) (by rw [e2])
      · exact up_c (h1.2.2.2.2.2 a ha) (by rw [eL, e2])
    · rw [if_neg c2, if_neg c3, like_comm (lat τ i) t, if_pos (by omega)]
      refine ⟨⟨h1.1, fun a ha => ?_, h1.2.2.1, h1.2.2.2.1, h1.2.2.2.2.1, fun a ha => ?_⟩, h4, h5, fun k hk => ⟨?_, (h6 k hk).2⟩, h7, ⟨hc2, Nat.le_succ_of_le h8.2.1, Nat.le_succ_of_le h8.2.2⟩, hPw⟩
      · show va_up (va_up σ.2.1 2 _) 3 _ a = va_up (va_up τ.2.1 3 _) 2 _ a
        by_cases x3 : a = 3
        · subst x3
          rw [va_up_self, va_up_ne _ _ (by omega), va_up_self, e2, e3]
        · rw [va_up_ne _ _ x3]
          by_cases x2 : a = 2
          · subst x2
            rw [va_up_self, va_up_self, e2]
          · rw [va_up_ne _ _ x2, va_up_ne _ _ x2, va_up_ne _ _ x3]; exact h1.2.1 a ha
      · exact up_c (h1.2.2.2.2.2 a ha) (by rw [eL, e2])
      · have hk' : σ.1 4 ≤ k := hk
        show va_up (σ.2.1 3) i _ k = 0
        rw [va_up_ne _ _ (by omega)]
        exact (h6 k hk').1
theorem Inw_addT {c : Nat} {σ τ : St} (h : Inw c σ τ) {i : Nat} (hi : i < σ.1 4) (sr : Nat) : Inw c (addT σ i sr) (addT τ i sr) := by
  obtain ⟨h1, h4, h5, h6, h7, h8, h9⟩ := h
  refine ⟨⟨h1.1, h1.2.1, h1.2.2.1, h1.2.2.2.1, fun a ha => ?_, h1.2.2.2.2.2⟩, h4, h5, fun k hk => ⟨(h6 k hk).1, ?_⟩, h7, h8, h9⟩
  · exact up_c (h1.2.2.2.2.1 a ha) (by rw [h1.2.2.2.2.1 0 (by omega)])
  · have hk' : σ.1 4 ≤ k := hk
    show va_up (σ.2.2.1 0) i _ k = _
    rw [va_up_ne _ _ (by omega)]
    exact (h6 k hk').2
-- the two tables
theorem fI_congr {P P' : Nat → Bool} : ∀ {n}, (∀ k, k < n → P' k = P k) → fI P' n = fI P n
  | 0, _ => rfl
  | n + 1, h => by
    have ih := fI_congr (n := n) (fun k hk => h k (by omega))
    unfold fI
    rw [ih, h n (by omega)]
theorem pat_prS {τ : St} {i sr : Nat} {b : Int} (hb : 0 ≤ b) (hno : pat τ ((sr : Nat) : Int) b < 0) (x y : Int) : pat (prS τ i sr b) x y = if x = ((sr : Nat) : Int) ∧ y = b then ((i : Nat) : Int) else pat τ x y := by
  have hP : ∀ u v k, k < τ.1 8 → patI (prS τ i sr b) u v k = patI τ u v k := fun u v k hk => by
    show (decide (((va_up (τ.2.1 13) (τ.1 8) sr k : Nat) : Int) = u) && decide (((va_up (τ.2.1 14) (τ.1 8) b.toNat k : Nat) : Int) = v)) = _
    rw [va_up_ne _ _ (by omega), va_up_ne _ _ (by omega)]; rfl
  have hL : patI (prS τ i sr b) x y (τ.1 8) = (decide (((sr : Nat) : Int) = x) && decide (((b.toNat : Nat) : Int) = y)) := by
    show (decide (((va_up (τ.2.1 13) (τ.1 8) sr (τ.1 8) : Nat) : Int) = x) && decide (((va_up (τ.2.1 14) (τ.1 8) b.toNat (τ.1 8) : Nat) : Int) = y)) = _
    rw [va_up_self, va_up_self]
  have e : pat (prS τ i sr b) x y = if fI (patI (prS τ i sr b) x y) (τ.1 8 + 1) < 0 then -1 else ((va_up (τ.2.1 15) (τ.1 8) i (fI (patI (prS τ i sr b) x y) (τ.1 8 + 1)).toNat : Nat) : Int) := rfl
  have hI : fI (patI (prS τ i sr b) x y) (τ.1 8 + 1) = if 0 ≤ fI (patI τ x y) (τ.1 8) then fI (patI τ x y) (τ.1 8) else if patI (prS τ i sr b) x y (τ.1 8) then ((τ.1 8 : Nat) : Int) else -1 := by
    conv => lhs; unfold fI
    rw [fI_congr (fun k hk => hP x y k hk)]
  have hin := fI_in (patI τ x y) (τ.1 8)
  by_cases c1 : x = ((sr : Nat) : Int) ∧ y = b
  · rw [if_pos c1]
    have h0 : fI (patI τ x y) (τ.1 8) < 0 := by
      rw [c1.1, c1.2]
      unfold pat at hno
      split at hno
      · assumption
      · omega
    have hX : fI (patI (prS τ i sr b) x y) (τ.1 8 + 1) = ((τ.1 8 : Nat) : Int) := by
      rw [hI, if_neg (by omega), hL, if_pos (by rw [Bool.and_eq_true, decide_eq_true_eq, decide_eq_true_eq]; omega)]
    rw [e, hX, if_neg (by omega), show (((τ.1 8 : Nat) : Int)).toNat = τ.1 8 from by omega, va_up_self]
  · rw [if_neg c1]
    by_cases h3 : 0 ≤ fI (patI τ x y) (τ.1 8)
    · have hX : fI (patI (prS τ i sr b) x y) (τ.1 8 + 1) = fI (patI τ x y) (τ.1 8) := by rw [hI, if_pos h3]
      rw [e, hX, if_neg (by omega), va_up_ne _ _ (by omega)]
      unfold pat
      rw [if_neg (by omega)]
    · have hX : fI (patI (prS τ i sr b) x y) (τ.1 8 + 1) = -1 := by
        rw [hI, if_neg h3, hL, if_neg (fun h => by rw [Bool.and_eq_true, decide_eq_true_eq, decide_eq_true_eq] at h; omega)]
      rw [e, hX, if_pos (by omega)]
      unfold pat
      rw [if_pos (by omega)]
theorem lkt_lkS {τ : St} {i : Nat} {b : Int} (hb : 0 ≤ b) (hno : lkt τ b < 0) (x : Int) : lkt (lkS τ i b) x = if x = b then ((i : Nat) : Int) else lkt τ x := by
  have hP : ∀ u k, k < τ.1 9 → lktI (lkS τ i b) u k = lktI τ u k := fun u k hk => by
    show decide (((va_up (τ.2.1 16) (τ.1 9) b.toNat k : Nat) : Int) = u) = _
    rw [va_up_ne _ _ (by omega)]; rfl
  have hL : lktI (lkS τ i b) x (τ.1 9) = decide (((b.toNat : Nat) : Int) = x) := by
    show decide (((va_up (τ.2.1 16) (τ.1 9) b.toNat (τ.1 9) : Nat) : Int) = x) = _
    rw [va_up_self]
  have e : lkt (lkS τ i b) x = if fI (lktI (lkS τ i b) x) (τ.1 9 + 1) < 0 then -1 else ((va_up (τ.2.1 17) (τ.1 9) i (fI (lktI (lkS τ i b) x) (τ.1 9 + 1)).toNat : Nat) : Int) := rfl
  have hI : fI (lktI (lkS τ i b) x) (τ.1 9 + 1) = if 0 ≤ fI (lktI τ x) (τ.1 9) then fI (lktI τ x) (τ.1 9) else if lktI (lkS τ i b) x (τ.1 9) then ((τ.1 9 : Nat) : Int) else -1 := by
    conv => lhs; unfold fI
    rw [fI_congr (fun k hk => hP x k hk)]
  have hin := fI_in (lktI τ x) (τ.1 9)
  by_cases c1 : x = b
  · rw [if_pos c1]
    have h0 : fI (lktI τ x) (τ.1 9) < 0 := by
      rw [c1]
      unfold lkt at hno
      split at hno
      · assumption
      · omega
    have hX : fI (lktI (lkS τ i b) x) (τ.1 9 + 1) = ((τ.1 9 : Nat) : Int) := by
      rw [hI, if_neg (by omega), hL, if_pos (by rw [decide_eq_true_eq]; omega)]
    rw [e, hX, if_neg (by omega), show (((τ.1 9 : Nat) : Int)).toNat = τ.1 9 from by omega, va_up_self]
  · rw [if_neg c1]
    by_cases h3 : 0 ≤ fI (lktI τ x) (τ.1 9)
    · have hX : fI (lktI (lkS τ i b) x) (τ.1 9 + 1) = fI (lktI τ x) (τ.1 9) := by rw [hI, if_pos h3]
      rw [e, hX, if_neg (by omega), va_up_ne _ _ (by omega)]
      unfold lkt
      rw [if_neg (by omega)]
    · have hX : fI (lktI (lkS τ i b) x) (τ.1 9 + 1) = -1 := by
        rw [hI, if_neg h3, hL, if_neg (fun h => by rw [decide_eq_true_eq] at h; omega)]
      rw [e, hX, if_pos (by omega)]
      unfold lkt
      rw [if_pos (by omega)]
theorem Inw_clP {c : Nat} {σ τ : St} (h : Inw c σ τ) {i sr : Nat} {b : Int} (hi : i < σ.1 4) (h1 : sr < 6) (hb : -1 ≤ b ∧ b ≤ 999) (hcn : τ.1 8 < c) : Inw c (clP σ i ((sr : Nat) : Int) b) (clPM τ i sr b) := by
  obtain ⟨s1, s2, s3, s4, s5, s6, s7⟩ := h
  have hg := own_ge σ ((sr : Nat) : Int) b
  have hp := s5.1 ((sr : Nat) : Int) b
  unfold clP clPM
  by_cases c1 : b ≠ -1 ∧ own σ ((sr : Nat) : Int) b = -1
  · have c2 : b ≠ -1 ∧ pat τ ((sr : Nat) : Int) b < 0 := ⟨c1.1, by omega⟩
    rw [if_pos c1, if_pos c2]
    refine ⟨⟨fun k hk => ?_, fun a ha => ?_, s1.2.2.1, s1.2.2.2.1, s1.2.2.2.2.1, s1.2.2.2.2.2⟩, s2, s3, s4, ⟨fun x y => ?_, s5.2⟩, ⟨s6.1, ?_, s6.2.2⟩, fun k => ?_, s7.2⟩
    · show σ.1 k = va_up τ.1 8 _ k
      rw [va_up_ne _ _ (by omega)]; exact s1.1 k hk
    · show va_up σ.2.1 11 _ a = va_up (va_up (va_up τ.2.1 13 _) 14 _) 15 _ a
      rw [va_up_ne _ _ (by omega), va_up_ne _ _ (by omega), va_up_ne _ _ (by omega), va_up_ne _ _ (by omega)]
      exact s1.2.1 a ha
    · rw [pat_prS (by omega) c2.2, ← s5.1 x y]
      show (if 0 ≤ x ∧ x < 6 ∧ 0 ≤ y ∧ y < 1000 then ((va_up (σ.2.1 11) (1000 * ((sr : Nat) : Int).toNat + b.toNat) (i + 1) (1000 * x.toNat + y.toNat) : Nat) : Int) - 1 else -1) = _
      by_cases c3 : x = ((sr : Nat) : Int) ∧ y = b
      · rw [if_pos c3]
        obtain ⟨rfl, rfl⟩ := c3
        rw [if_pos (by omega), va_up_self]; omega
      · rw [if_neg c3]
        unfold own
        split
        · rw [va_up_ne _ _ (by omega)]
        · rfl
    · show τ.1 8 + 1 ≤ c
      omega
    · show va_up (σ.2.1 11) _ (i + 1) k ≤ σ.1 4
      unfold va_up; split
      · omega
      · exact s7.1 k
  · rw [if_neg c1, if_neg (fun c2 => c1 ⟨c2.1, by omega⟩)]
    exact ⟨s1, s2, s3, s4, s5, s6, s7⟩
theorem Inw_clL {c : Nat} {σ τ : St} (h : Inw c σ τ) {i : Nat} {b : Int} (hi : i < σ.1 4) (hb : -1 ≤ b ∧ b ≤ 999) (hcn : τ.1 9 < c) : Inw c (clL σ i b) (clLM τ i b) := by
  obtain ⟨s1, s2, s3, s4, s5, s6, s7⟩ := h
  have hg := ownL_ge σ b
  have hp := s5.2 b
  unfold clL clLM
  by_cases c1 : b ≠ -1 ∧ ownL σ b = -1
  · have c2 : b ≠ -1 ∧ lkt τ b < 0 := ⟨c1.1, by omega⟩
    rw [if_pos c1, if_pos c2]
    refine ⟨⟨fun k hk => ?_, fun a ha => ?_, s1.2.2.1, s1.2.2.2.1, s1.2.2.2.2.1, s1.2.2.2.2.2⟩, s2, s3, s4, ⟨s5.1, fun x => ?_⟩, ⟨s6.1, s6.2.1, ?_⟩, s7.1, fun k => ?_⟩
    · show σ.1 k = va_up τ.1 9 _ k
      rw [va_up_ne _ _ (by omega)]; exact s1.1 k hk
    · show va_up σ.2.1 12 _ a = va_up (va_up τ.2.1 16 _) 17 _ a
      rw [va_up_ne _ _ (by omega), va_up_ne _ _ (by omega), va_up_ne _ _ (by omega)]
      exact s1.2.1 a ha
    · rw [lkt_lkS (by omega) c2.2, ← s5.2 x]
      show (if 0 ≤ x ∧ x < 1000 then ((va_up (σ.2.1 12) b.toNat (i + 1) x.toNat : Nat) : Int) - 1 else -1) = _
      by_cases c3 : x = b
      · rw [if_pos c3]
        subst c3
        rw [if_pos (by omega), va_up_self]; omega
      · rw [if_neg c3]
        unfold ownL
        split
        · rw [va_up_ne _ _ (by omega)]
        · rfl
    · show τ.1 9 + 1 ≤ c
      omega
    · show va_up (σ.2.1 12) _ (i + 1) k ≤ σ.1 4
      unfold va_up; split
      · omega
      · exact s7.2 k
  · rw [if_neg c1, if_neg (fun c2 => c1 ⟨c2.1, by omega⟩)]
    exact ⟨s1, s2, s3, s4, s5, s6, s7⟩
end ZFetch
