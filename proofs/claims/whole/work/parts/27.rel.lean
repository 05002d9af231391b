/-! the class's state and the reference's, held side by side -/
section ZRel
theorem up_c {α : Type} {f g : Nat → α} {a k : Nat} {v w : α} (h1 : f a = g a) (h2 : v = w) : va_up f k v a = va_up g k w a := by
  unfold va_up; split
  · exact h2
  · exact h1
def Sh (σ τ : St) : Prop := (∀ k, k < 8 → σ.1 k = τ.1 k) ∧ (∀ a, a < 10 → σ.2.1 a = τ.2.1 a) ∧ σ.2.1 18 = τ.2.1 18 ∧ σ.2.1 19 = τ.2.1 19 ∧ (∀ a, a < 3 → σ.2.2.1 a = τ.2.2.1 a) ∧ ∀ a, a < 3 → σ.2.2.2 a = τ.2.2.2 a
def okX (τ : St) : Prop := τ.1 8 ≤ 600 ∧ τ.1 9 ≤ 600 ∧ (∀ k, τ.2.1 13 k < 1000000) ∧ (∀ k, τ.2.1 14 k < 1000000) ∧ (∀ k, τ.2.1 16 k < 1000000) ∧ (∀ k, k < τ.1 8 → τ.2.1 15 k < τ.1 4) ∧ (∀ k, k < τ.1 9 → τ.2.1 17 k < τ.1 4) ∧ (∀ k, k < τ.1 4 → lat τ k ≠ 0)
def Kd (σ : St) : Prop := ∀ k, σ.2.1 6 k = 0 → σ.2.1 7 k = 0 ∧ σ.2.1 8 k = 0
def Nw (σ : St) : Prop := ∀ k, σ.1 4 ≤ k → σ.2.1 3 k = 0 ∧ σ.2.2.1 0 k = zI (0 : Int)
def PL (σ τ : St) : Prop := (∀ a b : Int, own σ a b = pat τ a b) ∧ ∀ a : Int, ownL σ a = lkt τ a
def Cn (c : Nat) (σ τ : St) : Prop := (∀ k, σ.2.1 2 k ≤ c) ∧ τ.1 8 ≤ c ∧ τ.1 9 ≤ c
def Od (σ : St) : Prop := PmO (σ.1 4) (σ.2.1 10) ∧ SrO (isAh σ) (σ.1 4) (σ.2.1 10)
def Inv (c : Nat) (σ τ : St) : Prop := Sh σ τ ∧ okC σ ∧ okX τ ∧ Od σ ∧ Kd σ ∧ Nw σ ∧ PL σ τ ∧ Cn c σ τ
theorem okM_of {σ τ : St} (h : Sh σ τ) (h1 : okC σ) (h2 : okX τ) : okM τ := by
  obtain ⟨hn, hru, hrv, hdv, hsr, hmn, ht1, ht2, hwn, hv1, hv2, hmj, htm, hse, htg, hrt, hac, hk1, hk2, hkd, hmm, hmv, hord, hpo, hlo⟩ := h1
  obtain ⟨a1, a2, a18, a19, a3, a4⟩ := h
  rw [a1 4 (by omega)] at hn hv1
  rw [a1 5 (by omega)] at hru
  rw [a1 6 (by omega)] at hrv
  rw [a1 7 (by omega)] at hdv
  rw [a1 3 (by omega)] at hsr
  rw [a1 0 (by omega)] at hmn
  rw [a1 1 (by omega)] at ht1 ht2
  rw [a1 2 (by omega)] at hwn
  rw [a2 2 (by omega)] at hv1 hv2
  rw [a2 3 (by omega)] at hmj
  rw [a2 1 (by omega)] at htm
  rw [a2 0 (by omega)] at hse
  rw [a18] at htg
  rw [a19] at hrt
  rw [a2 9 (by omega)] at hac
  rw [a2 4 (by omega)] at hk1
  rw [a2 5 (by omega)] at hk2
  rw [a2 6 (by omega)] at hkd
  rw [a2 7 (by omega)] at hmm
  rw [a2 8 (by omega)] at hmv
  exact ⟨hn, hru, hrv, hdv, hsr, hmn, ht1, ht2, hwn, hv1, hv2, hmj, htm, hse, htg, hrt, hac, hk1, hk2, hkd, hmm, hmv, h2⟩
theorem Inv_okM {c : Nat} {σ τ : St} (h : Inv c σ τ) : okM τ := okM_of h.1 h.2.1 h.2.2.1
-- what the two read alike
theorem Sh_lat {σ τ : St} (h : Sh σ τ) : lat σ = lat τ := by
  funext i; unfold lat; rw [h.2.2.2.2.2 0 (by omega), h.2.1 2 (by omega)]
theorem Sh_hold {σ τ : St} (h : Sh σ τ) : hold σ = hold τ := by
  funext r t te st; unfold hold
  rw [h.2.2.2.2.2 1 (by omega), h.2.2.2.2.2 2 (by omega), h.2.2.2.2.1 1 (by omega), h.2.2.1]
theorem Sh_goS {σ τ : St} (h : Sh σ τ) (t : Int64) (te : Int32) : ∀ k, goS σ t te k = goS τ t te k
  | 0 => rfl
  | k + 1 => by unfold goS; rw [(Sh_hold h), Sh_goS h t te k, h.2.1 9 (by omega)]
theorem Sh_goI {σ τ : St} (h : Sh σ τ) : goI σ = goI τ := by
  funext i; unfold goI; rw [(Sh_lat h), h.2.2.2.2.1 0 (by omega), h.1 5 (by omega), Sh_goS h]
theorem Sh_shM {σ τ : St} (h : Sh σ τ) : shM σ = shM τ := by
  funext r i; unfold shM; rw [(Sh_goI h), h.2.2.2.2.1 0 (by omega), h.2.2.2.2.1 2 (by omega), h.2.2.2.1]
theorem Sh_isAh {σ τ : St} (h : Sh σ τ) : isAh σ = isAh τ := by
  funext i j; unfold isAh; rw [h.2.1 1 (by omega)]
theorem Sh_rdBy {σ τ : St} (h : Sh σ τ) : rdBy σ = rdBy τ := by
  funext a b d; unfold rdBy; rw [h.2.1 6 (by omega), h.2.1 8 (by omega)]
theorem Sh_rdR {σ τ : St} (h : Sh σ τ) : rdR σ = rdR τ := by
  funext i; unfold rdR; rw [(Sh_rdBy h), h.2.1 3 (by omega)]
theorem Sh_rdD {σ τ : St} (h : Sh σ τ) : rdD σ = rdD τ := by
  funext d i; unfold rdD; rw [(Sh_rdBy h), h.2.1 5 (by omega)]
theorem Sh_ahM {σ τ : St} (h : Sh σ τ) : ahM σ = ahM τ := by
  funext a b; unfold ahM; rw [(Sh_isAh h), (Sh_shM h), h.1 4 (by omega)]
theorem Sh_itA {σ τ : St} (h : Sh σ τ) : itA σ = itA τ := by
  funext a b; unfold itA; rw [(Sh_ahM h), (Sh_shM h), h.1 4 (by omega)]
theorem Sh_bst {σ τ : St} (h : Sh σ τ) (t : Int64) (sf : Int) (th : Nat) : ∀ k, bst σ t sf th k = bst τ t sf th k
  | 0 => rfl
  | k + 1 => by unfold bst; rw [Sh_bst h t sf th k, h.2.1 0 (by omega), (Sh_lat h)]
theorem Sh_sumV {σ τ : St} (h : Sh σ τ) : ∀ k, sumV σ k = sumV τ k
  | 0 => rfl
  | k + 1 => by unfold sumV; rw [Sh_sumV h k, h.2.1 2 (by omega)]
theorem Sh_tmF {σ τ : St} (h : Sh σ τ) (td : Int) : tmF σ td = tmF τ td := by unfold tmF; rw [h.1 0 (by omega)]
theorem Sh_shw {c : Nat} {σ τ : St} (h : Inv c σ τ) {rv : Nat} : shw σ rv = shM τ rv := by
  obtain ⟨hn, hru, hrv, hdv, hsr, hmn, ht1, ht2, hwn, hv1, hv2, hmj, htm, hse, htg, hrt, hac, hk1, hk2, hkd, hmm, hmv, hord, hpo, hlo⟩ := h.2.1
  rw [← (Sh_shM h.1)]
  funext i
  exact shw_shM hac htg hru (hrt rv) i
-- numbers that are set
theorem Sh_sN {σ τ : St} (h : Sh σ τ) (k v : Nat) : Sh (sN σ k v) (sN τ k v) :=
  ⟨fun a ha => up_c (h.1 a ha) rfl, h.2⟩
theorem Cn.mono {c : Nat} {σ τ : St} (h : Cn c σ τ) : Cn (c + 1) σ τ := ⟨fun k => Nat.le_succ_of_le (h.1 k), Nat.le_succ_of_le h.2.1, Nat.le_succ_of_le h.2.2⟩
theorem Inv.mono {c : Nat} {σ τ : St} (h : Inv c σ τ) : Inv (c + 1) σ τ := ⟨h.1, h.2.1, h.2.2.1, h.2.2.2.1, h.2.2.2.2.1, h.2.2.2.2.2.1, h.2.2.2.2.2.2.1, h.2.2.2.2.2.2.2.mono⟩
theorem Inv.set {c : Nat} {σ τ : St} (h : Inv c σ τ) {k v : Nat} (hk : k < 4) (hv : okC (sN σ k v)) : Inv c (sN σ k v) (sN τ k v) := by
  obtain ⟨h1, h2, h3, h4, h5, h6, h7, h8⟩ := h
  rcases (by omega : k = 0 ∨ k = 1 ∨ k = 2 ∨ k = 3) with rfl | rfl | rfl | rfl <;>
    exact ⟨Sh_sN h1 _ _, hv, h3, h4, h5, h6, h7, h8⟩
-- states that differ in marks and in what devices know
def Mk (σ σ' : St) : Prop := σ'.1 = σ.1 ∧ (∀ a, (a < 4 ∨ 8 < a) → σ'.2.1 a = σ.2.1 a) ∧ σ'.2.2 = σ.2.2
theorem Mk.refl (σ : St) : Mk σ σ := ⟨rfl, fun _ _ => rfl, rfl⟩
theorem Mk.trans {a b c : St} (h : Mk a b) (g : Mk b c) : Mk a c := ⟨g.1.trans h.1, fun x hx => (g.2.1 x hx).trans (h.2.1 x hx), g.2.2.trans h.2.2⟩
theorem Mk_putM (σ : St) (x i kd mn vr : Nat) : Mk σ (putM σ x i kd mn vr) := ⟨rfl, fun a ha => by
  show va_up (va_up (va_up σ.2.1 6 _) 7 _) 8 _ a = _
  rw [va_up_ne _ _ (by omega), va_up_ne _ _ (by omega), va_up_ne _ _ (by omega)], rfl⟩
theorem Mk_lrn (σ : St) (d i vr mj : Nat) : Mk σ (lrn σ d i vr mj) := ⟨rfl, fun a ha => by
  show va_up (va_up σ.2.1 4 _) 5 _ a = _
  rw [va_up_ne _ _ (by omega), va_up_ne _ _ (by omega)], rfl⟩
theorem Inv.marks {c : Nat} {σ τ σ' τ' : St} (h : Inv c σ τ) (hs : Mk σ σ') (ht : Mk τ τ') (he : ∀ a, 3 < a → a < 9 → σ'.2.1 a = τ'.2.1 a) (hk : okC σ') (hd : Kd σ') : Inv c σ' τ' := by
  obtain ⟨h1, h2, h3, h4, h5, h6, h7, h8⟩ := h
  obtain ⟨s1, s2, s3⟩ := hs
  obtain ⟨t1, t2, t3⟩ := ht
  refine ⟨⟨fun k hk => by rw [s1, t1]; exact h1.1 k hk, fun a ha => ?_, by rw [s2 18 (by omega), t2 18 (by omega)]; exact h1.2.2.1, by rw [s2 19 (by omega), t2 19 (by omega)]; exact h1.2.2.2.1, by rw [s3, t3]; exact h1.2.2.2.2.1, by rw [s3, t3]; exact h1.2.2.2.2.2⟩, hk, ?_, ?_, hd, ?_, ?_, ?_⟩
  · by_cases e : 3 < a ∧ a < 9
    · exact he a e.1 e.2
    · rw [s2 a (by omega), t2 a (by omega)]; exact h1.2.1 a ha
  · unfold okX lat
    rw [t1, t2 13 (by omega), t2 14 (by omega), t2 16 (by omega), t2 15 (by omega), t2 17 (by omega), t2 2 (by omega), t3]
    exact h3
  · unfold Od
    rw [s1, s2 10 (by omega), show isAh σ' = isAh σ from by funext i j; unfold isAh; rw [s2 1 (by omega)]]
    exact h4
  · unfold Nw
    rw [s1, s2 3 (by omega), s3]
    exact h6
  · refine ⟨fun a b => ?_, fun a => ?_⟩
    · rw [show own σ' a b = own σ a b from by unfold own; rw [s2 11 (by omega)], h7.1 a b]
      unfold pat patI
      rw [t1, t2 13 (by omega), t2 14 (by omega), t2 15 (by omega)]
    · rw [show ownL σ' a = ownL σ a from by unfold ownL; rw [s2 12 (by omega)], h7.2 a]
      unfold lkt lktI
      rw [t1, t2 16 (by omega), t2 17 (by omega)]
  · unfold Cn
    rw [s2 2 (by omega), t1]
    exact h8
theorem Kd_putM {σ : St} (h : Kd σ) {x i kd mn vr : Nat} (hk : kd = 0 → mn = 0 ∧ vr = 0) : Kd (putM σ x i kd mn vr) := fun k hk0 => by
  have hk0 : va_up (σ.2.1 6) (30 * x + i) kd k = 0 := hk0
  show va_up (σ.2.1 7) (30 * x + i) mn k = 0 ∧ va_up (σ.2.1 8) (30 * x + i) vr k = 0
  unfold va_up at *
  split
  · rename_i e; rw [if_pos e] at hk0; exact hk hk0
  · rename_i e; rw [if_neg e] at hk0; exact h k hk0
theorem Kd_cpM {σ : St} (h : Kd σ) (f t i : Nat) : Kd (cpM σ f t i) := Kd_putM h (fun e => h _ e)
theorem Kd_mkS {σ : St} (h : Kd σ) (d i : Nat) (b : Bool) : Kd (mkS σ d i b) := Kd_putM h (fun e => by cases b <;> simp at e)
theorem Inv.mark {c : Nat} {σ τ : St} (h : Inv c σ τ) (d i : Nat) (b : Bool) : Inv c (mkS σ d i b) (mkS τ d i b) := by
  refine h.marks (Mk_putM _ _ _ _ _ _) (Mk_putM _ _ _ _ _ _) (fun a h1 h2 => ?_) (okC_mkS h.2.1 d i b) (Kd_mkS h.2.2.2.2.1 d i b)
  have e4 := h.1.2.1 4 (by omega)
  have e6 := h.1.2.1 6 (by omega)
  have e7 := h.1.2.1 7 (by omega)
  have e8 := h.1.2.1 8 (by omega)
  have en := h.1.1 0 (by omega)
  show va_up (va_up (va_up σ.2.1 6 _) 7 _) 8 _ a = va_up (va_up (va_up τ.2.1 6 _) 7 _) 8 _ a
  rw [e4, e6, e7, e8, en]
  exact up_c (up_c (up_c (h.1.2.1 a (by omega)) rfl) rfl) rfl
end ZRel
