/-! plain words for the reference -/
section ZPure7
theorem cnt_zero {p : Nat → Bool} : ∀ {n}, cnt p n = 0 → ∀ k, k < n → p k = false
  | 0, _, k, h => by omega
  | n + 1, h, k, hk => by
    unfold cnt at h
    by_cases e : k = n
    · subst e
      cases hp : p k with
      | false => rfl
      | true => rw [hp] at h; simp at h
    · exact cnt_zero (n := n) (by omega) k (by omega)
theorem popc_or {a b : Int64} (h : a ≠ 0 ∨ b ≠ 0) : popc (a ||| b) ≠ 0 := by
  intro h0
  have h1 := cnt_zero h0
  have h2 : ∀ k, k < 64 → a.toBitVec.getLsbD k = false ∧ b.toBitVec.getLsbD k = false := fun k hk => by
    have := h1 k hk
    rw [Int64.toBitVec_or, BitVec.getLsbD_or] at this
    simpa using this
  rcases h with h | h
  · apply h
    apply Int64.toBitVec_inj.mp
    apply BitVec.eq_of_getLsbD_eq
    intro i hi
    rw [(h2 i hi).1]
    show false = (0#64).getLsbD i
    simp
  · apply h
    apply Int64.toBitVec_inj.mp
    apply BitVec.eq_of_getLsbD_eq
    intro i hi
    rw [(h2 i hi).2]
    show false = (0#64).getLsbD i
    simp
theorem like_comm (a b : Int64) : like a b = like b a := by
  unfold like
  rw [show a &&& b = b &&& a from Int64.and_comm a b, show a ||| b = b ||| a from Int64.or_comm a b]
theorem bv1 {w : Nat} (v : BitVec (w + 1)) : (v &&& 1#(w + 1) = 1#(w + 1)) ↔ v.getLsbD 0 = true := by
  constructor
  · intro h
    have := congrArg (fun z => z.getLsbD 0) h
    simp at this
    simpa using this
  · intro h
    apply BitVec.eq_of_getLsbD_eq
    intro i hi
    rw [BitVec.getLsbD_and, BitVec.getLsbD_one]
    by_cases e : i = 0
    · subst e; simp [h]
    · simp [e]
theorem bit_shr (x : Int64) (k : Nat) (hk : k < 64) : (x >>> ((zI (k : Int)).toInt64 &&& 63)) &&& 1 = 1 ↔ x.toBitVec.getLsbD k = true := by
  have h1 : ((zI (k : Int)).toInt64 &&& 63).toBitVec.smod 64 = BitVec.ofNat 64 k := by
    have : ∀ k : Fin 64, ((zI ((k.val : Nat) : Int)).toInt64 &&& 63).toBitVec.smod 64 = BitVec.ofNat 64 k.val := by decide +kernel
    exact this ⟨k, hk⟩
  have h2 : (x >>> ((zI (k : Int)).toInt64 &&& 63)).toBitVec = x.toBitVec.sshiftRight k := by
    rw [Int64.toBitVec_shiftRight, show (((zI (k : Int)).toInt64 &&& 63).toBitVec.smod 64) = BitVec.ofNat 64 k from h1]
    unfold BitVec.sshiftRight'
    rw [BitVec.toNat_ofNat, Nat.mod_eq_of_lt (by omega)]
  rw [← Int64.toBitVec_inj, Int64.toBitVec_and, h2]
  show (_ &&& 1#64 = 1#64) ↔ _
  rw [bv1, BitVec.getLsbD_sshiftRight]
  simp [hk]
theorem tb_shr (x : Int32) (k : Nat) (hk : k < 32) : (x >>> (zI (k : Int) &&& 31)) &&& zI 1 = zI 1 ↔ tb x k = true := by
  have h1 : (zI (k : Int) &&& 31).toBitVec.smod 32 = BitVec.ofNat 32 k := by
    have : ∀ k : Fin 32, (zI ((k.val : Nat) : Int) &&& 31).toBitVec.smod 32 = BitVec.ofNat 32 k.val := by decide +kernel
    exact this ⟨k, hk⟩
  have h2 : (x >>> (zI (k : Int) &&& 31)).toBitVec = x.toBitVec.sshiftRight k := by
    rw [Int32.toBitVec_shiftRight, show ((zI (k : Int) &&& 31).toBitVec.smod 32) = BitVec.ofNat 32 k from h1]
    unfold BitVec.sshiftRight'
    rw [BitVec.toNat_ofNat, Nat.mod_eq_of_lt (by omega)]
  rw [← Int32.toBitVec_inj, Int32.toBitVec_and, h2]
  show (_ &&& 1#32 = 1#32) ↔ _
  rw [bv1, BitVec.getLsbD_sshiftRight]
  unfold tb
  simp [hk]
theorem tb_shv (x : Int32) (k : Nat) (hk : k < 32) : (x >>> (zI (k : Int) &&& 31)) &&& zI 1 = zI (if tb x k then 1 else 0 : Int) := by
  cases h : tb x k with
  | true => exact (tb_shr x k hk).mpr h
  | false =>
    have h1 : ¬ ((x >>> (zI (k : Int) &&& 31)) &&& zI 1 = zI 1) := fun h2 => by rw [(tb_shr x k hk).mp h2] at h; cases h
    apply Int32.toBitVec_inj.mp
    apply BitVec.eq_of_getLsbD_eq
    intro i hi
    rw [Int32.toBitVec_and, BitVec.getLsbD_and]
    show (_ && (1#32).getLsbD i) = (0#32).getLsbD i
    rw [BitVec.getLsbD_one]
    by_cases e : i = 0
    · subst e
      cases h3 : (x >>> (zI (k : Int) &&& 31)).toBitVec.getLsbD 0 with
      | false => simp
      | true =>
        exfalso; apply h1
        apply Int32.toBitVec_inj.mp
        rw [Int32.toBitVec_and]
        exact (bv1 _).mpr h3
    · simp [e]

/-- the reference's own rows: bounds -/
def okM (σ : St) : Prop :=
  σ.1 4 ≤ 30 ∧ σ.1 5 ≤ 6 ∧ σ.1 6 ≤ 4 ∧ σ.1 7 ≤ 4 ∧ σ.1 3 ≤ 6 ∧ σ.1 0 ≤ 99999 ∧ 1 ≤ σ.1 1 ∧ σ.1 1 ≤ 100 ∧ σ.1 2 ≤ 1440 ∧
  (∀ k, k < σ.1 4 → 1 ≤ σ.2.1 2 k) ∧ (∀ k, σ.2.1 2 k < 1000000) ∧ (∀ k, σ.2.1 3 k < 1000000) ∧ (∀ k, σ.2.1 1 k < 1000000) ∧ (∀ k, σ.2.1 0 k < 1000000) ∧
  (∀ k, σ.2.1 18 k ≤ 8) ∧ (∀ k, σ.2.1 19 k ≤ 8) ∧ (∀ k, σ.2.1 9 k ≤ 9) ∧ (∀ k, σ.2.1 4 k < 1000000) ∧ (∀ k, σ.2.1 5 k < 1000000) ∧ (∀ k, σ.2.1 6 k ≤ 2) ∧ (∀ k, σ.2.1 7 k < 1000000) ∧ (∀ k, σ.2.1 8 k < 1000000) ∧
  σ.1 8 ≤ 600 ∧ σ.1 9 ≤ 600 ∧ (∀ k, σ.2.1 13 k < 1000000) ∧ (∀ k, σ.2.1 14 k < 1000000) ∧ (∀ k, σ.2.1 16 k < 1000000) ∧ (∀ k, k < σ.1 8 → σ.2.1 15 k < σ.1 4) ∧ (∀ k, k < σ.1 9 → σ.2.1 17 k < σ.1 4) ∧ (∀ k, k < σ.1 4 → lat σ k ≠ 0)
theorem fI_in (p : Nat → Bool) : ∀ n, -1 ≤ fI p n ∧ fI p n < n
  | 0 => by simp [fI]
  | n + 1 => by
    have := fI_in p n
    unfold fI
    split
    · omega
    · split <;> omega
def patI (σ : St) (a b : Int) (k : Nat) : Bool := decide (((σ.2.1 13 k : Nat) : Int) = a) && decide (((σ.2.1 14 k : Nat) : Int) = b)
def pat (σ : St) (a b : Int) : Int := if fI (patI σ a b) (σ.1 8) < 0 then -1 else ((σ.2.1 15 (fI (patI σ a b) (σ.1 8)).toNat : Nat) : Int)
def lktI (σ : St) (a : Int) (k : Nat) : Bool := decide (((σ.2.1 16 k : Nat) : Int) = a)
def lkt (σ : St) (a : Int) : Int := if fI (lktI σ a) (σ.1 9) < 0 then -1 else ((σ.2.1 17 (fI (lktI σ a) (σ.1 9)).toNat : Nat) : Int)
theorem pat_in {σ : St} (h : okM σ) (a b : Int) : -1 ≤ pat σ a b ∧ pat σ a b < σ.1 4 := by
  obtain ⟨hn, hru, hrv, hdv, hsr, hmn, ht1, ht2, hwn, hv1, hv2, hmj, htm, hse, htg, hrt, hac, hk1, hk2, hkd, hmm, hmv, hpp, hpl, hp3, hp4, hp6, hp5, hp7, hnz⟩ := h
  have h1 := fI_in (patI σ a b) (σ.1 8)
  unfold pat
  split
  · omega
  · have := hp5 (fI (patI σ a b) (σ.1 8)).toNat (by omega); omega
theorem lkt_in {σ : St} (h : okM σ) (a : Int) : -1 ≤ lkt σ a ∧ lkt σ a < σ.1 4 := by
  obtain ⟨hn, hru, hrv, hdv, hsr, hmn, ht1, ht2, hwn, hv1, hv2, hmj, htm, hse, htg, hrt, hac, hk1, hk2, hkd, hmm, hmv, hpp, hpl, hp3, hp4, hp6, hp5, hp7, hnz⟩ := h
  have h1 := fI_in (lktI σ a) (σ.1 9)
  unfold lkt
  split
  · omega
  · have := hp7 (fI (lktI σ a) (σ.1 9)).toNat (by omega); omega
theorem pat_yes {σ : St} {a b : Int} {k : Nat} (hk : k < σ.1 8) (h1 : ((σ.2.1 13 k : Nat) : Int) = a) (h2 : ((σ.2.1 14 k : Nat) : Int) = b) (hno : ∀ j, j < k → patI σ a b j = false) : pat σ a b = ((σ.2.1 15 k : Nat) : Int) := by
  have h3 : fI (patI σ a b) (σ.1 8) = (k : Int) := fI_yes hk (by unfold patI; simp [h1, h2]) hno
  unfold pat
  rw [h3, if_neg (by omega)]; rfl
theorem pat_no {σ : St} {a b : Int} (hno : ∀ j, j < σ.1 8 → patI σ a b j = false) : pat σ a b = -1 := by
  unfold pat
  rw [fI_no hno]; rfl
theorem lkt_yes {σ : St} {a : Int} {k : Nat} (hk : k < σ.1 9) (h1 : ((σ.2.1 16 k : Nat) : Int) = a) (hno : ∀ j, j < k → lktI σ a j = false) : lkt σ a = ((σ.2.1 17 k : Nat) : Int) := by
  have h3 : fI (lktI σ a) (σ.1 9) = (k : Int) := fI_yes hk (by unfold lktI; simp [h1]) hno
  unfold lkt
  rw [h3, if_neg (by omega)]; rfl
theorem lkt_no {σ : St} {a : Int} (hno : ∀ j, j < σ.1 9 → lktI σ a j = false) : lkt σ a = -1 := by
  unfold lkt
  rw [fI_no hno]; rfl
abbrev bstM (σ : St) (t : Int64) (k : Nat) : Int := bst σ t (((σ.1 0 : Nat) : Int) - ((σ.1 2 : Nat) : Int)) (σ.1 1) k
def fndP (σ : St) (sr id : Int) : Int := if id = -1 then -1 else pat σ sr id
def fndQ (σ : St) (sr id lk : Int) : Int := if fndP σ sr id < 0 ∧ lk ≠ -1 then lkt σ lk else fndP σ sr id
def fndM (σ : St) (sr id lk : Int) (t : Int64) : Int := if fndQ σ sr id lk < 0 then bstM σ t (σ.1 4) else fndQ σ sr id lk
theorem fndM_in {σ : St} (h : okM σ) (sr id lk : Int) (t : Int64) : -1 ≤ fndM σ sr id lk t ∧ fndM σ sr id lk t < σ.1 4 := by
  have h1 := pat_in h sr id
  have h2 := lkt_in h lk
  have h3 := bst_in σ t (((σ.1 0 : Nat) : Int) - ((σ.1 2 : Nat) : Int)) (σ.1 1) (σ.1 4)
  have h4 : -1 ≤ fndP σ sr id ∧ fndP σ sr id < σ.1 4 := by unfold fndP; split <;> omega
  have h5 : -1 ≤ fndQ σ sr id lk ∧ fndQ σ sr id lk < σ.1 4 := by unfold fndQ; split <;> omega
  unfold fndM
  split
  · unfold bstM; omega
  · omega
def adS (σ : St) (t : Int64) (td : Int) : St :=
  sN (sL (sA (sA (sI (sA (sA σ 0 (va_up (σ.2.1 0) (σ.1 4) (σ.1 0))) 1 (va_up (σ.2.1 1) (σ.1 4) (tmF σ td))) 0 (va_up (σ.2.2.1 0) (σ.1 4) (zI (0 : Int)))) 2 (va_up (σ.2.1 2) (σ.1 4) 1)) 3 (va_up (σ.2.1 3) (σ.1 4) 0)) 0 (va_up (σ.2.2.2 0) (4 * σ.1 4) t)) 4 (σ.1 4 + 1)
def chg (σ : St) (i : Nat) (t : Int64) : St :=
  if lat σ i = t then σ
  else if ((like (lat σ i) t : Nat) : Int) < ((σ.1 1 : Nat) : Int) then sL (sA (sA σ 3 (va_up (σ.2.1 3) i (σ.2.1 2 i))) 2 (va_up (σ.2.1 2) i (σ.2.1 2 i + 1))) 0 (va_up (σ.2.2.2 0) (4 * i + σ.2.1 2 i % 4) t)
  else sL (sA σ 2 (va_up (σ.2.1 2) i (σ.2.1 2 i + 1))) 0 (va_up (σ.2.2.2 0) (4 * i + σ.2.1 2 i % 4) t)
def goS (σ : St) (t : Int64) (te : Int32) : Nat → Int32 × Int32 × Bool
  | 0 => (zI (0 : Int), zI (0 : Int), false)
  | k + 1 => if hold σ k t te (goS σ t te k).1 then
      (if σ.2.1 9 k < 8 then ((goS σ t te k).1 ||| (zI 1 <<< (zI ((σ.2.1 9 k : Nat) : Int) &&& 31)), (goS σ t te k).2.1 ||| (zI 1 <<< (zI ((k : Nat) : Int) &&& 31)), (goS σ t te k).2.2)
       else ((goS σ t te k).1, (goS σ t te k).2.1 ||| (zI 1 <<< (zI ((k : Nat) : Int) &&& 31)), σ.2.1 9 k == 8)) else goS σ t te k
def goI (σ : St) (i : Nat) : Int32 × Int32 × Bool := goS σ (lat σ i) (σ.2.2.1 0 i) (σ.1 5)
def shM (σ : St) (rv i : Nat) : Bool := !(goI σ i).2.2 && (σ.2.2.1 0 i &&& σ.2.2.1 2 rv != 0) && (σ.2.1 19 rv == 0 || tb (goI σ i).1 (σ.2.1 19 rv - 1))
def ahM (σ : St) (rv b : Nat) : Nat := cnt (fun y9 => isAh σ y9 b && shM σ rv y9) (σ.1 4)
def itA (σ : St) (rv : Nat) (rk : Int) : Int := fI (fun y9 => shM σ rv y9 && decide (((ahM σ rv y9 : Nat) : Int) = rk)) (σ.1 4)
def lrN (σ : St) (d : Nat) : Nat → St
  | 0 => σ
  | k + 1 => lrn (lrN σ d k) d k ((lrN σ d k).2.1 2 k) ((lrN σ d k).2.1 3 k)
def winM (σ : St) (d i : Nat) : Bool :=
  if σ.2.1 6 (30 * d + i) = 0 ∨ σ.2.1 6 (120 + i) = 0 then σ.2.1 6 (120 + i) == 0
  else if σ.2.1 7 (30 * d + i) ≠ σ.2.1 7 (120 + i) then decide (σ.2.1 7 (120 + i) < σ.2.1 7 (30 * d + i))
  else if σ.2.1 6 (30 * d + i) ≠ σ.2.1 6 (120 + i) then σ.2.1 6 (30 * d + i) == 2
  else decide (σ.2.1 8 (120 + i) ≤ σ.2.1 8 (30 * d + i))
def mrSM (σ : St) (d rv : Nat) : Nat → St
  | 0 => σ
  | k + 1 => if shM (mrSM σ d rv k) rv k = true ∧ 0 < (mrSM σ d rv k).2.1 4 (30 * d + k) then mkS (mrSM σ d rv k) d k true else mrSM σ d rv k
def mrCM (σ : St) (d rv : Nat) : Nat → Nat
  | 0 => 0
  | k + 1 => if (shM (mrSM σ d rv k) rv k = true ∧ 0 < (mrSM σ d rv k).2.1 4 (30 * d + k)) ∧ rdD (mrSM σ d rv k) d k = false then mrCM σ d rv k + 1 else mrCM σ d rv k
def sySM (σ : St) (d : Nat) : Nat → St
  | 0 => σ
  | k + 1 => if 0 < (sySM σ d k).2.1 4 (30 * d + k) ∧ winM (sySM σ d k) d k = true then cpM (sySM σ d k) d 4 k else cpM (sySM σ d k) 4 d k
def syCM (σ : St) (d : Nat) : Nat → Nat
  | 0 => 0
  | k + 1 => if rdR (sySM σ d (k + 1)) k = rdR (sySM σ d k) k then syCM σ d k else syCM σ d k + 1
def cpN (σ : St) (d : Nat) : Nat → St
  | 0 => σ
  | k + 1 => cpM (cpN σ d k) 4 d k
theorem mrCM_le (σ : St) (d rv : Nat) : ∀ k, mrCM σ d rv k ≤ k
  | 0 => Nat.le_refl _
  | k + 1 => by
    have := mrCM_le σ d rv k
    unfold mrCM
    split <;> omega
theorem syCM_le (σ : St) (d : Nat) : ∀ k, syCM σ d k ≤ k
  | 0 => Nat.le_refl _
  | k + 1 => by
    have := syCM_le σ d k
    unfold syCM
    split <;> omega
theorem okM_putM {σ : St} (h : okM σ) {x i kd mn vr : Nat} (h1 : kd ≤ 2) (h2 : mn < 1000000) (h3 : vr < 1000000) : okM (putM σ x i kd mn vr) := by
  obtain ⟨hn, hru, hrv, hdv, hsr, hmn, ht1, ht2, hwn, hv1, hv2, hmj, htm, hse, htg, hrt, hac, hk1, hk2, hkd, hmm, hmv, hpp, hpl, hp3, hp4, hp6, hp5, hp7, hnz⟩ := h
  refine ⟨hn, hru, hrv, hdv, hsr, hmn, ht1, ht2, hwn, hv1, hv2, hmj, htm, hse, htg, hrt, hac, hk1, hk2, fun k => ?_, fun k => ?_, fun k => ?_, hpp, hpl, hp3, hp4, hp6, hp5, hp7, hnz⟩
  · show va_up (σ.2.1 6) _ _ k ≤ 2
    unfold va_up; split
    · exact h1
    · exact hkd k
  · show va_up (σ.2.1 7) _ _ k < 1000000
    unfold va_up; split
    · exact h2
    · exact hmm k
  · show va_up (σ.2.1 8) _ _ k < 1000000
    unfold va_up; split
    · exact h3
    · exact hmv k
theorem okM_lrn {σ : St} (h : okM σ) {x i vr mj : Nat} (h1 : vr < 1000000) (h2 : mj < 1000000) : okM (lrn σ x i vr mj) := by
  obtain ⟨hn, hru, hrv, hdv, hsr, hmn, ht1, ht2, hwn, hv1, hv2, hmj, htm, hse, htg, hrt, hac, hk1, hk2, hkd, hmm, hmv, hpp, hpl, hp3, hp4, hp6, hp5, hp7, hnz⟩ := h
  refine ⟨hn, hru, hrv, hdv, hsr, hmn, ht1, ht2, hwn, hv1, hv2, hmj, htm, hse, htg, hrt, hac, fun k => ?_, fun k => ?_, hkd, hmm, hmv, hpp, hpl, hp3, hp4, hp6, hp5, hp7, hnz⟩
  · show va_up (σ.2.1 4) _ _ k < 1000000
    unfold va_up; split
    · exact h1
    · exact hk1 k
  · show va_up (σ.2.1 5) _ _ k < 1000000
    unfold va_up; split
    · exact h2
    · exact hk2 k
theorem okM_b {σ : St} (h : okM σ) : (∀ k, σ.2.1 4 k < 1000000) ∧ (∀ k, σ.2.1 5 k < 1000000) ∧ (∀ k, σ.2.1 6 k ≤ 2) ∧ (∀ k, σ.2.1 7 k < 1000000) ∧ (∀ k, σ.2.1 8 k < 1000000) ∧ (∀ k, σ.2.1 2 k < 1000000) ∧ (∀ k, σ.2.1 3 k < 1000000) := by
  obtain ⟨hn, hru, hrv, hdv, hsr, hmn, ht1, ht2, hwn, hv1, hv2, hmj, htm, hse, htg, hrt, hac, hk1, hk2, hkd, hmm, hmv, hpp, hpl, hp3, hp4, hp6, hp5, hp7, hnz⟩ := h
  exact ⟨hk1, hk2, hkd, hmm, hmv, hv2, hmj⟩
theorem okM_cpM {σ : St} (h : okM σ) (f t i : Nat) : okM (cpM σ f t i) :=
  have b := okM_b h
  okM_putM h (b.2.2.1 _) (b.2.2.2.1 _) (b.2.2.2.2.1 _)
theorem okM_mkS {σ : St} (h : okM σ) (d i : Nat) (b : Bool) : okM (mkS σ d i b) := by
  have c := okM_b h
  obtain ⟨hn, hru, hrv, hdv, hsr, hmn, ht1, ht2, hwn, hv1, hv2, hmj, htm, hse, htg, hrt, hac, hk1, hk2, hkd, hmm, hmv, hpp, hpl, hp3, hp4, hp6, hp5, hp7, hnz⟩ := id h
  exact okM_putM h (by cases b <;> decide) (by omega) (by have := c.1 (30 * d + i); omega)
theorem mrSM_ok {σ : St} (h : okM σ) (d rv : Nat) : ∀ k, okM (mrSM σ d rv k) ∧ (mrSM σ d rv k).1 = σ.1
  | 0 => ⟨h, rfl⟩
  | k + 1 => by
    have ih := mrSM_ok h d rv k
    unfold mrSM
    split
    · exact ⟨okM_mkS ih.1 d _ true, ih.2⟩
    · exact ih
theorem sySM_ok {σ : St} (h : okM σ) (d : Nat) : ∀ k, okM (sySM σ d k) ∧ (sySM σ d k).1 = σ.1
  | 0 => ⟨h, rfl⟩
  | k + 1 => by
    have ih := sySM_ok h d k
    unfold sySM
    split
    · exact ⟨okM_cpM ih.1 d 4 k, ih.2⟩
    · exact ⟨okM_cpM ih.1 4 d k, ih.2⟩
theorem lrN_ok {σ : St} (h : okM σ) (d : Nat) : ∀ k, okM (lrN σ d k) ∧ (lrN σ d k).1 = σ.1
  | 0 => ⟨h, rfl⟩
  | k + 1 => by
    have ih := lrN_ok h d k
    have b := okM_b ih.1
    exact ⟨okM_lrn ih.1 (b.2.2.2.2.2.1 _) (b.2.2.2.2.2.2 _), ih.2⟩
theorem cpN_ok {σ : St} (h : okM σ) (d : Nat) : ∀ k, okM (cpN σ d k) ∧ (cpN σ d k).1 = σ.1
  | 0 => ⟨h, rfl⟩
  | k + 1 => by
    have ih := cpN_ok h d k
    exact ⟨okM_cpM ih.1 4 d k, ih.2⟩
end ZPure7
