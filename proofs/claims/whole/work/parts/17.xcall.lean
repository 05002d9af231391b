/-! calls that throw, in a method that lets it pass; more plain words -/
section ZX
variable {p : Program} {l : Launch} {e : Env} {R : Room} {s : State} {m : MethodId} {args : Array Value} {below : List Frame} {meth : Method} {c : Code} {H : Heap} {locs : List Loc} {cells slots : Nat} {Q : State → Prop}
variable {cc : ByteArray} {pc nL : Nat} {ls : Array Slot} {rest st0 : List Value} {G : ZG} {own : String} {A : Nat → Prop} {ws : va_W}
theorem zrunXV {y : MethodName} {b : ByteArray} {mL n idx ci q0 a : Nat} {r : Option FieldType} {rm : Room} {As : List Value} {S : Type} {E : String} {w2 : S → va_W} {T : u_T} {N : Nat} {fs : List Value}
    (Z : ZCtx p s m args meth c G cc nL own A) (hP : va_P G.1 vwCl ws H) (hD : va_D A ws) (hS : va_S A s.heap H locs) (hls : ls.size = nL)
    (hM : MX l G y (wY y b mL r) rm ws (.ref a :: As) E w2) (hY : zYv y b mL r n) (hl : Cond.methodLink own idx y ∈ wAll)
    (he : ws[q0]? = some (a, .inr (ci, fs))) (hc : vwCl[ci]? = some (y.cls, T, N)) (hn : As.length = n) (hst0 : st0 = As.reverse ++ .ref a :: rest) (hR : zRm rm R mL cells slots) (hst : (rest.map fun v => v.category).sum ≤ 8) (hdg : decode cc pc = .ok (.invokevirtual idx, 3)) :
    vx_Run p l e R s m args below meth c H locs cells slots rm.cells rm.slots (F0 m pc ls st0) rest (va_Qv (fun (_ : Unit) => False) (fun _ _ => True) (va_A ws H.size) (Value.ref a :: As).toArray) (vx_X (fun (_ : S) => True) (fun E' u t => E' = E ∧ PostW G (w2 u) (va_A ws H.size) t) (va_A ws H.size)) (va_A ws H.size) := by
  have hpre := zz_pre (As := .ref a :: As) Z hP hD hS
  have hW := Z.2.2.2.2.1
  have hK := Z.2.2.2.2.2.2.1
  exact vx_runV (zz_fix Z) (hM H.size) ⟨zz_cb hW hY.1 hl hR.1, hW _ hY.2.1, hW _ hY.2.2⟩ ⟨hpre.1, va_recv hK hP hc he, hpre.2⟩ rfl hn hls hst0 (lv_room hst) hdg hR.2
theorem zxout {S S' : Type} {E : String} {w2 : S → va_W} {ws' : S' → va_W} {mc ms : Nat} {av : Array Value} {Qc : Array Value → State → Outcome → State → Prop} (f : S → S') (hw : ∀ u, w2 u = ws' (f u))
    (Z : ZCtx p s m args meth c G cc nL own A) (ht : ∀ x ∈ c.exceptionTable.toList, False) (hD : va_D A ws) (hS : va_S A s.heap H locs)
    (hr : vx_Run p l e R s m args below meth c H locs cells slots mc ms (F0 m pc ls st0) rest (va_Qv (fun (_ : Unit) => False) (fun _ _ => True) (va_A ws H.size) av) (vx_X (fun (_ : S) => True) (fun E' u t => E' = E ∧ PostW G (w2 u) (va_A ws H.size) t) (va_A ws H.size)) (va_A ws H.size))
    (hc : cells + mc ≤ R.cells ∧ slots + ms ≤ R.slots)
    (hQ : Q = vx_MQ below Qc (vx_X (fun (_ : S') => True) (fun E' u t => E' = E ∧ PostW G (ws' u) A t) A) args s R.cells R.slots A) :
    W p l e R s m args below meth c H locs cells slots Q (F0 m pc ls st0) := by
  subst hQ
  have hf := zz_free hD hS Z.2.2.2.2.2.1
  refine vx_callv hr hS (fun q _ h => hf q h) hf (fun q _ h => hf q h) (fun E' ce q9 u t H1 locs1 ht1 hal _ hB hz hk hS1 hce hcv hcl => ?_) (fun u t H1 locs1 _ _ h _ _ _ _ => h.elim)
  obtain ⟨rfl, hP1, -, hD1⟩ := hB
  refine vx_out (fun x hx => (ht x hx).elim) Z.2.2.2.2.2.2.2.2 hce hcv hcl (fun t2 ht2 hal2 => ?_) hS1.2.2 hc.1 hc.2
  rw [ht1] at hP1
  exact ⟨f u, trivial, ⟨rfl, by rw [ht2, ← hw u]; exact hP1, va_K.moved hal2 Z.2.2.2.2.2.2.1, by rw [← hw u]; exact hD1.weaken (fun _ q _ h => hf q.1 h)⟩, hS1.F ht2⟩
end ZX
section ZPure4
theorem gth_el {p : Nat → Bool} {o r0 : Nat → Nat} {B : Nat} : ∀ k, (∀ j, j < k → o j < B) → ∀ j, j < (gth p o r0 k).1 → (gth p o r0 k).2 j < B
  | 0, _, j, h => by simp [gth] at h
  | k + 1, ho, j, h => by
    have ih := gth_el (p := p) (r0 := r0) k (fun j hj => ho j (by omega))
    unfold gth at h ⊢
    split
    · rename_i hp
      rw [if_pos hp] at h
      show va_up _ _ _ j < B
      unfold va_up
      split
      · exact ho k (by omega)
      · exact ih j (by have : j < (gth p o r0 k).1 + 1 := h; omega)
    · rename_i hp
      rw [if_neg hp] at h
      exact ih j h
def fnd (σ : St) (sr id lk : Int) (t : Int64) : Int :=
  if own σ sr id ≠ -1 then own σ sr id else if ownL σ lk ≠ -1 then ownL σ lk else bst σ t (((σ.1 0 : Nat) : Int) - ((σ.1 2 : Nat) : Int)) (σ.1 1) (σ.1 4)
theorem own_in {σ : St} (hI : okC σ) (a b : Int) : -1 ≤ own σ a b ∧ own σ a b < 30 := by
  obtain ⟨hn, hru, hrv, hdv, hsr, hmn, ht1, ht2, hwn, hv1, hv2, hmj, htm, hse, htg, hrt, hac, hk1, hk2, hkd, hmm, hmv, hord, hpo, hlo⟩ := hI
  have := hpo (1000 * a.toNat + b.toNat)
  unfold own; split <;> omega
theorem ownL_in {σ : St} (hI : okC σ) (a : Int) : -1 ≤ ownL σ a ∧ ownL σ a < 30 := by
  obtain ⟨hn, hru, hrv, hdv, hsr, hmn, ht1, ht2, hwn, hv1, hv2, hmj, htm, hse, htg, hrt, hac, hk1, hk2, hkd, hmm, hmv, hord, hpo, hlo⟩ := hI
  have := hlo a.toNat
  unfold ownL; split <;> omega
theorem fnd_in {σ : St} (hI : okC σ) (sr : Nat) (idn lk : Int) (t : Int64) : -1 ≤ fnd σ ((sr : Nat) : Int) idn lk t ∧ fnd σ ((sr : Nat) : Int) idn lk t < σ.1 4 := by
  obtain ⟨hn, hru, hrv, hdv, hsr, hmn, ht1, ht2, hwn, hv1, hv2, hmj, htm, hse, htg, hrt, hac, hk1, hk2, hkd, hmm, hmv, hord, hpo, hlo⟩ := hI
  have h1 := hpo (1000 * ((sr : Nat) : Int).toNat + idn.toNat)
  have h2 := hlo lk.toNat
  have h3 := bst_in σ t (((σ.1 0 : Nat) : Int) - ((σ.1 2 : Nat) : Int)) (σ.1 1) (σ.1 4)
  unfold fnd
  split
  · unfold own; split <;> omega
  · split
    · unfold ownL; split <;> omega
    · omega
def tmF (σ : St) (td : Int) : Nat := if td = -1 ∨ ((σ.1 0 : Nat) : Int) < td ∨ 1440 < ((σ.1 0 : Nat) : Int) - td then σ.1 0 else td.toNat
def fit (σ : St) (sr id lk : Int) (t : Int64) : Nat := if fnd σ sr id lk t = -1 then σ.1 4 else (fnd σ sr id lk t).toNat
def fst1 (σ : St) (sr id lk : Int) (t : Int64) (td : Int) : St := if fnd σ sr id lk t = -1 then app σ t (σ.1 0) (tmF σ td) else rnw σ (fnd σ sr id lk t).toNat t (σ.1 1)
def fet (σ : St) (sr : Nat) (id lk : Int) (t : Int64) (td : Int) : St :=
  clL (clP (addT (fst1 σ sr id lk t td) (fit σ sr id lk t) sr) (fit σ sr id lk t) sr id) (fit σ sr id lk t) lk
theorem rnw_A (σ : St) (i : Nat) (t : Int64) (th k : Nat) (h2 : k ≠ 2) (h3 : k ≠ 3) : (rnw σ i t th).2.1 k = σ.2.1 k := by
  unfold rnw
  split
  · rfl
  · split
    · show va_up σ.2.1 2 _ k = _
      exact va_up_ne _ _ h2
    · show va_up (va_up σ.2.1 2 _) 3 _ k = _
      rw [va_up_ne _ _ h3]; exact va_up_ne _ _ h2
theorem rnw_N (σ : St) (i : Nat) (t : Int64) (th : Nat) : (rnw σ i t th).1 = σ.1 := by
  unfold rnw
  split
  · rfl
  · split <;> rfl
theorem clP_A (σ : St) (i : Nat) (sr b : Int) (k : Nat) (h : k ≠ 11) : (clP σ i sr b).2.1 k = σ.2.1 k := by
  unfold clP
  split
  · exact va_up_ne _ _ h
  · rfl
theorem clP_N (σ : St) (i : Nat) (sr b : Int) : (clP σ i sr b).1 = σ.1 := by
  unfold clP
  split <;> rfl
/-- a rule behind the others -/
def addR (σ : St) (al an : Int64) (sr : Int32) (tgx ac : Nat) : St :=
  sN (sA (sA (sI (sL (sL σ 1 (va_up (σ.2.2.2 1) (σ.1 5) al)) 2 (va_up (σ.2.2.2 2) (σ.1 5) an)) 1 (va_up (σ.2.2.1 1) (σ.1 5) sr)) 18 (va_up (σ.2.1 18) (σ.1 5) tgx)) 9 (va_up (σ.2.1 9) (σ.1 5) ac)) 5 (σ.1 5 + 1)
/-- rows moved down by one from a place on -/
def mvd {α : Type} (f : Nat → α) (r : Nat) : Nat → (Nat → α)
  | 0 => f
  | k + 1 => va_up (mvd f r k) (r + k) (mvd f r k (r + k + 1))
def drp (σ : St) (r n : Nat) : St :=
  sN (sA (sA (sI (sL (sL σ 1 (mvd (σ.2.2.2 1) r n)) 2 (mvd (σ.2.2.2 2) r n)) 1 (mvd (σ.2.2.1 1) r n)) 18 (mvd (σ.2.1 18) r n)) 9 (mvd (σ.2.1 9) r n)) 5 (σ.1 5 - 1)
def addV (σ : St) (sr : Int32) (tgx : Nat) : St := sN (sA (sI σ 2 (va_up (σ.2.2.1 2) (σ.1 6) sr)) 19 (va_up (σ.2.1 19) (σ.1 6) tgx)) 6 (σ.1 6 + 1)
/-- for how many of the first k items a rule holds -/
def mtc (σ : St) (r : Nat) (i : Nat) : Bool := hold σ r (lat σ i) (σ.2.2.1 0 i) (outc σ (lat σ i) (σ.2.2.1 0 i) r)
def sumV (σ : St) : Nat → Nat
  | 0 => 0
  | k + 1 => sumV σ k + σ.2.1 2 k
theorem sumV_le (σ : St) (h : ∀ k, σ.2.1 2 k < 1000000) : ∀ k, sumV σ k ≤ 1000000 * k
  | 0 => Nat.le_refl _
  | k + 1 => by
    have := sumV_le σ h k
    have := h k
    show sumV σ k + σ.2.1 2 k ≤ _
    omega
def bupN (σ : St) (d : Nat) : Nat → St
  | 0 => σ
  | k + 1 => bup (bupN σ d k) d k
theorem bupN_N (σ : St) (d : Nat) : ∀ k, (bupN σ d k).1 = σ.1
  | 0 => rfl
  | k + 1 => bupN_N σ d k
def mkS (σ : St) (d i : Nat) (b : Bool) : St := putM σ d i (if b then 2 else 1) (σ.1 0) (σ.2.1 4 (30 * d + i) - 1)
def mrS (σ : St) (d : Nat) (row : Nat → Nat) : Nat → St
  | 0 => σ
  | k + 1 => if 0 < (mrS σ d row k).2.1 4 (30 * d + row k) then mkS (mrS σ d row k) d (row k) true else mrS σ d row k
def mrC (σ : St) (d : Nat) (row : Nat → Nat) : Nat → Nat
  | 0 => 0
  | k + 1 => if 0 < (mrS σ d row k).2.1 4 (30 * d + row k) ∧ rdD (mrS σ d row k) d (row k) = false then mrC σ d row k + 1 else mrC σ d row k
theorem okC_putM {σ : St} (h : okC σ) {x i kd mn vr : Nat} (h1 : kd ≤ 2) (h2 : mn < 1000000) (h3 : vr < 1000000) : okC (putM σ x i kd mn vr) := by
  obtain ⟨hn, hru, hrv, hdv, hsr, hmn, ht1, ht2, hwn, hv1, hv2, hmj, htm, hse, htg, hrt, hac, hk1, hk2, hkd, hmm, hmv, hord, hpo, hlo⟩ := h
  refine ⟨hn, hru, hrv, hdv, hsr, hmn, ht1, ht2, hwn, hv1, hv2, hmj, htm, hse, htg, hrt, hac, hk1, hk2, fun k => ?_, fun k => ?_, fun k => ?_, hord, hpo, hlo⟩
  · show va_up (σ.2.1 6) _ _ k ≤ 2
    unfold va_up; split
    · exact h1
    · exact hkd k
  · show va_up (σ.2.1 7) _ _ k < 1000000
    unfold va_up; split
    · exact h2
    · exact hmm k
  · show va_up (σ.2.1 8) _ _ k < 1000000
    unfold va_up; split
    · exact h3
    · exact hmv k
theorem okC_lrn {σ : St} (h : okC σ) {x i vr mj : Nat} (h1 : vr < 1000000) (h2 : mj < 1000000) : okC (lrn σ x i vr mj) := by
  obtain ⟨hn, hru, hrv, hdv, hsr, hmn, ht1, ht2, hwn, hv1, hv2, hmj, htm, hse, htg, hrt, hac, hk1, hk2, hkd, hmm, hmv, hord, hpo, hlo⟩ := h
  refine ⟨hn, hru, hrv, hdv, hsr, hmn, ht1, ht2, hwn, hv1, hv2, hmj, htm, hse, htg, hrt, hac, fun k => ?_, fun k => ?_, hkd, hmm, hmv, hord, hpo, hlo⟩
  · show va_up (σ.2.1 4) _ _ k < 1000000
    unfold va_up; split
    · exact h1
    · exact hk1 k
  · show va_up (σ.2.1 5) _ _ k < 1000000
    unfold va_up; split
    · exact h2
    · exact hk2 k
theorem okC_cpM {σ : St} (h : okC σ) (f t i : Nat) : okC (cpM σ f t i) := by
  have h9 := h
  obtain ⟨hn, hru, hrv, hdv, hsr, hmn, ht1, ht2, hwn, hv1, hv2, hmj, htm, hse, htg, hrt, hac, hk1, hk2, hkd, hmm, hmv, hord, hpo, hlo⟩ := h
  exact okC_putM h9 (hkd _) (hmm _) (hmv _)
theorem okC_bup {σ : St} (h : okC σ) (d i : Nat) : okC (bup σ d i) := by
  have h9 := h
  obtain ⟨hn, hru, hrv, hdv, hsr, hmn, ht1, ht2, hwn, hv1, hv2, hmj, htm, hse, htg, hrt, hac, hk1, hk2, hkd, hmm, hmv, hord, hpo, hlo⟩ := h
  exact okC_lrn (okC_cpM h9 4 d i) (hv2 i) (hmj i)
theorem okC_mkS {σ : St} (h : okC σ) (d i : Nat) (b : Bool) : okC (mkS σ d i b) := by
  have h9 := h
  obtain ⟨hn, hru, hrv, hdv, hsr, hmn, ht1, ht2, hwn, hv1, hv2, hmj, htm, hse, htg, hrt, hac, hk1, hk2, hkd, hmm, hmv, hord, hpo, hlo⟩ := h
  exact okC_putM h9 (by cases b <;> decide) (by omega) (by have := hk1 (30 * d + i); omega)
theorem mrS_ok {σ : St} (h : okC σ) (d : Nat) (row : Nat → Nat) : ∀ k, okC (mrS σ d row k) ∧ (mrS σ d row k).1 = σ.1
  | 0 => ⟨h, rfl⟩
  | k + 1 => by
    have ih := mrS_ok h d row k
    unfold mrS
    split
    · exact ⟨okC_mkS ih.1 d _ true, ih.2⟩
    · exact ih
def sy1 (σ : St) (d i : Nat) : St := bup (if 0 < σ.2.1 4 (30 * d + i) ∧ bts σ d 4 i = true then cpM σ d 4 i else σ) d i
def syS (σ : St) (d : Nat) : Nat → St
  | 0 => σ
  | k + 1 => sy1 (syS σ d k) d k
def syC (σ : St) (d : Nat) : Nat → Nat
  | 0 => 0
  | k + 1 => if rdR (syS σ d (k + 1)) k = rdR (syS σ d k) k then syC σ d k else syC σ d k + 1
theorem syS_ok {σ : St} (h : okC σ) (d : Nat) : ∀ k, okC (syS σ d k) ∧ (syS σ d k).1 = σ.1
  | 0 => ⟨h, rfl⟩
  | k + 1 => by
    have ih := syS_ok h d k
    show okC (sy1 (syS σ d k) d k) ∧ (sy1 (syS σ d k) d k).1 = σ.1
    unfold sy1
    split
    · exact ⟨okC_bup (okC_cpM ih.1 d 4 k) d k, ih.2⟩
    · exact ⟨okC_bup ih.1 d k, ih.2⟩
theorem cnt_yes {p : Nat → Bool} {n : Nat} (h : p n = true) : cnt p (n + 1) = cnt p n + 1 := by
  show cnt p n + _ = _
  rw [h]; rfl
theorem cnt_no {p : Nat → Bool} {n : Nat} (h : p n = false) : cnt p (n + 1) = cnt p n := by
  show cnt p n + _ = _
  rw [h]; rfl
theorem cnt_leS (p : Nat → Bool) (n : Nat) : cnt p n ≤ cnt p (n + 1) := by
  show _ ≤ cnt p n + _
  omega
theorem mrC_le (σ : St) (d : Nat) (row : Nat → Nat) : ∀ k, mrC σ d row k ≤ k
  | 0 => Nat.le_refl _
  | k + 1 => by
    have := mrC_le σ d row k
    unfold mrC
    split <;> omega
theorem syC_le (σ : St) (d : Nat) : ∀ k, syC σ d k ≤ k
  | 0 => Nat.le_refl _
  | k + 1 => by
    have := syC_le σ d k
    unfold syC
    split <;> omega
/-- the class's float and double answers are numbers -/
theorem fdiv_ok {a b : Nat} (h1 : 1 ≤ b) (h2 : b ≤ 30) (h3 : a ≤ b) : vf_n32 (FP.fdiv (FP.i2f (zI (a : Int))) (FP.i2f (zI (b : Int)))) := by
  have h : ∀ a b : Fin 31, 1 ≤ b.val → (FP.fdiv (FP.i2f (zI ((a.val : Nat) : Int))) (FP.i2f (zI ((b.val : Nat) : Int)))) &&& 0x7fffffff ≤ 0x7f800000 := by decide +kernel
  exact h ⟨a, by omega⟩ ⟨b, by omega⟩ h1
theorem f2d_ok {a b : Nat} (h1 : 1 ≤ b) (h2 : b ≤ 30) (h3 : a ≤ b) : vf_n64 (FP.f2d (FP.fdiv (FP.i2f (zI (a : Int))) (FP.i2f (zI (b : Int))))) := by
  have h : ∀ a b : Fin 31, 1 ≤ b.val → (FP.f2d (FP.fdiv (FP.i2f (zI ((a.val : Nat) : Int))) (FP.i2f (zI ((b.val : Nat) : Int))))) &&& 0x7fffffffffffffff ≤ 0x7ff0000000000000 := by decide +kernel
  exact h ⟨a, by omega⟩ ⟨b, by omega⟩ h1
theorem zf_set (c : Nat) (q : Int) (hc : c < 9007199254740992) : FP.Core.encode FP.Core.b64 (FP.Core.bound FP.Core.b64 false c q) ≤ 9218868437227405312 := by
  unfold FP.Core.bound
  split
  · rename_i hq
    have hq : q ≤ 971 := hq
    show (if c < FP.Core.b64.tails then FP.Core.assemble FP.Core.b64 false 0 c else FP.Core.assemble FP.Core.b64 false ((q - FP.Core.b64.qmin).toNat + 1) (c - FP.Core.b64.tails)) ≤ _
    split
    · rename_i hc2
      have hc2 : c < 4503599627370496 := hc2
      show (false.toNat * 2048 + 0) * 4503599627370496 + c ≤ _
      simp
      omega
    · rename_i hc2
      have hc2 : ¬ c < 4503599627370496 := hc2
      show (false.toNat * 2048 + ((q - (-1074)).toNat + 1)) * 4503599627370496 + (c - 4503599627370496) ≤ _
      simp
      omega
  · show (false.toNat * 2048 + 2047) * 4503599627370496 + 0 ≤ _
    simp
theorem zf_rr (n d : Nat) (e : Int) : FP.Core.encode FP.Core.b64 (FP.Core.roundRatio FP.Core.b64 false n d e) ≤ 9218868437227405312 := by
  unfold FP.Core.roundRatio
  split
  · show FP.Core.encode FP.Core.b64 (.fin false 0 (-1074)) ≤ _
    decide
  · unfold FP.Core.roundAt FP.Core.settle
    split
    · rename_i hc
      exact zf_set _ _ hc
    · exact zf_set _ _ (by decide)
theorem zf_dec {N : Nat} (h : N ≤ 9218868437227405312) : FP.Core.decode FP.Core.b64 N = .inf false ∨ ∃ c q, FP.Core.decode FP.Core.b64 N = .fin false c q := by
  have hs : FP.Core.fieldS FP.Core.b64 N = false := by
    show (N / 4503599627370496 / 2048 % 2 == 1) = false
    simp
    omega
  unfold FP.Core.decode
  split
  · rename_i h1
    have h1 : N / 4503599627370496 % 2048 = 2047 := h1
    have h2 : N % 4503599627370496 = 0 := by omega
    rw [if_pos (show FP.Core.fieldT FP.Core.b64 N = 0 from h2), hs]
    exact Or.inl rfl
  · split
    · rw [hs]; exact Or.inr ⟨_, _, rfl⟩
    · rw [hs]; exact Or.inr ⟨_, _, rfl⟩
theorem zf_b {b : Nat} (h1 : 1 ≤ b) (h2 : b ≤ 30) : ∃ d r, d ≠ 0 ∧ FP.Core.decode FP.Core.b64 (FP.i2d (zI (b : Int))).toNat = .fin false d r := by
  have h : ∀ b : Fin 31, 1 ≤ b.val → (match FP.Core.decode FP.Core.b64 (FP.i2d (zI ((b.val : Nat) : Int))).toNat with | .fin false d _ => decide (d ≠ 0) | _ => false) = true := by decide +kernel
  have h3 := h ⟨b, by omega⟩ h1
  generalize FP.Core.decode FP.Core.b64 (FP.i2d (zI (b : Int))).toNat = D at h3 ⊢
  match D, h3 with
  | .fin false d r, h3 => exact ⟨d, r, by simpa using h3, rfl⟩
theorem ddiv_ok {a b : Nat} (h1 : 1 ≤ b) (h2 : b ≤ 30) (h3 : a ≤ 30000000) : vf_n64 (FP.ddiv (FP.i2d (zI (a : Int))) (FP.i2d (zI (b : Int)))) := by
  have hA : (FP.i2d (zI (a : Int))).toNat ≤ 9218868437227405312 := by
    have e : (zI (a : Int)).toInt = (a : Int) := Int32.toInt_ofInt_of_le (by simp <;> omega) (by simp <;> omega)
    show (UInt64.ofNat (FP.Core.encode FP.Core.b64 (FP.Core.round FP.Core.b64 (FP.Core.ofInt (zI (a : Int)).toInt)))).toNat ≤ _
    rw [e]
    have hd : FP.Core.ofInt (a : Int) = .fin false a 0 := by
      unfold FP.Core.ofInt
      rw [show decide ((a : Int) < 0) = false from by simp]
      rfl
    rw [hd]
    exact Nat.le_trans (Nat.mod_le _ _) (zf_rr a 1 0)
  obtain ⟨d, r, hd, hY⟩ := zf_b h1 h2
  have hN : FP.Core.div FP.Core.b64 (FP.i2d (zI (a : Int))).toNat (FP.i2d (zI (b : Int))).toNat ≤ 9218868437227405312 := by
    unfold FP.Core.div
    rw [hY]
    rcases zf_dec hA with hX | ⟨c, q, hX⟩
    · rw [hX]
      show FP.Core.encode FP.Core.b64 (.inf (false != false)) ≤ _
      decide
    · rw [hX]
      show FP.Core.encode FP.Core.b64 (if d = 0 then _ else FP.Core.roundRatio FP.Core.b64 (false != false) c d (q - r)) ≤ _
      rw [if_neg hd]
      exact zf_rr _ _ _
  show (UInt64.ofNat (FP.Core.div FP.Core.b64 (FP.i2d (zI (a : Int))).toNat (FP.i2d (zI (b : Int))).toNat)) &&& 0x7fffffffffffffff ≤ 0x7ff0000000000000
  rw [UInt64.le_iff_toNat_le, UInt64.toNat_and]
  refine Nat.le_trans Nat.and_le_left ?_
  exact Nat.le_trans (Nat.mod_le _ _) hN
theorem gth_eq {p : Nat → Bool} {o o2 r0 r1 : Nat → Nat} : ∀ k, (∀ j, j < k → o j = o2 j) → (gth p o r0 k).1 = (gth p o2 r1 k).1 ∧ ∀ j, j < (gth p o r0 k).1 → (gth p o r0 k).2 j = (gth p o2 r1 k).2 j
  | 0, _ => ⟨rfl, fun j h => by simp [gth] at h⟩
  | k + 1, ho => by
    have ih := gth_eq (p := p) (r0 := r0) (r1 := r1) k (fun j hj => ho j (by omega))
    have h9 := ho k (by omega)
    unfold gth
    rw [← h9]
    split
    · refine ⟨by show _ + 1 = _ + 1; rw [ih.1], fun j hj => ?_⟩
      show va_up _ _ _ j = va_up _ _ _ j
      rw [← ih.1]
      unfold va_up
      split
      · rfl
      · exact ih.2 j (by have : j < (gth p o r0 k).1 + 1 := hj; omega)
    · exact ih
/-- the row's places are places of the order: each shown one comes from some place, later ones from later places -/
theorem gth_src {p : Nat → Bool} {o r0 : Nat → Nat} : ∀ k, ∃ f : Nat → Nat, (∀ j, j < (gth p o r0 k).1 → f j < k ∧ (gth p o r0 k).2 j = o (f j) ∧ p (o (f j)) = true) ∧ ∀ i j, i < j → j < (gth p o r0 k).1 → f i < f j
  | 0 => ⟨fun _ => 0, fun j h => by simp [gth] at h, fun i j _ h => by simp [gth] at h⟩
  | k + 1 => by
    obtain ⟨f, h1, h2⟩ := gth_src (p := p) (o := o) (r0 := r0) k
    unfold gth
    split
    · rename_i hp
      refine ⟨fun j => if j = (gth p o r0 k).1 then k else f j, fun j hj => ?_, fun i j hij hj => ?_⟩
      · show (if j = (gth p o r0 k).1 then k else f j) < k + 1 ∧ va_up _ _ _ j = _ ∧ _
        unfold va_up
        by_cases e : j = (gth p o r0 k).1
        · simp only [if_pos e]
          exact ⟨by omega, trivial, hp⟩
        · simp only [if_neg e]
          have := h1 j (by have : j < (gth p o r0 k).1 + 1 := hj; omega)
          exact ⟨by omega, this.2.1, this.2.2⟩
      · have hj' : j < (gth p o r0 k).1 + 1 := hj
        show (if i = (gth p o r0 k).1 then k else f i) < (if j = (gth p o r0 k).1 then k else f j)
        rw [if_neg (by omega)]
        by_cases e : j = (gth p o r0 k).1
        · rw [if_pos e]
          exact (h1 i (by omega)).1
        · rw [if_neg e]
          exact h2 i j hij (by omega)
    · refine ⟨f, fun j hj => ?_, h2⟩
      have := h1 j hj
      exact ⟨by omega, this.2⟩
theorem tb_or (x : Int32) (t u : Nat) (ht : t < 32) : tb (x ||| (zI 1 <<< (zI (t : Int) &&& 31))) u = (tb x u || decide (u = t)) := by
  have h1 : (zI 1 <<< (zI (t : Int) &&& 31)).toBitVec = BitVec.twoPow 32 t := by
    have : ∀ t : Fin 32, (zI 1 <<< (zI ((t.val : Nat) : Int) &&& 31)).toBitVec = BitVec.twoPow 32 t.val := by decide +kernel
    exact this ⟨t, ht⟩
  unfold tb
  rw [Int32.toBitVec_or, h1, BitVec.getLsbD_or, BitVec.getLsbD_twoPow]
  by_cases e : u = t
  · subst e; simp [ht]
  · have : ¬ t = u := fun h => e h.symm
    simp [e, this]
end ZPure4
