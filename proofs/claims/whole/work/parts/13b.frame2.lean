/-! contracts of JDK members, and of methods with handlers -/
section ZFrame2
abbrev wYW (y : MethodName) (b : ByteArray) (n : Nat) (r : Option FieldType) (hh : List (Nat × Nat × Nat × Nat)) : List Cond := .codeWith y b n r hh :: wAll
theorem MC.mkF {l : Launch} {G : ZG} {y : MethodName} {rm : Room} {ws : va_W} {As : List Value} {Qf : (Nat → Prop) → Array Value → State → Outcome → State → Prop} {cc : ByteArray} {maxL : Nat} {ret : Option FieldType}
    (hy : plainFor y = true) (hn : (lg_sl As).length ≤ maxL)
    (body : ∀ (p : Program) (e : Env) (s : State) (m : MethodId) (av : Array Value) (below : List Frame) (meth : Method) (c : Code) (A : Nat → Prop) (H : Heap) (locs : List Loc) (ls : Array Slot) (Q : State → Prop), ZCtx p s m av meth c G cc maxL y.cls A → meth.sig.returnType = ret → meth.name = y.name →
      Q = MQ below (Qf A) av s rm.cells rm.slots A → va_P G.1 vwCl ws H → va_D A ws → va_S A s.heap H locs → lv_has ls maxL (lv_args 0 As) →
      W p l e rm s m av below meth c H locs 0 0 Q (F0 m 0 ls [])) : MC l G y (wY y cc maxL ret) rm ws As Qf := by
  intro sz
  refine va_MetF (cc := cc) (maxL := maxL) (ret := ret) hy rfl ?_
  intro p e s m args below meth c s₁ B hml hv
  obtain ⟨rfl, hsz, hP, hK, hD0, hE⟩ := hv
  subst hsz
  have hts := atoms_spec (ws := wY y cc maxL ret) B.pre
  rw [lg_entry_eq]
  exact body p e s m As.toArray below meth c (va_A ws s.heap.size) s.heap [] _ _ ⟨B.exec, B.bytes, hml, findClass_of_methodNamed B.named, fun w h => hts w (List.mem_cons_of_mem _ h), fun q h => Or.inr h, hK, hE, B.notSynchronized⟩ B.returns (name_of_methodNamed B.named B.method).1 rfl hP hD0.self va_S.rf (lv_entry As hn)
theorem MC.mkW {l : Launch} {G : ZG} {y : MethodName} {rm : Room} {ws : va_W} {As : List Value} {Qf : (Nat → Prop) → Array Value → State → Outcome → State → Prop} {cc : ByteArray} {maxL : Nat} {ret : Option FieldType} {hh : List (Nat × Nat × Nat × Nat)}
    (hy : plainName y.cls = true) (hn : (lg_sl As).length ≤ maxL)
    (body : ∀ (p : Program) (e : Env) (s : State) (m : MethodId) (av : Array Value) (below : List Frame) (meth : Method) (c : Code) (A : Nat → Prop) (H : Heap) (locs : List Loc) (ls : Array Slot) (Q : State → Prop), ZCtx p s m av meth c G cc maxL y.cls A → c.exceptionTable.toList = tableOf hh → meth.sig.returnType = ret → meth.name = y.name →
      Q = MQ below (Qf A) av s rm.cells rm.slots A → va_P G.1 vwCl ws H → va_D A ws → va_S A s.heap H locs → lv_has ls maxL (lv_args 0 As) →
      W p l e rm s m av below meth c H locs 0 0 Q (F0 m 0 ls [])) : MC l G y (wYW y cc maxL ret hh) rm ws As Qf := by
  intro sz
  refine va_MetW (hh := hh) (cc := cc) (maxL := maxL) (ret := ret) hy rfl ?_
  intro p e s m args below meth c s₁ B hml hv
  obtain ⟨rfl, hsz, hP, hK, hD0, hE⟩ := hv
  subst hsz
  have hts := atoms_spec (ws := wYW y cc maxL ret hh) B.pre
  rw [lg_entry_eq]
  exact body p e s m As.toArray below meth c (va_A ws s.heap.size) s.heap [] _ _ ⟨B.exec, B.bytes, hml, findClass_of_methodNamed B.named, fun w h => hts w (List.mem_cons_of_mem _ h), fun q h => Or.inr h, hK, hE, B.notSynchronized⟩ (vx_table (x := y) B (hts _ List.mem_cons_self)) B.returns (name_of_methodNamed B.named B.method).1 rfl hP hD0.self va_S.rf (lv_entry As hn)
end ZFrame2
/-! more plain words, and what holds of a state all along -/
section ZPure3
def okC (σ : St) : Prop :=
  σ.1 4 ≤ 30 ∧ σ.1 5 ≤ 6 ∧ σ.1 6 ≤ 4 ∧ σ.1 7 ≤ 4 ∧ σ.1 3 ≤ 6 ∧ σ.1 0 ≤ 99999 ∧ 1 ≤ σ.1 1 ∧ σ.1 1 ≤ 100 ∧ σ.1 2 ≤ 1440 ∧
  (∀ k, k < σ.1 4 → 1 ≤ σ.2.1 2 k) ∧ (∀ k, σ.2.1 2 k < 1000000) ∧ (∀ k, σ.2.1 3 k < 1000000) ∧ (∀ k, σ.2.1 1 k < 1000000) ∧ (∀ k, σ.2.1 0 k < 1000000) ∧
  (∀ k, σ.2.1 18 k ≤ 8) ∧ (∀ k, σ.2.1 19 k ≤ 8) ∧ (∀ k, σ.2.1 9 k ≤ 9) ∧ (∀ k, σ.2.1 4 k < 1000000) ∧ (∀ k, σ.2.1 5 k < 1000000) ∧ (∀ k, σ.2.1 6 k ≤ 2) ∧ (∀ k, σ.2.1 7 k < 1000000) ∧ (∀ k, σ.2.1 8 k < 1000000) ∧
  (∀ k, k < σ.1 4 → σ.2.1 10 k < σ.1 4) ∧ (∀ k, σ.2.1 11 k ≤ σ.1 4) ∧ (∀ k, σ.2.1 12 k ≤ σ.1 4)
theorem tb_and (st : Int32) (t : Nat) (ht : t < 32) : (st &&& (zI 1 <<< (zI (t : Int) &&& 31)) = 0) ↔ tb st t = false := by
  have h1 : (zI 1 <<< (zI (t : Int) &&& 31)).toBitVec = BitVec.twoPow 32 t := by
    have : ∀ t : Fin 32, (zI 1 <<< (zI ((t.val : Nat) : Int) &&& 31)).toBitVec = BitVec.twoPow 32 t.val := by decide +kernel
    exact this ⟨t, ht⟩
  have h2 : (st &&& (zI 1 <<< (zI (t : Int) &&& 31)) = 0) ↔ (st.toBitVec &&& BitVec.twoPow 32 t = 0#32) := by
    rw [← h1, ← Int32.toBitVec_and]
    constructor
    · intro h; rw [h]; rfl
    · intro h; exact Int32.toBitVec_inj.mp h
  rw [h2, BitVec.and_twoPow]
  unfold tb
  cases h : st.toBitVec.getLsbD t with
  | false => simp
  | true =>
    simp only [if_true]
    constructor
    · intro h9
      have := congrArg (fun b => b.getLsbD t) h9
      simp [BitVec.getLsbD_twoPow, ht] at this
    · intro h9; cases h9
theorem tb_256 (st : Int32) : (st &&& zI 256 = 0) ↔ tb st 8 = false := by
  have h : zI 256 = zI 1 <<< (zI ((8 : Nat) : Int) &&& 31) := by decide
  rw [h]
  exact tb_and st 8 (by decide)
theorem gth_le (p : Nat → Bool) (o r0 : Nat → Nat) : ∀ k, (gth p o r0 k).1 ≤ k
  | 0 => Nat.le_refl _
  | k + 1 => by
    have := gth_le p o r0 k
    unfold gth
    split
    · show _ + 1 ≤ _; omega
    · omega
theorem anw0_lt (r : Nat → Nat) : ∀ k x, x < k → anw0 r k x < k
  | 0, x, h => by omega
  | k + 1, x, h => by
    unfold anw0 va_up
    split
    · omega
    · have := anw0_lt r k x (by omega); omega
theorem anwF_in (ah : Nat → Nat → Bool) (a : Nat → Nat) (pl : Nat) : ∀ j, pl ≤ anwF ah a pl j ∧ anwF ah a pl j ≤ pl + j
  | 0 => ⟨Nat.le_refl _, Nat.le_refl _⟩
  | j + 1 => by
    have := anwF_in ah a pl j
    unfold anwF
    split <;> omega
theorem anw1_lt (ah : Nat → Nat → Bool) (nn : Nat) (r : Nat → Nat) : ∀ k, k ≤ nn → ∀ x, x < nn → anw1 ah nn r k x < nn
  | 0, _, x, h => anw0_lt r nn x h
  | k + 1, hk, x, h => by
    have ih := anw1_lt ah nn r k (by omega)
    have hf := anwF_in ah (anw1 ah nn r k) k (nn - 1 - k)
    show va_up (va_up (anw1 ah nn r k) _ _) k _ x < nn
    unfold va_up
    split
    · exact ih _ (by omega)
    · split
      · exact ih k (by omega)
      · exact ih x h
end ZPure3
