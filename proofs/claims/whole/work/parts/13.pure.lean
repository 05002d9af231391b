/-! plain words for what both programs compute, over one kind of state -/
section ZPure
/-- how many k < n have p -/
def cnt (p : Nat → Bool) : Nat → Nat
  | 0 => 0
  | n + 1 => cnt p n + if p n then 1 else 0
/-- the first k < n that has p, or -1 -/
def fI (p : Nat → Bool) : Nat → Int
  | 0 => -1
  | n + 1 => if 0 ≤ fI p n then fI p n else if p n then (n : Int) else -1
def popc (x : Int64) : Nat := cnt (fun k => x.toBitVec.getLsbD k) 64
def like (a b : Int64) : Nat := 100 * popc (a &&& b) / popc (a ||| b)
def tb (x : Int32) (k : Nat) : Bool := x.toBitVec.getLsbD k
/-- the title of the latest version -/
def lat (σ : St) (i : Nat) : Int64 := σ.2.2.2 0 (4 * i + (σ.2.1 2 i - 1) % 4)
def hold (σ : St) (r : Nat) (t : Int64) (te st : Int32) : Bool :=
  (t &&& σ.2.2.2 1 r == σ.2.2.2 1 r) && (σ.2.2.2 2 r == 0 || t &&& σ.2.2.2 2 r != 0) && (σ.2.2.1 1 r == 0 || te &&& σ.2.2.1 1 r != 0) && (σ.2.1 18 r == 0 || tb st (σ.2.1 18 r - 1))
def act (a : Nat) (st : Int32) : Int32 := if a = 9 then st &&& zI (-257) else st ||| (zI 1 <<< (zI (a : Int) &&& 31))
/-- what the rules below k make of an item -/
def outc (σ : St) (t : Int64) (te : Int32) : Nat → Int32
  | 0 => zI 0
  | k + 1 => if hold σ k t te (outc σ t te k) then act (σ.2.1 9 k) (outc σ t te k) else outc σ t te k
def out (σ : St) (i : Nat) : Int32 := outc σ (lat σ i) (σ.2.2.1 0 i) (σ.1 5)
def tk (σ : St) (rv : Nat) (te st : Int32) : Bool := !tb st 8 && (te &&& σ.2.2.1 2 rv != 0) && (σ.2.1 19 rv == 0 || tb st (σ.2.1 19 rv - 1))
def shw (σ : St) (rv i : Nat) : Bool := tk σ rv (σ.2.2.1 0 i) (out σ i)
/-- the shown ones in an order, laid into a row -/
def gth (p : Nat → Bool) (o : Nat → Nat) (r0 : Nat → Nat) : Nat → Nat × (Nat → Nat)
  | 0 => (0, r0)
  | k + 1 => if p (o k) then ((gth p o r0 k).1 + 1, va_up (gth p o r0 k).2 (gth p o r0 k).1 (o k)) else gth p o r0 k
def isAh (σ : St) (i j : Nat) : Bool := decide (σ.2.1 1 j < σ.2.1 1 i) || (σ.2.1 1 i == σ.2.1 1 j && decide (j < i))
def rdBy (σ : St) (h i mj : Nat) : Bool := σ.2.1 6 (30 * h + i) == 2 && decide (mj ≤ σ.2.1 8 (30 * h + i))
def rdR (σ : St) (i : Nat) : Bool := rdBy σ 4 i (σ.2.1 3 i)
def rdD (σ : St) (d i : Nat) : Bool := rdBy σ d i (σ.2.1 5 (30 * d + i))
def putM (σ : St) (h i kd mn vr : Nat) : St := sA (sA (sA σ 6 (va_up (σ.2.1 6) (30 * h + i) kd)) 7 (va_up (σ.2.1 7) (30 * h + i) mn)) 8 (va_up (σ.2.1 8) (30 * h + i) vr)
def cpM (σ : St) (f t i : Nat) : St := putM σ t i (σ.2.1 6 (30 * f + i)) (σ.2.1 7 (30 * f + i)) (σ.2.1 8 (30 * f + i))
def lrn (σ : St) (d i vr mj : Nat) : St := sA (sA σ 4 (va_up (σ.2.1 4) (30 * d + i) vr)) 5 (va_up (σ.2.1 5) (30 * d + i) mj)
def bup (σ : St) (d i : Nat) : St := lrn (cpM σ 4 d i) d i (σ.2.1 2 i) (σ.2.1 3 i)
/-- the mark of h wins against that of o, as the class says it -/
def bts (σ : St) (h o i : Nat) : Bool :=
  if σ.2.1 6 (30 * h + i) = 0 ∨ σ.2.1 6 (30 * o + i) = 0 then σ.2.1 6 (30 * h + i) != 0
  else if σ.2.1 7 (30 * h + i) ≠ σ.2.1 7 (30 * o + i) then decide (σ.2.1 7 (30 * o + i) < σ.2.1 7 (30 * h + i))
  else if σ.2.1 6 (30 * h + i) ≠ σ.2.1 6 (30 * o + i) then σ.2.1 6 (30 * h + i) == 2
  else decide (σ.2.1 8 (30 * o + i) ≤ σ.2.1 8 (30 * h + i))
theorem tB_1 {b : Bool} (h : b = true) : zI 1 = tB b := by rw [h]; decide
theorem tB_0 {b : Bool} (h : b = false) : zI 0 = tB b := by rw [h]; decide
theorem fI_no {p : Nat → Bool} {n : Nat} (h : ∀ j, j < n → p j = false) : fI p n = -1 := by
  induction n with
  | zero => rfl
  | succ n ih =>
    have h1 := ih (fun j hj => h j (by omega))
    have h2 := h n (by omega)
    simp [fI, h1, h2]
theorem fI_yes {p : Nat → Bool} {n k : Nat} (hk : k < n) (hp : p k = true) (h : ∀ j, j < k → p j = false) : fI p n = (k : Int) := by
  induction n with
  | zero => omega
  | succ n ih =>
    by_cases hkn : k = n
    · subst hkn
      simp [fI, fI_no h, hp]
    · have h1 := ih (by omega)
      simp [fI, h1]
end ZPure
section ZLcmp
variable {p : Program} {l : Launch} {e : Env} {R : Room} {s : State} {m : MethodId} {args : Array Value} {below : List Frame} {meth : Method} {c : Code} {H : Heap} {locs : List Loc} {cells slots : Nat} {Q : State → Prop}
variable {cc : ByteArray} {pc : Nat} {ls : Array Slot} {rest : List Value}
theorem zl_ne (hx : p.tables.exec = Jvm.exec) (hb : c.code = cc) {x y : Int64} {off : Int} {tgt : Nat} (hdg : decode cc pc = .ok (.lcmp, 1)) (hdi : decode cc (pc + 1) = .ok (.ifCond .ne off, 3)) (ht : ((pc + 1 : Nat) : Int) + off = (tgt : Int))
    (kt : ¬ x = y → W p l e R s m args below meth c H locs cells slots Q (F0 m tgt ls rest)) (kf : x = y → W p l e R s m args below meth c H locs cells slots Q (F0 m (pc + 1 + 3) ls rest)) : W p l e R s m args below meth c H locs cells slots Q (F0 m pc ls (.long y :: .long x :: rest)) :=
  W.lcmp hx hb hdg (lv_if_ne hx hb hdi ht (fun h => kt (fun h2 => h ((lg_cmp_eq x y).mpr h2))) (fun h => kf ((lg_cmp_eq x y).mp h)))
theorem zl_eq (hx : p.tables.exec = Jvm.exec) (hb : c.code = cc) {x y : Int64} {off : Int} {tgt : Nat} (hdg : decode cc pc = .ok (.lcmp, 1)) (hdi : decode cc (pc + 1) = .ok (.ifCond .eq off, 3)) (ht : ((pc + 1 : Nat) : Int) + off = (tgt : Int))
    (kt : x = y → W p l e R s m args below meth c H locs cells slots Q (F0 m tgt ls rest)) (kf : ¬ x = y → W p l e R s m args below meth c H locs cells slots Q (F0 m (pc + 1 + 3) ls rest)) : W p l e R s m args below meth c H locs cells slots Q (F0 m pc ls (.long y :: .long x :: rest)) :=
  W.lcmp hx hb hdg (lv_if_eq hx hb hdi ht (fun h => kt ((lg_cmp_eq x y).mp h)) (fun h => kf (fun h2 => h ((lg_cmp_eq x y).mpr h2))))
end ZLcmp
section ZPure2
/-- the best of the first k items for a title, seen from sf on and alike by th: -1 if none -/
def bst (σ : St) (t : Int64) (sf : Int) (th : Nat) : Nat → Int
  | 0 => -1
  | k + 1 => if sf ≤ ((σ.2.1 0 k : Nat) : Int) ∧ th ≤ like t (lat σ k) ∧ (bst σ t sf th k < 0 ∨ like t (lat σ (bst σ t sf th k).toNat) < like t (lat σ k)) then (k : Int) else bst σ t sf th k
/-- what the next one has to beat -/
def tbt (σ : St) (t : Int64) (sf : Int) (th k : Nat) : Int := if bst σ t sf th k < 0 then (th : Int) - 1 else ((like t (lat σ (bst σ t sf th k).toNat) : Nat) : Int)
theorem bst_in (σ : St) (t : Int64) (sf : Int) (th : Nat) : ∀ k, -1 ≤ bst σ t sf th k ∧ bst σ t sf th k < k ∧ (0 ≤ bst σ t sf th k → th ≤ like t (lat σ (bst σ t sf th k).toNat))
  | 0 => by simp [bst]
  | k + 1 => by
    have ih := bst_in σ t sf th k
    unfold bst
    split
    · rename_i h
      refine ⟨by omega, by omega, fun _ => ?_⟩
      have : ((k : Int)).toNat = k := by omega
      rw [this]
      exact h.2.1
    · exact ⟨ih.1, by omega, ih.2.2⟩
theorem bst_no {σ : St} {t : Int64} {sf : Int} {th k : Nat} (h : ((σ.2.1 0 k : Nat) : Int) < sf ∨ ((like t (lat σ k) : Nat) : Int) ≤ tbt σ t sf th k) : bst σ t sf th (k + 1) = bst σ t sf th k ∧ tbt σ t sf th (k + 1) = tbt σ t sf th k := by
  have hb := bst_in σ t sf th k
  have h1 : bst σ t sf th (k + 1) = bst σ t sf th k := by
    conv => lhs; unfold bst
    rw [if_neg]
    rintro ⟨a, b, c⟩
    rcases h with h | h
    · omega
    · unfold tbt at h
      split at h
      · omega
      · rcases c with c | c
        · omega
        · omega
  exact ⟨h1, by unfold tbt; rw [h1]⟩
theorem bst_yes {σ : St} {t : Int64} {sf : Int} {th k : Nat} (h1 : sf ≤ ((σ.2.1 0 k : Nat) : Int)) (h : tbt σ t sf th k < ((like t (lat σ k) : Nat) : Int)) : bst σ t sf th (k + 1) = (k : Int) ∧ tbt σ t sf th (k + 1) = ((like t (lat σ k) : Nat) : Int) := by
  have hb := bst_in σ t sf th k
  have h2 : bst σ t sf th (k + 1) = (k : Int) := by
    conv => lhs; unfold bst
    rw [if_pos]
    unfold tbt at h
    split at h
    · exact ⟨h1, by omega, Or.inl (by assumption)⟩
    · exact ⟨h1, by have := hb.2.2 (by omega); omega, Or.inr (by omega)⟩
  refine ⟨h2, ?_⟩
  unfold tbt
  rw [h2, if_neg (by omega)]
  have : ((k : Int)).toNat = k := by omega
  rw [this]
/-- an item put into the kept order, from place p down -/
def insO (ah : Nat → Bool) (i : Nat) : Nat → (Nat → Nat) → (Nat → Nat)
  | 0, o => va_up o 0 i
  | p + 1, o => if ah (o p) then insO ah i p (va_up o (p + 1) (o p)) else va_up o (p + 1) i
def own (σ : St) (a b : Int) : Int := if 0 ≤ a ∧ a < 6 ∧ 0 ≤ b ∧ b < 1000 then ((σ.2.1 11 (1000 * a.toNat + b.toNat) : Nat) : Int) - 1 else -1
def ownL (σ : St) (a : Int) : Int := if 0 ≤ a ∧ a < 1000 then ((σ.2.1 12 a.toNat : Nat) : Int) - 1 else -1
def app4 (σ : St) (t : Int64) (mn tm : Nat) : St :=
  sA (sL (sA (sA σ 0 (va_up (σ.2.1 0) (σ.1 4) mn)) 1 (va_up (σ.2.1 1) (σ.1 4) tm)) 0 (va_up (σ.2.2.2 0) (4 * σ.1 4 + 0 % 4) t)) 2 (va_up (σ.2.1 2) (σ.1 4) 1)
def app (σ : St) (t : Int64) (mn tm : Nat) : St := sN (sA (app4 σ t mn tm) 10 (insO (isAh (app4 σ t mn tm) (σ.1 4)) (σ.1 4) (σ.1 4) (σ.2.1 10))) 4 (σ.1 4 + 1)
/-- the item gets a title of another fetch, as a version if it is another one -/
def rnw (σ : St) (i : Nat) (t : Int64) (th : Nat) : St :=
  if t = lat σ i then σ
  else if th ≤ like t (lat σ i) then sA (sL σ 0 (va_up (σ.2.2.2 0) (4 * i + σ.2.1 2 i % 4) t)) 2 (va_up (σ.2.1 2) i (σ.2.1 2 i + 1))
  else sA (sA (sL σ 0 (va_up (σ.2.2.2 0) (4 * i + σ.2.1 2 i % 4) t)) 2 (va_up (σ.2.1 2) i (σ.2.1 2 i + 1))) 3 (va_up (σ.2.1 3) i (σ.2.1 2 i))
def addT (σ : St) (i sr : Nat) : St := sI σ 0 (va_up (σ.2.2.1 0) i (σ.2.2.1 0 i ||| (zI 1 <<< (zI (sr : Int) &&& 31))))
def clP (σ : St) (i : Nat) (sr b : Int) : St := if b ≠ -1 ∧ own σ sr b = -1 then sA σ 11 (va_up (σ.2.1 11) (1000 * sr.toNat + b.toNat) (i + 1)) else σ
def clL (σ : St) (i : Nat) (b : Int) : St := if b ≠ -1 ∧ ownL σ b = -1 then sA σ 12 (va_up (σ.2.1 12) b.toNat (i + 1)) else σ
/-- the order found anew: items by rising numbers, then the first of the rest again and again -/
def anw0 (r : Nat → Nat) : Nat → (Nat → Nat)
  | 0 => r
  | k + 1 => va_up (anw0 r k) k k
def anwF (ah : Nat → Nat → Bool) (a : Nat → Nat) (pl : Nat) : Nat → Nat
  | 0 => pl
  | j + 1 => if ah (a (pl + 1 + j)) (a (anwF ah a pl j)) then pl + 1 + j else anwF ah a pl j
def anw1 (ah : Nat → Nat → Bool) (nn : Nat) (r : Nat → Nat) : Nat → (Nat → Nat)
  | 0 => anw0 r nn
  | k + 1 => let a := anw1 ah nn r k; let f := anwF ah a k (nn - 1 - k); va_up (va_up a f (a k)) k (a f)
theorem cnt_le (p : Nat → Bool) : ∀ n, cnt p n ≤ n
  | 0 => Nat.le_refl _
  | n + 1 => by
    have := cnt_le p n
    unfold cnt
    split <;> omega
theorem popc_le (x : Int64) : popc x ≤ 64 := cnt_le _ 64
theorem like_le (a b : Int64) : like a b ≤ 6400 := by
  unfold like
  have h := popc_le (a &&& b)
  calc 100 * popc (a &&& b) / popc (a ||| b) ≤ 100 * popc (a &&& b) := Nat.div_le_self _ _
    _ ≤ 6400 := by omega
theorem xor_nn {x y : Int32} (hx : 0 ≤ x.toInt) (hy : 0 ≤ y.toInt) : 0 ≤ (x ^^^ y).toInt := by
  have h1 : x.toBitVec.msb = false := by
    cases h : x.toBitVec.msb with
    | false => rfl
    | true => have := BitVec.toInt_neg_of_msb_true h; have h9 : x.toInt = x.toBitVec.toInt := rfl; omega
  have h2 : y.toBitVec.msb = false := by
    cases h : y.toBitVec.msb with
    | false => rfl
    | true => have := BitVec.toInt_neg_of_msb_true h; have h9 : y.toInt = y.toBitVec.toInt := rfl; omega
  have h3 : (x ^^^ y).toBitVec.msb = false := by
    rw [Int32.toBitVec_xor, BitVec.msb_xor, h1, h2]; rfl
  have := BitVec.toInt_nonneg_of_msb_false h3
  exact this
end ZPure2
