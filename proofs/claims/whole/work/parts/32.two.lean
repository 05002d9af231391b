/-! calls in a method that holds two worlds: the callee's own, and one that it leaves as it is -/
section ZTwo
def zSep (w1 w2 : va_W) : Prop := ∀ (i j : Nat) (p r : Nat × va_E), w1[i]? = some p → w2[j]? = some r → p.1 ≠ r.1
theorem zSep.symm {w1 w2 : va_W} (h : zSep w1 w2) : zSep w2 w1 := fun i j p r hi hj he => h j i r p hj hi he.symm
theorem zkeep {D : va_G} {cl : List vw_C} {w1 w2 w3 : va_W} {H H1 : Heap} (hP : va_P D cl w2 H) (hs : zSep w1 w2) (hk : ∀ q : Nat, q < H.size → ¬ va_A w1 H.size q → H1[q]? = H[q]?) (hD : va_D (va_A w1 H.size) w3) : va_P D cl w2 H1 ∧ zSep w3 w2 := by
  have apart : ∀ (k : Nat) (r : Nat × va_E), w2[k]? = some r → r.1 < H.size ∧ ¬ va_A w1 H.size r.1 := by
    intro k r hr
    have hl := (hP k r hr).lt
    refine ⟨hl, fun h => ?_⟩
    rcases h with ⟨k2, e, h⟩ | h
    · exact hs k2 k (r.1, e) r h hr rfl
    · omega
  refine ⟨hP.kept (fun k r hr => hk r.1 (apart k r hr).1 (apart k r hr).2), fun i j p r hi hj he => ?_⟩
  exact (apart j r hj).2 (by rw [← he]; exact hD.2 i p hi)
variable {p : Program} {l : Launch} {e : Env} {R : Room} {s : State} {m : MethodId} {args : Array Value} {below : List Frame} {meth : Method} {c : Code} {H : Heap} {locs : List Loc} {cells slots : Nat} {Q : State → Prop}
variable {cc : ByteArray} {pc nL : Nat} {ls : Array Slot} {rest st0 : List Value} {G : ZG} {own : String} {A : Nat → Prop} {ws w2 : va_W} {mc ms : Nat} {av : Array Value} {S : Type}
theorem zfr_I {post : Int32 → S → Prop} {ws' : S → va_W} (hm : mc = 0 ∧ ms = 0) (Z : ZCtx p s m args meth c G cc nL own A) (hP2 : va_P G.1 vwCl w2 H) (hs : zSep ws w2) (hD : va_D A ws) (hS : va_S A s.heap H locs)
    (hr : va_Run p l e R s m args below meth c H locs cells slots mc ms (F0 m pc ls st0) rest (QI G post ws' (va_A ws H.size) av) (va_A ws H.size))
    (kk : ∀ (r : Int32) (u : S) (H1 : Heap) (locs1 : List Loc), post r u → va_P G.1 vwCl (ws' u) H1 → va_D A (ws' u) → va_P G.1 vwCl w2 H1 → zSep (ws' u) w2 → va_S A s.heap H1 locs1 → W p l e R s m args below meth c H1 locs1 cells slots Q (F0 m (pc + 3) ls (.int r :: rest))) : W p l e R s m args below meth c H locs cells slots Q (F0 m pc ls st0) := by
  have hf := zz_free hD hS Z.2.2.2.2.2.1
  obtain ⟨rfl, rfl⟩ := hm
  refine va_calli hr hS (fun q _ h => hf q h) hf (fun r u t H1 locs1 ht _ hp hB _ hk hS1 => ?_)
  obtain ⟨hP1, -, hD1⟩ := hB
  rw [ht] at hP1
  obtain ⟨k1, k2⟩ := zkeep hP2 hs hk hD1
  exact kk r u H1 locs1 hp hP1 (hD1.weaken (fun _ q _ h => hf q.1 h)) k1 k2 hS1
theorem zfr_L {post : Int64 → S → Prop} {ws' : S → va_W} (hm : mc = 0 ∧ ms = 0) (Z : ZCtx p s m args meth c G cc nL own A) (hP2 : va_P G.1 vwCl w2 H) (hs : zSep ws w2) (hD : va_D A ws) (hS : va_S A s.heap H locs)
    (hr : va_Run p l e R s m args below meth c H locs cells slots mc ms (F0 m pc ls st0) rest (QL G post ws' (va_A ws H.size) av) (va_A ws H.size))
    (kk : ∀ (r : Int64) (u : S) (H1 : Heap) (locs1 : List Loc), post r u → va_P G.1 vwCl (ws' u) H1 → va_D A (ws' u) → va_P G.1 vwCl w2 H1 → zSep (ws' u) w2 → va_S A s.heap H1 locs1 → W p l e R s m args below meth c H1 locs1 cells slots Q (F0 m (pc + 3) ls (.long r :: rest))) : W p l e R s m args below meth c H locs cells slots Q (F0 m pc ls st0) := by
  have hf := zz_free hD hS Z.2.2.2.2.2.1
  obtain ⟨rfl, rfl⟩ := hm
  refine va_calll hr hS (fun q _ h => hf q h) hf (fun r u t H1 locs1 ht _ hp hB _ hk hS1 => ?_)
  obtain ⟨hP1, -, hD1⟩ := hB
  rw [ht] at hP1
  obtain ⟨k1, k2⟩ := zkeep hP2 hs hk hD1
  exact kk r u H1 locs1 hp hP1 (hD1.weaken (fun _ q _ h => hf q.1 h)) k1 k2 hS1
theorem zfr_F {post : UInt32 → S → Prop} {ws' : S → va_W} (hm : mc = 0 ∧ ms = 0) (Z : ZCtx p s m args meth c G cc nL own A) (hP2 : va_P G.1 vwCl w2 H) (hs : zSep ws w2) (hD : va_D A ws) (hS : va_S A s.heap H locs)
    (hr : va_Run p l e R s m args below meth c H locs cells slots mc ms (F0 m pc ls st0) rest (QF G post ws' (va_A ws H.size) av) (va_A ws H.size))
    (kk : ∀ (r : UInt32) (u : S) (H1 : Heap) (locs1 : List Loc), post r u → va_P G.1 vwCl (ws' u) H1 → va_D A (ws' u) → va_P G.1 vwCl w2 H1 → zSep (ws' u) w2 → va_S A s.heap H1 locs1 → W p l e R s m args below meth c H1 locs1 cells slots Q (F0 m (pc + 3) ls (.float r :: rest))) : W p l e R s m args below meth c H locs cells slots Q (F0 m pc ls st0) := by
  have hf := zz_free hD hS Z.2.2.2.2.2.1
  obtain ⟨rfl, rfl⟩ := hm
  refine va_callf hr hS (fun q _ h => hf q h) hf (fun r u t H1 locs1 ht _ hp hB _ hk hS1 => ?_)
  obtain ⟨hP1, -, hD1⟩ := hB
  rw [ht] at hP1
  obtain ⟨k1, k2⟩ := zkeep hP2 hs hk hD1
  exact kk r u H1 locs1 hp hP1 (hD1.weaken (fun _ q _ h => hf q.1 h)) k1 k2 hS1
theorem zfr_D {post : UInt64 → S → Prop} {ws' : S → va_W} (hm : mc = 0 ∧ ms = 0) (Z : ZCtx p s m args meth c G cc nL own A) (hP2 : va_P G.1 vwCl w2 H) (hs : zSep ws w2) (hD : va_D A ws) (hS : va_S A s.heap H locs)
    (hr : va_Run p l e R s m args below meth c H locs cells slots mc ms (F0 m pc ls st0) rest (QD G post ws' (va_A ws H.size) av) (va_A ws H.size))
    (kk : ∀ (r : UInt64) (u : S) (H1 : Heap) (locs1 : List Loc), post r u → va_P G.1 vwCl (ws' u) H1 → va_D A (ws' u) → va_P G.1 vwCl w2 H1 → zSep (ws' u) w2 → va_S A s.heap H1 locs1 → W p l e R s m args below meth c H1 locs1 cells slots Q (F0 m (pc + 3) ls (.double r :: rest))) : W p l e R s m args below meth c H locs cells slots Q (F0 m pc ls st0) := by
  have hf := zz_free hD hS Z.2.2.2.2.2.1
  obtain ⟨rfl, rfl⟩ := hm
  refine va_calld hr hS (fun q _ h => hf q h) hf (fun r u t H1 locs1 ht _ hp hB _ hk hS1 => ?_)
  obtain ⟨hP1, -, hD1⟩ := hB
  rw [ht] at hP1
  obtain ⟨k1, k2⟩ := zkeep hP2 hs hk hD1
  exact kk r u H1 locs1 hp hP1 (hD1.weaken (fun _ q _ h => hf q.1 h)) k1 k2 hS1
theorem zfr_V {post : S → Prop} {ws' : S → va_W} (hm : mc = 0 ∧ ms = 0) (Z : ZCtx p s m args meth c G cc nL own A) (hP2 : va_P G.1 vwCl w2 H) (hs : zSep ws w2) (hD : va_D A ws) (hS : va_S A s.heap H locs)
    (hr : va_Run p l e R s m args below meth c H locs cells slots mc ms (F0 m pc ls st0) rest (QV G post ws' (va_A ws H.size) av) (va_A ws H.size))
    (kk : ∀ (u : S) (H1 : Heap) (locs1 : List Loc), post u → va_P G.1 vwCl (ws' u) H1 → va_D A (ws' u) → va_P G.1 vwCl w2 H1 → zSep (ws' u) w2 → va_S A s.heap H1 locs1 → W p l e R s m args below meth c H1 locs1 cells slots Q (F0 m (pc + 3) ls rest)) : W p l e R s m args below meth c H locs cells slots Q (F0 m pc ls st0) := by
  have hf := zz_free hD hS Z.2.2.2.2.2.1
  obtain ⟨rfl, rfl⟩ := hm
  refine va_callv hr hS (fun q _ h => hf q h) hf (fun u t H1 locs1 ht _ hp hB _ hk hS1 => ?_)
  obtain ⟨hP1, -, hD1⟩ := hB
  rw [ht] at hP1
  obtain ⟨k1, k2⟩ := zkeep hP2 hs hk hD1
  exact kk u H1 locs1 hp hP1 (hD1.weaken (fun _ q _ h => hf q.1 h)) k1 k2 hS1
end ZTwo
