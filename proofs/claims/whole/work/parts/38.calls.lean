/-! the law's calls: one way of saying what a call answers, whichever way it goes; and the law's four worlds -/
section ZSepA
theorem zSep_l {a b c : va_W} (h : zSep a c) (h2 : zSep b c) : zSep (a ++ b) c := by
  intro i j p r hi hj
  rcases Nat.lt_or_ge i a.length with hl | hl
  · rw [List.getElem?_append_left hl] at hi; exact h i j p r hi hj
  · rw [List.getElem?_append_right hl] at hi; exact h2 _ j p r hi hj
theorem zSep_r {a b c : va_W} (h : zSep c a) (h2 : zSep c b) : zSep c (a ++ b) := (zSep_l h.symm h2.symm).symm
theorem zSep_l1 {a b c : va_W} (h : zSep (a ++ b) c) : zSep a c := fun i j p r hi hj => h i j p r (by rw [List.getElem?_append_left (List.getElem?_eq_some_iff.mp hi).1]; exact hi) hj
theorem zSep_l2 {a b c : va_W} (h : zSep (a ++ b) c) : zSep b c := fun i j p r hi hj => h (a.length + i) j p r (by rw [List.getElem?_append_right (by omega), Nat.add_sub_cancel_left]; exact hi) hj
theorem zSep_r1 {a b c : va_W} (h : zSep c (a ++ b)) : zSep c a := (zSep_l1 h.symm).symm
theorem zSep_r2 {a b c : va_W} (h : zSep c (a ++ b)) : zSep c b := (zSep_l2 h.symm).symm
end ZSepA
section ZOne
/-- a contract of some room and some answer that says what is asked here -/
def CIv (l : Launch) (G : ZG) (nc ns : Nat) (y : MethodName) (wd : List Cond) (ws : va_W) (As : List Value) {S : Type} (post : Int32 → S → Prop) (ws' : S → va_W) : Prop :=
  ∃ (rm : Room) (S1 : Type) (p1 : Int32 → S1 → Prop) (w1 : S1 → va_W), (rm.frames ≤ 17 ∧ rm.locals ≤ 4000 ∧ rm.cells ≤ nc ∧ rm.slots ≤ ns) ∧ MC l G y wd rm ws As (QI G p1 w1) ∧ ∀ r u, p1 r u → ∃ u2, post r u2 ∧ w1 u = ws' u2
def CLv (l : Launch) (G : ZG) (nc ns : Nat) (y : MethodName) (wd : List Cond) (ws : va_W) (As : List Value) {S : Type} (post : Int64 → S → Prop) (ws' : S → va_W) : Prop :=
  ∃ (rm : Room) (S1 : Type) (p1 : Int64 → S1 → Prop) (w1 : S1 → va_W), (rm.frames ≤ 17 ∧ rm.locals ≤ 4000 ∧ rm.cells ≤ nc ∧ rm.slots ≤ ns) ∧ MC l G y wd rm ws As (QL G p1 w1) ∧ ∀ r u, p1 r u → ∃ u2, post r u2 ∧ w1 u = ws' u2
def CFv (l : Launch) (G : ZG) (nc ns : Nat) (y : MethodName) (wd : List Cond) (ws : va_W) (As : List Value) {S : Type} (post : UInt32 → S → Prop) (ws' : S → va_W) : Prop :=
  ∃ (rm : Room) (S1 : Type) (p1 : UInt32 → S1 → Prop) (w1 : S1 → va_W), (rm.frames ≤ 17 ∧ rm.locals ≤ 4000 ∧ rm.cells ≤ nc ∧ rm.slots ≤ ns) ∧ MC l G y wd rm ws As (QF G p1 w1) ∧ ∀ r u, p1 r u → ∃ u2, post r u2 ∧ w1 u = ws' u2
def CDv (l : Launch) (G : ZG) (nc ns : Nat) (y : MethodName) (wd : List Cond) (ws : va_W) (As : List Value) {S : Type} (post : UInt64 → S → Prop) (ws' : S → va_W) : Prop :=
  ∃ (rm : Room) (S1 : Type) (p1 : UInt64 → S1 → Prop) (w1 : S1 → va_W), (rm.frames ≤ 17 ∧ rm.locals ≤ 4000 ∧ rm.cells ≤ nc ∧ rm.slots ≤ ns) ∧ MC l G y wd rm ws As (QD G p1 w1) ∧ ∀ r u, p1 r u → ∃ u2, post r u2 ∧ w1 u = ws' u2
/-- what a call asks of the words of a method with handlers -/
def zYw (y : MethodName) (b : ByteArray) (mL : Nat) (r : Option FieldType) (n : Nat) (hh : List (Nat × Nat × Nat × Nat)) : Prop := Cond.codeWith y b mL r hh ∈ wAll ∧ Cond.initialized y.cls ∈ wAll ∧ (y.cls ≠ "java/lang/invoke/MethodHandle" ∧ y.cls ≠ "java/lang/invoke/VarHandle") ∧ (∀ sig, parseMethodDescriptor y.desc = some sig → n = sig.parameters.length) ∧ Cond.static y ∈ wAll
/-- the law's worlds: the class, the long, the reference, the double -/
def LW (G : ZG) (A : Nat → Prop) (q1 q2 : Nat → Nat) (oa od : Nat) (σ : St) (κ : KC) (f : Nat → Int64) (τ : St) (μ : KM) (g : Nat → UInt64) (H : Heap) : Prop :=
  (va_P G.1 vwCl (wC G q1 σ κ) H ∧ va_P G.1 vwCl [aL G oa 1 f] H ∧ va_P G.1 vwCl (wM G q2 τ μ) H ∧ va_P G.1 vwCl [aD G od 1 g] H) ∧
  (va_D A (wC G q1 σ κ) ∧ va_D A [aL G oa 1 f] ∧ va_D A (wM G q2 τ μ) ∧ va_D A [aD G od 1 g]) ∧
  zSep (wC G q1 σ κ) [aL G oa 1 f] ∧ zSep (wC G q1 σ κ) (wM G q2 τ μ) ∧ zSep (wC G q1 σ κ) [aD G od 1 g] ∧ zSep [aL G oa 1 f] (wM G q2 τ μ) ∧ zSep [aL G oa 1 f] [aD G od 1 g] ∧ zSep (wM G q2 τ μ) [aD G od 1 g]
variable {p : Program} {l : Launch} {e : Env} {R : Room} {s : State} {m : MethodId} {args : Array Value} {below : List Frame} {meth : Method} {c : Code} {H : Heap} {locs : List Loc} {cells slots : Nat} {Q : State → Prop}
variable {cc : ByteArray} {pc nL : Nat} {ls : Array Slot} {rest st0 : List Value} {G : ZG} {own : String} {A : Nat → Prop} {ws w2 : va_W} {mc ms : Nat} {av : Array Value} {S : Type}
theorem zz_payW (hW : ∀ w ∈ wAll, w.before args s = true) {y : MethodName} {b : ByteArray} {mL n : Nat} {r : Option FieldType} {hh : List (Nat × Nat × Nat × Nat)} (hY : zYw y b mL r n hh) : ∀ w ∈ wYW y b mL r hh, ∀ (a' : Array Value) (U : State), s.WarmedH U.vm → w.before a' U = true := by
  intro w hw a' U hU
  have hm : w ∈ wAll := (List.mem_cons.mp hw).elim (fun e => by rw [e]; exact hY.1) id
  exact word_at hU (good_of_word (wA_good hm)) (hW w hm)
theorem zrunSW {y : MethodName} {b : ByteArray} {mL n idx : Nat} {r : Option FieldType} {rm : Room} {As : List Value} {Qf : (Nat → Prop) → Array Value → State → Outcome → State → Prop} {hh : List (Nat × Nat × Nat × Nat)}
    (Z : ZCtx p s m args meth c G cc nL own A) (hP : va_P G.1 vwCl ws H) (hD : va_D A ws) (hS : va_S A s.heap H locs) (hls : ls.size = nL)
    (hM : MC l G y (wYW y b mL r hh) rm ws As Qf) (hY : zYw y b mL r n hh) (hl : Cond.methodLink own idx y ∈ wAll)
    (hn : As.length = n) (hst0 : st0 = As.reverse ++ rest) (hR : zRm rm R mL cells slots) (hst : (rest.map fun v => v.category).sum ≤ 8) (hdg : decode cc pc = .ok (.invokestatic idx, 3)) :
    va_Run p l e R s m args below meth c H locs cells slots rm.cells rm.slots (F0 m pc ls st0) rest (Qf (va_A ws H.size) As.toArray) (va_A ws H.size) := by
  have hpre := zz_pre (As := As) Z hP hD hS
  have hW := Z.2.2.2.2.1
  exact vx_runSW (hh := hh) (zz_fix Z) (hM H.size) ⟨⟨rfl, rfl, hR.1.1, hR.1.2, zz_payW hW hY, List.mem_cons_self⟩, hW _ hY.1, hW _ hY.2.1, hY.2.2.1, hY.2.2.2.1, hW _ hl, hW _ hY.2.2.2.2⟩ hpre rfl hn hls hst0 (lv_room hst) hdg hR.2
theorem zfc_V {post : S → Prop} {ws' : S → va_W} (Z : ZCtx p s m args meth c G cc nL own A) (hP2 : va_P G.1 vwCl w2 H) (hs : zSep ws w2) (hD : va_D A ws) (hS : va_S A s.heap H locs)
    (hr : va_Run p l e R s m args below meth c H locs cells slots mc ms (F0 m pc ls st0) rest (QV G post ws' (va_A ws H.size) av) (va_A ws H.size))
    (kk : ∀ (u : S) (H1 : Heap) (locs1 : List Loc), post u → va_P G.1 vwCl (ws' u) H1 → va_D A (ws' u) → va_P G.1 vwCl w2 H1 → zSep (ws' u) w2 → va_S A s.heap H1 locs1 → W p l e R s m args below meth c H1 locs1 (cells + mc) (slots + ms) Q (F0 m (pc + 3) ls rest)) : W p l e R s m args below meth c H locs cells slots Q (F0 m pc ls st0) := by
  have hf := zz_free hD hS Z.2.2.2.2.2.1
  refine va_callv hr hS (fun q _ h => hf q h) hf (fun u t H1 locs1 ht _ hp hB _ hk hS1 => ?_)
  obtain ⟨hP1, -, hD1⟩ := hB
  rw [ht] at hP1
  obtain ⟨k1, k2⟩ := zkeep hP2 hs hk hD1
  exact kk u H1 locs1 hp hP1 (hD1.weaken (fun _ q _ h => hf q.1 h)) k1 k2 hS1
theorem zfc_I {post : Int32 → S → Prop} {ws' : S → va_W} (Z : ZCtx p s m args meth c G cc nL own A) (hP2 : va_P G.1 vwCl w2 H) (hs : zSep ws w2) (hD : va_D A ws) (hS : va_S A s.heap H locs)
    (hr : va_Run p l e R s m args below meth c H locs cells slots mc ms (F0 m pc ls st0) rest (QI G post ws' (va_A ws H.size) av) (va_A ws H.size))
    (kk : ∀ (r : Int32) (u : S) (H1 : Heap) (locs1 : List Loc), post r u → va_P G.1 vwCl (ws' u) H1 → va_D A (ws' u) → va_P G.1 vwCl w2 H1 → zSep (ws' u) w2 → va_S A s.heap H1 locs1 → W p l e R s m args below meth c H1 locs1 (cells + mc) (slots + ms) Q (F0 m (pc + 3) ls (.int r :: rest))) : W p l e R s m args below meth c H locs cells slots Q (F0 m pc ls st0) := by
  have hf := zz_free hD hS Z.2.2.2.2.2.1
  refine va_calli hr hS (fun q _ h => hf q h) hf (fun r u t H1 locs1 ht _ hp hB _ hk hS1 => ?_)
  obtain ⟨hP1, -, hD1⟩ := hB
  rw [ht] at hP1
  obtain ⟨k1, k2⟩ := zkeep hP2 hs hk hD1
  exact kk r u H1 locs1 hp hP1 (hD1.weaken (fun _ q _ h => hf q.1 h)) k1 k2 hS1
theorem zfc_L {post : Int64 → S → Prop} {ws' : S → va_W} (Z : ZCtx p s m args meth c G cc nL own A) (hP2 : va_P G.1 vwCl w2 H) (hs : zSep ws w2) (hD : va_D A ws) (hS : va_S A s.heap H locs)
    (hr : va_Run p l e R s m args below meth c H locs cells slots mc ms (F0 m pc ls st0) rest (QL G post ws' (va_A ws H.size) av) (va_A ws H.size))
    (kk : ∀ (r : Int64) (u : S) (H1 : Heap) (locs1 : List Loc), post r u → va_P G.1 vwCl (ws' u) H1 → va_D A (ws' u) → va_P G.1 vwCl w2 H1 → zSep (ws' u) w2 → va_S A s.heap H1 locs1 → W p l e R s m args below meth c H1 locs1 (cells + mc) (slots + ms) Q (F0 m (pc + 3) ls (.long r :: rest))) : W p l e R s m args below meth c H locs cells slots Q (F0 m pc ls st0) := by
  have hf := zz_free hD hS Z.2.2.2.2.2.1
  refine va_calll hr hS (fun q _ h => hf q h) hf (fun r u t H1 locs1 ht _ hp hB _ hk hS1 => ?_)
  obtain ⟨hP1, -, hD1⟩ := hB
  rw [ht] at hP1
  obtain ⟨k1, k2⟩ := zkeep hP2 hs hk hD1
  exact kk r u H1 locs1 hp hP1 (hD1.weaken (fun _ q _ h => hf q.1 h)) k1 k2 hS1
theorem zfc_F {post : UInt32 → S → Prop} {ws' : S → va_W} (Z : ZCtx p s m args meth c G cc nL own A) (hP2 : va_P G.1 vwCl w2 H) (hs : zSep ws w2) (hD : va_D A ws) (hS : va_S A s.heap H locs)
    (hr : va_Run p l e R s m args below meth c H locs cells slots mc ms (F0 m pc ls st0) rest (QF G post ws' (va_A ws H.size) av) (va_A ws H.size))
    (kk : ∀ (r : UInt32) (u : S) (H1 : Heap) (locs1 : List Loc), post r u → va_P G.1 vwCl (ws' u) H1 → va_D A (ws' u) → va_P G.1 vwCl w2 H1 → zSep (ws' u) w2 → va_S A s.heap H1 locs1 → W p l e R s m args below meth c H1 locs1 (cells + mc) (slots + ms) Q (F0 m (pc + 3) ls (.float r :: rest))) : W p l e R s m args below meth c H locs cells slots Q (F0 m pc ls st0) := by
  have hf := zz_free hD hS Z.2.2.2.2.2.1
  refine va_callf hr hS (fun q _ h => hf q h) hf (fun r u t H1 locs1 ht _ hp hB _ hk hS1 => ?_)
  obtain ⟨hP1, -, hD1⟩ := hB
  rw [ht] at hP1
  obtain ⟨k1, k2⟩ := zkeep hP2 hs hk hD1
  exact kk r u H1 locs1 hp hP1 (hD1.weaken (fun _ q _ h => hf q.1 h)) k1 k2 hS1
theorem zfc_D {post : UInt64 → S → Prop} {ws' : S → va_W} (Z : ZCtx p s m args meth c G cc nL own A) (hP2 : va_P G.1 vwCl w2 H) (hs : zSep ws w2) (hD : va_D A ws) (hS : va_S A s.heap H locs)
    (hr : va_Run p l e R s m args below meth c H locs cells slots mc ms (F0 m pc ls st0) rest (QD G post ws' (va_A ws H.size) av) (va_A ws H.size))
    (kk : ∀ (r : UInt64) (u : S) (H1 : Heap) (locs1 : List Loc), post r u → va_P G.1 vwCl (ws' u) H1 → va_D A (ws' u) → va_P G.1 vwCl w2 H1 → zSep (ws' u) w2 → va_S A s.heap H1 locs1 → W p l e R s m args below meth c H1 locs1 (cells + mc) (slots + ms) Q (F0 m (pc + 3) ls (.double r :: rest))) : W p l e R s m args below meth c H locs cells slots Q (F0 m pc ls st0) := by
  have hf := zz_free hD hS Z.2.2.2.2.2.1
  refine va_calld hr hS (fun q _ h => hf q h) hf (fun r u t H1 locs1 ht _ hp hB _ hk hS1 => ?_)
  obtain ⟨hP1, -, hD1⟩ := hB
  rw [ht] at hP1
  obtain ⟨k1, k2⟩ := zkeep hP2 hs hk hD1
  exact kk r u H1 locs1 hp hP1 (hD1.weaken (fun _ q _ h => hf q.1 h)) k1 k2 hS1
variable {q1 q2 : Nat → Nat} {oa od : Nat} {σ σ' τ τ' : St} {κ : KC} {f : Nat → Int64} {μ : KM} {g : Nat → UInt64}
/-- the room of a call out of the law -/
abbrev zRl (R : Room) (mL cells slots nc ns : Nat) : Prop := (18 ≤ R.frames ∧ 8 + (mL + 11) + 4000 ≤ R.locals) ∧ cells + nc ≤ R.cells ∧ slots + ns ≤ R.slots
theorem callL {y : MethodName} {b : ByteArray} {mL n idx : Nat} {As : List Value} {hh : List (Nat × Nat × Nat × Nat)} {post : Int32 → KC × (Nat → Int64) → Prop}
    (Z : ZCtx p s m args meth c G cc nL own A) (hW : LW G A q1 q2 oa od σ κ f τ μ g H) (hS : va_S A s.heap H locs) (hls : ls.size = nL)
    (hM : CIv l G 1 6 y (wYW y b mL (some .int) hh) (wC G q1 σ κ ++ [aL G oa 1 f]) As post (fun u => wC G q1 σ' u.1 ++ [aL G oa 1 u.2]))
    (hY : zYw y b mL (some .int) n hh) (hl : Cond.methodLink own idx y ∈ wAll) (hn : As.length = n) (hst0 : st0 = As.reverse ++ rest) (hR : zRl R mL cells slots 1 6) (hst : (rest.map fun v => v.category).sum ≤ 8) (hdg : decode cc pc = .ok (.invokestatic idx, 3))
    (kk : ∀ (r : Int32) (u : KC × (Nat → Int64)) (H1 : Heap) (locs1 : List Loc), post r u → LW G A q1 q2 oa od σ' u.1 u.2 τ μ g H1 → va_S A s.heap H1 locs1 → W p l e R s m args below meth c H1 locs1 (cells + 1) (slots + 6) Q (F0 m (pc + 3) ls (.int r :: rest))) : W p l e R s m args below meth c H locs cells slots Q (F0 m pc ls st0) := by
  obtain ⟨⟨p1, p2, p3, p4⟩, ⟨d1, d2, d3, d4⟩, s12, s13, s14, s23, s24, s34⟩ := hW
  obtain ⟨rm, S1, po, w1, hrm, hMC, himp⟩ := hM
  have hP := p1.app p2
  have hD := va_D.app d1 d2 s12
  refine zfc_I Z (p3.app p4) (zSep_l (zSep_r s13 s14) (zSep_r s23 s24)) hD hS (zrunSW Z hP hD hS hls hMC hY hl hn hst0 ⟨⟨by omega, by omega⟩, by omega, by omega⟩ hst hdg) (fun r u H1 locs1 hp hP1 hD1 hP2 hs1 hS1 => ?_)
  obtain ⟨u2, hp2, hw⟩ := himp r u hp
  rw [hw] at hP1 hD1 hs1
  refine W.widen (show cells + rm.cells ≤ cells + 1 by omega) (show slots + rm.slots ≤ slots + 6 by omega) ?_
  exact kk r u2 H1 locs1 hp2 ⟨⟨zP_l hP1, zP_r hP1, zP_l hP2, zP_r hP2⟩, ⟨zD_l hD1, zD_r hD1, d3, d4⟩, zD_sep hD1, zSep_l1 (zSep_r1 hs1), zSep_l1 (zSep_r2 hs1), zSep_l2 (zSep_r1 hs1), zSep_l2 (zSep_r2 hs1), s34⟩ hS1
theorem callD {y : MethodName} {b : ByteArray} {mL n idx : Nat} {As : List Value} {hh : List (Nat × Nat × Nat × Nat)} {post : Int32 → KC × (Nat → UInt64) → Prop}
    (Z : ZCtx p s m args meth c G cc nL own A) (hW : LW G A q1 q2 oa od σ κ f τ μ g H) (hS : va_S A s.heap H locs) (hls : ls.size = nL)
    (hM : CIv l G 1 6 y (wYW y b mL (some .int) hh) (wC G q1 σ κ ++ [aD G od 1 g]) As post (fun u => wC G q1 σ' u.1 ++ [aD G od 1 u.2]))
    (hY : zYw y b mL (some .int) n hh) (hl : Cond.methodLink own idx y ∈ wAll) (hn : As.length = n) (hst0 : st0 = As.reverse ++ rest) (hR : zRl R mL cells slots 1 6) (hst : (rest.map fun v => v.category).sum ≤ 8) (hdg : decode cc pc = .ok (.invokestatic idx, 3))
    (kk : ∀ (r : Int32) (u : KC × (Nat → UInt64)) (H1 : Heap) (locs1 : List Loc), post r u → LW G A q1 q2 oa od σ' u.1 f τ μ u.2 H1 → va_S A s.heap H1 locs1 → W p l e R s m args below meth c H1 locs1 (cells + 1) (slots + 6) Q (F0 m (pc + 3) ls (.int r :: rest))) : W p l e R s m args below meth c H locs cells slots Q (F0 m pc ls st0) := by
  obtain ⟨⟨p1, p2, p3, p4⟩, ⟨d1, d2, d3, d4⟩, s12, s13, s14, s23, s24, s34⟩ := hW
  obtain ⟨rm, S1, po, w1, hrm, hMC, himp⟩ := hM
  have hP := p1.app p4
  have hD := va_D.app d1 d4 s14
  refine zfc_I Z (p2.app p3) (zSep_l (zSep_r s12 s13) (zSep_r s24.symm s34.symm)) hD hS (zrunSW Z hP hD hS hls hMC hY hl hn hst0 ⟨⟨by omega, by omega⟩, by omega, by omega⟩ hst hdg) (fun r u H1 locs1 hp hP1 hD1 hP2 hs1 hS1 => ?_)
  obtain ⟨u2, hp2, hw⟩ := himp r u hp
  rw [hw] at hP1 hD1 hs1
  refine W.widen (show cells + rm.cells ≤ cells + 1 by omega) (show slots + rm.slots ≤ slots + 6 by omega) ?_
  exact kk r u2 H1 locs1 hp2 ⟨⟨zP_l hP1, zP_l hP2, zP_r hP2, zP_r hP1⟩, ⟨zD_l hD1, d2, d3, zD_r hD1⟩, zSep_l1 (zSep_r1 hs1), zSep_l1 (zSep_r2 hs1), zD_sep hD1, s23, (zSep_l2 (zSep_r1 hs1)).symm, (zSep_l2 (zSep_r2 hs1)).symm⟩ hS1
theorem callC {y : MethodName} {b : ByteArray} {mL n idx : Nat} {r0 : Option FieldType} {As : List Value} {post : Int32 → KC → Prop} {T : u_T} {N : Nat}
    (Z : ZCtx p s m args meth c G cc nL own A) (hW : LW G A q1 q2 oa od σ κ f τ μ g H) (hS : va_S A s.heap H locs) (hls : ls.size = nL)
    (hM : CIv l G 0 0 y (wY y b mL r0) (wC G q1 σ κ) (.ref (q1 0) :: As) post (fun u => wC G q1 σ' u))
    (hY : zYv y b mL r0 n) (hl : Cond.methodLink own idx y ∈ wAll) (hc : vwCl[7]? = some (y.cls, T, N)) (hn : As.length = n) (hst0 : st0 = As.reverse ++ .ref (q1 0) :: rest) (hR : zRl R mL cells slots 0 0) (hst : (rest.map fun v => v.category).sum ≤ 8) (hdg : decode cc pc = .ok (.invokevirtual idx, 3))
    (kk : ∀ (r : Int32) (u : KC) (H1 : Heap) (locs1 : List Loc), post r u → LW G A q1 q2 oa od σ' u f τ μ g H1 → va_S A s.heap H1 locs1 → W p l e R s m args below meth c H1 locs1 cells slots Q (F0 m (pc + 3) ls (.int r :: rest))) : W p l e R s m args below meth c H locs cells slots Q (F0 m pc ls st0) := by
  obtain ⟨⟨p1, p2, p3, p4⟩, ⟨d1, d2, d3, d4⟩, s12, s13, s14, s23, s24, s34⟩ := hW
  obtain ⟨rm, S1, po, w1, hrm, hMC, himp⟩ := hM
  refine zfc_I Z (p2.app (p3.app p4)) (zSep_r s12 (zSep_r s13 s14)) d1 hS (zrunV (q0 := 0) (ci := 7) Z p1 d1 hS hls hMC hY hl rfl hc hn hst0 ⟨⟨by omega, by omega⟩, by omega, by omega⟩ hst hdg) (fun r u H1 locs1 hp hP1 hD1 hP2 hs1 hS1 => ?_)
  obtain ⟨u2, hp2, hw⟩ := himp r u hp
  rw [hw] at hP1 hD1 hs1
  refine W.widen (show cells + rm.cells ≤ cells by omega) (show slots + rm.slots ≤ slots by omega) ?_
  exact kk r u2 H1 locs1 hp2 ⟨⟨hP1, zP_l hP2, zP_l (zP_r hP2), zP_r (zP_r hP2)⟩, ⟨hD1, d2, d3, d4⟩, zSep_r1 hs1, zSep_r1 (zSep_r2 hs1), zSep_r2 (zSep_r2 hs1), s23, s24, s34⟩ hS1
theorem callM_I {y : MethodName} {b : ByteArray} {mL n idx : Nat} {r0 : Option FieldType} {As : List Value} {post : Int32 → KM → Prop} {T : u_T} {N : Nat}
    (Z : ZCtx p s m args meth c G cc nL own A) (hW : LW G A q1 q2 oa od σ κ f τ μ g H) (hS : va_S A s.heap H locs) (hls : ls.size = nL)
    (hM : CIv l G 0 0 y (wY y b mL r0) (wM G q2 τ μ) (.ref (q2 0) :: As) post (fun u => wM G q2 τ' u))
    (hY : zYv y b mL r0 n) (hl : Cond.methodLink own idx y ∈ wAll) (hc : vwCl[8]? = some (y.cls, T, N)) (hn : As.length = n) (hst0 : st0 = As.reverse ++ .ref (q2 0) :: rest) (hR : zRl R mL cells slots 0 0) (hst : (rest.map fun v => v.category).sum ≤ 8) (hdg : decode cc pc = .ok (.invokevirtual idx, 3))
    (kk : ∀ (r : Int32) (u : KM) (H1 : Heap) (locs1 : List Loc), post r u → LW G A q1 q2 oa od σ κ f τ' u g H1 → va_S A s.heap H1 locs1 → W p l e R s m args below meth c H1 locs1 cells slots Q (F0 m (pc + 3) ls (.int r :: rest))) : W p l e R s m args below meth c H locs cells slots Q (F0 m pc ls st0) := by
  obtain ⟨⟨p1, p2, p3, p4⟩, ⟨d1, d2, d3, d4⟩, s12, s13, s14, s23, s24, s34⟩ := hW
  obtain ⟨rm, S1, po, w1, hrm, hMC, himp⟩ := hM
  refine zfc_I Z (p1.app (p2.app p4)) (zSep_r s13.symm (zSep_r s23.symm s34)) d3 hS (zrunV (q0 := 0) (ci := 8) Z p3 d3 hS hls hMC hY hl rfl hc hn hst0 ⟨⟨by omega, by omega⟩, by omega, by omega⟩ hst hdg) (fun r u H1 locs1 hp hP1 hD1 hP2 hs1 hS1 => ?_)
  obtain ⟨u2, hp2, hw⟩ := himp r u hp
  rw [hw] at hP1 hD1 hs1
  refine W.widen (show cells + rm.cells ≤ cells by omega) (show slots + rm.slots ≤ slots by omega) ?_
  exact kk r u2 H1 locs1 hp2 ⟨⟨zP_l hP2, zP_l (zP_r hP2), hP1, zP_r (zP_r hP2)⟩, ⟨d1, d2, hD1, d4⟩, s12, (zSep_r1 hs1).symm, s14, (zSep_r1 (zSep_r2 hs1)).symm, s24, zSep_r2 (zSep_r2 hs1)⟩ hS1
theorem callM_L {y : MethodName} {b : ByteArray} {mL n idx : Nat} {r0 : Option FieldType} {As : List Value} {post : Int64 → KM → Prop} {T : u_T} {N : Nat}
    (Z : ZCtx p s m args meth c G cc nL own A) (hW : LW G A q1 q2 oa od σ κ f τ μ g H) (hS : va_S A s.heap H locs) (hls : ls.size = nL)
    (hM : CLv l G 0 0 y (wY y b mL r0) (wM G q2 τ μ) (.ref (q2 0) :: As) post (fun u => wM G q2 τ' u))
    (hY : zYv y b mL r0 n) (hl : Cond.methodLink own idx y ∈ wAll) (hc : vwCl[8]? = some (y.cls, T, N)) (hn : As.length = n) (hst0 : st0 = As.reverse ++ .ref (q2 0) :: rest) (hR : zRl R mL cells slots 0 0) (hst : (rest.map fun v => v.category).sum ≤ 8) (hdg : decode cc pc = .ok (.invokevirtual idx, 3))
    (kk : ∀ (r : Int64) (u : KM) (H1 : Heap) (locs1 : List Loc), post r u → LW G A q1 q2 oa od σ κ f τ' u g H1 → va_S A s.heap H1 locs1 → W p l e R s m args below meth c H1 locs1 cells slots Q (F0 m (pc + 3) ls (.long r :: rest))) : W p l e R s m args below meth c H locs cells slots Q (F0 m pc ls st0) := by
  obtain ⟨⟨p1, p2, p3, p4⟩, ⟨d1, d2, d3, d4⟩, s12, s13, s14, s23, s24, s34⟩ := hW
  obtain ⟨rm, S1, po, w1, hrm, hMC, himp⟩ := hM
  refine zfc_L Z (p1.app (p2.app p4)) (zSep_r s13.symm (zSep_r s23.symm s34)) d3 hS (zrunV (q0 := 0) (ci := 8) Z p3 d3 hS hls hMC hY hl rfl hc hn hst0 ⟨⟨by omega, by omega⟩, by omega, by omega⟩ hst hdg) (fun r u H1 locs1 hp hP1 hD1 hP2 hs1 hS1 => ?_)
  obtain ⟨u2, hp2, hw⟩ := himp r u hp
  rw [hw] at hP1 hD1 hs1
  refine W.widen (show cells + rm.cells ≤ cells by omega) (show slots + rm.slots ≤ slots by omega) ?_
  exact kk r u2 H1 locs1 hp2 ⟨⟨zP_l hP2, zP_l (zP_r hP2), hP1, zP_r (zP_r hP2)⟩, ⟨d1, d2, hD1, d4⟩, s12, (zSep_r1 hs1).symm, s14, (zSep_r1 (zSep_r2 hs1)).symm, s24, zSep_r2 (zSep_r2 hs1)⟩ hS1
theorem callM_F {y : MethodName} {b : ByteArray} {mL n idx : Nat} {r0 : Option FieldType} {As : List Value} {post : UInt32 → KM → Prop} {T : u_T} {N : Nat}
    (Z : ZCtx p s m args meth c G cc nL own A) (hW : LW G A q1 q2 oa od σ κ f τ μ g H) (hS : va_S A s.heap H locs) (hls : ls.size = nL)
    (hM : CFv l G 0 0 y (wY y b mL r0) (wM G q2 τ μ) (.ref (q2 0) :: As) post (fun u => wM G q2 τ' u))
    (hY : zYv y b mL r0 n) (hl : Cond.methodLink own idx y ∈ wAll) (hc : vwCl[8]? = some (y.cls, T, N)) (hn : As.length = n) (hst0 : st0 = As.reverse ++ .ref (q2 0) :: rest) (hR : zRl R mL cells slots 0 0) (hst : (rest.map fun v => v.category).sum ≤ 8) (hdg : decode cc pc = .ok (.invokevirtual idx, 3))
    (kk : ∀ (r : UInt32) (u : KM) (H1 : Heap) (locs1 : List Loc), post r u → LW G A q1 q2 oa od σ κ f τ' u g H1 → va_S A s.heap H1 locs1 → W p l e R s m args below meth c H1 locs1 cells slots Q (F0 m (pc + 3) ls (.float r :: rest))) : W p l e R s m args below meth c H locs cells slots Q (F0 m pc ls st0) := by
  obtain ⟨⟨p1, p2, p3, p4⟩, ⟨d1, d2, d3, d4⟩, s12, s13, s14, s23, s24, s34⟩ := hW
  obtain ⟨rm, S1, po, w1, hrm, hMC, himp⟩ := hM
  refine zfc_F Z (p1.app (p2.app p4)) (zSep_r s13.symm (zSep_r s23.symm s34)) d3 hS (zrunV (q0 := 0) (ci := 8) Z p3 d3 hS hls hMC hY hl rfl hc hn hst0 ⟨⟨by omega, by omega⟩, by omega, by omega⟩ hst hdg) (fun r u H1 locs1 hp hP1 hD1 hP2 hs1 hS1 => ?_)
  obtain ⟨u2, hp2, hw⟩ := himp r u hp
  rw [hw] at hP1 hD1 hs1
  refine W.widen (show cells + rm.cells ≤ cells by omega) (show slots + rm.slots ≤ slots by omega) ?_
  exact kk r u2 H1 locs1 hp2 ⟨⟨zP_l hP2, zP_l (zP_r hP2), hP1, zP_r (zP_r hP2)⟩, ⟨d1, d2, hD1, d4⟩, s12, (zSep_r1 hs1).symm, s14, (zSep_r1 (zSep_r2 hs1)).symm, s24, zSep_r2 (zSep_r2 hs1)⟩ hS1
theorem callM_D {y : MethodName} {b : ByteArray} {mL n idx : Nat} {r0 : Option FieldType} {As : List Value} {post : UInt64 → KM → Prop} {T : u_T} {N : Nat}
    (Z : ZCtx p s m args meth c G cc nL own A) (hW : LW G A q1 q2 oa od σ κ f τ μ g H) (hS : va_S A s.heap H locs) (hls : ls.size = nL)
    (hM : CDv l G 0 0 y (wY y b mL r0) (wM G q2 τ μ) (.ref (q2 0) :: As) post (fun u => wM G q2 τ' u))
    (hY : zYv y b mL r0 n) (hl : Cond.methodLink own idx y ∈ wAll) (hc : vwCl[8]? = some (y.cls, T, N)) (hn : As.length = n) (hst0 : st0 = As.reverse ++ .ref (q2 0) :: rest) (hR : zRl R mL cells slots 0 0) (hst : (rest.map fun v => v.category).sum ≤ 8) (hdg : decode cc pc = .ok (.invokevirtual idx, 3))
    (kk : ∀ (r : UInt64) (u : KM) (H1 : Heap) (locs1 : List Loc), post r u → LW G A q1 q2 oa od σ κ f τ' u g H1 → va_S A s.heap H1 locs1 → W p l e R s m args below meth c H1 locs1 cells slots Q (F0 m (pc + 3) ls (.double r :: rest))) : W p l e R s m args below meth c H locs cells slots Q (F0 m pc ls st0) := by
  obtain ⟨⟨p1, p2, p3, p4⟩, ⟨d1, d2, d3, d4⟩, s12, s13, s14, s23, s24, s34⟩ := hW
  obtain ⟨rm, S1, po, w1, hrm, hMC, himp⟩ := hM
  refine zfc_D Z (p1.app (p2.app p4)) (zSep_r s13.symm (zSep_r s23.symm s34)) d3 hS (zrunV (q0 := 0) (ci := 8) Z p3 d3 hS hls hMC hY hl rfl hc hn hst0 ⟨⟨by omega, by omega⟩, by omega, by omega⟩ hst hdg) (fun r u H1 locs1 hp hP1 hD1 hP2 hs1 hS1 => ?_)
  obtain ⟨u2, hp2, hw⟩ := himp r u hp
  rw [hw] at hP1 hD1 hs1
  refine W.widen (show cells + rm.cells ≤ cells by omega) (show slots + rm.slots ≤ slots by omega) ?_
  exact kk r u2 H1 locs1 hp2 ⟨⟨zP_l hP2, zP_l (zP_r hP2), hP1, zP_r (zP_r hP2)⟩, ⟨d1, d2, hD1, d4⟩, s12, (zSep_r1 hs1).symm, s14, (zSep_r1 (zSep_r2 hs1)).symm, s24, zSep_r2 (zSep_r2 hs1)⟩ hS1
end ZOne
theorem zW_addDevice : zYw yL_addDevice cL_addDevice 3 (some .int) 2 [(0, 8, 11, 15)] := ⟨wA 795 (by decide +kernel) (by decide +kernel), ki_L, ⟨by decide +kernel, by decide +kernel⟩, zY_n (by decide +kernel), wA 794 (by decide +kernel) (by decide +kernel)⟩
theorem zW_addRiver : zYw yL_addRiver cL_addRiver 5 (some .int) 4 [(0, 10, 13, 13), (0, 10, 17, 15)] := ⟨wA 692 (by decide +kernel) (by decide +kernel), ki_L, ⟨by decide +kernel, by decide +kernel⟩, zY_n (by decide +kernel), wA 691 (by decide +kernel) (by decide +kernel)⟩
theorem zW_addRule : zYw yL_addRule cL_addRule 10 (some .int) 7 [(0, 17, 20, 13), (0, 17, 24, 15)] := ⟨wA 638 (by decide +kernel) (by decide +kernel), ki_L, ⟨by decide +kernel, by decide +kernel⟩, zY_n (by decide +kernel), wA 637 (by decide +kernel) (by decide +kernel)⟩
theorem zW_addSource : zYw yL_addSource cL_addSource 3 (some .int) 2 [(0, 8, 11, 15)] := ⟨wA 440 (by decide +kernel) (by decide +kernel), ki_L, ⟨by decide +kernel, by decide +kernel⟩, zY_n (by decide +kernel), wA 439 (by decide +kernel) (by decide +kernel)⟩
theorem zW_dropRule : zYw yL_dropRule cL_dropRule 4 (some .int) 3 [(0, 9, 12, 35)] := ⟨wA 654 (by decide +kernel) (by decide +kernel), ki_L, ⟨by decide +kernel, by decide +kernel⟩, zY_n (by decide +kernel), wA 653 (by decide +kernel) (by decide +kernel)⟩
theorem zW_fetch : zYw yL_fetch cL_fetch 9 (some .int) 7 [(0, 16, 19, 35), (0, 16, 23, 13), (0, 16, 27, 15)] := ⟨wA 448 (by decide +kernel) (by decide +kernel), ki_L, ⟨by decide +kernel, by decide +kernel⟩, zY_n (by decide +kernel), wA 447 (by decide +kernel) (by decide +kernel)⟩
theorem zW_isHidden : zYw yL_isHidden cL_isHidden 4 (some .int) 3 [(0, 16, 19, 35)] := ⟨wA 677 (by decide +kernel) (by decide +kernel), ki_L, ⟨by decide +kernel, by decide +kernel⟩, zY_n (by decide +kernel), wA 676 (by decide +kernel) (by decide +kernel)⟩
theorem zW_isRead : zYw yL_isRead cL_isRead 4 (some .int) 3 [(0, 16, 19, 35)] := ⟨wA 883 (by decide +kernel) (by decide +kernel), ki_L, ⟨by decide +kernel, by decide +kernel⟩, zY_n (by decide +kernel), wA 882 (by decide +kernel) (by decide +kernel)⟩
theorem zW_isReadOn : zYw yL_isReadOn cL_isReadOn 5 (some .int) 4 [(0, 17, 20, 35), (0, 17, 24, 15)] := ⟨wA 890 (by decide +kernel) (by decide +kernel), ki_L, ⟨by decide +kernel, by decide +kernel⟩, zY_n (by decide +kernel), wA 889 (by decide +kernel) (by decide +kernel)⟩
theorem zW_knownVersions : zYw yL_knownVersions cL_knownVersions 5 (some .int) 4 [(0, 10, 13, 35)] := ⟨wA 897 (by decide +kernel) (by decide +kernel), ki_L, ⟨by decide +kernel, by decide +kernel⟩, zY_n (by decide +kernel), wA 896 (by decide +kernel) (by decide +kernel)⟩
theorem zW_latestMajor : zYw yL_latestMajor cL_latestMajor 4 (some .int) 3 [(0, 9, 12, 35)] := ⟨wA 609 (by decide +kernel) (by decide +kernel), ki_L, ⟨by decide +kernel, by decide +kernel⟩, zY_n (by decide +kernel), wA 608 (by decide +kernel) (by decide +kernel)⟩
theorem zW_likeness : zYw yL_likeness cL_likeness 7 (some .int) 4 [(0, 11, 14, 13)] := ⟨wA 423 (by decide +kernel) (by decide +kernel), ki_L, ⟨by decide +kernel, by decide +kernel⟩, zY_n (by decide +kernel), wA 422 (by decide +kernel) (by decide +kernel)⟩
theorem zW_mark : zYw yL_mark cL_mark 6 (some .int) 5 [(0, 19, 22, 35), (0, 19, 26, 15)] := ⟨wA 819 (by decide +kernel) (by decide +kernel), ki_L, ⟨by decide +kernel, by decide +kernel⟩, zY_n (by decide +kernel), wA 818 (by decide +kernel) (by decide +kernel)⟩
theorem zW_markRiver : zYw yL_markRiver cL_markRiver 5 (some .int) 4 [(0, 10, 13, 35)] := ⟨wA 865 (by decide +kernel) (by decide +kernel), ki_L, ⟨by decide +kernel, by decide +kernel⟩, zY_n (by decide +kernel), wA 864 (by decide +kernel) (by decide +kernel)⟩
theorem zW_matches : zYw yL_matches cL_matches 4 (some .int) 3 [(0, 9, 12, 35)] := ⟨wA 684 (by decide +kernel) (by decide +kernel), ki_L, ⟨by decide +kernel, by decide +kernel⟩, zY_n (by decide +kernel), wA 683 (by decide +kernel) (by decide +kernel)⟩
theorem zW_meanVersions : zYw yL_meanVersions cL_meanVersions 3 (some .int) 2 [(0, 7, 10, 104)] := ⟨wA 904 (by decide +kernel) (by decide +kernel), ki_L, ⟨by decide +kernel, by decide +kernel⟩, zY_n (by decide +kernel), wA 903 (by decide +kernel) (by decide +kernel)⟩
theorem zW_nextUnread : zYw yL_nextUnread cL_nextUnread 4 (some .int) 3 [(0, 9, 12, 35), (0, 9, 15, 41)] := ⟨wA 763 (by decide +kernel) (by decide +kernel), ki_L, ⟨by decide +kernel, by decide +kernel⟩, zY_n (by decide +kernel), wA 762 (by decide +kernel) (by decide +kernel)⟩
theorem zW_pass : zYw yL_pass cL_pass 4 (some .int) 3 [(0, 9, 12, 13), (0, 9, 15, 15)] := ⟨wA 310 (by decide +kernel) (by decide +kernel), ki_L, ⟨by decide +kernel, by decide +kernel⟩, zY_n (by decide +kernel), wA 309 (by decide +kernel) (by decide +kernel)⟩
theorem zW_rankOf : zYw yL_rankOf cL_rankOf 5 (some .int) 4 [(0, 10, 13, 35), (0, 10, 17, 41)] := ⟨wA 736 (by decide +kernel) (by decide +kernel), ki_L, ⟨by decide +kernel, by decide +kernel⟩, zY_n (by decide +kernel), wA 735 (by decide +kernel) (by decide +kernel)⟩
theorem zW_readShare : zYw yL_readShare cL_readShare 4 (some .int) 3 [(0, 9, 12, 35), (0, 9, 15, 104)] := ⟨wA 771 (by decide +kernel) (by decide +kernel), ki_L, ⟨by decide +kernel, by decide +kernel⟩, zY_n (by decide +kernel), wA 770 (by decide +kernel) (by decide +kernel)⟩
theorem zW_riverAt : zYw yL_riverAt cL_riverAt 5 (some .int) 4 [(0, 10, 13, 35), (0, 10, 17, 41)] := ⟨wA 717 (by decide +kernel) (by decide +kernel), ki_L, ⟨by decide +kernel, by decide +kernel⟩, zY_n (by decide +kernel), wA 716 (by decide +kernel) (by decide +kernel)⟩
theorem zW_riverAtAnew : zYw yL_riverAtAnew cL_riverAtAnew 5 (some .int) 4 [(0, 10, 13, 35), (0, 10, 17, 41)] := ⟨wA 729 (by decide +kernel) (by decide +kernel), ki_L, ⟨by decide +kernel, by decide +kernel⟩, zY_n (by decide +kernel), wA 728 (by decide +kernel) (by decide +kernel)⟩
theorem zW_riverSize : zYw yL_riverSize cL_riverSize 4 (some .int) 3 [(0, 9, 12, 35)] := ⟨wA 705 (by decide +kernel) (by decide +kernel), ki_L, ⟨by decide +kernel, by decide +kernel⟩, zY_n (by decide +kernel), wA 704 (by decide +kernel) (by decide +kernel)⟩
theorem zW_setThreshold : zYw yL_setThreshold cL_setThreshold 4 (some .int) 3 [(0, 9, 12, 13)] := ⟨wA 407 (by decide +kernel) (by decide +kernel), ki_L, ⟨by decide +kernel, by decide +kernel⟩, zY_n (by decide +kernel), wA 406 (by decide +kernel) (by decide +kernel)⟩
theorem zW_setWindow : zYw yL_setWindow cL_setWindow 4 (some .int) 3 [(0, 9, 12, 13)] := ⟨wA 415 (by decide +kernel) (by decide +kernel), ki_L, ⟨by decide +kernel, by decide +kernel⟩, zY_n (by decide +kernel), wA 414 (by decide +kernel) (by decide +kernel)⟩
theorem zW_sourcesOf : zYw yL_sourcesOf cL_sourcesOf 4 (some .int) 3 [(0, 9, 12, 35)] := ⟨wA 620 (by decide +kernel) (by decide +kernel), ki_L, ⟨by decide +kernel, by decide +kernel⟩, zY_n (by decide +kernel), wA 619 (by decide +kernel) (by decide +kernel)⟩
theorem zW_sync : zYw yL_sync cL_sync 4 (some .int) 3 [(0, 9, 12, 35)] := ⟨wA 872 (by decide +kernel) (by decide +kernel), ki_L, ⟨by decide +kernel, by decide +kernel⟩, zY_n (by decide +kernel), wA 871 (by decide +kernel) (by decide +kernel)⟩
theorem zW_tagsOf : zYw yL_tagsOf cL_tagsOf 4 (some .int) 3 [(0, 9, 12, 35)] := ⟨wA 670 (by decide +kernel) (by decide +kernel), ki_L, ⟨by decide +kernel, by decide +kernel⟩, zY_n (by decide +kernel), wA 669 (by decide +kernel) (by decide +kernel)⟩
theorem zW_timeOf : zYw yL_timeOf cL_timeOf 4 (some .int) 3 [(0, 9, 12, 35)] := ⟨wA 627 (by decide +kernel) (by decide +kernel), ki_L, ⟨by decide +kernel, by decide +kernel⟩, zY_n (by decide +kernel), wA 626 (by decide +kernel) (by decide +kernel)⟩
theorem zW_title : zYw yL_title cL_title 5 (some .int) 4 [(0, 9, 12, 35), (0, 9, 16, 41)] := ⟨wA 580 (by decide +kernel) (by decide +kernel), ki_L, ⟨by decide +kernel, by decide +kernel⟩, zY_n (by decide +kernel), wA 579 (by decide +kernel) (by decide +kernel)⟩
theorem zW_unread : zYw yL_unread cL_unread 4 (some .int) 3 [(0, 9, 12, 35)] := ⟨wA 744 (by decide +kernel) (by decide +kernel), ki_L, ⟨by decide +kernel, by decide +kernel⟩, zY_n (by decide +kernel), wA 743 (by decide +kernel) (by decide +kernel)⟩
theorem zW_versions : zYw yL_versions cL_versions 4 (some .int) 3 [(0, 9, 12, 35)] := ⟨wA 598 (by decide +kernel) (by decide +kernel), ki_L, ⟨by decide +kernel, by decide +kernel⟩, zY_n (by decide +kernel), wA 597 (by decide +kernel) (by decide +kernel)⟩
theorem zW_withIdentifier : zYw yL_withIdentifier cL_withIdentifier 5 (some .int) 4 [(0, 10, 13, 41)] := ⟨wA 548 (by decide +kernel) (by decide +kernel), ki_L, ⟨by decide +kernel, by decide +kernel⟩, zY_n (by decide +kernel), wA 547 (by decide +kernel) (by decide +kernel)⟩
theorem zW_withLink : zYw yL_withLink cL_withLink 4 (some .int) 3 [(0, 9, 12, 41)] := ⟨wA 572 (by decide +kernel) (by decide +kernel), ki_L, ⟨by decide +kernel, by decide +kernel⟩, zY_n (by decide +kernel), wA 571 (by decide +kernel) (by decide +kernel)⟩
