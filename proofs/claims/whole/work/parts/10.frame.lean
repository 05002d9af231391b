/-! contracts over one world, and calls -/
section ZFrame
abbrev ZG : Type := va_G × ClassId × ClassId × ClassId
abbrev zTy (G : ZG) : List (ClassId × FieldType) := [(G.2.1, .int), (G.2.2.1, .long), (G.2.2.2, .double)]
def PreW (G : ZG) (ws : va_W) (sz : Nat) (U : State) : Prop := U.heap.size = sz ∧ va_P G.1 vwCl ws U.heap ∧ va_K G.1 vwCl (zTy G) U ∧ va_D (fun _ => True) ws ∧ xE (va_A ws sz) U U.heap
def PostW (G : ZG) (ws : va_W) (A : Nat → Prop) (t : State) : Prop := va_P G.1 vwCl ws t.heap ∧ va_K G.1 vwCl (zTy G) t ∧ va_D A ws
theorem zz_blind {G : ZG} {ws : va_W} {sz : Nat} {As : List Value} : FrameBlind (va_Pc As (PreW G ws sz)) := fun a U g mk h => by
  obtain ⟨h1, h2, h3, h4, h5, h6⟩ := h
  exact ⟨h1, h2, h3, va_K.moved (u := U) (U := U.calling g mk a) (Vm.Alike.refl U.vm) h4, h5, h6.calling⟩
abbrev QI {S : Type} (G : ZG) (post : Int32 → S → Prop) (ws' : S → va_W) : (Nat → Prop) → Array Value → State → Outcome → State → Prop := fun A => va_Qi post (fun u t => PostW G (ws' u) A t) A
abbrev QL {S : Type} (G : ZG) (post : Int64 → S → Prop) (ws' : S → va_W) : (Nat → Prop) → Array Value → State → Outcome → State → Prop := fun A => va_Ql post (fun u t => PostW G (ws' u) A t) A
abbrev QF {S : Type} (G : ZG) (post : UInt32 → S → Prop) (ws' : S → va_W) : (Nat → Prop) → Array Value → State → Outcome → State → Prop := fun A => va_Qf post (fun u t => PostW G (ws' u) A t) A
abbrev QD {S : Type} (G : ZG) (post : UInt64 → S → Prop) (ws' : S → va_W) : (Nat → Prop) → Array Value → State → Outcome → State → Prop := fun A => va_Qd post (fun u t => PostW G (ws' u) A t) A
abbrev QV {S : Type} (G : ZG) (post : S → Prop) (ws' : S → va_W) : (Nat → Prop) → Array Value → State → Outcome → State → Prop := fun A => va_Qv post (fun u t => PostW G (ws' u) A t) A
abbrev QR {S : Type} (G : ZG) (post : S → Prop) (ad : Nat) (ws' : S → va_W) : (Nat → Prop) → Array Value → State → Outcome → State → Prop := fun A => va_Qr post (fun u a t => a = ad ∧ PostW G (ws' u) A t) A
/-- a contract: from any heap that holds the world ws -/
def MC (l : Launch) (G : ZG) (y : MethodName) (wd : List Cond) (rm : Room) (ws : va_W) (As : List Value) (Qf : (Nat → Prop) → Array Value → State → Outcome → State → Prop) : Prop :=
  ∀ sz, Met l y wd rm (va_Pc As (PreW G ws sz)) (Qf (va_A ws sz)) rm.cells rm.slots (va_A ws sz)
/-- a contract of a method that throws E -/
def MX (l : Launch) (G : ZG) (y : MethodName) (wd : List Cond) (rm : Room) (ws : va_W) (As : List Value) {S : Type} (E : String) (ws' : S → va_W) : Prop :=
  ∀ sz, vx_Met l y wd rm (va_Pc As (PreW G ws sz)) (va_Qv (fun (_ : Unit) => False) (fun _ _ => True) (va_A ws sz)) (vx_X (fun (_ : S) => True) (fun E' u t => E' = E ∧ PostW G (ws' u) (va_A ws sz) t) (va_A ws sz)) rm.cells rm.slots (va_A ws sz)
/-- what holds in a method's body from its entry on -/
def ZCtx (p : Program) (s : State) (m : MethodId) (args : Array Value) (meth : Method) (c : Code) (G : ZG) (cc : ByteArray) (nL : Nat) (own : String) (A : Nat → Prop) : Prop :=
  p.tables.exec = Jvm.exec ∧ c.code = cc ∧ c.maxLocals = nL ∧ s.vm.findClass own = some m.cls ∧ (∀ w ∈ wAll, w.before args s = true) ∧ (∀ q, s.heap.size ≤ q → A q) ∧ va_K G.1 vwCl (zTy G) s ∧ xE A s s.heap ∧ meth.locks = false
theorem MC.mk {l : Launch} {G : ZG} {y : MethodName} {rm : Room} {ws : va_W} {As : List Value} {Qf : (Nat → Prop) → Array Value → State → Outcome → State → Prop} {cc : ByteArray} {maxL : Nat} {ret : Option FieldType}
    (hy : plainName y.cls = true) (hn : (lg_sl As).length ≤ maxL)
    (body : ∀ (p : Program) (e : Env) (s : State) (m : MethodId) (av : Array Value) (below : List Frame) (meth : Method) (c : Code) (A : Nat → Prop) (H : Heap) (locs : List Loc) (ls : Array Slot) (Q : State → Prop), ZCtx p s m av meth c G cc maxL y.cls A → meth.sig.returnType = ret → meth.name = y.name →
      Q = MQ below (Qf A) av s rm.cells rm.slots A → va_P G.1 vwCl ws H → va_D A ws → va_S A s.heap H locs → lv_has ls maxL (lv_args 0 As) →
      W p l e rm s m av below meth c H locs 0 0 Q (F0 m 0 ls [])) : MC l G y (wY y cc maxL ret) rm ws As Qf := by
  intro sz
  refine Met.ofW (cc := cc) (maxL := maxL) (ret := ret) hy rfl ?_
  intro p e s m args below meth c s₁ B hml hv
  obtain ⟨rfl, hsz, hP, hK, hD0, hE⟩ := hv
  subst hsz
  have hts := atoms_spec (ws := wY y cc maxL ret) B.pre
  rw [lg_entry_eq]
  exact body p e s m As.toArray below meth c (va_A ws s.heap.size) s.heap [] _ _ ⟨B.exec, B.bytes, hml, findClass_of_methodNamed B.named, fun w h => hts w (List.mem_cons_of_mem _ h), fun q h => Or.inr h, hK, hE, B.notSynchronized⟩ B.returns (name_of_methodNamed B.named B.method).1 rfl hP hD0.self va_S.rf (lv_entry As hn)
theorem MX.mk {l : Launch} {G : ZG} {y : MethodName} {rm : Room} {ws : va_W} {As : List Value} {S : Type} {E : String} {ws' : S → va_W} {cc : ByteArray} {maxL : Nat} {ret : Option FieldType}
    (hy : plainName y.cls = true) (hn : (lg_sl As).length ≤ maxL)
    (body : ∀ (p : Program) (e : Env) (s : State) (m : MethodId) (av : Array Value) (below : List Frame) (meth : Method) (c : Code) (A : Nat → Prop) (H : Heap) (locs : List Loc) (ls : Array Slot) (Q : State → Prop), ZCtx p s m av meth c G cc maxL y.cls A → (∀ x ∈ c.exceptionTable.toList, False) →
      Q = vx_MQ below (va_Qv (fun (_ : Unit) => False) (fun _ _ => True) A) (vx_X (fun (_ : S) => True) (fun E' u t => E' = E ∧ PostW G (ws' u) A t) A) av s rm.cells rm.slots A → va_P G.1 vwCl ws H → va_D A ws → va_S A s.heap H locs → lv_has ls maxL (lv_args 0 As) →
      W p l e rm s m av below meth c H locs 0 0 Q (F0 m 0 ls [])) : MX l G y (wY y cc maxL ret) rm ws As E ws' := by
  intro sz
  refine vx_ofW (cc := cc) (maxL := maxL) (ret := ret) hy rfl ?_
  intro p e s m args below meth c s₁ B hml ht hv
  obtain ⟨rfl, hsz, hP, hK, hD0, hE⟩ := hv
  subst hsz
  have hts := atoms_spec (ws := wY y cc maxL ret) B.pre
  rw [lg_entry_eq]
  exact body p e s m As.toArray below meth c (va_A ws s.heap.size) s.heap [] _ _ ⟨B.exec, B.bytes, hml, findClass_of_methodNamed B.named, fun w h => hts w (List.mem_cons_of_mem _ h), fun q h => Or.inr h, hK, hE, B.notSynchronized⟩ ht rfl hP hD0.self va_S.rf (lv_entry As hn)
end ZFrame
section ZCalls
variable {p : Program} {l : Launch} {e : Env} {R : Room} {s : State} {m : MethodId} {args : Array Value} {below : List Frame} {meth : Method} {c : Code} {H : Heap} {locs : List Loc} {cells slots : Nat} {Q : State → Prop}
variable {cc : ByteArray} {pc nL : Nat} {ls : Array Slot} {rest st0 : List Value} {G : ZG} {own : String} {A : Nat → Prop} {ws : va_W}
theorem zz_free (hD : va_D A ws) (hS : va_S A s.heap H locs) (hA : ∀ q, s.heap.size ≤ q → A q) : ∀ q, va_A ws H.size q → A q := by
  rintro q (⟨k, e, h⟩ | h)
  · exact hD.2 k _ h
  · exact hA q (Nat.le_trans hS.1 h)
theorem zz_pre {As : List Value} (Z : ZCtx p s m args meth c G cc nL own A) (hP : va_P G.1 vwCl ws H) (hD : va_D A ws) (hS : va_S A s.heap H locs) : PreS s H (va_Pc As (PreW G ws H.size)) As := by
  obtain ⟨-, -, -, -, -, hA, hK, hE, -⟩ := Z
  refine ⟨zz_blind, fun U hU hW => ⟨rfl, by rw [hU], by rw [hU]; exact hP, va_K.moved hW.alike hK, hD.weaken (fun _ _ _ _ => trivial), ?_⟩⟩
  rw [hU]
  exact ((hE.warm hW).kept hS.2.1).narrow (zz_free hD hS hA)
theorem zz_fix (Z : ZCtx p s m args meth c G cc nL own A) : CallFix p m c cc nL s args wAll own := ⟨Z.1, Z.2.1, Z.2.2.1, Z.2.2.2.1, Z.2.2.2.2.1⟩
theorem zz_pay (hW : ∀ w ∈ wAll, w.before args s = true) {y : MethodName} {b : ByteArray} {mL n : Nat} {r : Option FieldType} (hY : zYb y b mL r n) : ∀ w ∈ wY y b mL r, ∀ (a' : Array Value) (U : State), s.WarmedH U.vm → w.before a' U = true := by
  intro w hw a' U hU
  have hm : w ∈ wAll := (List.mem_cons.mp hw).elim (fun e => by rw [e]; exact hY.1) id
  exact word_at hU (good_of_word (wA_good hm)) (hW w hm)
theorem zz_cb (hW : ∀ w ∈ wAll, w.before args s = true) {y : MethodName} {b : ByteArray} {mL n : Nat} {r : Option FieldType} (hY : zYb y b mL r n) {rm : Room} {idx : Nat} (hl : Cond.methodLink own idx y ∈ wAll) (hR : rm.frames + 1 ≤ R.frames ∧ 8 + (mL + 11) + rm.locals ≤ R.locals) :
    CallB R s args own idx y b mL r (wY y b mL r) rm rm.cells rm.slots n :=
  ⟨rfl, rfl, hR.1, hR.2, zz_pay hW hY, List.mem_cons_self, hW _ hY.1, hW _ hY.2.1, hY.2.2.1, hY.2.2.2, hW _ hl⟩
/-- the room of a call -/
abbrev zRm (rm R : Room) (mL cells slots : Nat) : Prop := (rm.frames + 1 ≤ R.frames ∧ 8 + (mL + 11) + rm.locals ≤ R.locals) ∧ cells + rm.cells ≤ R.cells ∧ slots + rm.slots ≤ R.slots
theorem zrunV {y : MethodName} {b : ByteArray} {mL n idx ci q0 a : Nat} {r : Option FieldType} {rm : Room} {As : List Value} {Qf : (Nat → Prop) → Array Value → State → Outcome → State → Prop} {T : u_T} {N : Nat} {fs : List Value}
    (Z : ZCtx p s m args meth c G cc nL own A) (hP : va_P G.1 vwCl ws H) (hD : va_D A ws) (hS : va_S A s.heap H locs) (hls : ls.size = nL)
    (hM : MC l G y (wY y b mL r) rm ws (.ref a :: As) Qf) (hY : zYv y b mL r n) (hl : Cond.methodLink own idx y ∈ wAll)
    (he : ws[q0]? = some (a, .inr (ci, fs))) (hc : vwCl[ci]? = some (y.cls, T, N)) (hn : As.length = n) (hst0 : st0 = As.reverse ++ .ref a :: rest) (hR : zRm rm R mL cells slots) (hst : (rest.map fun v => v.category).sum ≤ 8) (hdg : decode cc pc = .ok (.invokevirtual idx, 3)) :
    va_Run p l e R s m args below meth c H locs cells slots rm.cells rm.slots (F0 m pc ls st0) rest (Qf (va_A ws H.size) (Value.ref a :: As).toArray) (va_A ws H.size) := by
  have hpre := zz_pre (As := .ref a :: As) Z hP hD hS
  have hW := Z.2.2.2.2.1
  have hK := Z.2.2.2.2.2.2.1
  exact va_runV (zz_fix Z) (hM H.size) ⟨zz_cb hW hY.1 hl hR.1, hW _ hY.2.1, hW _ hY.2.2⟩ ⟨hpre.1, va_recv hK hP hc he, hpre.2⟩ rfl hn hls hst0 (lv_room hst) hdg hR.2
theorem zrunS {y : MethodName} {b : ByteArray} {mL n idx : Nat} {r : Option FieldType} {rm : Room} {As : List Value} {Qf : (Nat → Prop) → Array Value → State → Outcome → State → Prop}
    (Z : ZCtx p s m args meth c G cc nL own A) (hP : va_P G.1 vwCl ws H) (hD : va_D A ws) (hS : va_S A s.heap H locs) (hls : ls.size = nL)
    (hM : MC l G y (wY y b mL r) rm ws As Qf) (hY : zYs y b mL r n) (hl : Cond.methodLink own idx y ∈ wAll)
    (hn : As.length = n) (hst0 : st0 = As.reverse ++ rest) (hR : zRm rm R mL cells slots) (hst : (rest.map fun v => v.category).sum ≤ 8) (hdg : decode cc pc = .ok (.invokestatic idx, 3)) :
    va_Run p l e R s m args below meth c H locs cells slots rm.cells rm.slots (F0 m pc ls st0) rest (Qf (va_A ws H.size) As.toArray) (va_A ws H.size) := by
  have hpre := zz_pre (As := As) Z hP hD hS
  have hW := Z.2.2.2.2.1
  exact va_runS (zz_fix Z) (hM H.size) ⟨zz_cb hW hY.1 hl hR.1, hW _ hY.2⟩ hpre rfl hn hls hst0 (lv_room hst) hdg hR.2
theorem zz_cn (hW : ∀ w ∈ wAll, w.before args s = true) {y : MethodName} {b : ByteArray} {mL n : Nat} {r : Option FieldType} (hY : zYb y b mL r n) {rm : Room} {idx : Nat} {host : String} (hl : va_Nw (.methodLinkNest own idx y host) s) (hR : rm.frames + 1 ≤ R.frames ∧ 8 + (mL + 11) + rm.locals ≤ R.locals) :
    va_CN R s args own idx y host b mL r (wY y b mL r) rm rm.cells rm.slots n :=
  ⟨⟨rfl, rfl, hR.1, hR.2, zz_pay hW hY, List.mem_cons_self⟩, hW _ hY.1, hW _ hY.2.1, hY.2.2.1, hY.2.2.2, va_Nw.use rfl hl⟩
theorem zrunSN {y : MethodName} {b : ByteArray} {mL n idx : Nat} {r : Option FieldType} {rm : Room} {As : List Value} {Qf : (Nat → Prop) → Array Value → State → Outcome → State → Prop} {host : String}
    (Z : ZCtx p s m args meth c G cc nL own A) (hP : va_P G.1 vwCl ws H) (hD : va_D A ws) (hS : va_S A s.heap H locs) (hls : ls.size = nL)
    (hM : MC l G y (wY y b mL r) rm ws As Qf) (hY : zYs y b mL r n) (hl : (own, idx, y, host) ∈ xNest)
    (hn : As.length = n) (hst0 : st0 = As.reverse ++ rest) (hR : zRm rm R mL cells slots) (hst : (rest.map fun v => v.category).sum ≤ 8) (hdg : decode cc pc = .ok (.invokestatic idx, 3)) :
    va_Run p l e R s m args below meth c H locs cells slots rm.cells rm.slots (F0 m pc ls st0) rest (Qf (va_A ws H.size) As.toArray) (va_A ws H.size) := by
  have hpre := zz_pre (As := As) Z hP hD hS
  have hW := Z.2.2.2.2.1
  exact va_runSN (host := host) (zz_fix Z) (hM H.size) ⟨zz_cn hW hY.1 (Z.2.2.2.2.2.2.2.1.1 _ hl) hR.1, hW _ hY.2, trivial⟩ hpre rfl hn hls hst0 (lv_room hst) hdg hR.2
theorem zrunI {y : MethodName} {b : ByteArray} {mL n idx a : Nat} {rm : Room} {As : List Value} {Qf : (Nat → Prop) → Array Value → State → Outcome → State → Prop}
    (Z : ZCtx p s m args meth c G cc nL own A) (hP : va_P G.1 vwCl ws H) (hD : va_D A ws) (hS : va_S A s.heap H locs) (hls : ls.size = nL)
    (hM : MC l G y (wY y b mL none) rm ws (.ref a :: As) Qf) (hY : zYi y b mL n) (hl : Cond.methodLink own idx y ∈ wAll)
    (hn : As.length = n) (hst0 : st0 = As.reverse ++ .ref a :: rest) (hR : zRm rm R mL cells slots) (hst : (rest.map fun v => v.category).sum ≤ 8) (hdg : decode cc pc = .ok (.invokespecial idx, 3)) :
    va_Run p l e R s m args below meth c H locs cells slots rm.cells rm.slots (F0 m pc ls st0) rest (Qf (va_A ws H.size) (Value.ref a :: As).toArray) (va_A ws H.size) := by
  have hpre := zz_pre (As := .ref a :: As) Z hP hD hS
  have hW := Z.2.2.2.2.1
  exact va_runI (zz_fix Z) (hM H.size) ⟨zz_cb hW hY.1 hl hR.1, hY.2.1, hW _ hY.2.2⟩ hpre rfl hn hls hst0 (lv_room hst) hdg hR.2
theorem zrunIN {y : MethodName} {b : ByteArray} {mL n idx a : Nat} {rm : Room} {As : List Value} {Qf : (Nat → Prop) → Array Value → State → Outcome → State → Prop} {host : String}
    (Z : ZCtx p s m args meth c G cc nL own A) (hP : va_P G.1 vwCl ws H) (hD : va_D A ws) (hS : va_S A s.heap H locs) (hls : ls.size = nL)
    (hM : MC l G y (wY y b mL none) rm ws (.ref a :: As) Qf) (hY : zYi y b mL n) (hl : (own, idx, y, host) ∈ xNest)
    (hn : As.length = n) (hst0 : st0 = As.reverse ++ .ref a :: rest) (hR : zRm rm R mL cells slots) (hst : (rest.map fun v => v.category).sum ≤ 8) (hdg : decode cc pc = .ok (.invokespecial idx, 3)) :
    va_Run p l e R s m args below meth c H locs cells slots rm.cells rm.slots (F0 m pc ls st0) rest (Qf (va_A ws H.size) (Value.ref a :: As).toArray) (va_A ws H.size) := by
  have hpre := zz_pre (As := .ref a :: As) Z hP hD hS
  have hW := Z.2.2.2.2.1
  exact va_runIN (host := host) (zz_fix Z) (hM H.size) ⟨zz_cn hW hY.1 (Z.2.2.2.2.2.2.2.1.1 _ hl) hR.1, hY.2.1, hW _ hY.2.2⟩ hpre rfl hn hls hst0 (lv_room hst) hdg hR.2
variable {mc ms : Nat} {av : Array Value} {S : Type}
theorem zfin_I {post : Int32 → S → Prop} {ws' : S → va_W} (hm : mc = 0 ∧ ms = 0) (Z : ZCtx p s m args meth c G cc nL own A) (hD : va_D A ws) (hS : va_S A s.heap H locs)
    (hr : va_Run p l e R s m args below meth c H locs cells slots mc ms (F0 m pc ls st0) rest (QI G post ws' (va_A ws H.size) av) (va_A ws H.size))
    (kk : ∀ (r : Int32) (u : S) (H1 : Heap) (locs1 : List Loc), post r u → va_P G.1 vwCl (ws' u) H1 → va_D A (ws' u) → va_S A s.heap H1 locs1 → W p l e R s m args below meth c H1 locs1 cells slots Q (F0 m (pc + 3) ls (.int r :: rest))) : W p l e R s m args below meth c H locs cells slots Q (F0 m pc ls st0) := by
  have hf := zz_free hD hS Z.2.2.2.2.2.1
  obtain ⟨rfl, rfl⟩ := hm
  refine va_calli hr hS (fun q _ h => hf q h) hf (fun r u t H1 locs1 ht _ hp hB _ _ hS1 => ?_)
  obtain ⟨hP1, -, hD1⟩ := hB
  rw [ht] at hP1
  exact kk r u H1 locs1 hp hP1 (hD1.weaken (fun _ q _ h => hf q.1 h)) hS1
theorem zdet_I {x : Int32} {w1 : va_W} (hm : mc = 0 ∧ ms = 0) (Z : ZCtx p s m args meth c G cc nL own A) (hD : va_D A ws) (hS : va_S A s.heap H locs)
    (hr : va_Run p l e R s m args below meth c H locs cells slots mc ms (F0 m pc ls st0) rest (QI G (fun r (_ : Unit) => r = x) (fun _ => w1) (va_A ws H.size) av) (va_A ws H.size))
    (kk : ∀ (H1 : Heap) (locs1 : List Loc), va_P G.1 vwCl w1 H1 → va_D A w1 → va_S A s.heap H1 locs1 → W p l e R s m args below meth c H1 locs1 cells slots Q (F0 m (pc + 3) ls (.int x :: rest))) : W p l e R s m args below meth c H locs cells slots Q (F0 m pc ls st0) :=
  zfin_I hm Z hD hS hr (fun r _ H1 locs1 hp hP1 hD1 hS1 => by subst hp; exact kk H1 locs1 hP1 hD1 hS1)
theorem zfin_L {post : Int64 → S → Prop} {ws' : S → va_W} (hm : mc = 0 ∧ ms = 0) (Z : ZCtx p s m args meth c G cc nL own A) (hD : va_D A ws) (hS : va_S A s.heap H locs)
    (hr : va_Run p l e R s m args below meth c H locs cells slots mc ms (F0 m pc ls st0) rest (QL G post ws' (va_A ws H.size) av) (va_A ws H.size))
    (kk : ∀ (r : Int64) (u : S) (H1 : Heap) (locs1 : List Loc), post r u → va_P G.1 vwCl (ws' u) H1 → va_D A (ws' u) → va_S A s.heap H1 locs1 → W p l e R s m args below meth c H1 locs1 cells slots Q (F0 m (pc + 3) ls (.long r :: rest))) : W p l e R s m args below meth c H locs cells slots Q (F0 m pc ls st0) := by
  have hf := zz_free hD hS Z.2.2.2.2.2.1
  obtain ⟨rfl, rfl⟩ := hm
  refine va_calll hr hS (fun q _ h => hf q h) hf (fun r u t H1 locs1 ht _ hp hB _ _ hS1 => ?_)
  obtain ⟨hP1, -, hD1⟩ := hB
  rw [ht] at hP1
  exact kk r u H1 locs1 hp hP1 (hD1.weaken (fun _ q _ h => hf q.1 h)) hS1
theorem zdet_L {x : Int64} {w1 : va_W} (hm : mc = 0 ∧ ms = 0) (Z : ZCtx p s m args meth c G cc nL own A) (hD : va_D A ws) (hS : va_S A s.heap H locs)
    (hr : va_Run p l e R s m args below meth c H locs cells slots mc ms (F0 m pc ls st0) rest (QL G (fun r (_ : Unit) => r = x) (fun _ => w1) (va_A ws H.size) av) (va_A ws H.size))
    (kk : ∀ (H1 : Heap) (locs1 : List Loc), va_P G.1 vwCl w1 H1 → va_D A w1 → va_S A s.heap H1 locs1 → W p l e R s m args below meth c H1 locs1 cells slots Q (F0 m (pc + 3) ls (.long x :: rest))) : W p l e R s m args below meth c H locs cells slots Q (F0 m pc ls st0) :=
  zfin_L hm Z hD hS hr (fun r _ H1 locs1 hp hP1 hD1 hS1 => by subst hp; exact kk H1 locs1 hP1 hD1 hS1)
theorem zfin_F {post : UInt32 → S → Prop} {ws' : S → va_W} (hm : mc = 0 ∧ ms = 0) (Z : ZCtx p s m args meth c G cc nL own A) (hD : va_D A ws) (hS : va_S A s.heap H locs)
    (hr : va_Run p l e R s m args below meth c H locs cells slots mc ms (F0 m pc ls st0) rest (QF G post ws' (va_A ws H.size) av) (va_A ws H.size))
    (kk : ∀ (r : UInt32) (u : S) (H1 : Heap) (locs1 : List Loc), post r u → va_P G.1 vwCl (ws' u) H1 → va_D A (ws' u) → va_S A s.heap H1 locs1 → W p l e R s m args below meth c H1 locs1 cells slots Q (F0 m (pc + 3) ls (.float r :: rest))) : W p l e R s m args below meth c H locs cells slots Q (F0 m pc ls st0) := by
  have hf := zz_free hD hS Z.2.2.2.2.2.1
  obtain ⟨rfl, rfl⟩ := hm
  refine va_callf hr hS (fun q _ h => hf q h) hf (fun r u t H1 locs1 ht _ hp hB _ _ hS1 => ?_)
  obtain ⟨hP1, -, hD1⟩ := hB
  rw [ht] at hP1
  exact kk r u H1 locs1 hp hP1 (hD1.weaken (fun _ q _ h => hf q.1 h)) hS1
theorem zdet_F {x : UInt32} {w1 : va_W} (hm : mc = 0 ∧ ms = 0) (Z : ZCtx p s m args meth c G cc nL own A) (hD : va_D A ws) (hS : va_S A s.heap H locs)
    (hr : va_Run p l e R s m args below meth c H locs cells slots mc ms (F0 m pc ls st0) rest (QF G (fun r (_ : Unit) => r = x) (fun _ => w1) (va_A ws H.size) av) (va_A ws H.size))
    (kk : ∀ (H1 : Heap) (locs1 : List Loc), va_P G.1 vwCl w1 H1 → va_D A w1 → va_S A s.heap H1 locs1 → W p l e R s m args below meth c H1 locs1 cells slots Q (F0 m (pc + 3) ls (.float x :: rest))) : W p l e R s m args below meth c H locs cells slots Q (F0 m pc ls st0) :=
  zfin_F hm Z hD hS hr (fun r _ H1 locs1 hp hP1 hD1 hS1 => by subst hp; exact kk H1 locs1 hP1 hD1 hS1)
theorem zfin_D {post : UInt64 → S → Prop} {ws' : S → va_W} (hm : mc = 0 ∧ ms = 0) (Z : ZCtx p s m args meth c G cc nL own A) (hD : va_D A ws) (hS : va_S A s.heap H locs)
    (hr : va_Run p l e R s m args below meth c H locs cells slots mc ms (F0 m pc ls st0) rest (QD G post ws' (va_A ws H.size) av) (va_A ws H.size))
    (kk : ∀ (r : UInt64) (u : S) (H1 : Heap) (locs1 : List Loc), post r u → va_P G.1 vwCl (ws' u) H1 → va_D A (ws' u) → va_S A s.heap H1 locs1 → W p l e R s m args below meth c H1 locs1 cells slots Q (F0 m (pc + 3) ls (.double r :: rest))) : W p l e R s m args below meth c H locs cells slots Q (F0 m pc ls st0) := by
  have hf := zz_free hD hS Z.2.2.2.2.2.1
  obtain ⟨rfl, rfl⟩ := hm
  refine va_calld hr hS (fun q _ h => hf q h) hf (fun r u t H1 locs1 ht _ hp hB _ _ hS1 => ?_)
  obtain ⟨hP1, -, hD1⟩ := hB
  rw [ht] at hP1
  exact kk r u H1 locs1 hp hP1 (hD1.weaken (fun _ q _ h => hf q.1 h)) hS1
theorem zdet_D {x : UInt64} {w1 : va_W} (hm : mc = 0 ∧ ms = 0) (Z : ZCtx p s m args meth c G cc nL own A) (hD : va_D A ws) (hS : va_S A s.heap H locs)
    (hr : va_Run p l e R s m args below meth c H locs cells slots mc ms (F0 m pc ls st0) rest (QD G (fun r (_ : Unit) => r = x) (fun _ => w1) (va_A ws H.size) av) (va_A ws H.size))
    (kk : ∀ (H1 : Heap) (locs1 : List Loc), va_P G.1 vwCl w1 H1 → va_D A w1 → va_S A s.heap H1 locs1 → W p l e R s m args below meth c H1 locs1 cells slots Q (F0 m (pc + 3) ls (.double x :: rest))) : W p l e R s m args below meth c H locs cells slots Q (F0 m pc ls st0) :=
  zfin_D hm Z hD hS hr (fun r _ H1 locs1 hp hP1 hD1 hS1 => by subst hp; exact kk H1 locs1 hP1 hD1 hS1)
theorem zfin_V {post : S → Prop} {ws' : S → va_W} (hm : mc = 0 ∧ ms = 0) (Z : ZCtx p s m args meth c G cc nL own A) (hD : va_D A ws) (hS : va_S A s.heap H locs)
    (hr : va_Run p l e R s m args below meth c H locs cells slots mc ms (F0 m pc ls st0) rest (QV G post ws' (va_A ws H.size) av) (va_A ws H.size))
    (kk : ∀ (u : S) (H1 : Heap) (locs1 : List Loc), post u → va_P G.1 vwCl (ws' u) H1 → va_D A (ws' u) → va_S A s.heap H1 locs1 → W p l e R s m args below meth c H1 locs1 cells slots Q (F0 m (pc + 3) ls rest)) : W p l e R s m args below meth c H locs cells slots Q (F0 m pc ls st0) := by
  have hf := zz_free hD hS Z.2.2.2.2.2.1
  obtain ⟨rfl, rfl⟩ := hm
  refine va_callv hr hS (fun q _ h => hf q h) hf (fun u t H1 locs1 ht _ hp hB _ _ hS1 => ?_)
  obtain ⟨hP1, -, hD1⟩ := hB
  rw [ht] at hP1
  exact kk u H1 locs1 hp hP1 (hD1.weaken (fun _ q _ h => hf q.1 h)) hS1
theorem zdet_V {w1 : va_W} (hm : mc = 0 ∧ ms = 0) (Z : ZCtx p s m args meth c G cc nL own A) (hD : va_D A ws) (hS : va_S A s.heap H locs)
    (hr : va_Run p l e R s m args below meth c H locs cells slots mc ms (F0 m pc ls st0) rest (QV G (fun (_ : Unit) => True) (fun _ => w1) (va_A ws H.size) av) (va_A ws H.size))
    (kk : ∀ (H1 : Heap) (locs1 : List Loc), va_P G.1 vwCl w1 H1 → va_D A w1 → va_S A s.heap H1 locs1 → W p l e R s m args below meth c H1 locs1 cells slots Q (F0 m (pc + 3) ls rest)) : W p l e R s m args below meth c H locs cells slots Q (F0 m pc ls st0) :=
  zfin_V hm Z hD hS hr (fun _ H1 locs1 _ hP1 hD1 hS1 => kk H1 locs1 hP1 hD1 hS1)
theorem zfin_R {post : S → Prop} {ad : Nat} {ws' : S → va_W} (hm : mc = 0 ∧ ms = 0) (Z : ZCtx p s m args meth c G cc nL own A) (hD : va_D A ws) (hS : va_S A s.heap H locs)
    (hr : va_Run p l e R s m args below meth c H locs cells slots mc ms (F0 m pc ls st0) rest (QR G post ad ws' (va_A ws H.size) av) (va_A ws H.size))
    (kk : ∀ (u : S) (H1 : Heap) (locs1 : List Loc), post u → va_P G.1 vwCl (ws' u) H1 → va_D A (ws' u) → va_S A s.heap H1 locs1 → W p l e R s m args below meth c H1 locs1 cells slots Q (F0 m (pc + 3) ls (.ref ad :: rest))) : W p l e R s m args below meth c H locs cells slots Q (F0 m pc ls st0) := by
  have hf := zz_free hD hS Z.2.2.2.2.2.1
  obtain ⟨rfl, rfl⟩ := hm
  refine va_callr hr hS (fun q _ h => hf q h) hf (fun u ra t H1 locs1 ht _ hp hB _ _ hS1 => ?_)
  obtain ⟨rfl, hP1, -, hD1⟩ := hB
  rw [ht] at hP1
  exact kk u H1 locs1 hp hP1 (hD1.weaken (fun _ q _ h => hf q.1 h)) hS1
theorem zret_L {v : Int64} {post : Int64 → S → Prop} {ws' : S → va_W} (u : S) (Z : ZCtx p s m args meth c G cc nL own A) (hr : meth.sig.returnType = some .long) (hP : va_P G.1 vwCl ws H) (hD : va_D A ws) (hS : va_S A s.heap H locs) (hp : post v u) (hw : ws = ws' u) (hc : cells ≤ R.cells ∧ slots ≤ R.slots) (hQ : Q = MQ below (QL G post ws' A) args s R.cells R.slots A) (hdg : decode cc pc = .ok (.lreturn, 1)) :
    W p l e R s m args below meth c H locs cells slots Q (F0 m pc ls [.long v]) := by
  have hlocks := Z.2.2.2.2.2.2.2.2
  subst hw
  subst hQ
  exact W.widen hc.1 hc.2 (W.lret Z.1 Z.2.1 hr (fun t ht hW => ⟨⟨v, u, rfl, hp, by rw [ht]; exact hP, va_K.moved hW.alike Z.2.2.2.2.2.2.1, hD⟩, hS.F ht⟩) hS.2.2 hdg hlocks)
theorem zret_F {v : UInt32} {post : UInt32 → S → Prop} {ws' : S → va_W} (u : S) (Z : ZCtx p s m args meth c G cc nL own A) (hr : meth.sig.returnType = some .float) (hP : va_P G.1 vwCl ws H) (hD : va_D A ws) (hS : va_S A s.heap H locs) (hp : post v u) (hw : ws = ws' u) (hc : cells ≤ R.cells ∧ slots ≤ R.slots) (hQ : Q = MQ below (QF G post ws' A) args s R.cells R.slots A) (hdg : decode cc pc = .ok (.freturn, 1)) :
    W p l e R s m args below meth c H locs cells slots Q (F0 m pc ls [.float v]) := by
  have hlocks := Z.2.2.2.2.2.2.2.2
  subst hw
  subst hQ
  exact W.widen hc.1 hc.2 (W.fret Z.1 Z.2.1 hr (fun t ht hW => ⟨⟨v, u, rfl, hp, by rw [ht]; exact hP, va_K.moved hW.alike Z.2.2.2.2.2.2.1, hD⟩, hS.F ht⟩) hS.2.2 hdg hlocks)
theorem zret_D {v : UInt64} {post : UInt64 → S → Prop} {ws' : S → va_W} (u : S) (Z : ZCtx p s m args meth c G cc nL own A) (hr : meth.sig.returnType = some .double) (hP : va_P G.1 vwCl ws H) (hD : va_D A ws) (hS : va_S A s.heap H locs) (hp : post v u) (hw : ws = ws' u) (hc : cells ≤ R.cells ∧ slots ≤ R.slots) (hQ : Q = MQ below (QD G post ws' A) args s R.cells R.slots A) (hdg : decode cc pc = .ok (.dreturn, 1)) :
    W p l e R s m args below meth c H locs cells slots Q (F0 m pc ls [.double v]) := by
  have hlocks := Z.2.2.2.2.2.2.2.2
  subst hw
  subst hQ
  exact W.widen hc.1 hc.2 (W.dret Z.1 Z.2.1 hr (fun t ht hW => ⟨⟨v, u, rfl, hp, by rw [ht]; exact hP, va_K.moved hW.alike Z.2.2.2.2.2.2.1, hD⟩, hS.F ht⟩) hS.2.2 hdg hlocks)
theorem zret_I {v : Int32} {post : Int32 → S → Prop} {ws' : S → va_W} (u : S) (Z : ZCtx p s m args meth c G cc nL own A) (hr : meth.sig.returnType = some .int) (hP : va_P G.1 vwCl ws H) (hD : va_D A ws) (hS : va_S A s.heap H locs) (hp : post v u) (hw : ws = ws' u) (hc : cells ≤ R.cells ∧ slots ≤ R.slots) (hQ : Q = MQ below (QI G post ws' A) args s R.cells R.slots A) (hdg : decode cc pc = .ok (.ireturn, 1)) :
    W p l e R s m args below meth c H locs cells slots Q (F0 m pc ls [.int v]) := by
  have hlocks := Z.2.2.2.2.2.2.2.2
  subst hw
  subst hQ
  exact W.widen hc.1 hc.2 (W.iret Z.1 Z.2.1 hr (fun t ht hW => ⟨⟨v, u, rfl, hp, by rw [ht]; exact hP, va_K.moved hW.alike Z.2.2.2.2.2.2.1, hD⟩, hS.F ht⟩) hS.2.2 hdg hlocks)
theorem zret_B {v : Int32} {post : Int32 → S → Prop} {ws' : S → va_W} (u : S) (Z : ZCtx p s m args meth c G cc nL own A) (hr : meth.sig.returnType = some .boolean) (hv : narrow .boolean (.int v) = .int v) (hP : va_P G.1 vwCl ws H) (hD : va_D A ws) (hS : va_S A s.heap H locs) (hp : post v u) (hw : ws = ws' u) (hc : cells ≤ R.cells ∧ slots ≤ R.slots) (hQ : Q = MQ below (QI G post ws' A) args s R.cells R.slots A) (hdg : decode cc pc = .ok (.ireturn, 1)) :
    W p l e R s m args below meth c H locs cells slots Q (F0 m pc ls [.int v]) := by
  have hlocks := Z.2.2.2.2.2.2.2.2
  subst hw
  subst hQ
  exact W.widen hc.1 hc.2 (W.zret Z.1 Z.2.1 hr hv (fun t ht hW => ⟨⟨v, u, rfl, hp, by rw [ht]; exact hP, va_K.moved hW.alike Z.2.2.2.2.2.2.1, hD⟩, hS.F ht⟩) hS.2.2 hdg hlocks)
theorem zret_V {post : S → Prop} {ws' : S → va_W} (u : S) (Z : ZCtx p s m args meth c G cc nL own A) (hr : meth.sig.returnType = none) (hP : va_P G.1 vwCl ws H) (hD : va_D A ws) (hS : va_S A s.heap H locs) (hp : post u) (hw : ws = ws' u) (hc : cells ≤ R.cells ∧ slots ≤ R.slots) (hQ : Q = MQ below (QV G post ws' A) args s R.cells R.slots A) (hdg : decode cc pc = .ok (.return_, 1)) :
    W p l e R s m args below meth c H locs cells slots Q (F0 m pc ls []) := by
  have hlocks := Z.2.2.2.2.2.2.2.2
  subst hw
  subst hQ
  exact W.widen hc.1 hc.2 (W.vret Z.1 Z.2.1 hr (fun t ht hW => ⟨⟨u, rfl, hp, by rw [ht]; exact hP, va_K.moved hW.alike Z.2.2.2.2.2.2.1, hD⟩, hS.F ht⟩) hS.2.2 hdg hlocks)
theorem zret_R {ad : Nat} {post : S → Prop} {ws' : S → va_W} {rt : FieldType} (u : S) (Z : ZCtx p s m args meth c G cc nL own A) (hr : meth.sig.returnType = some (.array rt)) (hP : va_P G.1 vwCl ws H) (hD : va_D A ws) (hS : va_S A s.heap H locs) (hp : post u) (hw : ws = ws' u) (hc : cells ≤ R.cells ∧ slots ≤ R.slots) (hQ : Q = MQ below (QR G post ad ws' A) args s R.cells R.slots A) (hdg : decode cc pc = .ok (.areturn, 1)) :
    W p l e R s m args below meth c H locs cells slots Q (F0 m pc ls [.ref ad]) := by
  have hlocks := Z.2.2.2.2.2.2.2.2
  subst hw
  subst hQ
  exact W.widen hc.1 hc.2 (W.aret Z.1 Z.2.1 hr (Or.inr ⟨_, rfl⟩) (Or.inr ⟨_, rfl⟩) (fun t ht hW => ⟨⟨u, ad, rfl, hp, rfl, by rw [ht]; exact hP, va_K.moved hW.alike Z.2.2.2.2.2.2.1, hD⟩, hS.F ht⟩) hS.2.2 hdg hlocks)
theorem zfa_V {post : S → Prop} {ws' : S → va_W} (Z : ZCtx p s m args meth c G cc nL own A) (hD : va_D A ws) (hS : va_S A s.heap H locs)
    (hr : va_Run p l e R s m args below meth c H locs cells slots mc ms (F0 m pc ls st0) rest (QV G post ws' (va_A ws H.size) av) (va_A ws H.size))
    (kk : ∀ (u : S) (H1 : Heap) (locs1 : List Loc), post u → va_P G.1 vwCl (ws' u) H1 → va_D A (ws' u) → va_S A s.heap H1 locs1 → W p l e R s m args below meth c H1 locs1 (cells + mc) (slots + ms) Q (F0 m (pc + 3) ls rest)) : W p l e R s m args below meth c H locs cells slots Q (F0 m pc ls st0) := by
  have hf := zz_free hD hS Z.2.2.2.2.2.1
  refine va_callv hr hS (fun q _ h => hf q h) hf (fun u t H1 locs1 ht _ hp hB _ _ hS1 => ?_)
  obtain ⟨hP1, -, hD1⟩ := hB
  rw [ht] at hP1
  exact kk u H1 locs1 hp hP1 (hD1.weaken (fun _ q _ h => hf q.1 h)) hS1
end ZCalls
