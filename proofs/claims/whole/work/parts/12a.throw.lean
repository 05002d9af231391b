/-! 'throw new E("text")' where E's constructor links its super constructor by any index (the kit's own row asks for 7; java/util/NoSuchElementException of this build has 13). The two theorems zn_ctor, zn_throwS follow the proofs of the library's ctorThrowS and of the kit's vx_throwS, with the first pass of the chain taken by its own index. -/
section ZThrow
variable {p : Program} {l : Launch} {e : Env} {R : Room} {s : State} {m : MethodId} {args : Array Value} {below : List Frame} {meth : Method} {c : Code}
def zn_atoms (own : String) (ic : Nat) (X : String) (ni : Nat) (nb : ByteArray) : List Cond :=
  Bundle.throwableAtoms ++ Bundle.throwableSAtoms ++ (Bundle.passSAtoms X "java/lang/RuntimeException" ni nb ++ Bundle.chainSAtoms "java/lang/RuntimeException" ["java/lang/Exception"]) ++
  [.methodLink own ic (Bundle.initS X), .instantiable X 6, .castable X X, .selects X Bundle.tFill0 Bundle.tFill0, .selects X Bundle.tFill Bundle.tFill,
   .lays X Bundle.tN "cause" "Ljava/lang/Throwable;", .lays X Bundle.tN "stackTrace" Bundle.steD, .lays X Bundle.tN "suppressedExceptions" Bundle.listD, .lays X Bundle.tN "detailMessage" "Ljava/lang/String;",
   .isRef (.static Bundle.tN "UNASSIGNED_STACK" Bundle.steD), .isRef (.static Bundle.tN "SUPPRESSED_SENTINEL" Bundle.listD),
   .fieldLink Bundle.tN 198 Bundle.tN "backtrace" "Ljava/lang/Object;", .lays Bundle.tN Bundle.tN "backtrace" "Ljava/lang/Object;", .lays X Bundle.tN "backtrace" "Ljava/lang/Object;"]
def zn_at (own : String) (ic : Nat) (X : String) (ni : Nat) (nb : ByteArray) : List Cond := (zn_atoms own ic X ni nb).filter vx_no
def zn_B (X : String) : List Cond := .castable X X :: xDecl.map (fun y => Cond.declares y)
set_option maxHeartbeats 4000000 in
theorem zn_ctor {W : State} {locs : List Loc} {cells slots : Nat} (X : Stand p l e R s m args below meth c W locs cells slots) (hexec : p.tables.exec = Jvm.exec) (htr : e.platform.stackTraces = false) {own cls : String} {ic ni : Nat} {nb : ByteArray}
    (hown : s.vm.findClass own = some m.cls) (hcls : Bundle.fit cls = true)
    (n0 : decode nb 0 = .ok (.aload_n 0, 1)) (n1 : decode nb 1 = .ok (.aload_n 1, 1)) (n2 : decode nb 2 = .ok (.invokespecial ni, 3)) (n5 : decode nb 5 = .ok (.return_, 1))
    (h : ∀ a ∈ zn_atoms own ic cls ni nb, a.before args s = true)
    (hlocs : ∀ x ∈ locs, ∀ cell, s.heap[x.base]? = some cell → cell.vm.isStatics = false)
    {a : Addr} {cX : ClassId} {kX : Class} (hfoundX : s.vm.findClass cls = some cX) (hkX : s.vm.classes[cX]? = some kX) (hcell : W.heap[a]? = some (freshCell cX kX)) (hnew : s.heap.size ≤ a)
    {msg : Value} (hmsg : msg.isRef = true)
    {g : JFrame} (hg : g.method = m) (hsize : g.locals.size = c.maxLocals) (hlocked : g.locked = none) (hentered : g.entered = []) {rest : List Value} (hstack : g.stack = msg :: .ref a :: .ref a :: rest)
    (hd6 : decode c.code g.pc = .ok (.invokespecial ic, 3)) (hd9 : decode c.code (g.pc + 3) = .ok (.athrow, 1)) (hout : ∀ x ∈ c.exceptionTable.toList, covers x (g.pc + 3) = false)
    (hRframes : 5 < R.frames) (hRlocals : 2 * g.monitorRoom + ((Value.ref a :: rest).map fun v => v.category).sum + (13 * 3 + 42) ≤ R.locals) (hlocks : meth.locks = false) :
    ∃ U : State, Steps p.tables e below (W.setTop g) U ∧ U.status = .running ∧ Ended U below (.threw a) ∧ s.WarmedH U.vm ∧ s.sameButNew ({ U with vm := s.vm } : State) locs cells slots ∧
      ∃ ce, U.heap[a]? = some ce ∧ s.vm.findClass cls = some ce.cls ∧ ce.vm = .none := by
  have howns : e.platform.frameOwnsMonitors = true := by rw [X.admits.platform]
  have hfin : e.platform.finalization = false := by rw [X.admits.platform]
  have hpl : e.platform.magicAccessors = ({} : Platform).magicAccessors := by rw [X.admits.platform]
  have a' : ∀ x, x ∈ zn_atoms own ic cls ni nb → x.holds args s none s [] = true := fun x hx => h x hx
  obtain ⟨T, Z0, L, -, Y⟩ := ThrowableC.of_atoms (args := args) howns hfin hpl (fun x hx => h x (by simp [zn_atoms, hx]))
  obtain ⟨Z, M, LZ, LM, hnZ⟩ := Init0T.ofS_atoms (args := args) hpl L Y (fun x hx => h x (by simp [zn_atoms, hx]))
  obtain ⟨P1, L1, hP1m, hP1s⟩ := PassC.ofS_atoms (args := args) (s := s) hpl (X := cls) (Y := "java/lang/RuntimeException") (Bundle.fit_spec hcls).1 (by decide) n0 n1 n2 n5 (fun x hx => h x (by simp [zn_atoms, hx]))
  obtain ⟨P2, Ps2, hlen2, L2, hL2, hP2m, hlink2, hlinks2⟩ := Bundle.chainS (args := args) hpl hnZ ["java/lang/Exception"] "java/lang/RuntimeException" (by decide +kernel) (by decide +kernel) (fun x hx => h x (by simp [zn_atoms, hx]))
  have hlink1 : P1.sup = P2.m := Option.some.inj (hP1s.symm.trans hP2m)
  have hfound : s.vm.findClass cls = some P1.m.cls := findClass_of_methodNamed hP1m
  cases Option.some.inj (hfoundX.symm.trans hfound)
  obtain ⟨c1, kX', hc1, hk, hord, -, -, hn6⟩ := Cond.instantiable_spec (a' (.instantiable cls 6) (by simp [zn_atoms]))
  cases Option.some.inj (hc1.symm.trans hfound)
  cases Option.some.inj (hkX.symm.trans hk)
  have hsel0 : selectMethod e.platform s.vm P1.m.cls T.fill0 = .method T.fill0 := by
    obtain ⟨c2, r2, m2, q1, q2, q3, q4, -⟩ := Cond.selects_spec (a' (.selects cls Bundle.tFill0 Bundle.tFill0) (by simp [zn_atoms]))
    cases Option.some.inj (q1.symm.trans hfound)
    cases Option.some.inj (q2.symm.trans (State.methodFound?_of_named Y.fill0 (by decide)))
    cases Option.some.inj (q3.symm.trans Y.fill0)
    rw [Launch.admits_selectMethod X.admits]; exact q4
  have hselF : selectMethod e.platform s.vm P1.m.cls T.fill = .method T.fill := by
    obtain ⟨c2, r2, m2, q1, q2, q3, q4, -⟩ := Cond.selects_spec (a' (.selects cls Bundle.tFill Bundle.tFill) (by simp [zn_atoms]))
    cases Option.some.inj (q1.symm.trans hfound)
    cases Option.some.inj (q2.symm.trans (State.methodFound?_of_named Y.fill (by decide)))
    cases Option.some.inj (q3.symm.trans Y.fill)
    rw [Launch.admits_selectMethod X.admits]; exact q4
  obtain ⟨cellS0, hcS0, hiss⟩ := Y.statics
  obtain ⟨u0, hu0⟩ := Cond.staticRefV Y.unassigned L.unassignedStatic L.statics hcS0 hiss (a' (.isRef (.static Bundle.tN "UNASSIGNED_STACK" Bundle.steD)) (by simp [zn_atoms]))
  obtain ⟨sen, hsen⟩ := Cond.staticRefV Y.sentinel L.sentinelStatic L.statics hcS0 hiss (a' (.isRef (.static Bundle.tN "SUPPRESSED_SENTINEL" Bundle.listD)) (by simp [zn_atoms]))
  obtain ⟨ci198, i198, fB, hk198, hg198, ha198, hsB, -, hnB, htB, hffB⟩ := Cond.ownField (t := .object "java/lang/Object") Y.found L.cls (by decide +kernel) (a' (.fieldLink Bundle.tN 198 Bundle.tN "backtrace" "Ljava/lang/Object;") (by simp [zn_atoms])) (a' (.lays Bundle.tN Bundle.tN "backtrace" "Ljava/lang/Object;") (by simp [zn_atoms])) e.platform hpl
  obtain ⟨cellS, hcS', heS, -, hkeep⟩ := X.same.2.2.2.2.2 T.aS cellS0 hcS0
  have hcellS : W.heap[T.aS]? = some cellS := hcS'
  have hout' : ∀ i, (⟨T.aS, i⟩ : Loc) ∉ locs := fun i hmem => by
    have := hlocs _ hmem cellS0 hcS0
    rw [hiss] at this; cases this
  have hknownS : cellS.vm ≠ .unknown := by
    rw [heS]; intro hu
    rw [show cellS0.vm = .unknown from hu] at hiss
    cases hiss
  have hneS : T.aS ≠ a := Nat.ne_of_lt (Nat.lt_of_lt_of_le (Array.getElem?_eq_some_iff.mp hcS0).1 hnew)
  obtain ⟨iM, hffM⟩ := Y.msg
  obtain ⟨tyC, dC, hdC, hdnC⟩ := Cond.laysAt hfound hk Y.cause (a' (.lays cls Bundle.tN "cause" "Ljava/lang/Throwable;") (by simp [zn_atoms]))
  obtain ⟨tyS, dS, hdS, hdnS⟩ := Cond.laysAt hfound hk Y.stack (a' (.lays cls Bundle.tN "stackTrace" Bundle.steD) (by simp [zn_atoms]))
  obtain ⟨tyP, dP, hdP, hdnP⟩ := Cond.laysAt hfound hk Y.supp (a' (.lays cls Bundle.tN "suppressedExceptions" Bundle.listD) (by simp [zn_atoms]))
  obtain ⟨tyM, dM, hdM, hdnM⟩ := Cond.laysAt hfound hk hffM (a' (.lays cls Bundle.tN "detailMessage" "Ljava/lang/String;") (by simp [zn_atoms]))
  obtain ⟨tyB, dB, hdB, hdnB⟩ := Cond.laysAt hfound hk hffB (a' (.lays cls Bundle.tN "backtrace" "Ljava/lang/Object;") (by simp [zn_atoms]))
  have bC := Cond.laysApart hdB hdC hdnB hdnC (by rw [hnB, Y.causeName]; decide)
  have bS := Cond.laysApart hdB hdS hdnB hdnS (by rw [hnB, Y.stackName]; decide)
  have bP := Cond.laysApart hdB hdP hdnB hdnP (by rw [hnB, Y.suppName]; decide)
  have hskip : SkipFacts T e.platform s (fun u => u) u0 ((preparedCellV T.toThrowableT (freshCell P1.m.cls kX) a u0 sen).withEntry W.cur) :=
    ⟨{ ci198 := ci198, i198 := i198, fBack := fB }, ⟨hk198, hg198, ha198, hsB⟩, by
      have := fresh_default (c := P1.m.cls) tyB
      rw [htB] at this
      simpa [preparedCellV, Cell.setSlot, Cell.withEntry, Array.getElem?_setIfInBounds, bC, bS, bP, bC.symm, bS.symm, bP.symm, defaultValue] using this, fun _ _ => rfl⟩
  obtain ⟨tm, methC, cdC, kC, vm₁, hnC, -, -, -, -, -, -, -, hW₁, st1⟩ := Steps.initColdS (tb := p.tables) (e := e) (below := below) (s := s) (U := W) X.here hexec X.warmed hpl hown (t := Bundle.initS cls) rfl rfl (Bundle.fit_spec hcls).2
    (a' (.methodLink own ic (Bundle.initS cls)) (by simp [zn_atoms])) (h (.instanceMethod (Bundle.initS cls)) (by simp [zn_atoms, Bundle.passSAtoms])) (bytes := nb) (maxL := 2) (h (.code (Bundle.initS cls) nb 2 none) (by simp [zn_atoms, Bundle.passSAtoms]))
    (f := g) hg (a := a) (msg := msg) (rest := .ref a :: rest) hstack hd6
  cases Option.some.inj (hnC.symm.trans hP1m)
  have X₁ := X.noted hW₁
  obtain ⟨vm₂, X₂, st2⟩ := X₁.ctorMessageOffV hexec (g := { g with stack := .ref a :: rest }) hg hsize T L Z LZ M LM (P1 :: P2 :: Ps2)
    (fun P hP => by rcases List.mem_cons.mp hP with rfl | hP; exact L1; rcases List.mem_cons.mp hP with rfl | hP; exact L2; exact hL2 P hP) ⟨hlink1, hlink2, hlinks2⟩ (u0 := u0) (sen := sen) (self := a) hmsg (cell := freshCell P1.m.cls kX) (cellS := cellS)
    hcell (fun _ => by simp) (by simp) rfl rfl hsel0 hselF hcellS hneS hknownS (by rw [hkeep _ (hout' _)]; exact hu0) (by rw [hkeep _ (hout' _)]; exact hsen)
    (Takes.of_laid hk hord tyC (by rw [Y.causeType]; rfl)) (Takes.of_laid hk hord tyS (by rw [Y.stackType]; exact fits_refV_array _ u0)) (Takes.of_laid hk hord tyP (by rw [Y.suppType]; exact fits_refV_object _ sen))
    (Takes.of_laid hk hord tyM (by rw [Y.msgType]; exact fits_refV_object _ ⟨msg, hmsg⟩)) Y.objLocals hskip htr [] hd6
    (by simp only [List.length_cons, hlen2, List.length_nil]; omega) (by simp only [List.length_cons, hlen2, List.length_nil]; exact hRlocals)
  obtain ⟨hwalk, hrun, hended, hWU, hsame⟩ := X₂.athrowLeaves hexec (g := { g with stack := .ref a :: rest, pc := g.pc + 3 }) hg hlocked hentered hout (a := a) (rest := rest) rfl hd9
  have hlt : a < ((W.setVm vm₁).setVm vm₂).heap.size := (Array.getElem?_eq_some_iff.mp hcell).1
  have hU := heapAt_setCell_self (s := (W.setVm vm₁).setVm vm₂) (plainBareV T.toThrowableT (freshCell P1.m.cls kX) a u0 sen msg) hlt
  refine ⟨_, st1 _ (fun acts => ?_), hrun, hended, hWU, hsame.weaken (fun y hy hlt' => ?_) (Nat.le_refl _) (Nat.le_refl _), _, hU, hfound, rfl⟩
  · rw [doInvoke_state]
    exact st2 _ hwalk
  · rcases List.mem_append.mp hy with h1 | h1
    · exact h1
    · exfalso
      have hb : y.base = a := by
        simp only [List.mem_cons, List.not_mem_nil, or_false] at h1
        rcases h1 with rfl | rfl | rfl | rfl | rfl <;> rfl
      rw [hb] at hlt'
      exact Nat.not_lt.mpr hnew hlt'
end ZThrow

theorem xg_IAE : ∀ w ∈ (zn_at RX5 68 "java/lang/IllegalArgumentException" 7 prog_13_method_2_code).filter goodWord, w ∈ wAll := wA_list _ [54, 339, 348, 355, 358, 360, 340, 341, 72, 73, 342, 347, 356, 376, 329, 377, 331, 378, 333, 343, 345, 335, 372, 373, 375, 335, 363, 364, 365, 366, 366, 367, 368, 369, 369, 370, 371, 372, 362, 318, 326, 327, 328, 330, 332, 334, 338, 337, 336] (by decide +kernel) (by decide +kernel)
theorem xb_IAE : ∀ w ∈ (zn_at RX5 68 "java/lang/IllegalArgumentException" 7 prog_13_method_2_code).filter (fun w => !goodWord w), w ∈ zn_B "java/lang/IllegalArgumentException" := by decide +kernel
theorem xo_IAE : ∀ w ∈ Cond.classLink RX5 64 "java/lang/IllegalArgumentException" :: Cond.initialized "java/lang/IllegalArgumentException" :: zn_at RX5 68 "java/lang/IllegalArgumentException" 7 prog_13_method_2_code, vx_ot w = true := by decide +kernel
theorem xg_ISE : ∀ w ∈ (zn_at RX5 76 "java/lang/IllegalStateException" 7 prog_14_method_2_code).filter goodWord, w ∈ wAll := wA_list _ [54, 339, 348, 355, 358, 360, 340, 341, 72, 73, 342, 347, 356, 376, 329, 377, 331, 378, 333, 343, 345, 335, 372, 373, 375, 335, 400, 401, 402, 366, 366, 367, 368, 369, 369, 370, 371, 372, 399, 390, 392, 352, 393, 394, 395, 396, 338, 337, 397] (by decide +kernel) (by decide +kernel)
theorem xb_ISE : ∀ w ∈ (zn_at RX5 76 "java/lang/IllegalStateException" 7 prog_14_method_2_code).filter (fun w => !goodWord w), w ∈ zn_B "java/lang/IllegalStateException" := by decide +kernel
theorem xo_ISE : ∀ w ∈ Cond.classLink RX5 72 "java/lang/IllegalStateException" :: Cond.initialized "java/lang/IllegalStateException" :: zn_at RX5 76 "java/lang/IllegalStateException" 7 prog_14_method_2_code, vx_ot w = true := by decide +kernel
theorem xg_IOB : ∀ w ∈ (zn_at RX5 93 "java/lang/IndexOutOfBoundsException" 7 prog_15_method_2_code).filter goodWord, w ∈ wAll := wA_list _ [54, 339, 348, 355, 358, 360, 340, 341, 72, 73, 342, 347, 356, 376, 329, 377, 331, 378, 333, 343, 345, 335, 372, 373, 375, 335, 454, 455, 456, 366, 366, 367, 368, 369, 369, 370, 371, 372, 487, 478, 480, 353, 481, 482, 483, 484, 338, 337, 485] (by decide +kernel) (by decide +kernel)
theorem xb_IOB : ∀ w ∈ (zn_at RX5 93 "java/lang/IndexOutOfBoundsException" 7 prog_15_method_2_code).filter (fun w => !goodWord w), w ∈ zn_B "java/lang/IndexOutOfBoundsException" := by decide +kernel
theorem xo_IOB : ∀ w ∈ Cond.classLink RX5 89 "java/lang/IndexOutOfBoundsException" :: Cond.initialized "java/lang/IndexOutOfBoundsException" :: zn_at RX5 93 "java/lang/IndexOutOfBoundsException" 7 prog_15_method_2_code, vx_ot w = true := by decide +kernel
theorem xg_ARE : ∀ w ∈ (zn_at RX5 245 "java/lang/ArithmeticException" 7 prog_10_method_2_code).filter goodWord, w ∈ wAll := wA_list _ [54, 339, 348, 355, 358, 360, 340, 341, 72, 73, 342, 347, 356, 376, 329, 377, 331, 378, 333, 343, 345, 335, 372, 373, 375, 335, 774, 775, 776, 366, 366, 367, 368, 369, 369, 370, 371, 372, 792, 773, 785, 350, 779, 780, 782, 778, 338, 337, 777] (by decide +kernel) (by decide +kernel)
theorem xb_ARE : ∀ w ∈ (zn_at RX5 245 "java/lang/ArithmeticException" 7 prog_10_method_2_code).filter (fun w => !goodWord w), w ∈ zn_B "java/lang/ArithmeticException" := by decide +kernel
theorem xo_ARE : ∀ w ∈ Cond.classLink RX5 241 "java/lang/ArithmeticException" :: Cond.initialized "java/lang/ArithmeticException" :: zn_at RX5 245 "java/lang/ArithmeticException" 7 prog_10_method_2_code, vx_ot w = true := by decide +kernel
theorem xg_NSE : ∀ w ∈ (zn_at RX5 144 "java/util/NoSuchElementException" 13 prog_21_method_4_code).filter goodWord, w ∈ wAll := wA_list _ [54, 339, 348, 355, 358, 360, 340, 341, 72, 73, 342, 347, 356, 376, 329, 377, 331, 378, 333, 343, 345, 335, 372, 373, 375, 335, 565, 566, 567, 366, 366, 367, 368, 369, 369, 370, 371, 372, 564, 555, 557, 354, 558, 559, 560, 561, 338, 337, 562] (by decide +kernel) (by decide +kernel)
theorem xb_NSE : ∀ w ∈ (zn_at RX5 144 "java/util/NoSuchElementException" 13 prog_21_method_4_code).filter (fun w => !goodWord w), w ∈ zn_B "java/util/NoSuchElementException" := by decide +kernel
theorem xo_NSE : ∀ w ∈ Cond.classLink RX5 140 "java/util/NoSuchElementException" :: Cond.initialized "java/util/NoSuchElementException" :: zn_at RX5 144 "java/util/NoSuchElementException" 13 prog_21_method_4_code, vx_ot w = true := by decide +kernel
