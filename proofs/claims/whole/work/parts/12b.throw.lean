set_option maxHeartbeats 4000000 in
theorem zn_throwS {p : Program} {l : Launch} {e : Env} {R : Room} {s : State} {m : MethodId} {args : Array Value} {below : List Frame} {meth : Method} {c : Code} {H : Heap} {locs : List Loc} {cells slots : Nat} {cc : ByteArray} {pc nL is ik ic ni sa : Nat} {ls : Array Slot} {rest : List Value} {G : ZG} {A : Nat → Prop} {own cls text : String} {nb : ByteArray} {S : Type} {ws' : S → va_W} {ws : va_W} {Qc : Array Value → State → Outcome → State → Prop} (u : S)
    (hst : l.stackTraces = false) (Z : ZCtx p s m args meth c G cc nL own A) (ht : ∀ x ∈ c.exceptionTable.toList, False) (hP : va_P G.1 vwCl ws H) (hD : va_D A ws) (hS : va_S A s.heap H locs) (hls : ls.size = nL) (hw : ws = ws' u)
    (hcls : Bundle.fit cls = true) (n0 : decode nb 0 = .ok (.aload_n 0, 1)) (n1 : decode nb 1 = .ok (.aload_n 1, 1)) (n2 : decode nb 2 = .ok (.invokespecial ni, 3)) (n5 : decode nb 5 = .ok (.return_, 1))
    (hk : Cond.classLink own ik cls ∈ wAll) (hini : Cond.initialized cls ∈ wAll) (hstr : vk_R own is text sa s)
    (hg1 : ∀ w ∈ (zn_at own ic cls ni nb).filter goodWord, w ∈ wAll) (hg2 : ∀ w ∈ (zn_at own ic cls ni nb).filter (fun w => !goodWord w), w ∈ zn_B cls) (hgood : ∀ w ∈ Cond.classLink own ik cls :: Cond.initialized cls :: zn_at own ic cls ni nb, vx_ot w = true) (hcast : va_Nw (.castable cls cls) s)
    (hR : 5 < R.frames ∧ (rest.map fun v => v.category).sum + 82 ≤ R.locals ∧ cells + 1 ≤ R.cells ∧ slots + 6 ≤ R.slots)
    (d0 : decode cc pc = .ok (.new ik, 3)) (d3 : decode cc (pc + 3) = .ok (.dup, 1)) (d4 : decode cc (pc + 4) = .ok (.ldc is, 2)) (d6 : decode cc (pc + 6) = .ok (.invokespecial ic, 3)) (d9 : decode cc (pc + 9) = .ok (.athrow, 1)) :
    W p l e R s m args below meth c H locs cells slots (vx_MQ below Qc (vx_X (fun (_ : S) => True) (fun E' u t => E' = cls ∧ PostW G (ws' u) A t) A) args s R.cells R.slots A) (F0 m pc ls rest) := by
  obtain ⟨hexec, hb, hml, hown, hW9, hA, hK, hE, hlocks⟩ := Z
  subst hw
  have hwB : ∀ w ∈ zn_B cls, w.before args s = true := fun w hw => by
    rcases List.mem_cons.mp hw with h9 | h9
    · rw [h9]; exact va_Nw.use rfl hcast
    · obtain ⟨y, hy, rfl⟩ := List.mem_map.mp h9
      exact va_Nw.use rfl (hE.2.2.1 y hy)
  have hat : ∀ w ∈ zn_at own ic cls ni nb, w.before args s = true := vx_hat (fun w h9 => hW9 w (hg1 w h9)) hg2 hwB
  intro T hT X
  have htr : e.platform.stackTraces = false := (show e.platform.stackTraces = l.stackTraces by rw [X.admits.platform]).trans hst
  have Y := vx_rebase X (R' := { frames := R.frames, locals := R.locals, cells := 1, slots := 6 }) (Nat.le_refl _) (Nat.le_refl _) hR.2.2.1 hR.2.2.2
  obtain ⟨s', hA9⟩ : ∃ z, z = (T.setVm s.vm).setFrames (.invoking m args :: below) := ⟨_, rfl⟩
  rw [← hA9] at Y
  have hvm : s'.vm = s.vm := by rw [hA9]; rfl
  have hhp : s'.heap = H := by rw [hA9]; exact hT
  have hW0 : s.WarmedH s'.vm := by rw [hvm]; exact State.WarmedH.refl s
  have hat' : ∀ w ∈ zn_at own ic cls ni nb, w.before args s' = true := fun w hw => vx_ot_at hW0 hvm.symm (hgood w (List.mem_cons_of_mem _ (List.mem_cons_of_mem _ hw))) (hat w hw)
  have hk' : (Cond.classLink own ik cls).before args s' = true := vx_ot_at hW0 hvm.symm (hgood _ List.mem_cons_self) (hW9 _ hk)
  have hini' : (Cond.initialized cls).before args s' = true := vx_ot_at hW0 hvm.symm (hgood _ (List.mem_cons_of_mem _ List.mem_cons_self)) (hW9 _ hini)
  have hU' : vx_Zq Bundle.tN "UNASSIGNED_STACK" Bundle.steD A s' s'.heap := by rw [hhp]; exact vx_Zq.moved hW0.alike (hE.2.2.2.2.2.1.kept hS.2.1)
  have hN' : vx_Zq Bundle.tN "SUPPRESSED_SENTINEL" Bundle.listD A s' s'.heap := by rw [hhp]; exact vx_Zq.moved hW0.alike (hE.2.2.2.2.2.2.kept hS.2.1)
  have h : ∀ w ∈ zn_atoms own ic cls ni nb, w.before args s' = true := vx_own hat' (vx_isRefq hU'.1) (vx_isRefq hN'.1) hU'.2.word hN'.2.word
  have hown' : s'.vm.findClass own = some m.cls := by rw [hvm]; exact hown
  have hins : (Cond.instantiable cls 6).before args s' = true := h _ (by simp [zn_atoms])
  obtain ⟨vm₁, cX, kX, hfX, hkX, -, -, X₁, st1⟩ := Y.newCold hexec (own := own) (C := cls) (index := ik) (n := 6) hown' hk' hins hini'
    (g := F0 m pc ls rest) rfl (by rw [hb]; exact d0) (Nat.le_refl _) (Nat.le_refl _)
  generalize hT1 : (T.setVm vm₁).pushCell { cls := cX, slots := kX.instanceTypes.map defaultValue, vm := .none } = T1 at X₁ st1
  have hcat : (Value.ref T.heap.size).category = 1 := rfl
  have hcellA : T1.heap[T.heap.size]? = some (freshCell cX kX) := by rw [← hT1]; exact State.heap_pushCell_size _ _
  have d3' : decode c.code (pc + 3) = .ok (.dup, 1) := by rw [hb]; exact d3
  have d4' : decode c.code (pc + 4) = .ok (.ldc is, 2) := by rw [hb]; exact d4
  have hstr' : vk_R own is text sa s' := vk_R.warm hW0 hstr
  obtain ⟨U, hsteps, hrun, hend, hW, hsame, ce, hce, hcl0, hcv⟩ := zn_ctor X₁ hexec htr (own := own) (cls := cls) (ic := ic) (ni := ni) (nb := nb) hown' hcls n0 n1 n2 n5 h (fun x hx => nomatch hx) hfX hkX hcellA (by rw [hhp, hT]; exact Nat.le_refl _) (msg := .ref sa) rfl
    (g := { method := m, pc := pc + 6, locals := ls, stack := .ref sa :: .ref T.heap.size :: .ref T.heap.size :: rest, locked := none }) rfl (hls.trans hml.symm) rfl rfl (rest := rest) rfl
    (by rw [hb]; exact d6) (by rw [hb]; exact d9) (fun x hx => (ht x hx).elim) hR.1 (by have h9 := hR.2.1; simp only [List.map_cons, List.sum_cons, hcat]; show 2 * 0 + (1 + (rest.map fun v => v.category).sum) + (13 * 3 + 42) ≤ R.locals; omega) hlocks
  obtain ⟨f1, f2⟩ := vx_frame hsame
  rw [hhp] at f1 f2
  have hWs : s.WarmedH U.vm := State.WarmedH.trans hW0 hW
  have hcl : s.vm.findClass cls = some ce.cls := by
    rw [hvm] at hcl0
    exact hcl0
  have hall : s.sameButNew ({ U with vm := s.vm } : State) locs R.cells R.slots := by
    subst hA9
    obtain ⟨e1, e2⟩ := hsame
    rw [State.setFrames_setFrames] at e1
    have h2 : (T.setVm s.vm).sameButNew ({ U with vm := s.vm } : State) [] (0 + 1) (0 + 6) := ⟨e1, e2⟩
    have h3 := X.same.trans h2
    rw [List.append_nil] at h3
    exact h3.mono hR.2.2.1 hR.2.2.2
  have hkeep : ∀ q : Nat, q < H.size → U.heap[q]? = H[q]? := fun q hq => f2 q hq (fun z hz => nomatch hz)
  have hxc : vx_X (fun (_ : S) => True) (fun E' u t => E' = cls ∧ PostW G (ws' u) A t) A cls s U :=
    ⟨u, trivial, ⟨rfl, hP.kept (fun k q hq => hkeep q.1 ((hP k q hq).lt)), va_K.moved hWs.alike hK, hD⟩, Nat.le_trans hS.1 f1, fun q h1 h2 => (hkeep q (Nat.lt_of_lt_of_le h1 hS.1)).trans (hS.2.1 q h1 h2)⟩
  refine ⟨U, ?_, .threw T.heap.size, hrun, hend, Or.inr ⟨T.heap.size, rfl, cls, ce, locs, hxc, hce, hcv, hcl, hWs, hall, hS.2.2⟩⟩
  refine st1 _ ?_
  show Steps p.tables e below (T1.setTop { method := m, pc := pc + 3, locals := ls, stack := .ref T.heap.size :: rest, locked := none }) _
  jvm_step X₁.here [X₁.here.top, hexec, d3', Value.category]
  exact X₁.ldcString hexec (own := own) (text := text) (index := is) (a := sa) hown' hstr'.1 hstr'.2
    (g := { method := m, pc := pc + 4, locals := ls, stack := .ref T.heap.size :: .ref T.heap.size :: rest, locked := none }) rfl d4' _ hsteps

set_option maxHeartbeats 4000000 in
theorem zn_throwSW {p : Program} {l : Launch} {e : Env} {R : Room} {s : State} {m : MethodId} {args : Array Value} {below : List Frame} {meth : Method} {c : Code} {H : Heap} {locs : List Loc} {cells slots : Nat} {cc : ByteArray} {pc nL is ik ic ni sa : Nat} {ls : Array Slot} {rest : List Value} {G : ZG} {A : Nat → Prop} {own cls text : String} {nb : ByteArray} {S : Type} {ws' : S → va_W} {ws : va_W} {Qc : Array Value → State → Outcome → State → Prop} (u : S)
    (hst : l.stackTraces = false) (Z : ZCtx p s m args meth c G cc nL own A) (ht : ∀ x ∈ c.exceptionTable.toList, False) (hP : va_P G.1 vwCl ws H) (hD : va_D A ws) (hS : va_S A s.heap H locs) (hls : ls.size = nL) (hw : ws = ws' u)
    (hcls : Bundle.fit cls = true) (n0 : decode nb 0 = .ok (.aload_n 0, 1)) (n1 : decode nb 1 = .ok (.aload_n 1, 1)) (n2 : decode nb 2 = .ok (.invokespecial ni, 3)) (n5 : decode nb 5 = .ok (.return_, 1))
    (hk : Cond.classLink own ik cls ∈ wAll) (hini : Cond.initialized cls ∈ wAll) (hstr : vk_R own is text sa s)
    (hg1 : ∀ w ∈ (zn_at own ic cls ni nb).filter goodWord, w ∈ wAll) (hg2 : ∀ w ∈ (zn_at own ic cls ni nb).filter (fun w => !goodWord w), w ∈ zn_B cls) (hgood : ∀ w ∈ Cond.classLink own ik cls :: Cond.initialized cls :: zn_at own ic cls ni nb, vx_ot w = true) (hcast : va_Nw (.castable cls cls) s)
    (hR : 5 < R.frames ∧ (rest.map fun v => v.category).sum + 82 ≤ R.locals ∧ cells + 1 ≤ R.cells ∧ slots + 6 ≤ R.slots)
    (d0 : decode cc pc = .ok (.new ik, 3)) (d3 : decode cc (pc + 3) = .ok (.dup, 1)) (d4 : decode cc (pc + 4) = .ok (.ldc_w is, 3)) (d6 : decode cc (pc + 7) = .ok (.invokespecial ic, 3)) (d9 : decode cc (pc + 10) = .ok (.athrow, 1)) :
    W p l e R s m args below meth c H locs cells slots (vx_MQ below Qc (vx_X (fun (_ : S) => True) (fun E' u t => E' = cls ∧ PostW G (ws' u) A t) A) args s R.cells R.slots A) (F0 m pc ls rest) := by
  obtain ⟨hexec, hb, hml, hown, hW9, hA, hK, hE, hlocks⟩ := Z
  subst hw
  have hwB : ∀ w ∈ zn_B cls, w.before args s = true := fun w hw => by
    rcases List.mem_cons.mp hw with h9 | h9
    · rw [h9]; exact va_Nw.use rfl hcast
    · obtain ⟨y, hy, rfl⟩ := List.mem_map.mp h9
      exact va_Nw.use rfl (hE.2.2.1 y hy)
  have hat : ∀ w ∈ zn_at own ic cls ni nb, w.before args s = true := vx_hat (fun w h9 => hW9 w (hg1 w h9)) hg2 hwB
  intro T hT X
  have htr : e.platform.stackTraces = false := (show e.platform.stackTraces = l.stackTraces by rw [X.admits.platform]).trans hst
  have Y := vx_rebase X (R' := { frames := R.frames, locals := R.locals, cells := 1, slots := 6 }) (Nat.le_refl _) (Nat.le_refl _) hR.2.2.1 hR.2.2.2
  obtain ⟨s', hA9⟩ : ∃ z, z = (T.setVm s.vm).setFrames (.invoking m args :: below) := ⟨_, rfl⟩
  rw [← hA9] at Y
  have hvm : s'.vm = s.vm := by rw [hA9]; rfl
  have hhp : s'.heap = H := by rw [hA9]; exact hT
  have hW0 : s.WarmedH s'.vm := by rw [hvm]; exact State.WarmedH.refl s
  have hat' : ∀ w ∈ zn_at own ic cls ni nb, w.before args s' = true := fun w hw => vx_ot_at hW0 hvm.symm (hgood w (List.mem_cons_of_mem _ (List.mem_cons_of_mem _ hw))) (hat w hw)
  have hk' : (Cond.classLink own ik cls).before args s' = true := vx_ot_at hW0 hvm.symm (hgood _ List.mem_cons_self) (hW9 _ hk)
  have hini' : (Cond.initialized cls).before args s' = true := vx_ot_at hW0 hvm.symm (hgood _ (List.mem_cons_of_mem _ List.mem_cons_self)) (hW9 _ hini)
  have hU' : vx_Zq Bundle.tN "UNASSIGNED_STACK" Bundle.steD A s' s'.heap := by rw [hhp]; exact vx_Zq.moved hW0.alike (hE.2.2.2.2.2.1.kept hS.2.1)
  have hN' : vx_Zq Bundle.tN "SUPPRESSED_SENTINEL" Bundle.listD A s' s'.heap := by rw [hhp]; exact vx_Zq.moved hW0.alike (hE.2.2.2.2.2.2.kept hS.2.1)
  have h : ∀ w ∈ zn_atoms own ic cls ni nb, w.before args s' = true := vx_own hat' (vx_isRefq hU'.1) (vx_isRefq hN'.1) hU'.2.word hN'.2.word
  have hown' : s'.vm.findClass own = some m.cls := by rw [hvm]; exact hown
  have hins : (Cond.instantiable cls 6).before args s' = true := h _ (by simp [zn_atoms])
  obtain ⟨vm₁, cX, kX, hfX, hkX, -, -, X₁, st1⟩ := Y.newCold hexec (own := own) (C := cls) (index := ik) (n := 6) hown' hk' hins hini'
    (g := F0 m pc ls rest) rfl (by rw [hb]; exact d0) (Nat.le_refl _) (Nat.le_refl _)
  generalize hT1 : (T.setVm vm₁).pushCell { cls := cX, slots := kX.instanceTypes.map defaultValue, vm := .none } = T1 at X₁ st1
  have hcat : (Value.ref T.heap.size).category = 1 := rfl
  have hcellA : T1.heap[T.heap.size]? = some (freshCell cX kX) := by rw [← hT1]; exact State.heap_pushCell_size _ _
  have d3' : decode c.code (pc + 3) = .ok (.dup, 1) := by rw [hb]; exact d3
  have d4' : decode c.code (pc + 4) = .ok (.ldc_w is, 3) := by rw [hb]; exact d4
  have hstr' : vk_R own is text sa s' := vk_R.warm hW0 hstr
  obtain ⟨U, hsteps, hrun, hend, hW, hsame, ce, hce, hcl0, hcv⟩ := zn_ctor X₁ hexec htr (own := own) (cls := cls) (ic := ic) (ni := ni) (nb := nb) hown' hcls n0 n1 n2 n5 h (fun x hx => nomatch hx) hfX hkX hcellA (by rw [hhp, hT]; exact Nat.le_refl _) (msg := .ref sa) rfl
    (g := { method := m, pc := pc + 7, locals := ls, stack := .ref sa :: .ref T.heap.size :: .ref T.heap.size :: rest, locked := none }) rfl (hls.trans hml.symm) rfl rfl (rest := rest) rfl
    (by rw [hb]; exact d6) (by rw [hb]; exact d9) (fun x hx => (ht x hx).elim) hR.1 (by have h9 := hR.2.1; simp only [List.map_cons, List.sum_cons, hcat]; show 2 * 0 + (1 + (rest.map fun v => v.category).sum) + (13 * 3 + 42) ≤ R.locals; omega) hlocks
  obtain ⟨f1, f2⟩ := vx_frame hsame
  rw [hhp] at f1 f2
  have hWs : s.WarmedH U.vm := State.WarmedH.trans hW0 hW
  have hcl : s.vm.findClass cls = some ce.cls := by
    rw [hvm] at hcl0
    exact hcl0
  have hall : s.sameButNew ({ U with vm := s.vm } : State) locs R.cells R.slots := by
    subst hA9
    obtain ⟨e1, e2⟩ := hsame
    rw [State.setFrames_setFrames] at e1
    have h2 : (T.setVm s.vm).sameButNew ({ U with vm := s.vm } : State) [] (0 + 1) (0 + 6) := ⟨e1, e2⟩
    have h3 := X.same.trans h2
    rw [List.append_nil] at h3
    exact h3.mono hR.2.2.1 hR.2.2.2
  have hkeep : ∀ q : Nat, q < H.size → U.heap[q]? = H[q]? := fun q hq => f2 q hq (fun z hz => nomatch hz)
  have hxc : vx_X (fun (_ : S) => True) (fun E' u t => E' = cls ∧ PostW G (ws' u) A t) A cls s U :=
    ⟨u, trivial, ⟨rfl, hP.kept (fun k q hq => hkeep q.1 ((hP k q hq).lt)), va_K.moved hWs.alike hK, hD⟩, Nat.le_trans hS.1 f1, fun q h1 h2 => (hkeep q (Nat.lt_of_lt_of_le h1 hS.1)).trans (hS.2.1 q h1 h2)⟩
  refine ⟨U, ?_, .threw T.heap.size, hrun, hend, Or.inr ⟨T.heap.size, rfl, cls, ce, locs, hxc, hce, hcv, hcl, hWs, hall, hS.2.2⟩⟩
  refine st1 _ ?_
  show Steps p.tables e below (T1.setTop { method := m, pc := pc + 3, locals := ls, stack := .ref T.heap.size :: rest, locked := none }) _
  jvm_step X₁.here [X₁.here.top, hexec, d3', Value.category]
  exact X₁.ldcStringW hexec (own := own) (text := text) (index := is) (a := sa) hown' hstr'.1 hstr'.2
    (g := { method := m, pc := pc + 4, locals := ls, stack := .ref T.heap.size :: .ref T.heap.size :: rest, locked := none }) rfl d4' _ hsteps

theorem th_IAE {p : Program} {l : Launch} {e : Env} {R : Room} {s : State} {m : MethodId} {args : Array Value} {below : List Frame} {meth : Method} {c : Code} {H : Heap} {locs : List Loc} {cells slots : Nat} {cc : ByteArray} {pc nL is : Nat} {ls : Array Slot} {rest : List Value} {G : ZG} {A : Nat → Prop} {S : Type} {ws' : S → va_W} {ws : va_W} {Qc : Array Value → State → Outcome → State → Prop} {Q : State → Prop} (u : S) (text : String) (hst : l.stackTraces = false) (Z : ZCtx p s m args meth c G cc nL RX5 A) (ht : ∀ x ∈ c.exceptionTable.toList, False) (hP : va_P G.1 vwCl ws H) (hD : va_D A ws) (hS : va_S A s.heap H locs) (hls : ls.size = nL) (hw : ws = ws' u) (hx : (is, text) ∈ xStr)
    (hR : 5 < R.frames ∧ (rest.map fun v => v.category).sum + 82 ≤ R.locals ∧ cells + 1 ≤ R.cells ∧ slots + 6 ≤ R.slots) (hQ : Q = vx_MQ below Qc (vx_X (fun (_ : S) => True) (fun E' u t => E' = "java/lang/IllegalArgumentException" ∧ PostW G (ws' u) A t) A) args s R.cells R.slots A)
    (d0 : decode cc pc = .ok (.new 64, 3)) (d3 : decode cc (pc + 3) = .ok (.dup, 1)) (d4 : decode cc (pc + 4) = .ok (.ldc is, 2)) (d6 : decode cc (pc + 6) = .ok (.invokespecial 68, 3)) (d9 : decode cc (pc + 9) = .ok (.athrow, 1)) :
    W p l e R s m args below meth c H locs cells slots Q (F0 m pc ls rest) := by
  subst hQ
  have hE := Z.2.2.2.2.2.2.2.1
  obtain ⟨sa, hstr⟩ := hE.2.2.2.2.1 _ hx
  exact zn_throwS (nb := prog_13_method_2_code) (sa := sa) (u := u) hst Z ht hP hD hS hls hw (by decide +kernel) (by decide +kernel) (by decide +kernel) (by decide +kernel) (by decide +kernel) kc_X5_64 ki_IAE hstr xg_IAE xb_IAE xo_IAE (hE.2.1 ("java/lang/IllegalArgumentException", "java/lang/IllegalArgumentException") (by decide +kernel)) hR d0 d3 d4 d6 d9
theorem thw_IAE {p : Program} {l : Launch} {e : Env} {R : Room} {s : State} {m : MethodId} {args : Array Value} {below : List Frame} {meth : Method} {c : Code} {H : Heap} {locs : List Loc} {cells slots : Nat} {cc : ByteArray} {pc nL is : Nat} {ls : Array Slot} {rest : List Value} {G : ZG} {A : Nat → Prop} {S : Type} {ws' : S → va_W} {ws : va_W} {Qc : Array Value → State → Outcome → State → Prop} {Q : State → Prop} (u : S) (text : String) (hst : l.stackTraces = false) (Z : ZCtx p s m args meth c G cc nL RX5 A) (ht : ∀ x ∈ c.exceptionTable.toList, False) (hP : va_P G.1 vwCl ws H) (hD : va_D A ws) (hS : va_S A s.heap H locs) (hls : ls.size = nL) (hw : ws = ws' u) (hx : (is, text) ∈ xStr)
    (hR : 5 < R.frames ∧ (rest.map fun v => v.category).sum + 82 ≤ R.locals ∧ cells + 1 ≤ R.cells ∧ slots + 6 ≤ R.slots) (hQ : Q = vx_MQ below Qc (vx_X (fun (_ : S) => True) (fun E' u t => E' = "java/lang/IllegalArgumentException" ∧ PostW G (ws' u) A t) A) args s R.cells R.slots A)
    (d0 : decode cc pc = .ok (.new 64, 3)) (d3 : decode cc (pc + 3) = .ok (.dup, 1)) (d4 : decode cc (pc + 4) = .ok (.ldc_w is, 3)) (d6 : decode cc (pc + 7) = .ok (.invokespecial 68, 3)) (d9 : decode cc (pc + 10) = .ok (.athrow, 1)) :
    W p l e R s m args below meth c H locs cells slots Q (F0 m pc ls rest) := by
  subst hQ
  have hE := Z.2.2.2.2.2.2.2.1
  obtain ⟨sa, hstr⟩ := hE.2.2.2.2.1 _ hx
  exact zn_throwSW (nb := prog_13_method_2_code) (sa := sa) (u := u) hst Z ht hP hD hS hls hw (by decide +kernel) (by decide +kernel) (by decide +kernel) (by decide +kernel) (by decide +kernel) kc_X5_64 ki_IAE hstr xg_IAE xb_IAE xo_IAE (hE.2.1 ("java/lang/IllegalArgumentException", "java/lang/IllegalArgumentException") (by decide +kernel)) hR d0 d3 d4 d6 d9
theorem th_ISE {p : Program} {l : Launch} {e : Env} {R : Room} {s : State} {m : MethodId} {args : Array Value} {below : List Frame} {meth : Method} {c : Code} {H : Heap} {locs : List Loc} {cells slots : Nat} {cc : ByteArray} {pc nL is : Nat} {ls : Array Slot} {rest : List Value} {G : ZG} {A : Nat → Prop} {S : Type} {ws' : S → va_W} {ws : va_W} {Qc : Array Value → State → Outcome → State → Prop} {Q : State → Prop} (u : S) (text : String) (hst : l.stackTraces = false) (Z : ZCtx p s m args meth c G cc nL RX5 A) (ht : ∀ x ∈ c.exceptionTable.toList, False) (hP : va_P G.1 vwCl ws H) (hD : va_D A ws) (hS : va_S A s.heap H locs) (hls : ls.size = nL) (hw : ws = ws' u) (hx : (is, text) ∈ xStr)
    (hR : 5 < R.frames ∧ (rest.map fun v => v.category).sum + 82 ≤ R.locals ∧ cells + 1 ≤ R.cells ∧ slots + 6 ≤ R.slots) (hQ : Q = vx_MQ below Qc (vx_X (fun (_ : S) => True) (fun E' u t => E' = "java/lang/IllegalStateException" ∧ PostW G (ws' u) A t) A) args s R.cells R.slots A)
    (d0 : decode cc pc = .ok (.new 72, 3)) (d3 : decode cc (pc + 3) = .ok (.dup, 1)) (d4 : decode cc (pc + 4) = .ok (.ldc is, 2)) (d6 : decode cc (pc + 6) = .ok (.invokespecial 76, 3)) (d9 : decode cc (pc + 9) = .ok (.athrow, 1)) :
    W p l e R s m args below meth c H locs cells slots Q (F0 m pc ls rest) := by
  subst hQ
  have hE := Z.2.2.2.2.2.2.2.1
  obtain ⟨sa, hstr⟩ := hE.2.2.2.2.1 _ hx
  exact zn_throwS (nb := prog_14_method_2_code) (sa := sa) (u := u) hst Z ht hP hD hS hls hw (by decide +kernel) (by decide +kernel) (by decide +kernel) (by decide +kernel) (by decide +kernel) kc_X5_72 ki_ISE hstr xg_ISE xb_ISE xo_ISE (hE.2.1 ("java/lang/IllegalStateException", "java/lang/IllegalStateException") (by decide +kernel)) hR d0 d3 d4 d6 d9
theorem thw_ISE {p : Program} {l : Launch} {e : Env} {R : Room} {s : State} {m : MethodId} {args : Array Value} {below : List Frame} {meth : Method} {c : Code} {H : Heap} {locs : List Loc} {cells slots : Nat} {cc : ByteArray} {pc nL is : Nat} {ls : Array Slot} {rest : List Value} {G : ZG} {A : Nat → Prop} {S : Type} {ws' : S → va_W} {ws : va_W} {Qc : Array Value → State → Outcome → State → Prop} {Q : State → Prop} (u : S) (text : String) (hst : l.stackTraces = false) (Z : ZCtx p s m args meth c G cc nL RX5 A) (ht : ∀ x ∈ c.exceptionTable.toList, False) (hP : va_P G.1 vwCl ws H) (hD : va_D A ws) (hS : va_S A s.heap H locs) (hls : ls.size = nL) (hw : ws = ws' u) (hx : (is, text) ∈ xStr)
    (hR : 5 < R.frames ∧ (rest.map fun v => v.category).sum + 82 ≤ R.locals ∧ cells + 1 ≤ R.cells ∧ slots + 6 ≤ R.slots) (hQ : Q = vx_MQ below Qc (vx_X (fun (_ : S) => True) (fun E' u t => E' = "java/lang/IllegalStateException" ∧ PostW G (ws' u) A t) A) args s R.cells R.slots A)
    (d0 : decode cc pc = .ok (.new 72, 3)) (d3 : decode cc (pc + 3) = .ok (.dup, 1)) (d4 : decode cc (pc + 4) = .ok (.ldc_w is, 3)) (d6 : decode cc (pc + 7) = .ok (.invokespecial 76, 3)) (d9 : decode cc (pc + 10) = .ok (.athrow, 1)) :
    W p l e R s m args below meth c H locs cells slots Q (F0 m pc ls rest) := by
  subst hQ
  have hE := Z.2.2.2.2.2.2.2.1
  obtain ⟨sa, hstr⟩ := hE.2.2.2.2.1 _ hx
  exact zn_throwSW (nb := prog_14_method_2_code) (sa := sa) (u := u) hst Z ht hP hD hS hls hw (by decide +kernel) (by decide +kernel) (by decide +kernel) (by decide +kernel) (by decide +kernel) kc_X5_72 ki_ISE hstr xg_ISE xb_ISE xo_ISE (hE.2.1 ("java/lang/IllegalStateException", "java/lang/IllegalStateException") (by decide +kernel)) hR d0 d3 d4 d6 d9
theorem th_IOB {p : Program} {l : Launch} {e : Env} {R : Room} {s : State} {m : MethodId} {args : Array Value} {below : List Frame} {meth : Method} {c : Code} {H : Heap} {locs : List Loc} {cells slots : Nat} {cc : ByteArray} {pc nL is : Nat} {ls : Array Slot} {rest : List Value} {G : ZG} {A : Nat → Prop} {S : Type} {ws' : S → va_W} {ws : va_W} {Qc : Array Value → State → Outcome → State → Prop} {Q : State → Prop} (u : S) (text : String) (hst : l.stackTraces = false) (Z : ZCtx p s m args meth c G cc nL RX5 A) (ht : ∀ x ∈ c.exceptionTable.toList, False) (hP : va_P G.1 vwCl ws H) (hD : va_D A ws) (hS : va_S A s.heap H locs) (hls : ls.size = nL) (hw : ws = ws' u) (hx : (is, text) ∈ xStr)
    (hR : 5 < R.frames ∧ (rest.map fun v => v.category).sum + 82 ≤ R.locals ∧ cells + 1 ≤ R.cells ∧ slots + 6 ≤ R.slots) (hQ : Q = vx_MQ below Qc (vx_X (fun (_ : S) => True) (fun E' u t => E' = "java/lang/IndexOutOfBoundsException" ∧ PostW G (ws' u) A t) A) args s R.cells R.slots A)
    (d0 : decode cc pc = .ok (.new 89, 3)) (d3 : decode cc (pc + 3) = .ok (.dup, 1)) (d4 : decode cc (pc + 4) = .ok (.ldc is, 2)) (d6 : decode cc (pc + 6) = .ok (.invokespecial 93, 3)) (d9 : decode cc (pc + 9) = .ok (.athrow, 1)) :
    W p l e R s m args below meth c H locs cells slots Q (F0 m pc ls rest) := by
  subst hQ
  have hE := Z.2.2.2.2.2.2.2.1
  obtain ⟨sa, hstr⟩ := hE.2.2.2.2.1 _ hx
  exact zn_throwS (nb := prog_15_method_2_code) (sa := sa) (u := u) hst Z ht hP hD hS hls hw (by decide +kernel) (by decide +kernel) (by decide +kernel) (by decide +kernel) (by decide +kernel) kc_X5_89 ki_IOB hstr xg_IOB xb_IOB xo_IOB (hE.2.1 ("java/lang/IndexOutOfBoundsException", "java/lang/IndexOutOfBoundsException") (by decide +kernel)) hR d0 d3 d4 d6 d9
theorem thw_IOB {p : Program} {l : Launch} {e : Env} {R : Room} {s : State} {m : MethodId} {args : Array Value} {below : List Frame} {meth : Method} {c : Code} {H : Heap} {locs : List Loc} {cells slots : Nat} {cc : ByteArray} {pc nL is : Nat} {ls : Array Slot} {rest : List Value} {G : ZG} {A : Nat → Prop} {S : Type} {ws' : S → va_W} {ws : va_W} {Qc : Array Value → State → Outcome → State → Prop} {Q : State → Prop} (u : S) (text : String) (hst : l.stackTraces = false) (Z : ZCtx p s m args meth c G cc nL RX5 A) (ht : ∀ x ∈ c.exceptionTable.toList, False) (hP : va_P G.1 vwCl ws H) (hD : va_D A ws) (hS : va_S A s.heap H locs) (hls : ls.size = nL) (hw : ws = ws' u) (hx : (is, text) ∈ xStr)
    (hR : 5 < R.frames ∧ (rest.map fun v => v.category).sum + 82 ≤ R.locals ∧ cells + 1 ≤ R.cells ∧ slots + 6 ≤ R.slots) (hQ : Q = vx_MQ below Qc (vx_X (fun (_ : S) => True) (fun E' u t => E' = "java/lang/IndexOutOfBoundsException" ∧ PostW G (ws' u) A t) A) args s R.cells R.slots A)
    (d0 : decode cc pc = .ok (.new 89, 3)) (d3 : decode cc (pc + 3) = .ok (.dup, 1)) (d4 : decode cc (pc + 4) = .ok (.ldc_w is, 3)) (d6 : decode cc (pc + 7) = .ok (.invokespecial 93, 3)) (d9 : decode cc (pc + 10) = .ok (.athrow, 1)) :
    W p l e R s m args below meth c H locs cells slots Q (F0 m pc ls rest) := by
  subst hQ
  have hE := Z.2.2.2.2.2.2.2.1
  obtain ⟨sa, hstr⟩ := hE.2.2.2.2.1 _ hx
  exact zn_throwSW (nb := prog_15_method_2_code) (sa := sa) (u := u) hst Z ht hP hD hS hls hw (by decide +kernel) (by decide +kernel) (by decide +kernel) (by decide +kernel) (by decide +kernel) kc_X5_89 ki_IOB hstr xg_IOB xb_IOB xo_IOB (hE.2.1 ("java/lang/IndexOutOfBoundsException", "java/lang/IndexOutOfBoundsException") (by decide +kernel)) hR d0 d3 d4 d6 d9
theorem th_ARE {p : Program} {l : Launch} {e : Env} {R : Room} {s : State} {m : MethodId} {args : Array Value} {below : List Frame} {meth : Method} {c : Code} {H : Heap} {locs : List Loc} {cells slots : Nat} {cc : ByteArray} {pc nL is : Nat} {ls : Array Slot} {rest : List Value} {G : ZG} {A : Nat → Prop} {S : Type} {ws' : S → va_W} {ws : va_W} {Qc : Array Value → State → Outcome → State → Prop} {Q : State → Prop} (u : S) (text : String) (hst : l.stackTraces = false) (Z : ZCtx p s m args meth c G cc nL RX5 A) (ht : ∀ x ∈ c.exceptionTable.toList, False) (hP : va_P G.1 vwCl ws H) (hD : va_D A ws) (hS : va_S A s.heap H locs) (hls : ls.size = nL) (hw : ws = ws' u) (hx : (is, text) ∈ xStr)
    (hR : 5 < R.frames ∧ (rest.map fun v => v.category).sum + 82 ≤ R.locals ∧ cells + 1 ≤ R.cells ∧ slots + 6 ≤ R.slots) (hQ : Q = vx_MQ below Qc (vx_X (fun (_ : S) => True) (fun E' u t => E' = "java/lang/ArithmeticException" ∧ PostW G (ws' u) A t) A) args s R.cells R.slots A)
    (d0 : decode cc pc = .ok (.new 241, 3)) (d3 : decode cc (pc + 3) = .ok (.dup, 1)) (d4 : decode cc (pc + 4) = .ok (.ldc is, 2)) (d6 : decode cc (pc + 6) = .ok (.invokespecial 245, 3)) (d9 : decode cc (pc + 9) = .ok (.athrow, 1)) :
    W p l e R s m args below meth c H locs cells slots Q (F0 m pc ls rest) := by
  subst hQ
  have hE := Z.2.2.2.2.2.2.2.1
  obtain ⟨sa, hstr⟩ := hE.2.2.2.2.1 _ hx
  exact zn_throwS (nb := prog_10_method_2_code) (sa := sa) (u := u) hst Z ht hP hD hS hls hw (by decide +kernel) (by decide +kernel) (by decide +kernel) (by decide +kernel) (by decide +kernel) kc_X5_241 ki_ARE hstr xg_ARE xb_ARE xo_ARE (hE.2.1 ("java/lang/ArithmeticException", "java/lang/ArithmeticException") (by decide +kernel)) hR d0 d3 d4 d6 d9
theorem thw_ARE {p : Program} {l : Launch} {e : Env} {R : Room} {s : State} {m : MethodId} {args : Array Value} {below : List Frame} {meth : Method} {c : Code} {H : Heap} {locs : List Loc} {cells slots : Nat} {cc : ByteArray} {pc nL is : Nat} {ls : Array Slot} {rest : List Value} {G : ZG} {A : Nat → Prop} {S : Type} {ws' : S → va_W} {ws : va_W} {Qc : Array Value → State → Outcome → State → Prop} {Q : State → Prop} (u : S) (text : String) (hst : l.stackTraces = false) (Z : ZCtx p s m args meth c G cc nL RX5 A) (ht : ∀ x ∈ c.exceptionTable.toList, False) (hP : va_P G.1 vwCl ws H) (hD : va_D A ws) (hS : va_S A s.heap H locs) (hls : ls.size = nL) (hw : ws = ws' u) (hx : (is, text) ∈ xStr)
    (hR : 5 < R.frames ∧ (rest.map fun v => v.category).sum + 82 ≤ R.locals ∧ cells + 1 ≤ R.cells ∧ slots + 6 ≤ R.slots) (hQ : Q = vx_MQ below Qc (vx_X (fun (_ : S) => True) (fun E' u t => E' = "java/lang/ArithmeticException" ∧ PostW G (ws' u) A t) A) args s R.cells R.slots A)
    (d0 : decode cc pc = .ok (.new 241, 3)) (d3 : decode cc (pc + 3) = .ok (.dup, 1)) (d4 : decode cc (pc + 4) = .ok (.ldc_w is, 3)) (d6 : decode cc (pc + 7) = .ok (.invokespecial 245, 3)) (d9 : decode cc (pc + 10) = .ok (.athrow, 1)) :
    W p l e R s m args below meth c H locs cells slots Q (F0 m pc ls rest) := by
  subst hQ
  have hE := Z.2.2.2.2.2.2.2.1
  obtain ⟨sa, hstr⟩ := hE.2.2.2.2.1 _ hx
  exact zn_throwSW (nb := prog_10_method_2_code) (sa := sa) (u := u) hst Z ht hP hD hS hls hw (by decide +kernel) (by decide +kernel) (by decide +kernel) (by decide +kernel) (by decide +kernel) kc_X5_241 ki_ARE hstr xg_ARE xb_ARE xo_ARE (hE.2.1 ("java/lang/ArithmeticException", "java/lang/ArithmeticException") (by decide +kernel)) hR d0 d3 d4 d6 d9
theorem th_NSE {p : Program} {l : Launch} {e : Env} {R : Room} {s : State} {m : MethodId} {args : Array Value} {below : List Frame} {meth : Method} {c : Code} {H : Heap} {locs : List Loc} {cells slots : Nat} {cc : ByteArray} {pc nL is : Nat} {ls : Array Slot} {rest : List Value} {G : ZG} {A : Nat → Prop} {S : Type} {ws' : S → va_W} {ws : va_W} {Qc : Array Value → State → Outcome → State → Prop} {Q : State → Prop} (u : S) (text : String) (hst : l.stackTraces = false) (Z : ZCtx p s m args meth c G cc nL RX5 A) (ht : ∀ x ∈ c.exceptionTable.toList, False) (hP : va_P G.1 vwCl ws H) (hD : va_D A ws) (hS : va_S A s.heap H locs) (hls : ls.size = nL) (hw : ws = ws' u) (hx : (is, text) ∈ xStr)
    (hR : 5 < R.frames ∧ (rest.map fun v => v.category).sum + 82 ≤ R.locals ∧ cells + 1 ≤ R.cells ∧ slots + 6 ≤ R.slots) (hQ : Q = vx_MQ below Qc (vx_X (fun (_ : S) => True) (fun E' u t => E' = "java/util/NoSuchElementException" ∧ PostW G (ws' u) A t) A) args s R.cells R.slots A)
    (d0 : decode cc pc = .ok (.new 140, 3)) (d3 : decode cc (pc + 3) = .ok (.dup, 1)) (d4 : decode cc (pc + 4) = .ok (.ldc is, 2)) (d6 : decode cc (pc + 6) = .ok (.invokespecial 144, 3)) (d9 : decode cc (pc + 9) = .ok (.athrow, 1)) :
    W p l e R s m args below meth c H locs cells slots Q (F0 m pc ls rest) := by
  subst hQ
  have hE := Z.2.2.2.2.2.2.2.1
  obtain ⟨sa, hstr⟩ := hE.2.2.2.2.1 _ hx
  exact zn_throwS (nb := prog_21_method_4_code) (sa := sa) (u := u) hst Z ht hP hD hS hls hw (by decide +kernel) (by decide +kernel) (by decide +kernel) (by decide +kernel) (by decide +kernel) kc_X5_140 ki_NSE hstr xg_NSE xb_NSE xo_NSE (hE.2.1 ("java/util/NoSuchElementException", "java/util/NoSuchElementException") (by decide +kernel)) hR d0 d3 d4 d6 d9
theorem thw_NSE {p : Program} {l : Launch} {e : Env} {R : Room} {s : State} {m : MethodId} {args : Array Value} {below : List Frame} {meth : Method} {c : Code} {H : Heap} {locs : List Loc} {cells slots : Nat} {cc : ByteArray} {pc nL is : Nat} {ls : Array Slot} {rest : List Value} {G : ZG} {A : Nat → Prop} {S : Type} {ws' : S → va_W} {ws : va_W} {Qc : Array Value → State → Outcome → State → Prop} {Q : State → Prop} (u : S) (text : String) (hst : l.stackTraces = false) (Z : ZCtx p s m args meth c G cc nL RX5 A) (ht : ∀ x ∈ c.exceptionTable.toList, False) (hP : va_P G.1 vwCl ws H) (hD : va_D A ws) (hS : va_S A s.heap H locs) (hls : ls.size = nL) (hw : ws = ws' u) (hx : (is, text) ∈ xStr)
    (hR : 5 < R.frames ∧ (rest.map fun v => v.category).sum + 82 ≤ R.locals ∧ cells + 1 ≤ R.cells ∧ slots + 6 ≤ R.slots) (hQ : Q = vx_MQ below Qc (vx_X (fun (_ : S) => True) (fun E' u t => E' = "java/util/NoSuchElementException" ∧ PostW G (ws' u) A t) A) args s R.cells R.slots A)
    (d0 : decode cc pc = .ok (.new 140, 3)) (d3 : decode cc (pc + 3) = .ok (.dup, 1)) (d4 : decode cc (pc + 4) = .ok (.ldc_w is, 3)) (d6 : decode cc (pc + 7) = .ok (.invokespecial 144, 3)) (d9 : decode cc (pc + 10) = .ok (.athrow, 1)) :
    W p l e R s m args below meth c H locs cells slots Q (F0 m pc ls rest) := by
  subst hQ
  have hE := Z.2.2.2.2.2.2.2.1
  obtain ⟨sa, hstr⟩ := hE.2.2.2.2.1 _ hx
  exact zn_throwSW (nb := prog_21_method_4_code) (sa := sa) (u := u) hst Z ht hP hD hS hls hw (by decide +kernel) (by decide +kernel) (by decide +kernel) (by decide +kernel) (by decide +kernel) kc_X5_140 ki_NSE hstr xg_NSE xb_NSE xo_NSE (hE.2.1 ("java/util/NoSuchElementException", "java/util/NoSuchElementException") (by decide +kernel)) hR d0 d3 d4 d6 d9
