/-! new rows in a world: their class is the one that the frame knows -/
section ZAlloc
variable {p : Program} {l : Launch} {e : Env} {R : Room} {s : State} {m : MethodId} {args : Array Value} {below : List Frame} {meth : Method} {c : Code} {H : Heap} {locs : List Loc} {cells slots : Nat} {Q : State → Prop}
variable {cc : ByteArray} {pc nL : Nat} {ls : Array Slot} {rest : List Value} {G : ZG} {own : String} {A : Nat → Prop} {ws : va_W}
theorem zr_newI {N : Nat} {e9 : Int} (Z : ZCtx p s m args meth c G cc nL own A) (hP : va_P G.1 vwCl ws H) (hD : va_D A ws) (hS : va_S A s.heap H locs) (hl : Cond.arrayClass .int ∈ wAll) (he : e9 = (N : Int)) (hN : N ≤ 100000) (hcells : cells + 1 ≤ R.cells) (hslots : slots + N ≤ R.slots) (hdg : decode cc pc = .ok (.newarray .int, 2))
    (kk : ∀ (qa : Nat) (H1 : Heap), va_P G.1 vwCl (ws ++ [aN G qa N (fun _ => 0)]) H1 → va_D A (ws ++ [aN G qa N (fun _ => 0)]) → va_S A s.heap H1 locs → W p l e R s m args below meth c H1 locs (cells + 1) (slots + N) Q (F0 m (pc + 2) ls (.ref qa :: rest))) :
    W p l e R s m args below meth c H locs cells slots Q (F0 m pc ls (.int (zI e9) :: rest)) := by
  subst he
  have hcl : (zI (N : Int)).toNatClampNeg = N := by rw [zI_clamp ⟨by omega, by omega⟩]; exact Int.toNat_natCast N
  refine va_newa (atype := .int) (ty := .int) (N' := N) (a0 := (N, .inl (fun _ => zI 0))) Z.1 Z.2.1 (Z.2.2.2.2.1 _ hl) rfl Z.2.2.2.2.2.2.1 hP hD hS Z.2.2.2.2.2.1 (fun cA => rfl) (fun h => ?_) hcl (by show N * 4 ≤ _; omega) hcells hslots hdg (fun qa cA H1 hK hP1 hD1 hS1 => ?_)
  · rw [Int32.lt_iff_toInt_lt, zI_toInt (by omega)] at h
    have h9 : (0 : Int32).toInt = 0 := rfl
    omega
  · have k0 := (hK.2 0 (G.2.1, .int) rfl).2
    have k3 := (hK.2 3 (cA, .int) rfl).2
    have hc : cA = G.2.1 := Option.some.inj ((show s.vm.findClass ("[" ++ (FieldType.int).toString) = some cA from k3).symm.trans k0)
    subst hc
    exact kk qa H1 hP1 hD1 hS1
theorem zr_newL {N : Nat} {e9 : Int} (Z : ZCtx p s m args meth c G cc nL own A) (hP : va_P G.1 vwCl ws H) (hD : va_D A ws) (hS : va_S A s.heap H locs) (hl : Cond.arrayClass .long ∈ wAll) (he : e9 = (N : Int)) (hN : N ≤ 100000) (hcells : cells + 1 ≤ R.cells) (hslots : slots + N ≤ R.slots) (hdg : decode cc pc = .ok (.newarray .long, 2))
    (kk : ∀ (qa : Nat) (H1 : Heap), va_P G.1 vwCl (ws ++ [aL G qa N (fun _ => 0)]) H1 → va_D A (ws ++ [aL G qa N (fun _ => 0)]) → va_S A s.heap H1 locs → W p l e R s m args below meth c H1 locs (cells + 1) (slots + N) Q (F0 m (pc + 2) ls (.ref qa :: rest))) :
    W p l e R s m args below meth c H locs cells slots Q (F0 m pc ls (.int (zI e9) :: rest)) := by
  subst he
  have hcl : (zI (N : Int)).toNatClampNeg = N := by rw [zI_clamp ⟨by omega, by omega⟩]; exact Int.toNat_natCast N
  refine va_newa (atype := .long) (ty := .long) (N' := N) (a0 := (N, .inr (.inl (fun _ => 0)))) Z.1 Z.2.1 (Z.2.2.2.2.1 _ hl) rfl Z.2.2.2.2.2.2.1 hP hD hS Z.2.2.2.2.2.1 (fun cA => rfl) (fun h => ?_) hcl (by show N * 8 ≤ _; omega) hcells hslots hdg (fun qa cA H1 hK hP1 hD1 hS1 => ?_)
  · rw [Int32.lt_iff_toInt_lt, zI_toInt (by omega)] at h
    have h9 : (0 : Int32).toInt = 0 := rfl
    omega
  · have k0 := (hK.2 1 (G.2.2.1, .long) rfl).2
    have k3 := (hK.2 3 (cA, .long) rfl).2
    have hc : cA = G.2.2.1 := Option.some.inj ((show s.vm.findClass ("[" ++ (FieldType.long).toString) = some cA from k3).symm.trans k0)
    subst hc
    exact kk qa H1 hP1 hD1 hS1
end ZAlloc
