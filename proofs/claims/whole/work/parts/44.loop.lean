/-! the law's loop -/
section ZLoop
theorem zr_newD {p : Program} {l : Launch} {e : Env} {R : Room} {s : State} {m : MethodId} {args : Array Value} {below : List Frame} {meth : Method} {c : Code} {H : Heap} {locs : List Loc} {cells slots : Nat} {Q : State → Prop} {cc : ByteArray} {pc nL : Nat} {ls : Array Slot} {rest : List Value} {G : ZG} {own : String} {A : Nat → Prop} {ws : va_W} {N : Nat} {e9 : Int} (Z : ZCtx p s m args meth c G cc nL own A) (hP : va_P G.1 vwCl ws H) (hD : va_D A ws) (hS : va_S A s.heap H locs) (hl : Cond.arrayClass .double ∈ wAll) (he : e9 = (N : Int)) (hN : N ≤ 100000) (hcells : cells + 1 ≤ R.cells) (hslots : slots + N ≤ R.slots) (hdg : decode cc pc = .ok (.newarray .double, 2))
    (kk : ∀ (qa : Nat) (H1 : Heap), va_P G.1 vwCl (ws ++ [aD G qa N (fun _ => 0)]) H1 → va_D A (ws ++ [aD G qa N (fun _ => 0)]) → va_S A s.heap H1 locs → W p l e R s m args below meth c H1 locs (cells + 1) (slots + N) Q (F0 m (pc + 2) ls (.ref qa :: rest))) :
    W p l e R s m args below meth c H locs cells slots Q (F0 m pc ls (.int (zI e9) :: rest)) := by
  subst he
  have hcl : (zI (N : Int)).toNatClampNeg = N := by rw [zI_clamp ⟨by omega, by omega⟩]; exact Int.toNat_natCast N
  refine va_newa (atype := .double) (ty := .double) (N' := N) (a0 := (N, .inr (.inr (.inr (.inl (fun _ => 0)))))) Z.1 Z.2.1 (Z.2.2.2.2.1 _ hl) rfl Z.2.2.2.2.2.2.1 hP hD hS Z.2.2.2.2.2.1 (fun cA => rfl) (fun h => ?_) hcl (by show N * 8 ≤ _; omega) hcells hslots hdg (fun qa cA H1 hK hP1 hD1 hS1 => ?_)
  · rw [Int32.lt_iff_toInt_lt, zI_toInt (by omega)] at h
    have h9 : (0 : Int32).toInt = 0 := rfl
    omega
  · have k0 := (hK.2 2 (G.2.2.2, .double) rfl).2
    have k3 := (hK.2 3 (cA, .double) rfl).2
    have hc : cA = G.2.2.2 := Option.some.inj ((show s.vm.findClass ("[" ++ (FieldType.double).toString) = some cA from k3).symm.trans k0)
    subst hc
    exact kk qa H1 hP1 hD1 hS1
set_option maxHeartbeats 4000000 in
set_option maxRecDepth 100000 in
theorem lw_loop {p : Program} {l : Launch} {e : Env} {s : State} {m : MethodId} {below : List Frame} {meth : Method} {c : Code} {b L : Nat} {xs : Nat → Int32} {G : ZG} (C : LC p l s m meth c G b L xs) (hr : meth.sig.returnType = ret) {q1 q2 : Nat → Nat} {oa od K0 S0 : Nat} (hK0 : K0 ≤ 1000) (hS0 : S0 ≤ 100000) :
    ∀ (d j : Nat), L < 8 * (j + d) → 8 * j ≤ L → ∀ (σ τ : St) (κ : KC) (f : Nat → Int64) (μ : KM) (g : Nat → UInt64) (H : Heap) (locs : List Loc) (ls : Array Slot), Inv j σ τ → LW G (lwA s) q1 q2 oa od σ κ f τ μ g H → va_S (lwA s) s.heap H locs → lv_has ls 9 [(5, .int (zI ((8 * j : Nat) : Int))), (0, .ref b), (1, .ref (q1 0)), (2, .ref (q2 0)), (3, .ref oa), (4, .ref od)] →
    W p l e room_1 s m #[.ref b] below meth c H locs (K0 + j) (S0 + 6 * j) (lw_Z below #[.ref b] s) (F0 m 28 ls []) := by
  have Z := C.1
  have hx := Z.1
  have hb := Z.2.1
  have hX := C.2.2.1
  have hbl := C.2.2.2.1
  have hL := C.2.2.2.2
  intro d
  induction d with
  | zero =>
    intro j h1 h2
    omega
  | succ d ih =>
    intro j h1 h2 σ τ κ f μ g H locs ls hi hW hS hl
    refine lv_iload hx hb dL_law_28 (lv_at hl 0 rfl) ?_
    refine lv_aload_n hx hb dL_law_30 rfl (lv_at hl 1 rfl) ?_
    refine va_slen (A := lwA s) hx hb hX hbl (Nat.not_le.mpr hbl) hS dL_law_31 ?_
    refine zr_top (w := .int (zI (L : Int))) (congrArg Value.int (zI_nat L)) ?_
    refine zr_bipush (n := 8) hx hb dL_law_32 (by decide +kernel) ?_
    refine zr_isub hx hb dL_law_34 ?_
    refine zc_gt (tgt := 2613) hx hb ((8 * j : Nat) : Int) ((L : Int) - 8) (zI_toInt ⟨by omega, by omega⟩) (zI_toInt ⟨by omega, by omega⟩) dL_law_35 (by decide) (fun h9 => ?_) (fun h9 => ?_)
    · refine lv_iconst (v := 1) hx hb dL_law_2613 (by decide) ?_
      refine va_forget (fun q hq => hS.2.2 q hq) ?_
      refine W.widen (k := 3155) (n := 131138) (by omega) (by omega) ?_
      refine W.base ?_
      exact lw_ret (Drawn.sameBut.refl s.drawn lw_cs) hx hb hr Z.2.2.2.2.2.2.2.2 dL_law_2614
    · have hj : 8 * j + 8 ≤ L := by omega
      have hn : j < 600 := by omega
      have hR : K0 + j + 1 ≤ room_1.cells ∧ S0 + 6 * j + 6 ≤ room_1.slots := ⟨show K0 + j + 1 ≤ 3155 by omega, show S0 + 6 * j + 6 ≤ 131138 by omega⟩
      have kk : LK p l e s m below meth c (K0 + j) (S0 + 6 * j) (lw_Z below #[.ref b] s) G b q1 q2 oa od j (8 * j) := by
        intro σ' τ' κ' f' μ' g' H' locs' ls' hi' hW' hS' hl'
        refine zr_iinc (n := 8) (lv' := [(5, .int (zI (((8 * j : Nat) : Int) + 8))), (0, .ref b), (1, .ref (q1 0)), (2, .ref (q2 0)), (3, .ref oa), (4, .ref od)]) hx hb 0 dL_law_2607 hl' rfl (by decide) rfl (fun ls2 hl2 => ?_)
        refine lv_goto (tgt := 28) hx hb dL_law_2610 (by decide) ?_
        refine W.widen (k := K0 + (j + 1)) (n := S0 + 6 * (j + 1)) (by omega) (by omega) ?_
        rw [show ((8 * j : Nat) : Int) + 8 = ((8 * (j + 1) : Nat) : Int) by omega] at hl2
        exact ih (j + 1) (by omega) (by omega) σ' τ' κ' f' μ' g' H' locs' ls2 hi' hW' hS' hl2
      refine lv_aload_n hx hb dL_law_38 rfl (lv_at hl 1 rfl) ?_
      refine lv_iload hx hb dL_law_39 (lv_at hl 0 rfl) ?_
      refine zs_ld C hS (8 * j) rfl (by omega) dL_law_41 ?_
      refine zr_bipush (n := 63) hx hb dL_law_42 (by decide +kernel) ?_
      refine lv_iand hx hb dL_law_44 ?_
      generalize xs (8 * j) &&& zI (63 : Int) = v
      by_cases ht : v.toInt < 0 ∨ 36 < v.toInt
      · refine lv_tableOut (tgt := 2607) hx hb dL_law_45 ht (by decide) ?_
        refine W.widen (show K0 + j ≤ K0 + j + 1 by omega) (show S0 + 6 * j ≤ S0 + 6 * j + 6 by omega) ?_
        exact kk σ τ κ f μ g H locs ls hi.mono hW hS hl
      · obtain ⟨t, ht1⟩ : ∃ t : Nat, v.toInt = (t : Int) := ⟨v.toInt.toNat, by omega⟩
        have ht2 : t ≤ 36 := by omega
        rcases (show t = 0 ∨ t = 1 ∨ t = 2 ∨ t = 3 ∨ t = 4 ∨ t = 5 ∨ t = 6 ∨ t = 7 ∨ t = 8 ∨ t = 9 ∨ t = 10 ∨ t = 11 ∨ t = 12 ∨ t = 13 ∨ t = 14 ∨ t = 15 ∨ t = 16 ∨ t = 17 ∨ t = 18 ∨ t = 19 ∨ t = 20 ∨ t = 21 ∨ t = 22 ∨ t = 23 ∨ t = 24 ∨ t = 25 ∨ t = 26 ∨ t = 27 ∨ t = 28 ∨ t = 29 ∨ t = 30 ∨ t = 31 ∨ t = 32 ∨ t = 33 ∨ t = 34 ∨ t = 35 ∨ t = 36 by omega) with rfl | rfl | rfl | rfl | rfl | rfl | rfl | rfl | rfl | rfl | rfl | rfl | rfl | rfl | rfl | rfl | rfl | rfl | rfl | rfl | rfl | rfl | rfl | rfl | rfl | rfl | rfl | rfl | rfl | rfl | rfl | rfl | rfl | rfl | rfl | rfl | rfl
        · exact lv_tableIn (off := 163) (tgt := 208) hx hb dL_law_45 (by rw [ht1]; decide) (by rw [ht1]; decide) (by rw [ht1]; rfl) (by decide) (lw_c0 C hn hj hi hW hS hl hR kk)
        · exact lv_tableIn (off := 219) (tgt := 264) hx hb dL_law_45 (by rw [ht1]; decide) (by rw [ht1]; decide) (by rw [ht1]; rfl) (by decide) (lw_c1 C hn hj hi hW hS hl hR kk)
        · exact lv_tableIn (off := 232) (tgt := 277) hx hb dL_law_45 (by rw [ht1]; decide) (by rw [ht1]; decide) (by rw [ht1]; rfl) (by decide) (lw_c2 C hn hj hi hW hS hl hR kk)
        · exact lv_tableIn (off := 288) (tgt := 333) hx hb dL_law_45 (by rw [ht1]; decide) (by rw [ht1]; decide) (by rw [ht1]; rfl) (by decide) (lw_c3 C hn hj hi hW hS hl hR kk)
        · exact lv_tableIn (off := 344) (tgt := 389) hx hb dL_law_45 (by rw [ht1]; decide) (by rw [ht1]; decide) (by rw [ht1]; rfl) (by decide) (lw_c4 C hn hj hi hW hS hl hR kk)
        · exact lv_tableIn (off := 476) (tgt := 521) hx hb dL_law_45 (by rw [ht1]; decide) (by rw [ht1]; decide) (by rw [ht1]; rfl) (by decide) (lw_c5 C hn hj hi hW hS hl hR kk)
        · exact lv_tableIn (off := 520) (tgt := 565) hx hb dL_law_45 (by rw [ht1]; decide) (by rw [ht1]; decide) (by rw [ht1]; rfl) (by decide) (lw_c6 C hn hj hi hW hS hl hR kk)
        · exact lv_tableIn (off := 658) (tgt := 703) hx hb dL_law_45 (by rw [ht1]; decide) (by rw [ht1]; decide) (by rw [ht1]; rfl) (by decide) (lw_c7 C hn hj hi hW hS hl hR kk)
        · exact lv_tableIn (off := 671) (tgt := 716) hx hb dL_law_45 (by rw [ht1]; decide) (by rw [ht1]; decide) (by rw [ht1]; rfl) (by decide) (lw_c8 C hn hj hi hW hS hl hR kk)
        · exact lv_tableIn (off := 739) (tgt := 784) hx hb dL_law_45 (by rw [ht1]; decide) (by rw [ht1]; decide) (by rw [ht1]; rfl) (by decide) (lw_c9 C hn hj hi hW hS hl hR kk)
        · exact lv_tableIn (off := 795) (tgt := 840) hx hb dL_law_45 (by rw [ht1]; decide) (by rw [ht1]; decide) (by rw [ht1]; rfl) (by decide) (lw_c10 C hn hj hi hW hS hl hR kk)
        · exact lv_tableIn (off := 862) (tgt := 907) hx hb dL_law_45 (by rw [ht1]; decide) (by rw [ht1]; decide) (by rw [ht1]; rfl) (by decide) (lw_c11 C hn hj hi hW hS hl hR kk)
        · exact lv_tableIn (off := 918) (tgt := 963) hx hb dL_law_45 (by rw [ht1]; decide) (by rw [ht1]; decide) (by rw [ht1]; rfl) (by decide) (lw_c12 C hn hj hi hW hS hl hR kk)
        · exact lv_tableIn (off := 974) (tgt := 1019) hx hb dL_law_45 (by rw [ht1]; decide) (by rw [ht1]; decide) (by rw [ht1]; rfl) (by decide) (lw_c13 C hn hj hi hW hS hl hR kk)
        · exact lv_tableIn (off := 1030) (tgt := 1075) hx hb dL_law_45 (by rw [ht1]; decide) (by rw [ht1]; decide) (by rw [ht1]; rfl) (by decide) (lw_c14 C hn hj hi hW hS hl hR kk)
        · exact lv_tableIn (off := 1086) (tgt := 1131) hx hb dL_law_45 (by rw [ht1]; decide) (by rw [ht1]; decide) (by rw [ht1]; rfl) (by decide) (lw_c15 C hn hj hi hW hS hl hR kk)
        · exact lv_tableIn (off := 1258) (tgt := 1303) hx hb dL_law_45 (by rw [ht1]; decide) (by rw [ht1]; decide) (by rw [ht1]; rfl) (by decide) (lw_c16 C hn hj hi hW hS hl hR kk)
        · exact lv_tableIn (off := 1314) (tgt := 1359) hx hb dL_law_45 (by rw [ht1]; decide) (by rw [ht1]; decide) (by rw [ht1]; rfl) (by decide) (lw_c17 C hn hj hi hW hS hl hR kk)
        · exact lv_tableIn (off := 1370) (tgt := 1415) hx hb dL_law_45 (by rw [ht1]; decide) (by rw [ht1]; decide) (by rw [ht1]; rfl) (by decide) (lw_c18 C hn hj hi hW hS hl hR kk)
        · exact lv_tableIn (off := 1433) (tgt := 1478) hx hb dL_law_45 (by rw [ht1]; decide) (by rw [ht1]; decide) (by rw [ht1]; rfl) (by decide) (lw_c19 C hn hj hi hW hS hl hR kk)
        · exact lv_tableIn (off := 1489) (tgt := 1534) hx hb dL_law_45 (by rw [ht1]; decide) (by rw [ht1]; decide) (by rw [ht1]; rfl) (by decide) (lw_c20 C hn hj hi hW hS hl hR kk)
        · exact lv_tableIn (off := 1557) (tgt := 1602) hx hb dL_law_45 (by rw [ht1]; decide) (by rw [ht1]; decide) (by rw [ht1]; rfl) (by decide) (lw_c21 C hn hj hi hW hS hl hR kk)
        · exact lv_tableIn (off := 1613) (tgt := 1658) hx hb dL_law_45 (by rw [ht1]; decide) (by rw [ht1]; decide) (by rw [ht1]; rfl) (by decide) (lw_c22 C hn hj hi hW hS hl hR kk)
        · exact lv_tableIn (off := 1681) (tgt := 1726) hx hb dL_law_45 (by rw [ht1]; decide) (by rw [ht1]; decide) (by rw [ht1]; rfl) (by decide) (lw_c23 C hn hj hi hW hS hl hR kk)
        · exact lv_tableIn (off := 1749) (tgt := 1794) hx hb dL_law_45 (by rw [ht1]; decide) (by rw [ht1]; decide) (by rw [ht1]; rfl) (by decide) (lw_c24 C hn hj hi hW hS hl hR kk)
        · exact lv_tableIn (off := 1817) (tgt := 1862) hx hb dL_law_45 (by rw [ht1]; decide) (by rw [ht1]; decide) (by rw [ht1]; rfl) (by decide) (lw_c25 C hn hj hi hW hS hl hR kk)
        · exact lv_tableIn (off := 1873) (tgt := 1918) hx hb dL_law_45 (by rw [ht1]; decide) (by rw [ht1]; decide) (by rw [ht1]; rfl) (by decide) (lw_c26 C hn hj hi hW hS hl hR kk)
        · exact lv_tableIn (off := 1929) (tgt := 1974) hx hb dL_law_45 (by rw [ht1]; decide) (by rw [ht1]; decide) (by rw [ht1]; rfl) (by decide) (lw_c27 C hn hj hi hW hS hl hR kk)
        · exact lv_tableIn (off := 2007) (tgt := 2052) hx hb dL_law_45 (by rw [ht1]; decide) (by rw [ht1]; decide) (by rw [ht1]; rfl) (by decide) (lw_c28 C hn hj hi hW hS hl hR kk)
        · exact lv_tableIn (off := 2051) (tgt := 2096) hx hb dL_law_45 (by rw [ht1]; decide) (by rw [ht1]; decide) (by rw [ht1]; rfl) (by decide) (lw_c29 C hn hj hi hW hS hl hR kk)
        · exact lv_tableIn (off := 2154) (tgt := 2199) hx hb dL_law_45 (by rw [ht1]; decide) (by rw [ht1]; decide) (by rw [ht1]; rfl) (by decide) (lw_c30 C hn hj hi hW hS hl hR kk)
        · exact lv_tableIn (off := 2222) (tgt := 2267) hx hb dL_law_45 (by rw [ht1]; decide) (by rw [ht1]; decide) (by rw [ht1]; rfl) (by decide) (lw_c31 C hn hj hi hW hS hl hR kk)
        · exact lv_tableIn (off := 2278) (tgt := 2323) hx hb dL_law_45 (by rw [ht1]; decide) (by rw [ht1]; decide) (by rw [ht1]; rfl) (by decide) (lw_c32 C hn hj hi hW hS hl hR kk)
        · exact lv_tableIn (off := 2341) (tgt := 2386) hx hb dL_law_45 (by rw [ht1]; decide) (by rw [ht1]; decide) (by rw [ht1]; rfl) (by decide) (lw_c33 C hn hj hi hW hS hl hR kk)
        · exact lv_tableIn (off := 2416) (tgt := 2461) hx hb dL_law_45 (by rw [ht1]; decide) (by rw [ht1]; decide) (by rw [ht1]; rfl) (by decide) (lw_c34 C hn hj hi hW hS hl hR kk)
        · exact lv_tableIn (off := 2484) (tgt := 2529) hx hb dL_law_45 (by rw [ht1]; decide) (by rw [ht1]; decide) (by rw [ht1]; rfl) (by decide) (lw_c35 C hn hj hi hW hS hl hR kk)
        · exact lv_tableIn (off := 2549) (tgt := 2594) hx hb dL_law_45 (by rw [ht1]; decide) (by rw [ht1]; decide) (by rw [ht1]; rfl) (by decide) (lw_c36 C hn hj hi hW hS hl hR kk)
end ZLoop
