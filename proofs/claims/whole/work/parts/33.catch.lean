/-! worlds taken apart and put together; a call that throws, and the row that catches it -/
section ZCatch
theorem zP_l {D : va_G} {cl : List vw_C} {a b : va_W} {H : Heap} (h : va_P D cl (a ++ b) H) : va_P D cl a H := fun k q hk => h k q (by
  have hl : k < a.length := (List.getElem?_eq_some_iff.mp hk).1
  rw [List.getElem?_append_left hl]; exact hk)
theorem zP_r {D : va_G} {cl : List vw_C} {a b : va_W} {H : Heap} (h : va_P D cl (a ++ b) H) : va_P D cl b H := fun k q hk => h (a.length + k) q (by
  rw [List.getElem?_append_right (by omega), Nat.add_sub_cancel_left]; exact hk)
theorem zD_l {A : Nat → Prop} {a b : va_W} (h : va_D A (a ++ b)) : va_D A a := by
  have up : ∀ (k : Nat) (q : Nat × va_E), a[k]? = some q → (a ++ b)[k]? = some q := fun k q hk => by
    rw [List.getElem?_append_left (List.getElem?_eq_some_iff.mp hk).1]; exact hk
  exact ⟨fun i j p q hi hj he => h.1 i j p q (up i p hi) (up j q hj) he, fun k q hk => h.2 k q (up k q hk)⟩
theorem zD_r {A : Nat → Prop} {a b : va_W} (h : va_D A (a ++ b)) : va_D A b := by
  have up : ∀ (k : Nat) (q : Nat × va_E), b[k]? = some q → (a ++ b)[a.length + k]? = some q := fun k q hk => by
    rw [List.getElem?_append_right (by omega), Nat.add_sub_cancel_left]; exact hk
  exact ⟨fun i j p q hi hj he => by have := h.1 _ _ p q (up i p hi) (up j q hj) he; omega, fun k q hk => h.2 _ q (up k q hk)⟩
theorem zD_sep {A : Nat → Prop} {a b : va_W} (h : va_D A (a ++ b)) : zSep a b := fun i j p q hi hj he => by
  have h1 : (a ++ b)[i]? = some p := by rw [List.getElem?_append_left (List.getElem?_eq_some_iff.mp hi).1]; exact hi
  have h2 : (a ++ b)[a.length + j]? = some q := by rw [List.getElem?_append_right (by omega), Nat.add_sub_cancel_left]; exact hj
  have h3 := h.1 _ _ p q h1 h2 he
  have := (List.getElem?_eq_some_iff.mp hi).1
  omega
variable {p : Program} {l : Launch} {e : Env} {R : Room} {s : State} {m : MethodId} {args : Array Value} {below : List Frame} {meth : Method} {c : Code} {H : Heap} {locs : List Loc} {cells slots : Nat} {Q : State → Prop}
variable {cc : ByteArray} {pc nL : Nat} {ls : Array Slot} {rest st0 : List Value} {G : ZG} {own : String} {A : Nat → Prop} {ws w2 : va_W} {mc ms : Nat} {av : Array Value} {S : Type} {E name : String} {wx : S → va_W}
theorem zcatch (Z : ZCtx p s m args meth c G cc nL own A) (hP2 : va_P G.1 vwCl w2 H) (hs : zSep ws w2) (hD : va_D A ws) (hS : va_S A s.heap H locs)
    (hr : vx_Run p l e R s m args below meth c H locs cells slots mc ms (F0 m pc ls st0) rest (va_Qv (fun (_ : Unit) => False) (fun _ _ => True) (va_A ws H.size) av) (vx_X (fun (_ : S) => True) (fun E' u t => E' = E ∧ PostW G (wx u) (va_A ws H.size) t) (va_A ws H.size)) (va_A ws H.size))
    (pre : List ExceptionTableEntry) (x : ExceptionTableEntry) (suf : List ExceptionTableEntry) (hsplit : c.exceptionTable.toList = pre ++ x :: suf)
    (hpass : ∀ z ∈ pre, covers z pc = false ∨ (z.catchType ≠ 0 ∧ ∃ nm : String, Cond.classLink own z.catchType nm ∈ wAll ∧ (E, nm) ∈ xNot)) (hx : covers x pc = true) (h0 : x.catchType ≠ 0)
    (hlink : Cond.classLink own x.catchType name ∈ wAll) (hcast : (E, name) ∈ xCast)
    (kk : ∀ (u : S) (q9 : Addr) (H1 : Heap) (locs1 : List Loc), va_P G.1 vwCl (wx u) H1 → va_D A (wx u) → va_P G.1 vwCl w2 H1 → zSep (wx u) w2 → va_S A s.heap H1 locs1 → W p l e R s m args below meth c H1 locs1 (cells + mc) (slots + ms) Q (F0 m x.handlerPc ls [.ref q9])) :
    W p l e R s m args below meth c H locs cells slots Q (F0 m pc ls st0) := by
  have hf := zz_free hD hS Z.2.2.2.2.2.1
  have hE := Z.2.2.2.2.2.2.2.1
  have hW := Z.2.2.2.2.1
  refine vx_callv hr hS (fun q _ h => hf q h) hf (fun q _ h => hf q h) (fun E' ce q9 u t H1 locs1 ht1 hal _ hB hz hk hS1 hce hcv hcl => ?_) (fun u t H1 locs1 _ _ h _ _ _ _ => h.elim)
  obtain ⟨rfl, hP1, -, hD1⟩ := hB
  rw [ht1] at hP1
  obtain ⟨k1, k2⟩ := zkeep hP2 hs hk hD1
  refine vx_catch (own := own) (name := name) Z.2.2.2.1 pre x suf hsplit (fun z hz9 => ?_) hx h0 (hW _ hlink) (va_Nw.use rfl (hE.2.1 _ hcast)) hce hcv hcl (kk u q9 H1 locs1 hP1 (hD1.weaken (fun _ q _ h => hf q.1 h)) k1 k2 hS1)
  rcases hpass z hz9 with h | ⟨h, nm, h2, h3⟩
  · exact Or.inl h
  · exact Or.inr ⟨h, nm, hW _ h2, hE.2.2.2.1 _ h3⟩
end ZCatch
