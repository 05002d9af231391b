/-! rows for the law's own walk -/
section ZSelf
theorem lg_cmp_self (x : Int64) : lg_cmp x x = 0 := by
  unfold lg_cmp
  rw [if_neg (fun h => by rw [gt_iff_lt, Int64.lt_iff_toInt_lt] at h; omega), if_pos rfl]
theorem zo_self (d : FP.Core.Datum) (h : d ≠ .nan) : FP.Core.order d d = some .eq := by
  have hc : ∀ i : Int, compare i i = Ordering.eq := fun i => by simp [compare, compareOfLessAndEq]
  cases d with
  | nan => exact absurd rfl h
  | inf s => exact congrArg some (hc _)
  | fin s c q => exact congrArg some (hc _)
theorem zd_nn {x : UInt64} (h : vf_n64 x) : FP.Core.decode FP.Core.b64 x.toNat ≠ .nan := by
  unfold vf_n64 at h
  rw [UInt64.le_iff_toNat_le, UInt64.toNat_and] at h
  have h1 : x.toNat &&& (0x7fffffffffffffff : UInt64).toNat = x.toNat % 2 ^ 63 := Nat.and_two_pow_sub_one_eq_mod x.toNat 63
  rw [h1] at h
  have h2 : x.toNat % 9223372036854775808 ≤ 9218868437227405312 := h
  have hT : FP.Core.fieldT FP.Core.b64 x.toNat = x.toNat % 4503599627370496 := rfl
  have hE : FP.Core.fieldE FP.Core.b64 x.toNat = x.toNat / 4503599627370496 % 2048 := rfl
  have hX : FP.Core.b64.exps - 1 = 2047 := rfl
  unfold FP.Core.decode
  rw [hT, hE, hX]
  split
  · split
    · intro z; cases z
    · omega
  · split
    · intro z; cases z
    · intro z; cases z
theorem zd_self {x : UInt64} (h : vf_n64 x) : Op.cmpValue (FP.dcmp x x) CmpOp.l = 0 := by
  have h1 : FP.dcmp x x = some .eq := zo_self _ (zd_nn h)
  rw [h1]
  rfl
end ZSelf
section ZLawRows
variable {p : Program} {l : Launch} {e : Env} {s : State} {m : MethodId} {below : List Frame} {meth : Method} {c : Code} {H : Heap} {locs : List Loc} {cells slots : Nat} {Q : State → Prop}
variable {pc b L : Nat} {xs : Nat → Int32} {ls : Array Slot} {rest : List Value} {G : ZG}
abbrev lwA (s : State) : Nat → Prop := fun q => s.heap.size ≤ q
abbrev lwLong (x y : Int32) : Int64 := (x.toInt64 <<< ((zI (32 : Int)).toInt64 &&& 63)) ||| (y.toInt64 &&& 4294967295)
/-- what stays through the law's loop -/
def LC (p : Program) (l : Launch) (s : State) (m : MethodId) (meth : Method) (c : Code) (G : ZG) (b L : Nat) (xs : Nat → Int32) : Prop :=
  ZCtx p s m #[.ref b] meth c G cL_law 9 RL (lwA s) ∧ l.stackTraces = false ∧ va_X b L xs s s.heap ∧ b < s.heap.size ∧ L ≤ 4096
theorem zs_ld (C : LC p l s m meth c G b L xs) (hS : va_S (lwA s) s.heap H locs) {e9 : Int} (k : Nat) (he : e9 = (k : Int)) (hk : k < L) (hdg : decode cL_law pc = .ok (.iaload, 1))
    (kk : W p l e room_1 s m #[.ref b] below meth c H locs cells slots Q (F0 m (pc + 1) ls (.int (xs k) :: rest))) : W p l e room_1 s m #[.ref b] below meth c H locs cells slots Q (F0 m pc ls (.int (zI e9) :: .ref b :: rest)) := by
  subst he
  obtain ⟨Z, -, hX, hbl, hL⟩ := C
  refine va_sld (A := lwA s) Z.1 Z.2.1 hX hbl (Nat.not_le.mpr hbl) hS (zI_in rfl hk (by omega)) hdg ?_
  have h9 : (zI (k : Int)).toNatClampNeg = k := by rw [zI_clamp ⟨by omega, by omega⟩]; exact Int.toNat_natCast k
  rw [h9]
  exact kk
theorem ldD {cc : ByteArray} {nL : Nat} {own : String} {A : Nat → Prop} {ws : va_W} {args : Array Value} {R : Room} {a N : Nat} {e9 : Int} (Z : ZCtx p s m args meth c G cc nL own A) (hP : va_P G.1 vwCl ws H) (q0 : Nat) (f : Nat → UInt64) (ha : ws[q0]? = some (aD G a N f)) (k : Nat) (he : e9 = (k : Int)) (hk : k < N) (hN : N ≤ 100000) (hdg : decode cc pc = .ok (.daload, 1))
    (kk : W p l e R s m args below meth c H locs cells slots Q (F0 m (pc + 1) ls (.double (f k) :: rest))) : W p l e R s m args below meth c H locs cells slots Q (F0 m pc ls (.int (zI e9) :: .ref a :: rest)) := by
  subst he
  refine va_dald Z.1 Z.2.1 Z.2.2.2.2.2.2.1 hP q0 2 ha rfl (zI_in rfl hk hN) hdg ?_
  have h9 : (zI (k : Int)).toNatClampNeg = k := by rw [zI_clamp ⟨by omega, by omega⟩]; exact Int.toNat_natCast k
  rw [h9]
  exact kk
/-- how the law goes on behind a call -/
abbrev LK (p : Program) (l : Launch) (e : Env) (s : State) (m : MethodId) (below : List Frame) (meth : Method) (c : Code) (cells slots : Nat) (Q : State → Prop) (G : ZG) (b : Nat) (q1 q2 : Nat → Nat) (oa od n i : Nat) : Prop :=
  ∀ (σ τ : St) (κ : KC) (f : Nat → Int64) (μ : KM) (g : Nat → UInt64) (H : Heap) (locs : List Loc) (ls : Array Slot), Inv (n + 1) σ τ → LW G (lwA s) q1 q2 oa od σ κ f τ μ g H → va_S (lwA s) s.heap H locs → lv_has ls 9 [(5, .int (zI ((i : Nat) : Int))), (0, .ref b), (1, .ref (q1 0)), (2, .ref (q2 0)), (3, .ref oa), (4, .ref od)] →
    W p l e room_1 s m #[.ref b] below meth c H locs (cells + 1) (slots + 6) Q (F0 m 2607 ls [])
theorem lw_thr {q : Nat → Nat} {τ : St} {μ : KM} {k : Int} (hk : μ.1 = k) : CIv l G 0 0 yX6_thrown (wY yX6_thrown cX6_thrown 1 (some .int)) (wM G q τ μ) [.ref (q 0)] (fun r (_ : KM) => r = zI k) (fun u => wM G q τ u) :=
  ⟨r_X6_thrown, Unit, _, _, ⟨Nat.le_of_ble_eq_true rfl, Nat.le_of_ble_eq_true rfl, Nat.le_of_ble_eq_true rfl, Nat.le_of_ble_eq_true rfl⟩, m_X6_thrown l G q τ μ, fun _ _ hr => ⟨μ, by rw [← hk]; exact hr, rfl⟩⟩
end ZLawRows
