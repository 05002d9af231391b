/-! Long.bitCount's steps -/
section ZPop
def us (x : Int64) (k : Nat) : Int64 := (x.toUInt64 >>> UInt64.ofNat k).toInt64
theorem sh_1 : ((zI 1).toInt64.toUInt64 &&& Int64.toUInt64 63) = UInt64.ofNat 1 := by decide
theorem sh_2 : ((zI 2).toInt64.toUInt64 &&& Int64.toUInt64 63) = UInt64.ofNat 2 := by decide
theorem sh_4 : ((zI 4).toInt64.toUInt64 &&& Int64.toUInt64 63) = UInt64.ofNat 4 := by decide
theorem sh_8 : ((zI 8).toInt64.toUInt64 &&& Int64.toUInt64 63) = UInt64.ofNat 8 := by decide
theorem sh_16 : ((zI 16).toInt64.toUInt64 &&& Int64.toUInt64 63) = UInt64.ofNat 16 := by decide
theorem sh_32 : ((zI 32).toInt64.toUInt64 &&& Int64.toUInt64 63) = UInt64.ofNat 32 := by decide
def bc1 (x : Int64) : Int64 := x - (us x 1 &&& 6148914691236517205)
def bc2 (x : Int64) : Int64 := (bc1 x &&& 3689348814741910323) + (us (bc1 x) 2 &&& 3689348814741910323)
def bc3 (x : Int64) : Int64 := (bc2 x + us (bc2 x) 4) &&& 1085102592571150095
def bc4 (x : Int64) : Int64 := bc3 x + us (bc3 x) 8
def bc5 (x : Int64) : Int64 := bc4 x + us (bc4 x) 16
def bc6 (x : Int64) : Int64 := bc5 x + us (bc5 x) 32
def T9 (x : Int64) : Nat := x.toBitVec.toNat
theorem T9_us (x : Int64) {k : Nat} (hk : k < 64) : T9 (us x k) = T9 x / 2 ^ k := by
  unfold T9 us
  show (x.toUInt64 >>> UInt64.ofNat k).toBitVec.toNat = _
  rw [UInt64.toBitVec_shiftRight, BitVec.ushiftRight_eq', BitVec.toNat_ushiftRight, Nat.shiftRight_eq_div_pow]
  have : ((UInt64.ofNat k).toBitVec % 64).toNat = k := by
    rw [BitVec.toNat_umod]
    show (k % 2 ^ 64) % 64 = k
    omega
  rw [this]; rfl
theorem T9_and (a b : Int64) : T9 (a &&& b) = T9 a &&& T9 b := by unfold T9; rw [Int64.toBitVec_and, BitVec.toNat_and]
theorem T9_lt (a : Int64) : T9 a < 18446744073709551616 := a.toBitVec.isLt
theorem T9_sub {a b : Int64} (h : T9 b ≤ T9 a) : T9 (a - b) = T9 a - T9 b := by
  have h1 := T9_lt a
  have h2 := T9_lt b
  unfold T9 at *
  rw [Int64.toBitVec_sub, BitVec.toNat_sub]
  omega
theorem T9_add {a b : Int64} (h : T9 a + T9 b < 18446744073709551616) : T9 (a + b) = T9 a + T9 b := by
  unfold T9 at *
  rw [Int64.toBitVec_add, BitVec.toNat_add]
  omega
theorem zp_and_l {a c : Nat} (A C : Nat) (ha : a < 256) (hc : c < 256) : (a + 256 * A) &&& (c + 256 * C) = (a &&& c) + 256 * (A &&& C) := by
  have hac : a &&& c < 256 := Nat.lt_of_le_of_lt Nat.and_le_left ha
  apply Nat.eq_of_testBit_eq
  intro i
  rw [Nat.testBit_and, Nat.add_comm a, Nat.add_comm c, Nat.add_comm (a &&& c)]
  rw [Nat.testBit_two_pow_mul_add (i := 8) A ha i, Nat.testBit_two_pow_mul_add (i := 8) C hc i, Nat.testBit_two_pow_mul_add (i := 8) (A &&& C) hac i]
  split <;> rw [Nat.testBit_and]
abbrev zp_mk8 (a b c d e f g h : Nat) : Nat := a + 256 * (b + 256 * (c + 256 * (d + 256 * (e + 256 * (f + 256 * (g + 256 * h))))))
theorem zp_and_8 {a b c d e f g h m : Nat} (h1 : a < 256) (h2 : b < 256) (h3 : c < 256) (h4 : d < 256) (h5 : e < 256) (h6 : f < 256) (h7 : g < 256) (hm : m < 256) :
    zp_mk8 a b c d e f g h &&& zp_mk8 m m m m m m m m = zp_mk8 (a &&& m) (b &&& m) (c &&& m) (d &&& m) (e &&& m) (f &&& m) (g &&& m) (h &&& m) := by
  unfold zp_mk8
  rw [zp_and_l _ _ h1 hm, zp_and_l _ _ h2 hm, zp_and_l _ _ h3 hm, zp_and_l _ _ h4 hm, zp_and_l _ _ h5 hm, zp_and_l _ _ h6 hm, zp_and_l _ _ h7 hm]
def zp_f1 (b : Nat) : Nat := b - ((b / 2) &&& 85)
def zp_f2 (b : Nat) : Nat := (b &&& 51) + ((b / 4) &&& 51)
def zp_f3 (b : Nat) : Nat := (b + b / 16) &&& 15
theorem zp_l1 {q r : Nat} (hq : q < 128) (hr : r < 2) : (q + 128 * r) &&& 85 = q &&& 85 := by
  have : ∀ q : Fin 128, ∀ r : Fin 2, (q.val + 128 * r.val) &&& 85 = q.val &&& 85 := by decide +kernel
  exact this ⟨q, hq⟩ ⟨r, hr⟩
theorem zp_l2 {q r : Nat} (hq : q < 64) (hr : r < 4) : (q + 64 * r) &&& 51 = q &&& 51 := by
  have : ∀ q : Fin 64, ∀ r : Fin 4, (q.val + 64 * r.val) &&& 51 = q.val &&& 51 := by decide +kernel
  exact this ⟨q, hq⟩ ⟨r, hr⟩
theorem zp_l3 {q r : Nat} (hq : q < 128) (hr : r < 8) : (q + 16 * r) &&& 15 = q &&& 15 := by
  have : ∀ q : Fin 128, ∀ r : Fin 8, (q.val + 16 * r.val) &&& 15 = q.val &&& 15 := by decide +kernel
  exact this ⟨q, hq⟩ ⟨r, hr⟩
theorem zp_fb {b : Nat} (h : b < 256) : ((b / 2) &&& 85) ≤ b ∧ zp_f1 b ≤ 170 ∧ zp_f2 (zp_f1 b) ≤ 68 ∧ zp_f2 (zp_f1 b) % 16 ≤ 4 ∧ zp_f3 (zp_f2 (zp_f1 b)) = cnt (fun k => b.testBit k) 8 ∧ cnt (fun k => b.testBit k) 8 ≤ 8 := by
  have : ∀ b : Fin 256, ((b.val / 2) &&& 85) ≤ b.val ∧ zp_f1 b.val ≤ 170 ∧ zp_f2 (zp_f1 b.val) ≤ 68 ∧ zp_f2 (zp_f1 b.val) % 16 ≤ 4 ∧ zp_f3 (zp_f2 (zp_f1 b.val)) = cnt (fun k => b.val.testBit k) 8 ∧ cnt (fun k => b.val.testBit k) 8 ≤ 8 := by decide +kernel
  exact this ⟨b, h⟩
theorem zp_cnt_add (p : Nat → Bool) (m : Nat) : ∀ n, cnt p (m + n) = cnt p m + cnt (fun k => p (m + k)) n
  | 0 => rfl
  | n + 1 => by
    show cnt p (m + n) + (if p (m + n) then 1 else 0) = cnt p m + (cnt (fun k => p (m + k)) n + if p (m + n) then 1 else 0)
    rw [zp_cnt_add p m n]; omega
theorem zp_cnt_c9 {p r : Nat → Bool} : ∀ {n}, (∀ k, k < n → p k = r k) → cnt p n = cnt r n
  | 0, _ => rfl
  | n + 1, h => by
    have ih := zp_cnt_c9 (n := n) (fun k hk => h k (by omega))
    unfold cnt
    rw [ih, h n (by omega)]
theorem zp_byte_bit (N j k : Nat) (hk : k < 8) : (N / 2 ^ j % 256).testBit k = N.testBit (j + k) := by
  rw [show (256 : Nat) = 2 ^ 8 from rfl, Nat.testBit_mod_two_pow, Nat.testBit_div_two_pow]
  simp [hk, Nat.add_comm]
theorem zp_cnt_64 (p : Nat → Bool) : cnt p 64 = cnt (fun k => p (0 + k)) 8 + cnt (fun k => p (8 + k)) 8 + cnt (fun k => p (16 + k)) 8 + cnt (fun k => p (24 + k)) 8 + cnt (fun k => p (32 + k)) 8 + cnt (fun k => p (40 + k)) 8 + cnt (fun k => p (48 + k)) 8 + cnt (fun k => p (56 + k)) 8 := by
  have e : ∀ n, cnt p (n + 8) = cnt p n + cnt (fun k => p (n + k)) 8 := fun n => zp_cnt_add p n 8
  have e0 : cnt p 8 = cnt (fun k => p (0 + k)) 8 := by
    simp [cnt]
  rw [show (64 : Nat) = 56 + 8 from rfl, e 56, show (56 : Nat) = 48 + 8 from rfl, e 48, show (48 : Nat) = 40 + 8 from rfl, e 40, show (40 : Nat) = 32 + 8 from rfl, e 32, show (32 : Nat) = 24 + 8 from rfl, e 24, show (24 : Nat) = 16 + 8 from rfl, e 16, show (16 : Nat) = 8 + 8 from rfl, e 8, e0]
theorem zp_popc_8 (x : Int64) : popc x = cnt (fun k => (T9 x / 2 ^ 0 % 256).testBit k) 8 + cnt (fun k => (T9 x / 2 ^ 8 % 256).testBit k) 8 + cnt (fun k => (T9 x / 2 ^ 16 % 256).testBit k) 8 + cnt (fun k => (T9 x / 2 ^ 24 % 256).testBit k) 8 + cnt (fun k => (T9 x / 2 ^ 32 % 256).testBit k) 8 + cnt (fun k => (T9 x / 2 ^ 40 % 256).testBit k) 8 + cnt (fun k => (T9 x / 2 ^ 48 % 256).testBit k) 8 + cnt (fun k => (T9 x / 2 ^ 56 % 256).testBit k) 8 := by
  have h : ∀ j, cnt (fun k => (T9 x / 2 ^ j % 256).testBit k) 8 = cnt (fun k => x.toBitVec.getLsbD (j + k)) 8 := fun j => zp_cnt_c9 (fun k hk => by rw [zp_byte_bit _ _ _ hk]; rfl)
  rw [h, h, h, h, h, h, h, h]
  exact zp_cnt_64 (fun k => x.toBitVec.getLsbD k)
theorem T9_bytes (N : Nat) (h : N < 18446744073709551616) : N = zp_mk8 (N / 2 ^ 0 % 256) (N / 2 ^ 8 % 256) (N / 2 ^ 16 % 256) (N / 2 ^ 24 % 256) (N / 2 ^ 32 % 256) (N / 2 ^ 40 % 256) (N / 2 ^ 48 % 256) (N / 2 ^ 56 % 256) := by
  unfold zp_mk8
  omega
/-- the three inner steps, byte by byte -/
theorem zp_bc_1 {x : Int64} {a b c d e f g h : Nat} (hx : T9 x = zp_mk8 a b c d e f g h) (h1 : a < 256) (h2 : b < 256) (h3 : c < 256) (h4 : d < 256) (h5 : e < 256) (h6 : f < 256) (h7 : g < 256) (h8 : h < 256) :
    T9 (bc1 x) = zp_mk8 (zp_f1 a) (zp_f1 b) (zp_f1 c) (zp_f1 d) (zp_f1 e) (zp_f1 f) (zp_f1 g) (zp_f1 h) := by
  have hs : T9 (us x 1) = zp_mk8 (a / 2 + 128 * (b % 2)) (b / 2 + 128 * (c % 2)) (c / 2 + 128 * (d % 2)) (d / 2 + 128 * (e % 2)) (e / 2 + 128 * (f % 2)) (f / 2 + 128 * (g % 2)) (g / 2 + 128 * (h % 2)) (h / 2 + 128 * (0 % 2)) := by
    rw [T9_us x (by decide), hx]; unfold zp_mk8; omega
  have hm : T9 (6148914691236517205 : Int64) = zp_mk8 85 85 85 85 85 85 85 85 := by decide
  have ha : T9 (us x 1 &&& 6148914691236517205) = zp_mk8 (a / 2 &&& 85) (b / 2 &&& 85) (c / 2 &&& 85) (d / 2 &&& 85) (e / 2 &&& 85) (f / 2 &&& 85) (g / 2 &&& 85) (h / 2 &&& 85) := by
    rw [T9_and, hs, hm, zp_and_8 (by omega) (by omega) (by omega) (by omega) (by omega) (by omega) (by omega) (by omega)]
    rw [zp_l1 (by omega) (by omega), zp_l1 (by omega) (by omega), zp_l1 (by omega) (by omega), zp_l1 (by omega) (by omega), zp_l1 (by omega) (by omega), zp_l1 (by omega) (by omega), zp_l1 (by omega) (by omega), zp_l1 (by omega) (by omega)]
  have p1 := (zp_fb h1).1
  have p2 := (zp_fb h2).1
  have p3 := (zp_fb h3).1
  have p4 := (zp_fb h4).1
  have p5 := (zp_fb h5).1
  have p6 := (zp_fb h6).1
  have p7 := (zp_fb h7).1
  have p8 := (zp_fb h8).1
  unfold bc1
  rw [T9_sub (by rw [ha, hx]; unfold zp_mk8; omega), ha, hx]
  unfold zp_mk8 zp_f1
  omega
theorem zp_bc_2 {x : Int64} {a b c d e f g h : Nat} (hx : T9 (bc1 x) = zp_mk8 a b c d e f g h) (h1 : a ≤ 170) (h2 : b ≤ 170) (h3 : c ≤ 170) (h4 : d ≤ 170) (h5 : e ≤ 170) (h6 : f ≤ 170) (h7 : g ≤ 170) (h8 : h ≤ 170)
    (g1 : zp_f2 a ≤ 68) (g2 : zp_f2 b ≤ 68) (g3 : zp_f2 c ≤ 68) (g4 : zp_f2 d ≤ 68) (g5 : zp_f2 e ≤ 68) (g6 : zp_f2 f ≤ 68) (g7 : zp_f2 g ≤ 68) (g8 : zp_f2 h ≤ 68) :
    T9 (bc2 x) = zp_mk8 (zp_f2 a) (zp_f2 b) (zp_f2 c) (zp_f2 d) (zp_f2 e) (zp_f2 f) (zp_f2 g) (zp_f2 h) := by
  have hs : T9 (us (bc1 x) 2) = zp_mk8 (a / 4 + 64 * (b % 4)) (b / 4 + 64 * (c % 4)) (c / 4 + 64 * (d % 4)) (d / 4 + 64 * (e % 4)) (e / 4 + 64 * (f % 4)) (f / 4 + 64 * (g % 4)) (g / 4 + 64 * (h % 4)) (h / 4 + 64 * (0 % 4)) := by
    rw [T9_us _ (by decide), hx]; unfold zp_mk8; omega
  have hm : T9 (3689348814741910323 : Int64) = zp_mk8 51 51 51 51 51 51 51 51 := by decide
  have ha : T9 (us (bc1 x) 2 &&& 3689348814741910323) = zp_mk8 (a / 4 &&& 51) (b / 4 &&& 51) (c / 4 &&& 51) (d / 4 &&& 51) (e / 4 &&& 51) (f / 4 &&& 51) (g / 4 &&& 51) (h / 4 &&& 51) := by
    rw [T9_and, hs, hm, zp_and_8 (by omega) (by omega) (by omega) (by omega) (by omega) (by omega) (by omega) (by omega)]
    rw [zp_l2 (by omega) (by omega), zp_l2 (by omega) (by omega), zp_l2 (by omega) (by omega), zp_l2 (by omega) (by omega), zp_l2 (by omega) (by omega), zp_l2 (by omega) (by omega), zp_l2 (by omega) (by omega), zp_l2 (by omega) (by omega)]
  have hb : T9 (bc1 x &&& 3689348814741910323) = zp_mk8 (a &&& 51) (b &&& 51) (c &&& 51) (d &&& 51) (e &&& 51) (f &&& 51) (g &&& 51) (h &&& 51) := by
    rw [T9_and, hx, hm, zp_and_8 (by omega) (by omega) (by omega) (by omega) (by omega) (by omega) (by omega) (by omega)]
  unfold zp_f2 at *
  unfold bc2
  rw [T9_add (by rw [ha, hb]; unfold zp_mk8; omega), ha, hb]
  unfold zp_mk8
  omega
set_option maxHeartbeats 8000000 in
theorem zp_bc_3 {x : Int64} {a b c d e f g h : Nat} (hx : T9 (bc2 x) = zp_mk8 a b c d e f g h) (h1 : a ≤ 68) (h2 : b ≤ 68) (h3 : c ≤ 68) (h4 : d ≤ 68) (h5 : e ≤ 68) (h6 : f ≤ 68) (h7 : g ≤ 68) (h8 : h ≤ 68)
    (g1 : a % 16 ≤ 4) (g2 : b % 16 ≤ 4) (g3 : c % 16 ≤ 4) (g4 : d % 16 ≤ 4) (g5 : e % 16 ≤ 4) (g6 : f % 16 ≤ 4) (g7 : g % 16 ≤ 4) (g8 : h % 16 ≤ 4) :
    T9 (bc3 x) = zp_mk8 (zp_f3 a) (zp_f3 b) (zp_f3 c) (zp_f3 d) (zp_f3 e) (zp_f3 f) (zp_f3 g) (zp_f3 h) := by
  have hs : T9 (us (bc2 x) 4) = zp_mk8 (a / 16 + 16 * (b % 16)) (b / 16 + 16 * (c % 16)) (c / 16 + 16 * (d % 16)) (d / 16 + 16 * (e % 16)) (e / 16 + 16 * (f % 16)) (f / 16 + 16 * (g % 16)) (g / 16 + 16 * (h % 16)) (h / 16 + 16 * (0 % 16)) := by
    rw [T9_us _ (by decide), hx]; unfold zp_mk8; omega
  have hm : T9 (1085102592571150095 : Int64) = zp_mk8 15 15 15 15 15 15 15 15 := by decide
  have ha : T9 (bc2 x + us (bc2 x) 4) = zp_mk8 ((a + a / 16) + 16 * (b % 16)) ((b + b / 16) + 16 * (c % 16)) ((c + c / 16) + 16 * (d % 16)) ((d + d / 16) + 16 * (e % 16)) ((e + e / 16) + 16 * (f % 16)) ((f + f / 16) + 16 * (g % 16)) ((g + g / 16) + 16 * (h % 16)) ((h + h / 16) + 16 * (0 % 16)) := by
    rw [T9_add (by rw [hs, hx]; unfold zp_mk8; omega), hs, hx]; unfold zp_mk8; omega
  unfold bc3
  rw [T9_and, ha, hm, zp_and_8 (by omega) (by omega) (by omega) (by omega) (by omega) (by omega) (by omega) (by omega)]
  rw [zp_l3 (by omega) (by omega), zp_l3 (by omega) (by omega), zp_l3 (by omega) (by omega), zp_l3 (by omega) (by omega), zp_l3 (by omega) (by omega), zp_l3 (by omega) (by omega), zp_l3 (by omega) (by omega), zp_l3 (by omega) (by omega)]
  rfl
theorem zp_bc_6 {x : Int64} {a b c d e f g h : Nat} (hx : T9 (bc3 x) = zp_mk8 a b c d e f g h) (h1 : a ≤ 8) (h2 : b ≤ 8) (h3 : c ≤ 8) (h4 : d ≤ 8) (h5 : e ≤ 8) (h6 : f ≤ 8) (h7 : g ≤ 8) (h8 : h ≤ 8) :
    T9 (bc6 x) % 128 = a + b + c + d + e + f + g + h := by
  have e4 : T9 (bc4 x) = zp_mk8 (a + b) (b + c) (c + d) (d + e) (e + f) (f + g) (g + h) h := by
    unfold bc4
    have hs : T9 (us (bc3 x) 8) = zp_mk8 b c d e f g h 0 := by rw [T9_us _ (by decide), hx]; unfold zp_mk8; omega
    rw [T9_add (by rw [hs, hx]; unfold zp_mk8; omega), hs, hx]; unfold zp_mk8; omega
  have e5 : T9 (bc5 x) = zp_mk8 (a + b + c + d) (b + c + d + e) (c + d + e + f) (d + e + f + g) (e + f + g + h) (f + g + h) (g + h) h := by
    unfold bc5
    have hs : T9 (us (bc4 x) 16) = zp_mk8 (c + d) (d + e) (e + f) (f + g) (g + h) h 0 0 := by rw [T9_us _ (by decide), e4]; unfold zp_mk8; omega
    rw [T9_add (by rw [hs, e4]; unfold zp_mk8; omega), hs, e4]; unfold zp_mk8; omega
  unfold bc6
  have hs : T9 (us (bc5 x) 32) = zp_mk8 (e + f + g + h) (f + g + h) (g + h) h 0 0 0 0 := by rw [T9_us _ (by decide), e5]; unfold zp_mk8; omega
  rw [T9_add (by rw [hs, e5]; unfold zp_mk8; omega), hs, e5]; unfold zp_mk8; omega
theorem bc_pop (x : Int64) : (bc6 x).toInt32 &&& zI 127 = zI ((popc x : Nat) : Int) := by
  have hN := T9_bytes (T9 x) (T9_lt x)
  have hp := zp_popc_8 x
  have ba : T9 x / 2 ^ 0 % 256 < 256 := Nat.mod_lt _ (by decide)
  have bb : T9 x / 2 ^ 8 % 256 < 256 := Nat.mod_lt _ (by decide)
  have bc : T9 x / 2 ^ 16 % 256 < 256 := Nat.mod_lt _ (by decide)
  have bd : T9 x / 2 ^ 24 % 256 < 256 := Nat.mod_lt _ (by decide)
  have be : T9 x / 2 ^ 32 % 256 < 256 := Nat.mod_lt _ (by decide)
  have bf : T9 x / 2 ^ 40 % 256 < 256 := Nat.mod_lt _ (by decide)
  have bg : T9 x / 2 ^ 48 % 256 < 256 := Nat.mod_lt _ (by decide)
  have bh : T9 x / 2 ^ 56 % 256 < 256 := Nat.mod_lt _ (by decide)
  generalize T9 x / 2 ^ 0 % 256 = a at hN hp ba
  generalize T9 x / 2 ^ 8 % 256 = b at hN hp bb
  generalize T9 x / 2 ^ 16 % 256 = c at hN hp bc
  generalize T9 x / 2 ^ 24 % 256 = d at hN hp bd
  generalize T9 x / 2 ^ 32 % 256 = e at hN hp be
  generalize T9 x / 2 ^ 40 % 256 = f at hN hp bf
  generalize T9 x / 2 ^ 48 % 256 = g at hN hp bg
  generalize T9 x / 2 ^ 56 % 256 = h at hN hp bh
  obtain ⟨-, pa, qa, ra, ta, ua⟩ := zp_fb ba
  obtain ⟨-, pb, qb, rb, tb, ub⟩ := zp_fb bb
  obtain ⟨-, pc, qc, rc, tc, uc⟩ := zp_fb bc
  obtain ⟨-, pd, qd, rd, td, ud⟩ := zp_fb bd
  obtain ⟨-, pe, qe, re, te, ue⟩ := zp_fb be
  obtain ⟨-, pf, qf, rf, tf, uf⟩ := zp_fb bf
  obtain ⟨-, pg, qg, rg, tg, ug⟩ := zp_fb bg
  obtain ⟨-, ph, qh, rh, th, uh⟩ := zp_fb bh
  have s1 := zp_bc_1 hN ba bb bc bd be bf bg bh
  have s2 := zp_bc_2 s1 pa pb pc pd pe pf pg ph qa qb qc qd qe qf qg qh
  have s3 := zp_bc_3 s2 qa qb qc qd qe qf qg qh ra rb rc rd re rf rg rh
  rw [ta, tb, tc, td, te, tf, tg, th] at s3
  have s6 := zp_bc_6 s3 ua ub uc ud ue uf ug uh
  rw [← hp] at s6
  have hle : popc x < 128 := by rw [← s6]; exact Nat.mod_lt _ (by decide)
  apply Int32.toBitVec_inj.mp
  apply BitVec.eq_of_toNat_eq
  rw [Int32.toBitVec_and, BitVec.toNat_and]
  have e1 : (bc6 x).toInt32.toBitVec.toNat = T9 (bc6 x) % 4294967296 := by
    show ((bc6 x).toBitVec.signExtend 32).toNat = _
    rw [BitVec.signExtend_eq_setWidth_of_le _ (by decide), BitVec.toNat_setWidth]; rfl
  have e2 : (zI 127).toBitVec.toNat = 2 ^ 7 - 1 := by decide
  have e3 : (zI ((popc x : Nat) : Int)).toBitVec.toNat = popc x := by
    show (BitVec.ofInt 32 ((popc x : Nat) : Int)).toNat = _
    rw [BitVec.toNat_ofInt]
    omega
  rw [e1, e2, e3, Nat.and_two_pow_sub_one_eq_mod]
  omega
end ZPop
