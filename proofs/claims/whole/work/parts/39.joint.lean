/-! the class's call beside the reference's: one answer, one way of throwing, and what holds of both stays -/
section ZJoint
theorem zI_ex (x : Int32) : ∃ a : Int, zR a ∧ x = zI a := ⟨x.toInt, zI_rng x, (zI_of x).symm⟩
theorem up0 {α : Type} (f : Nat → α) (v : α) : va_up f 0 v 0 = v := if_pos rfl
theorem vup0 (f : Nat → UInt64) (v : UInt64) : vf_upd f 0 v 0 = v := if_pos rfl
abbrev zRo (rm : Room) (nc ns : Nat) : Prop := rm.frames ≤ 17 ∧ rm.locals ≤ 4000 ∧ rm.cells ≤ nc ∧ rm.slots ≤ ns
def JI (l : Launch) (G : ZG) (c : Nat) (q1 q2 : Nat → Nat) (oa : Nat) (σ : St) (κ : KC) (f : Nat → Int64) (τ : St) (μ : KM) (y : MethodName) (wd : List Cond) (y2 : MethodName) (wd2 : List Cond) (As : List Value) : Prop :=
  ∃ (k : Int) (b : Int32) (σ' τ' : St), Inv (c + 1) σ' τ' ∧
    CIv l G 1 6 y wd (wC G q1 σ κ ++ [aL G oa 1 f]) ((.ref (q1 0) :: As) ++ [.ref oa]) (fun r (u : KC × (Nat → Int64)) => r = zI k ∧ (zI k = 0 → u.2 0 = b.toInt64)) (fun u => wC G q1 σ' u.1 ++ [aL G oa 1 u.2]) ∧
    CIv l G 0 0 y2 wd2 (wM G q2 τ μ) (.ref (q2 0) :: As) (fun r (u : KM) => r = b ∧ u.1 = k) (fun u => wM G q2 τ' u)
def JZ (l : Launch) (G : ZG) (c : Nat) (q1 q2 : Nat → Nat) (oa : Nat) (σ : St) (κ : KC) (f : Nat → Int64) (τ : St) (μ : KM) (y : MethodName) (wd : List Cond) (y2 : MethodName) (wd2 : List Cond) (As : List Value) : Prop :=
  ∃ (k : Int) (b : Bool) (σ' τ' : St), Inv (c + 1) σ' τ' ∧
    CIv l G 1 6 y wd (wC G q1 σ κ ++ [aL G oa 1 f]) ((.ref (q1 0) :: As) ++ [.ref oa]) (fun r (u : KC × (Nat → Int64)) => r = zI k ∧ (zI k = 0 → u.2 0 = if b then 1 else 0)) (fun u => wC G q1 σ' u.1 ++ [aL G oa 1 u.2]) ∧
    CIv l G 0 0 y2 wd2 (wM G q2 τ μ) (.ref (q2 0) :: As) (fun r (u : KM) => r = tB b ∧ u.1 = k) (fun u => wM G q2 τ' u)
def JL (l : Launch) (G : ZG) (c : Nat) (q1 q2 : Nat → Nat) (oa : Nat) (σ : St) (κ : KC) (f : Nat → Int64) (τ : St) (μ : KM) (y : MethodName) (wd : List Cond) (y2 : MethodName) (wd2 : List Cond) (As : List Value) : Prop :=
  ∃ (k : Int) (b : Int64) (σ' τ' : St), Inv (c + 1) σ' τ' ∧
    CIv l G 1 6 y wd (wC G q1 σ κ ++ [aL G oa 1 f]) ((.ref (q1 0) :: As) ++ [.ref oa]) (fun r (u : KC × (Nat → Int64)) => r = zI k ∧ (zI k = 0 → u.2 0 = b)) (fun u => wC G q1 σ' u.1 ++ [aL G oa 1 u.2]) ∧
    CLv l G 0 0 y2 wd2 (wM G q2 τ μ) (.ref (q2 0) :: As) (fun r (u : KM) => r = b ∧ u.1 = k) (fun u => wM G q2 τ' u)
def JF (l : Launch) (G : ZG) (c : Nat) (q1 q2 : Nat → Nat) (od : Nat) (σ : St) (κ : KC) (g : Nat → UInt64) (τ : St) (μ : KM) (y : MethodName) (wd : List Cond) (y2 : MethodName) (wd2 : List Cond) (As : List Value) : Prop :=
  ∃ (k : Int) (b : UInt32) (σ' τ' : St), Inv (c + 1) σ' τ' ∧
    CIv l G 1 6 y wd (wC G q1 σ κ ++ [aD G od 1 g]) ((.ref (q1 0) :: As) ++ [.ref od]) (fun r (u : KC × (Nat → UInt64)) => r = zI k ∧ (zI k = 0 → u.2 0 = FP.f2d b ∧ vf_n64 (FP.f2d b))) (fun u => wC G q1 σ' u.1 ++ [aD G od 1 u.2]) ∧
    CFv l G 0 0 y2 wd2 (wM G q2 τ μ) (.ref (q2 0) :: As) (fun r (u : KM) => r = b ∧ u.1 = k) (fun u => wM G q2 τ' u)
def JD (l : Launch) (G : ZG) (c : Nat) (q1 q2 : Nat → Nat) (od : Nat) (σ : St) (κ : KC) (g : Nat → UInt64) (τ : St) (μ : KM) (y : MethodName) (wd : List Cond) (y2 : MethodName) (wd2 : List Cond) (As : List Value) : Prop :=
  ∃ (k : Int) (b : UInt64) (σ' τ' : St), Inv (c + 1) σ' τ' ∧
    CIv l G 1 6 y wd (wC G q1 σ κ ++ [aD G od 1 g]) ((.ref (q1 0) :: As) ++ [.ref od]) (fun r (u : KC × (Nat → UInt64)) => r = zI k ∧ (zI k = 0 → u.2 0 = b ∧ vf_n64 b)) (fun u => wC G q1 σ' u.1 ++ [aD G od 1 u.2]) ∧
    CDv l G 0 0 y2 wd2 (wM G q2 τ μ) (.ref (q2 0) :: As) (fun r (u : KM) => r = b ∧ u.1 = k) (fun u => wM G q2 τ' u)
variable {l : Launch} {G : ZG} {y : MethodName} {wd : List Cond} {Bs : List Value} {rm : Room} {q : Nat → Nat} {σ σ' τ τ' : St} {κ κ' : KC} {μ : KM} {oa : Nat}
theorem jLa {f : Nat → Int64} {v w : Int64} (hM : MC l G y wd rm (wC G q σ κ ++ [aL G oa 1 f]) Bs (QI G (fun r9 (_ : Unit) => r9 = zI (0 : Int)) (fun _ => wC G q σ' κ' ++ [aL G oa 1 (va_up f 0 v)]))) (hv : v = w) (hb : zRo rm 1 6) : CIv l G 1 6 y wd (wC G q σ κ ++ [aL G oa 1 f]) Bs (fun r (u : KC × (Nat → Int64)) => r = zI (0 : Int) ∧ (zI (0 : Int) = 0 → u.2 0 = w)) (fun u => wC G q σ' u.1 ++ [aL G oa 1 u.2]) :=
  ⟨rm, Unit, _, _, hb, hM, fun _ _ hr => ⟨(κ', va_up f 0 v), ⟨hr, fun _ => (up0 f v).trans hv⟩, rfl⟩⟩
theorem jLx {f : Nat → Int64} {k : Int} {w : Int64} (hM : MC l G y wd rm (wC G q σ κ ++ [aL G oa 1 f]) Bs (QI G (fun r9 (_ : Unit) => r9 = zI k) (fun _ => wC G q σ κ ++ [aL G oa 1 f]))) (hk : zI k ≠ 0) (hb : zRo rm 1 6) : CIv l G 1 6 y wd (wC G q σ κ ++ [aL G oa 1 f]) Bs (fun r (u : KC × (Nat → Int64)) => r = zI k ∧ (zI k = 0 → u.2 0 = w)) (fun u => wC G q σ u.1 ++ [aL G oa 1 u.2]) :=
  ⟨rm, Unit, _, _, hb, hM, fun _ _ hr => ⟨(κ, f), ⟨hr, fun h => absurd h hk⟩, rfl⟩⟩
theorem jLk {f : Nat → Int64} {k : Int} {w : Int64} (hM : MC l G y wd rm (wC G q σ κ ++ [aL G oa 1 f]) Bs (QI G (fun r9 (_ : KC) => r9 = zI k) (fun u => wC G q σ u ++ [aL G oa 1 f]))) (hk : zI k ≠ 0) (hb : zRo rm 1 6) : CIv l G 1 6 y wd (wC G q σ κ ++ [aL G oa 1 f]) Bs (fun r (u : KC × (Nat → Int64)) => r = zI k ∧ (zI k = 0 → u.2 0 = w)) (fun u => wC G q σ u.1 ++ [aL G oa 1 u.2]) :=
  ⟨rm, KC, _, _, hb, hM, fun _ u hr => ⟨(u, f), ⟨hr, fun h => absurd h hk⟩, rfl⟩⟩
theorem jDa {f : Nat → UInt64} {v : UInt64} {P : UInt64 → Prop} (hM : MC l G y wd rm (wC G q σ κ ++ [aD G oa 1 f]) Bs (QI G (fun r9 (_ : Unit) => r9 = zI (0 : Int)) (fun _ => wC G q σ' κ' ++ [aD G oa 1 (vf_upd f 0 v)]))) (hv : P v) (hb : zRo rm 1 6) : CIv l G 1 6 y wd (wC G q σ κ ++ [aD G oa 1 f]) Bs (fun r (u : KC × (Nat → UInt64)) => r = zI (0 : Int) ∧ (zI (0 : Int) = 0 → P (u.2 0))) (fun u => wC G q σ' u.1 ++ [aD G oa 1 u.2]) :=
  ⟨rm, Unit, _, _, hb, hM, fun _ _ hr => ⟨(κ', vf_upd f 0 v), ⟨hr, fun _ => by show P (vf_upd f 0 v 0); rw [vup0]; exact hv⟩, rfl⟩⟩
theorem jDx {f : Nat → UInt64} {k : Int} {P : UInt64 → Prop} (hM : MC l G y wd rm (wC G q σ κ ++ [aD G oa 1 f]) Bs (QI G (fun r9 (_ : Unit) => r9 = zI k) (fun _ => wC G q σ κ ++ [aD G oa 1 f]))) (hk : zI k ≠ 0) (hb : zRo rm 1 6) : CIv l G 1 6 y wd (wC G q σ κ ++ [aD G oa 1 f]) Bs (fun r (u : KC × (Nat → UInt64)) => r = zI k ∧ (zI k = 0 → P (u.2 0))) (fun u => wC G q σ u.1 ++ [aD G oa 1 u.2]) :=
  ⟨rm, Unit, _, _, hb, hM, fun _ _ hr => ⟨(κ, f), ⟨hr, fun h => absurd h hk⟩, rfl⟩⟩
theorem jDk {f : Nat → UInt64} {k : Int} {P : UInt64 → Prop} (hM : MC l G y wd rm (wC G q σ κ ++ [aD G oa 1 f]) Bs (QI G (fun r9 (_ : KC) => r9 = zI k) (fun u => wC G q σ u ++ [aD G oa 1 f]))) (hk : zI k ≠ 0) (hb : zRo rm 1 6) : CIv l G 1 6 y wd (wC G q σ κ ++ [aD G oa 1 f]) Bs (fun r (u : KC × (Nat → UInt64)) => r = zI k ∧ (zI k = 0 → P (u.2 0))) (fun u => wC G q σ u.1 ++ [aD G oa 1 u.2]) :=
  ⟨rm, KC, _, _, hb, hM, fun _ u hr => ⟨(u, f), ⟨hr, fun h => absurd h hk⟩, rfl⟩⟩
theorem jMI {k : Int} {μ3 : Int32 × Int32 × Bool} {v b : Int32} (hM : MC l G y wd rm (wM G q τ μ) Bs (QI G (fun r9 (_ : Unit) => r9 = v) (fun _ => wM G q τ' (k, μ3)))) (hv : v = b) (hb : zRo rm 0 0) : CIv l G 0 0 y wd (wM G q τ μ) Bs (fun r (u : KM) => r = b ∧ u.1 = k) (fun u => wM G q τ' u) :=
  ⟨rm, Unit, _, _, hb, hM, fun _ _ hr => ⟨(k, μ3), ⟨hr.trans hv, rfl⟩, rfl⟩⟩
theorem jUI {k : Int} {v b : Int32} (hM : MC l G y wd rm (wM G q τ μ) Bs (QI G (S := Int32 × Int32 × Bool) (fun r9 (_ : Int32 × Int32 × Bool) => r9 = v) (fun u => wM G q τ' (k, u)))) (hv : v = b) (hb : zRo rm 0 0) : CIv l G 0 0 y wd (wM G q τ μ) Bs (fun r (u : KM) => r = b ∧ u.1 = k) (fun u => wM G q τ' u) :=
  ⟨rm, Int32 × Int32 × Bool, _, _, hb, hM, fun _ u hr => ⟨(k, u), ⟨hr.trans hv, rfl⟩, rfl⟩⟩
theorem jML {k : Int} {μ3 : Int32 × Int32 × Bool} {v b : Int64} (hM : MC l G y wd rm (wM G q τ μ) Bs (QL G (fun r9 (_ : Unit) => r9 = v) (fun _ => wM G q τ' (k, μ3)))) (hv : v = b) (hb : zRo rm 0 0) : CLv l G 0 0 y wd (wM G q τ μ) Bs (fun r (u : KM) => r = b ∧ u.1 = k) (fun u => wM G q τ' u) :=
  ⟨rm, Unit, _, _, hb, hM, fun _ _ hr => ⟨(k, μ3), ⟨hr.trans hv, rfl⟩, rfl⟩⟩
theorem jUL {k : Int} {v b : Int64} (hM : MC l G y wd rm (wM G q τ μ) Bs (QL G (S := Int32 × Int32 × Bool) (fun r9 (_ : Int32 × Int32 × Bool) => r9 = v) (fun u => wM G q τ' (k, u)))) (hv : v = b) (hb : zRo rm 0 0) : CLv l G 0 0 y wd (wM G q τ μ) Bs (fun r (u : KM) => r = b ∧ u.1 = k) (fun u => wM G q τ' u) :=
  ⟨rm, Int32 × Int32 × Bool, _, _, hb, hM, fun _ u hr => ⟨(k, u), ⟨hr.trans hv, rfl⟩, rfl⟩⟩
theorem jMF {k : Int} {μ3 : Int32 × Int32 × Bool} {v b : UInt32} (hM : MC l G y wd rm (wM G q τ μ) Bs (QF G (fun r9 (_ : Unit) => r9 = v) (fun _ => wM G q τ' (k, μ3)))) (hv : v = b) (hb : zRo rm 0 0) : CFv l G 0 0 y wd (wM G q τ μ) Bs (fun r (u : KM) => r = b ∧ u.1 = k) (fun u => wM G q τ' u) :=
  ⟨rm, Unit, _, _, hb, hM, fun _ _ hr => ⟨(k, μ3), ⟨hr.trans hv, rfl⟩, rfl⟩⟩
theorem jUF {k : Int} {v b : UInt32} (hM : MC l G y wd rm (wM G q τ μ) Bs (QF G (S := Int32 × Int32 × Bool) (fun r9 (_ : Int32 × Int32 × Bool) => r9 = v) (fun u => wM G q τ' (k, u)))) (hv : v = b) (hb : zRo rm 0 0) : CFv l G 0 0 y wd (wM G q τ μ) Bs (fun r (u : KM) => r = b ∧ u.1 = k) (fun u => wM G q τ' u) :=
  ⟨rm, Int32 × Int32 × Bool, _, _, hb, hM, fun _ u hr => ⟨(k, u), ⟨hr.trans hv, rfl⟩, rfl⟩⟩
theorem jMD {k : Int} {μ3 : Int32 × Int32 × Bool} {v b : UInt64} (hM : MC l G y wd rm (wM G q τ μ) Bs (QD G (fun r9 (_ : Unit) => r9 = v) (fun _ => wM G q τ' (k, μ3)))) (hv : v = b) (hb : zRo rm 0 0) : CDv l G 0 0 y wd (wM G q τ μ) Bs (fun r (u : KM) => r = b ∧ u.1 = k) (fun u => wM G q τ' u) :=
  ⟨rm, Unit, _, _, hb, hM, fun _ _ hr => ⟨(k, μ3), ⟨hr.trans hv, rfl⟩, rfl⟩⟩
theorem jUD {k : Int} {v b : UInt64} (hM : MC l G y wd rm (wM G q τ μ) Bs (QD G (S := Int32 × Int32 × Bool) (fun r9 (_ : Int32 × Int32 × Bool) => r9 = v) (fun u => wM G q τ' (k, u)))) (hv : v = b) (hb : zRo rm 0 0) : CDv l G 0 0 y wd (wM G q τ μ) Bs (fun r (u : KM) => r = b ∧ u.1 = k) (fun u => wM G q τ' u) :=
  ⟨rm, Int32 × Int32 × Bool, _, _, hb, hM, fun _ u hr => ⟨(k, u), ⟨hr.trans hv, rfl⟩, rfl⟩⟩
theorem zleast {P : Nat → Bool} : ∀ k, P k = true → ∃ m, m ≤ k ∧ P m = true ∧ ∀ j, j < m → P j = false := by
  intro k
  induction k using Nat.strongRecOn with
  | _ k ih =>
    intro hk
    by_cases c : ∃ j, j < k ∧ P j = true
    · obtain ⟨j, hj, hp⟩ := c
      obtain ⟨m, h1, h2, h3⟩ := ih j hj hp
      exact ⟨m, by omega, h2, h3⟩
    · refine ⟨k, Nat.le_refl _, hk, fun j hj => ?_⟩
      cases h : P j with
      | false => rfl
      | true => exact absurd ⟨j, hj, h⟩ c
end ZJoint
theorem j_pass (l : Launch) (G : ZG) (hst : l.stackTraces = false) {c : Nat} {σ τ : St} (h : Inv c σ τ) (hc : c < 600) (q1 q2 : Nat → Nat) (oa : Nat) (κ : KC) (f : Nat → Int64) (μ : KM) (x : Int32) :
    JI l G c q1 q2 oa σ κ f τ μ yL_pass (wYW yL_pass cL_pass 4 (some .int) [(0, 9, 12, 13), (0, 9, 15, 15)]) yX6_pass (wY yX6_pass cX6_pass 2 (some .int)) [.int x] := by
  have hI := h.2.1
  have hM := Inv_okM h
  have e0 := h.1.1 0 (by omega)
  have e1 := h.1.1 1 (by omega)
  have e2 := h.1.1 2 (by omega)
  have e3 := h.1.1 3 (by omega)
  have e4 := h.1.1 4 (by omega)
  have e5 := h.1.1 5 (by omega)
  have e6 := h.1.1 6 (by omega)
  have e7 := h.1.1 7 (by omega)
  obtain ⟨hn, hru, hrv, hdv, hsr, hmn, ht1, ht2, hwn, hv1, hv2, hmj, htm, hse, htg, hrt, hac, hk1, hk2, hkd, hmm, hmv, hord, hpo, hlo⟩ := h.2.1
  obtain ⟨a, ha, rfl⟩ := zI_ex x
  by_cases c1 : 1 ≤ a ∧ a ≤ 2000
  · obtain ⟨n, rfl⟩ : ∃ n : Nat, a = (n : Int) := ⟨(a).toNat, by omega⟩
    by_cases c2 : σ.1 0 + n ≤ 99999
    · exact ⟨0, zI ((σ.1 0 + n : Nat) : Int), sN σ 0 (σ.1 0 + n), sN τ 0 (τ.1 0 + n), by rw [← e0]; exact (h.set (by omega) (okC_now hI c2)).mono, jLa (m_L_pass l G q1 σ κ oa f n rfl hI (by omega) (by omega) c2) rfl ⟨Nat.le_of_ble_eq_true rfl, Nat.le_of_ble_eq_true rfl, Nat.le_of_ble_eq_true rfl, Nat.le_of_ble_eq_true rfl⟩, jMI (m_X6_pass l G q2 τ μ n rfl hM (by omega) (by omega) (by omega)) (by rw [e0]) ⟨Nat.le_of_ble_eq_true rfl, Nat.le_of_ble_eq_true rfl, Nat.le_of_ble_eq_true rfl, Nat.le_of_ble_eq_true rfl⟩⟩
    · exact ⟨2, zI 0, σ, τ, h.mono, jLx (m_L_pass_x2 l G hst q1 σ κ oa f n rfl hI (by omega) (by omega) (by omega)) (by decide) ⟨Nat.le_of_ble_eq_true rfl, Nat.le_of_ble_eq_true rfl, Nat.le_of_ble_eq_true rfl, Nat.le_of_ble_eq_true rfl⟩, jMI (m_X6_pass_t2 l G q2 τ μ n rfl hM (by omega) (by omega) (by omega)) rfl ⟨Nat.le_of_ble_eq_true rfl, Nat.le_of_ble_eq_true rfl, Nat.le_of_ble_eq_true rfl, Nat.le_of_ble_eq_true rfl⟩⟩
  · exact ⟨1, zI 0, σ, τ, h.mono, jLx (m_L_pass_x1 l G hst q1 σ κ oa f a hI ha (by omega)) (by decide) ⟨Nat.le_of_ble_eq_true rfl, Nat.le_of_ble_eq_true rfl, Nat.le_of_ble_eq_true rfl, Nat.le_of_ble_eq_true rfl⟩, jMI (m_X6_pass_t1 l G q2 τ μ a hM ha (by omega)) rfl ⟨Nat.le_of_ble_eq_true rfl, Nat.le_of_ble_eq_true rfl, Nat.le_of_ble_eq_true rfl, Nat.le_of_ble_eq_true rfl⟩⟩
theorem j_setThreshold (l : Launch) (G : ZG) (hst : l.stackTraces = false) {c : Nat} {σ τ : St} (h : Inv c σ τ) (hc : c < 600) (q1 q2 : Nat → Nat) (oa : Nat) (κ : KC) (f : Nat → Int64) (μ : KM) (x : Int32) :
    JI l G c q1 q2 oa σ κ f τ μ yL_setThreshold (wYW yL_setThreshold cL_setThreshold 4 (some .int) [(0, 9, 12, 13)]) yX6_setThreshold (wY yX6_setThreshold cX6_setThreshold 3 (some .int)) [.int x] := by
  have hI := h.2.1
  have hM := Inv_okM h
  have e0 := h.1.1 0 (by omega)
  have e1 := h.1.1 1 (by omega)
  have e2 := h.1.1 2 (by omega)
  have e3 := h.1.1 3 (by omega)
  have e4 := h.1.1 4 (by omega)
  have e5 := h.1.1 5 (by omega)
  have e6 := h.1.1 6 (by omega)
  have e7 := h.1.1 7 (by omega)
  obtain ⟨hn, hru, hrv, hdv, hsr, hmn, ht1, ht2, hwn, hv1, hv2, hmj, htm, hse, htg, hrt, hac, hk1, hk2, hkd, hmm, hmv, hord, hpo, hlo⟩ := h.2.1
  obtain ⟨a, ha, rfl⟩ := zI_ex x
  by_cases c1 : 1 ≤ a ∧ a ≤ 100
  · obtain ⟨n, rfl⟩ : ∃ n : Nat, a = (n : Int) := ⟨(a).toNat, by omega⟩
    exact ⟨0, zI ((σ.1 1 : Nat) : Int), sN σ 1 n, sN τ 1 n, (h.set (by omega) (okC_thr hI (by omega) (by omega))).mono, jLa (m_L_setThreshold l G q1 σ κ oa f n rfl (by omega) (by omega)) rfl ⟨Nat.le_of_ble_eq_true rfl, Nat.le_of_ble_eq_true rfl, Nat.le_of_ble_eq_true rfl, Nat.le_of_ble_eq_true rfl⟩, jMI (m_X6_setThreshold l G q2 τ μ n rfl (by omega) (by omega)) (by rw [e1]) ⟨Nat.le_of_ble_eq_true rfl, Nat.le_of_ble_eq_true rfl, Nat.le_of_ble_eq_true rfl, Nat.le_of_ble_eq_true rfl⟩⟩
  · exact ⟨1, zI 0, σ, τ, h.mono, jLx (m_L_setThreshold_x l G hst q1 σ κ oa f a ha (by omega)) (by decide) ⟨Nat.le_of_ble_eq_true rfl, Nat.le_of_ble_eq_true rfl, Nat.le_of_ble_eq_true rfl, Nat.le_of_ble_eq_true rfl⟩, jMI (m_X6_setThreshold_t1 l G q2 τ μ a ha (by omega)) rfl ⟨Nat.le_of_ble_eq_true rfl, Nat.le_of_ble_eq_true rfl, Nat.le_of_ble_eq_true rfl, Nat.le_of_ble_eq_true rfl⟩⟩
theorem j_setWindow (l : Launch) (G : ZG) (hst : l.stackTraces = false) {c : Nat} {σ τ : St} (h : Inv c σ τ) (hc : c < 600) (q1 q2 : Nat → Nat) (oa : Nat) (κ : KC) (f : Nat → Int64) (μ : KM) (x : Int32) :
    JI l G c q1 q2 oa σ κ f τ μ yL_setWindow (wYW yL_setWindow cL_setWindow 4 (some .int) [(0, 9, 12, 13)]) yX6_setWindow (wY yX6_setWindow cX6_setWindow 3 (some .int)) [.int x] := by
  have hI := h.2.1
  have hM := Inv_okM h
  have e0 := h.1.1 0 (by omega)
  have e1 := h.1.1 1 (by omega)
  have e2 := h.1.1 2 (by omega)
  have e3 := h.1.1 3 (by omega)
  have e4 := h.1.1 4 (by omega)
  have e5 := h.1.1 5 (by omega)
  have e6 := h.1.1 6 (by omega)
  have e7 := h.1.1 7 (by omega)
  obtain ⟨hn, hru, hrv, hdv, hsr, hmn, ht1, ht2, hwn, hv1, hv2, hmj, htm, hse, htg, hrt, hac, hk1, hk2, hkd, hmm, hmv, hord, hpo, hlo⟩ := h.2.1
  obtain ⟨a, ha, rfl⟩ := zI_ex x
  by_cases c1 : 0 ≤ a ∧ a ≤ 1440
  · obtain ⟨n, rfl⟩ : ∃ n : Nat, a = (n : Int) := ⟨(a).toNat, by omega⟩
    exact ⟨0, zI ((σ.1 2 : Nat) : Int), sN σ 2 n, sN τ 2 n, (h.set (by omega) (okC_win hI (by omega))).mono, jLa (m_L_setWindow l G q1 σ κ oa f n rfl (by omega) (by omega)) rfl ⟨Nat.le_of_ble_eq_true rfl, Nat.le_of_ble_eq_true rfl, Nat.le_of_ble_eq_true rfl, Nat.le_of_ble_eq_true rfl⟩, jMI (m_X6_setWindow l G q2 τ μ n rfl (by omega) (by omega)) (by rw [e2]) ⟨Nat.le_of_ble_eq_true rfl, Nat.le_of_ble_eq_true rfl, Nat.le_of_ble_eq_true rfl, Nat.le_of_ble_eq_true rfl⟩⟩
  · exact ⟨1, zI 0, σ, τ, h.mono, jLx (m_L_setWindow_x l G hst q1 σ κ oa f a ha (by omega)) (by decide) ⟨Nat.le_of_ble_eq_true rfl, Nat.le_of_ble_eq_true rfl, Nat.le_of_ble_eq_true rfl, Nat.le_of_ble_eq_true rfl⟩, jMI (m_X6_setWindow_t1 l G q2 τ μ a ha (by omega)) rfl ⟨Nat.le_of_ble_eq_true rfl, Nat.le_of_ble_eq_true rfl, Nat.le_of_ble_eq_true rfl, Nat.le_of_ble_eq_true rfl⟩⟩
theorem j_likeness (l : Launch) (G : ZG) (hst : l.stackTraces = false) {c : Nat} {σ τ : St} (h : Inv c σ τ) (hc : c < 600) (q1 q2 : Nat → Nat) (oa : Nat) (κ : KC) (f : Nat → Int64) (μ : KM) (x : Int64) (y : Int64) :
    JI l G c q1 q2 oa σ κ f τ μ yL_likeness (wYW yL_likeness cL_likeness 7 (some .int) [(0, 11, 14, 13)]) yX6_likeness (wY yX6_likeness cX6_likeness 5 (some .int)) [.long x, .long y] := by
  have hI := h.2.1
  have hM := Inv_okM h
  have e0 := h.1.1 0 (by omega)
  have e1 := h.1.1 1 (by omega)
  have e2 := h.1.1 2 (by omega)
  have e3 := h.1.1 3 (by omega)
  have e4 := h.1.1 4 (by omega)
  have e5 := h.1.1 5 (by omega)
  have e6 := h.1.1 6 (by omega)
  have e7 := h.1.1 7 (by omega)
  obtain ⟨hn, hru, hrv, hdv, hsr, hmn, ht1, ht2, hwn, hv1, hv2, hmj, htm, hse, htg, hrt, hac, hk1, hk2, hkd, hmm, hmv, hord, hpo, hlo⟩ := h.2.1
  by_cases c1 : x = 0 ∨ y = 0
  · exact ⟨1, zI 0, σ, τ, h.mono, jLx (m_L_likeness_x l G hst q1 σ κ oa f x y c1) (by decide) ⟨Nat.le_of_ble_eq_true rfl, Nat.le_of_ble_eq_true rfl, Nat.le_of_ble_eq_true rfl, Nat.le_of_ble_eq_true rfl⟩, jMI (m_X6_likeness_t1 l G q2 τ μ x y c1) rfl ⟨Nat.le_of_ble_eq_true rfl, Nat.le_of_ble_eq_true rfl, Nat.le_of_ble_eq_true rfl, Nat.le_of_ble_eq_true rfl⟩⟩
  · exact ⟨0, zI ((like x y : Nat) : Int), σ, τ, h.mono, jLa (m_L_likeness l G q1 σ κ oa f x y (fun z => c1 (Or.inl z)) (fun z => c1 (Or.inr z))) rfl ⟨Nat.le_of_ble_eq_true rfl, Nat.le_of_ble_eq_true rfl, Nat.le_of_ble_eq_true rfl, Nat.le_of_ble_eq_true rfl⟩, jMI (m_X6_likeness l G q2 τ μ x y (fun z => c1 (Or.inl z)) (fun z => c1 (Or.inr z))) rfl ⟨Nat.le_of_ble_eq_true rfl, Nat.le_of_ble_eq_true rfl, Nat.le_of_ble_eq_true rfl, Nat.le_of_ble_eq_true rfl⟩⟩
theorem j_addSource (l : Launch) (G : ZG) (hst : l.stackTraces = false) {c : Nat} {σ τ : St} (h : Inv c σ τ) (hc : c < 600) (q1 q2 : Nat → Nat) (oa : Nat) (κ : KC) (f : Nat → Int64) (μ : KM)  :
    JI l G c q1 q2 oa σ κ f τ μ yL_addSource (wYW yL_addSource cL_addSource 3 (some .int) [(0, 8, 11, 15)]) yX6_addSource (wY yX6_addSource cX6_addSource 1 (some .int)) [] := by
  have hI := h.2.1
  have hM := Inv_okM h
  have e0 := h.1.1 0 (by omega)
  have e1 := h.1.1 1 (by omega)
  have e2 := h.1.1 2 (by omega)
  have e3 := h.1.1 3 (by omega)
  have e4 := h.1.1 4 (by omega)
  have e5 := h.1.1 5 (by omega)
  have e6 := h.1.1 6 (by omega)
  have e7 := h.1.1 7 (by omega)
  obtain ⟨hn, hru, hrv, hdv, hsr, hmn, ht1, ht2, hwn, hv1, hv2, hmj, htm, hse, htg, hrt, hac, hk1, hk2, hkd, hmm, hmv, hord, hpo, hlo⟩ := h.2.1
  by_cases c1 : σ.1 3 < 6
  · exact ⟨0, zI ((σ.1 3 : Nat) : Int), sN σ 3 (σ.1 3 + 1), sN τ 3 (τ.1 3 + 1), by rw [← e3]; exact (h.set (by omega) (okC_src hI c1)).mono, jLa (m_L_addSource l G q1 σ κ oa f c1) rfl ⟨Nat.le_of_ble_eq_true rfl, Nat.le_of_ble_eq_true rfl, Nat.le_of_ble_eq_true rfl, Nat.le_of_ble_eq_true rfl⟩, jMI (m_X6_addSource l G q2 τ μ (by omega)) (by rw [e3]) ⟨Nat.le_of_ble_eq_true rfl, Nat.le_of_ble_eq_true rfl, Nat.le_of_ble_eq_true rfl, Nat.le_of_ble_eq_true rfl⟩⟩
  · exact ⟨1, zI 0, σ, τ, h.mono, jLx (m_L_addSource_x l G hst q1 σ κ oa f (by omega)) (by decide) ⟨Nat.le_of_ble_eq_true rfl, Nat.le_of_ble_eq_true rfl, Nat.le_of_ble_eq_true rfl, Nat.le_of_ble_eq_true rfl⟩, jMI (m_X6_addSource_t1 l G q2 τ μ (by omega)) rfl ⟨Nat.le_of_ble_eq_true rfl, Nat.le_of_ble_eq_true rfl, Nat.le_of_ble_eq_true rfl, Nat.le_of_ble_eq_true rfl⟩⟩
theorem j_fetch (l : Launch) (G : ZG) (hst : l.stackTraces = false) {c : Nat} {σ τ : St} (h : Inv c σ τ) (hc : c < 600) (q1 q2 : Nat → Nat) (oa : Nat) (κ : KC) (f : Nat → Int64) (μ : KM) (x : Int32) (x2 : Int32) (x3 : Int32) (t : Int64) (x4 : Int32) :
    JI l G c q1 q2 oa σ κ f τ μ yL_fetch (wYW yL_fetch cL_fetch 9 (some .int) [(0, 16, 19, 35), (0, 16, 23, 13), (0, 16, 27, 15)]) yX6_fetch (wY yX6_fetch cX6_fetch 8 (some .int)) [.int x, .int x2, .int x3, .long t, .int x4] := by
  have hI := h.2.1
  have hM := Inv_okM h
  have e0 := h.1.1 0 (by omega)
  have e1 := h.1.1 1 (by omega)
  have e2 := h.1.1 2 (by omega)
  have e3 := h.1.1 3 (by omega)
  have e4 := h.1.1 4 (by omega)
  have e5 := h.1.1 5 (by omega)
  have e6 := h.1.1 6 (by omega)
  have e7 := h.1.1 7 (by omega)
  obtain ⟨hn, hru, hrv, hdv, hsr, hmn, ht1, ht2, hwn, hv1, hv2, hmj, htm, hse, htg, hrt, hac, hk1, hk2, hkd, hmm, hmv, hord, hpo, hlo⟩ := h.2.1
  obtain ⟨sr, hsr_, rfl⟩ := zI_ex x
  obtain ⟨idn, hidn, rfl⟩ := zI_ex x2
  obtain ⟨lk, hlk, rfl⟩ := zI_ex x3
  obtain ⟨td, htd, rfl⟩ := zI_ex x4
  have hC := h.2.2.2.2.2.2.2
  have f2 := h.1.2.1 2 (by omega)
  by_cases c1 : 0 ≤ sr ∧ sr < ((σ.1 3 : Nat) : Int)
  · obtain ⟨n, rfl⟩ : ∃ n : Nat, sr = (n : Int) := ⟨(sr).toNat, by omega⟩
    have c1a : n < σ.1 3 := by omega
    by_cases c2 : (-1 ≤ idn ∧ idn ≤ 999) ∧ (-1 ≤ lk ∧ lk ≤ 999) ∧ (-1 ≤ td ∧ td ≤ 99999) ∧ ¬ t = 0
    · obtain ⟨c3, c4, c5, c6⟩ := c2
      have hF := fnd_eq h ((n : Nat) : Int) idn lk t
      by_cases c7 : fnd σ ((n : Nat) : Int) idn lk t = -1 ∧ σ.1 4 = 30
      · exact ⟨3, zI 0, σ, τ, h.mono, jLx (m_L_fetch_x3 l G hst q1 σ κ oa f n rfl idn lk t td hI c1a c3 c4 c5 c6 c7.1 c7.2) (by decide) ⟨Nat.le_of_ble_eq_true rfl, Nat.le_of_ble_eq_true rfl, Nat.le_of_ble_eq_true rfl, Nat.le_of_ble_eq_true rfl⟩, jMI (m_X6_fetch_t3 l G q2 τ μ n rfl idn lk t td hM (by omega) c3 c4 c5 c6 (hF ▸ c7.1) (by omega)) rfl ⟨Nat.le_of_ble_eq_true rfl, Nat.le_of_ble_eq_true rfl, Nat.le_of_ble_eq_true rfl, Nat.le_of_ble_eq_true rfl⟩⟩
      · have c8 : fnd σ ((n : Nat) : Int) idn lk t = -1 → σ.1 4 < 30 := fun z => by
          have z2 : ¬ σ.1 4 = 30 := fun z3 => c7 ⟨z, z3⟩
          omega
        obtain ⟨i1, i2⟩ := h.fetch hc c1a c3 c4 (td := td) c5.2 c6 c8
        have c9 : fndM τ ((n : Nat) : Int) idn lk t = -1 → τ.1 4 < 30 := fun z => by
          have z2 := c8 (hF.trans z)
          omega
        exact ⟨0, zI ((fit σ ((n : Nat) : Int) idn lk t : Nat) : Int), fet σ n idn lk t td, fetM τ n idn lk t td, i1, jLa (m_L_fetch l G q1 σ κ oa f n rfl idn lk t td hI c1a c3 c4 c5 c6 c8) rfl ⟨Nat.le_of_ble_eq_true rfl, Nat.le_of_ble_eq_true rfl, Nat.le_of_ble_eq_true rfl, Nat.le_of_ble_eq_true rfl⟩, jMI (m_X6_fetch l G q2 τ μ n rfl idn lk t td hM (by omega) c3 c4 c5 c6 c9 (by have := hC.2.1; omega) (by have := hC.2.2; omega) (fun y9 => by have := hC.1 y9; rw [f2] at this; omega)) (by rw [i2]) ⟨Nat.le_of_ble_eq_true rfl, Nat.le_of_ble_eq_true rfl, Nat.le_of_ble_eq_true rfl, Nat.le_of_ble_eq_true rfl⟩⟩
    · exact ⟨2, zI 0, σ, τ, h.mono, jLx (m_L_fetch_x2 l G hst q1 σ κ oa f n rfl idn lk t td hI c1a ⟨hidn, hlk, htd⟩ c2) (by decide) ⟨Nat.le_of_ble_eq_true rfl, Nat.le_of_ble_eq_true rfl, Nat.le_of_ble_eq_true rfl, Nat.le_of_ble_eq_true rfl⟩, jMI (m_X6_fetch_t2 l G q2 τ μ n rfl idn lk t td hM (by omega) ⟨hidn, hlk, htd⟩ c2) rfl ⟨Nat.le_of_ble_eq_true rfl, Nat.le_of_ble_eq_true rfl, Nat.le_of_ble_eq_true rfl, Nat.le_of_ble_eq_true rfl⟩⟩
  · exact ⟨1, zI 0, σ, τ, h.mono, jLx (m_L_fetch_x1 l G hst q1 σ κ oa f sr idn lk t td hI hsr_ (by omega)) (by decide) ⟨Nat.le_of_ble_eq_true rfl, Nat.le_of_ble_eq_true rfl, Nat.le_of_ble_eq_true rfl, Nat.le_of_ble_eq_true rfl⟩, jMI (m_X6_fetch_t1 l G q2 τ μ sr idn lk t td hM hsr_ (by omega)) rfl ⟨Nat.le_of_ble_eq_true rfl, Nat.le_of_ble_eq_true rfl, Nat.le_of_ble_eq_true rfl, Nat.le_of_ble_eq_true rfl⟩⟩
theorem j_withIdentifier (l : Launch) (G : ZG) (hst : l.stackTraces = false) {c : Nat} {σ τ : St} (h : Inv c σ τ) (hc : c < 600) (q1 q2 : Nat → Nat) (oa : Nat) (κ : KC) (f : Nat → Int64) (μ : KM) (x : Int32) (x2 : Int32) :
    JI l G c q1 q2 oa σ κ f τ μ yL_withIdentifier (wYW yL_withIdentifier cL_withIdentifier 5 (some .int) [(0, 10, 13, 41)]) yX6_withIdentifier (wY yX6_withIdentifier cX6_withIdentifier 3 (some .int)) [.int x, .int x2] := by
  have hI := h.2.1
  have hM := Inv_okM h
  have e0 := h.1.1 0 (by omega)
  have e1 := h.1.1 1 (by omega)
  have e2 := h.1.1 2 (by omega)
  have e3 := h.1.1 3 (by omega)
  have e4 := h.1.1 4 (by omega)
  have e5 := h.1.1 5 (by omega)
  have e6 := h.1.1 6 (by omega)
  have e7 := h.1.1 7 (by omega)
  obtain ⟨hn, hru, hrv, hdv, hsr, hmn, ht1, ht2, hwn, hv1, hv2, hmj, htm, hse, htg, hrt, hac, hk1, hk2, hkd, hmm, hmv, hord, hpo, hlo⟩ := h.2.1
  obtain ⟨a, ha, rfl⟩ := zI_ex x
  obtain ⟨b, hb, rfl⟩ := zI_ex x2
  have hp := h.2.2.2.2.2.2.1.1 a b
  by_cases c1 : own σ a b = -1
  · exact ⟨1, zI 0, σ, τ, h.mono, jLx (m_L_withIdentifier_x l G hst q1 σ κ oa f a b hI ha hb c1) (by decide) ⟨Nat.le_of_ble_eq_true rfl, Nat.le_of_ble_eq_true rfl, Nat.le_of_ble_eq_true rfl, Nat.le_of_ble_eq_true rfl⟩, jMI (m_X6_withIdentifier_t1 l G q2 τ μ a b hM ha hb (hp ▸ c1)) rfl ⟨Nat.le_of_ble_eq_true rfl, Nat.le_of_ble_eq_true rfl, Nat.le_of_ble_eq_true rfl, Nat.le_of_ble_eq_true rfl⟩⟩
  · exact ⟨0, zI (own σ a b), σ, τ, h.mono, jLa (m_L_withIdentifier l G q1 σ κ oa f a b hI ha hb c1) rfl ⟨Nat.le_of_ble_eq_true rfl, Nat.le_of_ble_eq_true rfl, Nat.le_of_ble_eq_true rfl, Nat.le_of_ble_eq_true rfl⟩, jMI (m_X6_withIdentifier l G q2 τ μ a b hM ha hb (hp ▸ c1)) (by rw [hp]) ⟨Nat.le_of_ble_eq_true rfl, Nat.le_of_ble_eq_true rfl, Nat.le_of_ble_eq_true rfl, Nat.le_of_ble_eq_true rfl⟩⟩
theorem j_withLink (l : Launch) (G : ZG) (hst : l.stackTraces = false) {c : Nat} {σ τ : St} (h : Inv c σ τ) (hc : c < 600) (q1 q2 : Nat → Nat) (oa : Nat) (κ : KC) (f : Nat → Int64) (μ : KM) (x : Int32) :
    JI l G c q1 q2 oa σ κ f τ μ yL_withLink (wYW yL_withLink cL_withLink 4 (some .int) [(0, 9, 12, 41)]) yX6_withLink (wY yX6_withLink cX6_withLink 2 (some .int)) [.int x] := by
  have hI := h.2.1
  have hM := Inv_okM h
  have e0 := h.1.1 0 (by omega)
  have e1 := h.1.1 1 (by omega)
  have e2 := h.1.1 2 (by omega)
  have e3 := h.1.1 3 (by omega)
  have e4 := h.1.1 4 (by omega)
  have e5 := h.1.1 5 (by omega)
  have e6 := h.1.1 6 (by omega)
  have e7 := h.1.1 7 (by omega)
  obtain ⟨hn, hru, hrv, hdv, hsr, hmn, ht1, ht2, hwn, hv1, hv2, hmj, htm, hse, htg, hrt, hac, hk1, hk2, hkd, hmm, hmv, hord, hpo, hlo⟩ := h.2.1
  obtain ⟨a, ha, rfl⟩ := zI_ex x
  have hp := h.2.2.2.2.2.2.1.2 a
  by_cases c1 : ownL σ a = -1
  · exact ⟨1, zI 0, σ, τ, h.mono, jLx (m_L_withLink_x l G hst q1 σ κ oa f a hI ha c1) (by decide) ⟨Nat.le_of_ble_eq_true rfl, Nat.le_of_ble_eq_true rfl, Nat.le_of_ble_eq_true rfl, Nat.le_of_ble_eq_true rfl⟩, jMI (m_X6_withLink_t1 l G q2 τ μ a hM ha (hp ▸ c1)) rfl ⟨Nat.le_of_ble_eq_true rfl, Nat.le_of_ble_eq_true rfl, Nat.le_of_ble_eq_true rfl, Nat.le_of_ble_eq_true rfl⟩⟩
  · exact ⟨0, zI (ownL σ a), σ, τ, h.mono, jLa (m_L_withLink l G q1 σ κ oa f a hI ha c1) rfl ⟨Nat.le_of_ble_eq_true rfl, Nat.le_of_ble_eq_true rfl, Nat.le_of_ble_eq_true rfl, Nat.le_of_ble_eq_true rfl⟩, jMI (m_X6_withLink l G q2 τ μ a hM ha (hp ▸ c1)) (by rw [hp]) ⟨Nat.le_of_ble_eq_true rfl, Nat.le_of_ble_eq_true rfl, Nat.le_of_ble_eq_true rfl, Nat.le_of_ble_eq_true rfl⟩⟩
theorem j_title (l : Launch) (G : ZG) (hst : l.stackTraces = false) {c : Nat} {σ τ : St} (h : Inv c σ τ) (hc : c < 600) (q1 q2 : Nat → Nat) (oa : Nat) (κ : KC) (f : Nat → Int64) (μ : KM) (x : Int32) (x2 : Int32) :
    JL l G c q1 q2 oa σ κ f τ μ yL_title (wYW yL_title cL_title 5 (some .int) [(0, 9, 12, 35), (0, 9, 16, 41)]) yX6_title (wY yX6_title cX6_title 3 (some .long)) [.int x, .int x2] := by
  have hI := h.2.1
  have hM := Inv_okM h
  have e0 := h.1.1 0 (by omega)
  have e1 := h.1.1 1 (by omega)
  have e2 := h.1.1 2 (by omega)
  have e3 := h.1.1 3 (by omega)
  have e4 := h.1.1 4 (by omega)
  have e5 := h.1.1 5 (by omega)
  have e6 := h.1.1 6 (by omega)
  have e7 := h.1.1 7 (by omega)
  obtain ⟨hn, hru, hrv, hdv, hsr, hmn, ht1, ht2, hwn, hv1, hv2, hmj, htm, hse, htg, hrt, hac, hk1, hk2, hkd, hmm, hmv, hord, hpo, hlo⟩ := h.2.1
  obtain ⟨a, ha, rfl⟩ := zI_ex x
  obtain ⟨b, hb, rfl⟩ := zI_ex x2
  have f2 := h.1.2.1 2 (by omega)
  have f0 := h.1.2.2.2.2.2 0 (by omega)
  by_cases c1 : 0 ≤ a ∧ a < ((σ.1 4 : Nat) : Int)
  · obtain ⟨i, rfl⟩ : ∃ n : Nat, a = (n : Int) := ⟨(a).toNat, by omega⟩
    by_cases c2 : 0 ≤ b ∧ b < ((σ.2.1 2 i : Nat) : Int) ∧ ((σ.2.1 2 i : Nat) : Int) - 4 ≤ b
    · obtain ⟨k, rfl⟩ : ∃ n : Nat, b = (n : Int) := ⟨(b).toNat, by omega⟩
      exact ⟨0, σ.2.2.2 0 (4 * i + k % 4), σ, τ, h.mono, jLa (m_L_title l G q1 σ κ oa f i rfl k rfl hI (by omega) (by omega) (by omega)) rfl ⟨Nat.le_of_ble_eq_true rfl, Nat.le_of_ble_eq_true rfl, Nat.le_of_ble_eq_true rfl, Nat.le_of_ble_eq_true rfl⟩, jML (m_X6_title l G q2 τ μ i rfl k rfl hM (by omega) (by rw [← f2]; omega) (by rw [← f2]; omega)) (by rw [f0]) ⟨Nat.le_of_ble_eq_true rfl, Nat.le_of_ble_eq_true rfl, Nat.le_of_ble_eq_true rfl, Nat.le_of_ble_eq_true rfl⟩⟩
    · exact ⟨2, 0, σ, τ, h.mono, jLx (m_L_title_x2 l G hst q1 σ κ oa f i rfl b hI (by omega) hb c2) (by decide) ⟨Nat.le_of_ble_eq_true rfl, Nat.le_of_ble_eq_true rfl, Nat.le_of_ble_eq_true rfl, Nat.le_of_ble_eq_true rfl⟩, jML (m_X6_title_t2 l G q2 τ μ i rfl b hM (by omega) hb (by rw [← f2]; exact c2)) rfl ⟨Nat.le_of_ble_eq_true rfl, Nat.le_of_ble_eq_true rfl, Nat.le_of_ble_eq_true rfl, Nat.le_of_ble_eq_true rfl⟩⟩
  · exact ⟨1, 0, σ, τ, h.mono, jLx (m_L_title_x1 l G hst q1 σ κ oa f a b hI ha (by omega)) (by decide) ⟨Nat.le_of_ble_eq_true rfl, Nat.le_of_ble_eq_true rfl, Nat.le_of_ble_eq_true rfl, Nat.le_of_ble_eq_true rfl⟩, jML (m_X6_title_t1 l G q2 τ μ a b hM ha (by omega)) rfl ⟨Nat.le_of_ble_eq_true rfl, Nat.le_of_ble_eq_true rfl, Nat.le_of_ble_eq_true rfl, Nat.le_of_ble_eq_true rfl⟩⟩
theorem j_versions (l : Launch) (G : ZG) (hst : l.stackTraces = false) {c : Nat} {σ τ : St} (h : Inv c σ τ) (hc : c < 600) (q1 q2 : Nat → Nat) (oa : Nat) (κ : KC) (f : Nat → Int64) (μ : KM) (x : Int32) :
    JI l G c q1 q2 oa σ κ f τ μ yL_versions (wYW yL_versions cL_versions 4 (some .int) [(0, 9, 12, 35)]) yX6_versions (wY yX6_versions cX6_versions 2 (some .int)) [.int x] := by
  have hI := h.2.1
  have hM := Inv_okM h
  have e0 := h.1.1 0 (by omega)
  have e1 := h.1.1 1 (by omega)
  have e2 := h.1.1 2 (by omega)
  have e3 := h.1.1 3 (by omega)
  have e4 := h.1.1 4 (by omega)
  have e5 := h.1.1 5 (by omega)
  have e6 := h.1.1 6 (by omega)
  have e7 := h.1.1 7 (by omega)
  obtain ⟨hn, hru, hrv, hdv, hsr, hmn, ht1, ht2, hwn, hv1, hv2, hmj, htm, hse, htg, hrt, hac, hk1, hk2, hkd, hmm, hmv, hord, hpo, hlo⟩ := h.2.1
  obtain ⟨a, ha, rfl⟩ := zI_ex x
  by_cases c1 : 0 ≤ a ∧ a < ((σ.1 4 : Nat) : Int)
  · obtain ⟨i, rfl⟩ : ∃ n : Nat, a = (n : Int) := ⟨(a).toNat, by omega⟩
    have hi : i < σ.1 4 := by omega
    have hi2 : i < τ.1 4 := by omega
    exact ⟨0, zI ((σ.2.1 2 i : Nat) : Int), σ, τ, h.mono, jLa (m_L_versions l G q1 σ κ oa f i rfl hI hi) rfl ⟨Nat.le_of_ble_eq_true rfl, Nat.le_of_ble_eq_true rfl, Nat.le_of_ble_eq_true rfl, Nat.le_of_ble_eq_true rfl⟩, jMI (m_X6_versions l G q2 τ μ i rfl hM hi2) (by rw [h.1.2.1 2 (by omega)]) ⟨Nat.le_of_ble_eq_true rfl, Nat.le_of_ble_eq_true rfl, Nat.le_of_ble_eq_true rfl, Nat.le_of_ble_eq_true rfl⟩⟩
  · exact ⟨1, zI 0, σ, τ, h.mono, jLx (m_L_versions_x l G hst q1 σ κ oa f a hI ha (by omega)) (by decide) ⟨Nat.le_of_ble_eq_true rfl, Nat.le_of_ble_eq_true rfl, Nat.le_of_ble_eq_true rfl, Nat.le_of_ble_eq_true rfl⟩, jMI (m_X6_versions_t1 l G q2 τ μ a hM ha (by omega)) rfl ⟨Nat.le_of_ble_eq_true rfl, Nat.le_of_ble_eq_true rfl, Nat.le_of_ble_eq_true rfl, Nat.le_of_ble_eq_true rfl⟩⟩
theorem j_latestMajor (l : Launch) (G : ZG) (hst : l.stackTraces = false) {c : Nat} {σ τ : St} (h : Inv c σ τ) (hc : c < 600) (q1 q2 : Nat → Nat) (oa : Nat) (κ : KC) (f : Nat → Int64) (μ : KM) (x : Int32) :
    JI l G c q1 q2 oa σ κ f τ μ yL_latestMajor (wYW yL_latestMajor cL_latestMajor 4 (some .int) [(0, 9, 12, 35)]) yX6_latestMajor (wY yX6_latestMajor cX6_latestMajor 2 (some .int)) [.int x] := by
  have hI := h.2.1
  have hM := Inv_okM h
  have e0 := h.1.1 0 (by omega)
  have e1 := h.1.1 1 (by omega)
  have e2 := h.1.1 2 (by omega)
  have e3 := h.1.1 3 (by omega)
  have e4 := h.1.1 4 (by omega)
  have e5 := h.1.1 5 (by omega)
  have e6 := h.1.1 6 (by omega)
  have e7 := h.1.1 7 (by omega)
  obtain ⟨hn, hru, hrv, hdv, hsr, hmn, ht1, ht2, hwn, hv1, hv2, hmj, htm, hse, htg, hrt, hac, hk1, hk2, hkd, hmm, hmv, hord, hpo, hlo⟩ := h.2.1
  obtain ⟨a, ha, rfl⟩ := zI_ex x
  by_cases c1 : 0 ≤ a ∧ a < ((σ.1 4 : Nat) : Int)
  · obtain ⟨i, rfl⟩ : ∃ n : Nat, a = (n : Int) := ⟨(a).toNat, by omega⟩
    have hi : i < σ.1 4 := by omega
    have hi2 : i < τ.1 4 := by omega
    exact ⟨0, zI ((σ.2.1 3 i : Nat) : Int), σ, τ, h.mono, jLa (m_L_latestMajor l G q1 σ κ oa f i rfl hI hi) rfl ⟨Nat.le_of_ble_eq_true rfl, Nat.le_of_ble_eq_true rfl, Nat.le_of_ble_eq_true rfl, Nat.le_of_ble_eq_true rfl⟩, jMI (m_X6_latestMajor l G q2 τ μ i rfl hM hi2) (by rw [h.1.2.1 3 (by omega)]) ⟨Nat.le_of_ble_eq_true rfl, Nat.le_of_ble_eq_true rfl, Nat.le_of_ble_eq_true rfl, Nat.le_of_ble_eq_true rfl⟩⟩
  · exact ⟨1, zI 0, σ, τ, h.mono, jLx (m_L_latestMajor_x l G hst q1 σ κ oa f a hI ha (by omega)) (by decide) ⟨Nat.le_of_ble_eq_true rfl, Nat.le_of_ble_eq_true rfl, Nat.le_of_ble_eq_true rfl, Nat.le_of_ble_eq_true rfl⟩, jMI (m_X6_latestMajor_t1 l G q2 τ μ a hM ha (by omega)) rfl ⟨Nat.le_of_ble_eq_true rfl, Nat.le_of_ble_eq_true rfl, Nat.le_of_ble_eq_true rfl, Nat.le_of_ble_eq_true rfl⟩⟩
theorem j_sourcesOf (l : Launch) (G : ZG) (hst : l.stackTraces = false) {c : Nat} {σ τ : St} (h : Inv c σ τ) (hc : c < 600) (q1 q2 : Nat → Nat) (oa : Nat) (κ : KC) (f : Nat → Int64) (μ : KM) (x : Int32) :
    JI l G c q1 q2 oa σ κ f τ μ yL_sourcesOf (wYW yL_sourcesOf cL_sourcesOf 4 (some .int) [(0, 9, 12, 35)]) yX6_sourcesOf (wY yX6_sourcesOf cX6_sourcesOf 2 (some .int)) [.int x] := by
  have hI := h.2.1
  have hM := Inv_okM h
  have e0 := h.1.1 0 (by omega)
  have e1 := h.1.1 1 (by omega)
  have e2 := h.1.1 2 (by omega)
  have e3 := h.1.1 3 (by omega)
  have e4 := h.1.1 4 (by omega)
  have e5 := h.1.1 5 (by omega)
  have e6 := h.1.1 6 (by omega)
  have e7 := h.1.1 7 (by omega)
  obtain ⟨hn, hru, hrv, hdv, hsr, hmn, ht1, ht2, hwn, hv1, hv2, hmj, htm, hse, htg, hrt, hac, hk1, hk2, hkd, hmm, hmv, hord, hpo, hlo⟩ := h.2.1
  obtain ⟨a, ha, rfl⟩ := zI_ex x
  by_cases c1 : 0 ≤ a ∧ a < ((σ.1 4 : Nat) : Int)
  · obtain ⟨i, rfl⟩ : ∃ n : Nat, a = (n : Int) := ⟨(a).toNat, by omega⟩
    have hi : i < σ.1 4 := by omega
    have hi2 : i < τ.1 4 := by omega
    exact ⟨0, σ.2.2.1 0 i, σ, τ, h.mono, jLa (m_L_sourcesOf l G q1 σ κ oa f i rfl hI hi) rfl ⟨Nat.le_of_ble_eq_true rfl, Nat.le_of_ble_eq_true rfl, Nat.le_of_ble_eq_true rfl, Nat.le_of_ble_eq_true rfl⟩, jMI (m_X6_sourcesOf l G q2 τ μ i rfl hM hi2) (by rw [h.1.2.2.2.2.1 0 (by omega)]) ⟨Nat.le_of_ble_eq_true rfl, Nat.le_of_ble_eq_true rfl, Nat.le_of_ble_eq_true rfl, Nat.le_of_ble_eq_true rfl⟩⟩
  · exact ⟨1, zI 0, σ, τ, h.mono, jLx (m_L_sourcesOf_x l G hst q1 σ κ oa f a hI ha (by omega)) (by decide) ⟨Nat.le_of_ble_eq_true rfl, Nat.le_of_ble_eq_true rfl, Nat.le_of_ble_eq_true rfl, Nat.le_of_ble_eq_true rfl⟩, jMI (m_X6_sourcesOf_t1 l G q2 τ μ a hM ha (by omega)) rfl ⟨Nat.le_of_ble_eq_true rfl, Nat.le_of_ble_eq_true rfl, Nat.le_of_ble_eq_true rfl, Nat.le_of_ble_eq_true rfl⟩⟩
theorem j_timeOf (l : Launch) (G : ZG) (hst : l.stackTraces = false) {c : Nat} {σ τ : St} (h : Inv c σ τ) (hc : c < 600) (q1 q2 : Nat → Nat) (oa : Nat) (κ : KC) (f : Nat → Int64) (μ : KM) (x : Int32) :
    JI l G c q1 q2 oa σ κ f τ μ yL_timeOf (wYW yL_timeOf cL_timeOf 4 (some .int) [(0, 9, 12, 35)]) yX6_timeOf (wY yX6_timeOf cX6_timeOf 2 (some .int)) [.int x] := by
  have hI := h.2.1
  have hM := Inv_okM h
  have e0 := h.1.1 0 (by omega)
  have e1 := h.1.1 1 (by omega)
  have e2 := h.1.1 2 (by omega)
  have e3 := h.1.1 3 (by omega)
  have e4 := h.1.1 4 (by omega)
  have e5 := h.1.1 5 (by omega)
  have e6 := h.1.1 6 (by omega)
  have e7 := h.1.1 7 (by omega)
  obtain ⟨hn, hru, hrv, hdv, hsr, hmn, ht1, ht2, hwn, hv1, hv2, hmj, htm, hse, htg, hrt, hac, hk1, hk2, hkd, hmm, hmv, hord, hpo, hlo⟩ := h.2.1
  obtain ⟨a, ha, rfl⟩ := zI_ex x
  by_cases c1 : 0 ≤ a ∧ a < ((σ.1 4 : Nat) : Int)
  · obtain ⟨i, rfl⟩ : ∃ n : Nat, a = (n : Int) := ⟨(a).toNat, by omega⟩
    have hi : i < σ.1 4 := by omega
    have hi2 : i < τ.1 4 := by omega
    exact ⟨0, zI ((σ.2.1 1 i : Nat) : Int), σ, τ, h.mono, jLa (m_L_timeOf l G q1 σ κ oa f i rfl hI hi) rfl ⟨Nat.le_of_ble_eq_true rfl, Nat.le_of_ble_eq_true rfl, Nat.le_of_ble_eq_true rfl, Nat.le_of_ble_eq_true rfl⟩, jMI (m_X6_timeOf l G q2 τ μ i rfl hM hi2) (by rw [h.1.2.1 1 (by omega)]) ⟨Nat.le_of_ble_eq_true rfl, Nat.le_of_ble_eq_true rfl, Nat.le_of_ble_eq_true rfl, Nat.le_of_ble_eq_true rfl⟩⟩
  · exact ⟨1, zI 0, σ, τ, h.mono, jLx (m_L_timeOf_x l G hst q1 σ κ oa f a hI ha (by omega)) (by decide) ⟨Nat.le_of_ble_eq_true rfl, Nat.le_of_ble_eq_true rfl, Nat.le_of_ble_eq_true rfl, Nat.le_of_ble_eq_true rfl⟩, jMI (m_X6_timeOf_t1 l G q2 τ μ a hM ha (by omega)) rfl ⟨Nat.le_of_ble_eq_true rfl, Nat.le_of_ble_eq_true rfl, Nat.le_of_ble_eq_true rfl, Nat.le_of_ble_eq_true rfl⟩⟩
theorem j_tagsOf (l : Launch) (G : ZG) (hst : l.stackTraces = false) {c : Nat} {σ τ : St} (h : Inv c σ τ) (hc : c < 600) (q1 q2 : Nat → Nat) (oa : Nat) (κ : KC) (f : Nat → Int64) (μ : KM) (x : Int32) :
    JI l G c q1 q2 oa σ κ f τ μ yL_tagsOf (wYW yL_tagsOf cL_tagsOf 4 (some .int) [(0, 9, 12, 35)]) yX6_tagsOf (wY yX6_tagsOf cX6_tagsOf 2 (some .int)) [.int x] := by
  have hI := h.2.1
  have hM := Inv_okM h
  have e0 := h.1.1 0 (by omega)
  have e1 := h.1.1 1 (by omega)
  have e2 := h.1.1 2 (by omega)
  have e3 := h.1.1 3 (by omega)
  have e4 := h.1.1 4 (by omega)
  have e5 := h.1.1 5 (by omega)
  have e6 := h.1.1 6 (by omega)
  have e7 := h.1.1 7 (by omega)
  obtain ⟨hn, hru, hrv, hdv, hsr, hmn, ht1, ht2, hwn, hv1, hv2, hmj, htm, hse, htg, hrt, hac, hk1, hk2, hkd, hmm, hmv, hord, hpo, hlo⟩ := h.2.1
  obtain ⟨a, ha, rfl⟩ := zI_ex x
  by_cases c1 : 0 ≤ a ∧ a < ((σ.1 4 : Nat) : Int)
  · obtain ⟨i, rfl⟩ : ∃ n : Nat, a = (n : Int) := ⟨(a).toNat, by omega⟩
    have hi : i < σ.1 4 := by omega
    have hi2 : i < τ.1 4 := by omega
    exact ⟨0, out σ i &&& zI 255, σ, τ, h.mono, jLa (m_L_tagsOf l G q1 σ κ oa f i rfl hI hi) rfl ⟨Nat.le_of_ble_eq_true rfl, Nat.le_of_ble_eq_true rfl, Nat.le_of_ble_eq_true rfl, Nat.le_of_ble_eq_true rfl⟩, jMI (m_X6_tagsOf l G q2 τ μ i rfl hM hi2) ((h.tags i).1).symm ⟨Nat.le_of_ble_eq_true rfl, Nat.le_of_ble_eq_true rfl, Nat.le_of_ble_eq_true rfl, Nat.le_of_ble_eq_true rfl⟩⟩
  · exact ⟨1, zI 0, σ, τ, h.mono, jLx (m_L_tagsOf_x l G hst q1 σ κ oa f a hI ha (by omega)) (by decide) ⟨Nat.le_of_ble_eq_true rfl, Nat.le_of_ble_eq_true rfl, Nat.le_of_ble_eq_true rfl, Nat.le_of_ble_eq_true rfl⟩, jMI (m_X6_tagsOf_t1 l G q2 τ μ a hM ha (by omega)) rfl ⟨Nat.le_of_ble_eq_true rfl, Nat.le_of_ble_eq_true rfl, Nat.le_of_ble_eq_true rfl, Nat.le_of_ble_eq_true rfl⟩⟩
theorem j_isHidden (l : Launch) (G : ZG) (hst : l.stackTraces = false) {c : Nat} {σ τ : St} (h : Inv c σ τ) (hc : c < 600) (q1 q2 : Nat → Nat) (oa : Nat) (κ : KC) (f : Nat → Int64) (μ : KM) (x : Int32) :
    JZ l G c q1 q2 oa σ κ f τ μ yL_isHidden (wYW yL_isHidden cL_isHidden 4 (some .int) [(0, 16, 19, 35)]) yX6_isHidden (wY yX6_isHidden cX6_isHidden 2 (some .boolean)) [.int x] := by
  have hI := h.2.1
  have hM := Inv_okM h
  have e0 := h.1.1 0 (by omega)
  have e1 := h.1.1 1 (by omega)
  have e2 := h.1.1 2 (by omega)
  have e3 := h.1.1 3 (by omega)
  have e4 := h.1.1 4 (by omega)
  have e5 := h.1.1 5 (by omega)
  have e6 := h.1.1 6 (by omega)
  have e7 := h.1.1 7 (by omega)
  obtain ⟨hn, hru, hrv, hdv, hsr, hmn, ht1, ht2, hwn, hv1, hv2, hmj, htm, hse, htg, hrt, hac, hk1, hk2, hkd, hmm, hmv, hord, hpo, hlo⟩ := h.2.1
  obtain ⟨a, ha, rfl⟩ := zI_ex x
  by_cases c1 : 0 ≤ a ∧ a < ((σ.1 4 : Nat) : Int)
  · obtain ⟨i, rfl⟩ : ∃ n : Nat, a = (n : Int) := ⟨(a).toNat, by omega⟩
    have hi : i < σ.1 4 := by omega
    have hi2 : i < τ.1 4 := by omega
    exact ⟨0, tb (out σ i) 8, σ, τ, h.mono, jLa (m_L_isHidden l G q1 σ κ oa f i rfl hI hi) rfl ⟨Nat.le_of_ble_eq_true rfl, Nat.le_of_ble_eq_true rfl, Nat.le_of_ble_eq_true rfl, Nat.le_of_ble_eq_true rfl⟩, jMI (m_X6_isHidden l G q2 τ μ i rfl hM hi2) (by rw [(h.tags i).2]) ⟨Nat.le_of_ble_eq_true rfl, Nat.le_of_ble_eq_true rfl, Nat.le_of_ble_eq_true rfl, Nat.le_of_ble_eq_true rfl⟩⟩
  · exact ⟨1, false, σ, τ, h.mono, jLx (m_L_isHidden_x l G hst q1 σ κ oa f a hI ha (by omega)) (by decide) ⟨Nat.le_of_ble_eq_true rfl, Nat.le_of_ble_eq_true rfl, Nat.le_of_ble_eq_true rfl, Nat.le_of_ble_eq_true rfl⟩, jMI (m_X6_isHidden_t1 l G q2 τ μ a hM ha (by omega)) rfl ⟨Nat.le_of_ble_eq_true rfl, Nat.le_of_ble_eq_true rfl, Nat.le_of_ble_eq_true rfl, Nat.le_of_ble_eq_true rfl⟩⟩
theorem j_isRead (l : Launch) (G : ZG) (hst : l.stackTraces = false) {c : Nat} {σ τ : St} (h : Inv c σ τ) (hc : c < 600) (q1 q2 : Nat → Nat) (oa : Nat) (κ : KC) (f : Nat → Int64) (μ : KM) (x : Int32) :
    JZ l G c q1 q2 oa σ κ f τ μ yL_isRead (wYW yL_isRead cL_isRead 4 (some .int) [(0, 16, 19, 35)]) yX6_isRead (wY yX6_isRead cX6_isRead 2 (some .boolean)) [.int x] := by
  have hI := h.2.1
  have hM := Inv_okM h
  have e0 := h.1.1 0 (by omega)
  have e1 := h.1.1 1 (by omega)
  have e2 := h.1.1 2 (by omega)
  have e3 := h.1.1 3 (by omega)
  have e4 := h.1.1 4 (by omega)
  have e5 := h.1.1 5 (by omega)
  have e6 := h.1.1 6 (by omega)
  have e7 := h.1.1 7 (by omega)
  obtain ⟨hn, hru, hrv, hdv, hsr, hmn, ht1, ht2, hwn, hv1, hv2, hmj, htm, hse, htg, hrt, hac, hk1, hk2, hkd, hmm, hmv, hord, hpo, hlo⟩ := h.2.1
  obtain ⟨a, ha, rfl⟩ := zI_ex x
  by_cases c1 : 0 ≤ a ∧ a < ((σ.1 4 : Nat) : Int)
  · obtain ⟨i, rfl⟩ : ∃ n : Nat, a = (n : Int) := ⟨(a).toNat, by omega⟩
    have hi : i < σ.1 4 := by omega
    have hi2 : i < τ.1 4 := by omega
    exact ⟨0, rdR σ i, σ, τ, h.mono, jLa (m_L_isRead l G q1 σ κ oa f i rfl hI hi) rfl ⟨Nat.le_of_ble_eq_true rfl, Nat.le_of_ble_eq_true rfl, Nat.le_of_ble_eq_true rfl, Nat.le_of_ble_eq_true rfl⟩, jMI (m_X6_isRead l G q2 τ μ i rfl hM hi2) (by rw [Sh_rdR h.1]) ⟨Nat.le_of_ble_eq_true rfl, Nat.le_of_ble_eq_true rfl, Nat.le_of_ble_eq_true rfl, Nat.le_of_ble_eq_true rfl⟩⟩
  · exact ⟨1, false, σ, τ, h.mono, jLx (m_L_isRead_x l G hst q1 σ κ oa f a hI ha (by omega)) (by decide) ⟨Nat.le_of_ble_eq_true rfl, Nat.le_of_ble_eq_true rfl, Nat.le_of_ble_eq_true rfl, Nat.le_of_ble_eq_true rfl⟩, jMI (m_X6_isRead_t1 l G q2 τ μ a hM ha (by omega)) rfl ⟨Nat.le_of_ble_eq_true rfl, Nat.le_of_ble_eq_true rfl, Nat.le_of_ble_eq_true rfl, Nat.le_of_ble_eq_true rfl⟩⟩
theorem j_matches (l : Launch) (G : ZG) (hst : l.stackTraces = false) {c : Nat} {σ τ : St} (h : Inv c σ τ) (hc : c < 600) (q1 q2 : Nat → Nat) (oa : Nat) (κ : KC) (f : Nat → Int64) (μ : KM) (x : Int32) :
    JI l G c q1 q2 oa σ κ f τ μ yL_matches (wYW yL_matches cL_matches 4 (some .int) [(0, 9, 12, 35)]) yX6_matches (wY yX6_matches cX6_matches 4 (some .int)) [.int x] := by
  have hI := h.2.1
  have hM := Inv_okM h
  have e0 := h.1.1 0 (by omega)
  have e1 := h.1.1 1 (by omega)
  have e2 := h.1.1 2 (by omega)
  have e3 := h.1.1 3 (by omega)
  have e4 := h.1.1 4 (by omega)
  have e5 := h.1.1 5 (by omega)
  have e6 := h.1.1 6 (by omega)
  have e7 := h.1.1 7 (by omega)
  obtain ⟨hn, hru, hrv, hdv, hsr, hmn, ht1, ht2, hwn, hv1, hv2, hmj, htm, hse, htg, hrt, hac, hk1, hk2, hkd, hmm, hmv, hord, hpo, hlo⟩ := h.2.1
  obtain ⟨a, ha, rfl⟩ := zI_ex x
  by_cases c1 : 0 ≤ a ∧ a < ((σ.1 5 : Nat) : Int)
  · obtain ⟨i, rfl⟩ : ∃ n : Nat, a = (n : Int) := ⟨(a).toNat, by omega⟩
    have hi : i < σ.1 5 := by omega
    have hi2 : i < τ.1 5 := by omega
    exact ⟨0, zI ((cnt (mtc σ i) (σ.1 4) : Nat) : Int), σ, τ, h.mono, jLa (m_L_matches l G q1 σ κ oa f i rfl hI hi) rfl ⟨Nat.le_of_ble_eq_true rfl, Nat.le_of_ble_eq_true rfl, Nat.le_of_ble_eq_true rfl, Nat.le_of_ble_eq_true rfl⟩, jUI (m_X6_matches l G q2 τ μ i rfl hM hi2) (by rw [h.matches hi]) ⟨Nat.le_of_ble_eq_true rfl, Nat.le_of_ble_eq_true rfl, Nat.le_of_ble_eq_true rfl, Nat.le_of_ble_eq_true rfl⟩⟩
  · exact ⟨1, zI 0, σ, τ, h.mono, jLx (m_L_matches_x l G hst q1 σ κ oa f a hI ha (by omega)) (by decide) ⟨Nat.le_of_ble_eq_true rfl, Nat.le_of_ble_eq_true rfl, Nat.le_of_ble_eq_true rfl, Nat.le_of_ble_eq_true rfl⟩, jMI (m_X6_matches_t1 l G q2 τ μ a hM ha (by omega)) rfl ⟨Nat.le_of_ble_eq_true rfl, Nat.le_of_ble_eq_true rfl, Nat.le_of_ble_eq_true rfl, Nat.le_of_ble_eq_true rfl⟩⟩
theorem j_dropRule (l : Launch) (G : ZG) (hst : l.stackTraces = false) {c : Nat} {σ τ : St} (h : Inv c σ τ) (hc : c < 600) (q1 q2 : Nat → Nat) (oa : Nat) (κ : KC) (f : Nat → Int64) (μ : KM) (x : Int32) :
    JI l G c q1 q2 oa σ κ f τ μ yL_dropRule (wYW yL_dropRule cL_dropRule 4 (some .int) [(0, 9, 12, 35)]) yX6_dropRule (wY yX6_dropRule cX6_dropRule 3 (some .int)) [.int x] := by
  have hI := h.2.1
  have hM := Inv_okM h
  have e0 := h.1.1 0 (by omega)
  have e1 := h.1.1 1 (by omega)
  have e2 := h.1.1 2 (by omega)
  have e3 := h.1.1 3 (by omega)
  have e4 := h.1.1 4 (by omega)
  have e5 := h.1.1 5 (by omega)
  have e6 := h.1.1 6 (by omega)
  have e7 := h.1.1 7 (by omega)
  obtain ⟨hn, hru, hrv, hdv, hsr, hmn, ht1, ht2, hwn, hv1, hv2, hmj, htm, hse, htg, hrt, hac, hk1, hk2, hkd, hmm, hmv, hord, hpo, hlo⟩ := h.2.1
  obtain ⟨a, ha, rfl⟩ := zI_ex x
  by_cases c1 : 0 ≤ a ∧ a < ((σ.1 5 : Nat) : Int)
  · obtain ⟨i, rfl⟩ : ∃ n : Nat, a = (n : Int) := ⟨(a).toNat, by omega⟩
    have hi : i < σ.1 5 := by omega
    have hi2 : i < τ.1 5 := by omega
    exact ⟨0, zI ((σ.1 5 - 1 : Nat) : Int), drp σ i (σ.1 5 - 1 - i), drp τ i (τ.1 5 - 1 - i), by rw [← e5]; exact (h.drp i _).mono, jLa (m_L_dropRule l G q1 σ κ oa f i rfl hI hi) rfl ⟨Nat.le_of_ble_eq_true rfl, Nat.le_of_ble_eq_true rfl, Nat.le_of_ble_eq_true rfl, Nat.le_of_ble_eq_true rfl⟩, jMI (m_X6_dropRule l G q2 τ μ i rfl hM hi2) (by rw [e5]) ⟨Nat.le_of_ble_eq_true rfl, Nat.le_of_ble_eq_true rfl, Nat.le_of_ble_eq_true rfl, Nat.le_of_ble_eq_true rfl⟩⟩
  · exact ⟨1, zI 0, σ, τ, h.mono, jLx (m_L_dropRule_x l G hst q1 σ κ oa f a hI ha (by omega)) (by decide) ⟨Nat.le_of_ble_eq_true rfl, Nat.le_of_ble_eq_true rfl, Nat.le_of_ble_eq_true rfl, Nat.le_of_ble_eq_true rfl⟩, jMI (m_X6_dropRule_t1 l G q2 τ μ a hM ha (by omega)) rfl ⟨Nat.le_of_ble_eq_true rfl, Nat.le_of_ble_eq_true rfl, Nat.le_of_ble_eq_true rfl, Nat.le_of_ble_eq_true rfl⟩⟩
theorem j_riverSize (l : Launch) (G : ZG) (hst : l.stackTraces = false) {c : Nat} {σ τ : St} (h : Inv c σ τ) (hc : c < 600) (q1 q2 : Nat → Nat) (oa : Nat) (κ : KC) (f : Nat → Int64) (μ : KM) (x : Int32) :
    JI l G c q1 q2 oa σ κ f τ μ yL_riverSize (wYW yL_riverSize cL_riverSize 4 (some .int) [(0, 9, 12, 35)]) yX6_riverSize (wY yX6_riverSize cX6_riverSize 2 (some .int)) [.int x] := by
  have hI := h.2.1
  have hM := Inv_okM h
  have e0 := h.1.1 0 (by omega)
  have e1 := h.1.1 1 (by omega)
  have e2 := h.1.1 2 (by omega)
  have e3 := h.1.1 3 (by omega)
  have e4 := h.1.1 4 (by omega)
  have e5 := h.1.1 5 (by omega)
  have e6 := h.1.1 6 (by omega)
  have e7 := h.1.1 7 (by omega)
  obtain ⟨hn, hru, hrv, hdv, hsr, hmn, ht1, ht2, hwn, hv1, hv2, hmj, htm, hse, htg, hrt, hac, hk1, hk2, hkd, hmm, hmv, hord, hpo, hlo⟩ := h.2.1
  obtain ⟨a, ha, rfl⟩ := zI_ex x
  by_cases c1 : 0 ≤ a ∧ a < ((σ.1 6 : Nat) : Int)
  · obtain ⟨i, rfl⟩ : ∃ n : Nat, a = (n : Int) := ⟨(a).toNat, by omega⟩
    have hi : i < σ.1 6 := by omega
    have hi2 : i < τ.1 6 := by omega
    exact ⟨0, zI ((cnt (shM τ i) (τ.1 4) : Nat) : Int), σ, τ, h.mono, jLa (m_L_riverSize l G q1 σ κ oa f i rfl hI hi) (by rw [h.size i κ.1]) ⟨Nat.le_of_ble_eq_true rfl, Nat.le_of_ble_eq_true rfl, Nat.le_of_ble_eq_true rfl, Nat.le_of_ble_eq_true rfl⟩, jUI (m_X6_riverSize l G q2 τ μ i rfl hM hi2) rfl ⟨Nat.le_of_ble_eq_true rfl, Nat.le_of_ble_eq_true rfl, Nat.le_of_ble_eq_true rfl, Nat.le_of_ble_eq_true rfl⟩⟩
  · exact ⟨1, zI 0, σ, τ, h.mono, jLx (m_L_riverSize_x l G hst q1 σ κ oa f a hI ha (by omega)) (by decide) ⟨Nat.le_of_ble_eq_true rfl, Nat.le_of_ble_eq_true rfl, Nat.le_of_ble_eq_true rfl, Nat.le_of_ble_eq_true rfl⟩, jMI (m_X6_riverSize_t1 l G q2 τ μ a hM ha (by omega)) rfl ⟨Nat.le_of_ble_eq_true rfl, Nat.le_of_ble_eq_true rfl, Nat.le_of_ble_eq_true rfl, Nat.le_of_ble_eq_true rfl⟩⟩
theorem j_unread (l : Launch) (G : ZG) (hst : l.stackTraces = false) {c : Nat} {σ τ : St} (h : Inv c σ τ) (hc : c < 600) (q1 q2 : Nat → Nat) (oa : Nat) (κ : KC) (f : Nat → Int64) (μ : KM) (x : Int32) :
    JI l G c q1 q2 oa σ κ f τ μ yL_unread (wYW yL_unread cL_unread 4 (some .int) [(0, 9, 12, 35)]) yX6_unread (wY yX6_unread cX6_unread 2 (some .int)) [.int x] := by
  have hI := h.2.1
  have hM := Inv_okM h
  have e0 := h.1.1 0 (by omega)
  have e1 := h.1.1 1 (by omega)
  have e2 := h.1.1 2 (by omega)
  have e3 := h.1.1 3 (by omega)
  have e4 := h.1.1 4 (by omega)
  have e5 := h.1.1 5 (by omega)
  have e6 := h.1.1 6 (by omega)
  have e7 := h.1.1 7 (by omega)
  obtain ⟨hn, hru, hrv, hdv, hsr, hmn, ht1, ht2, hwn, hv1, hv2, hmj, htm, hse, htg, hrt, hac, hk1, hk2, hkd, hmm, hmv, hord, hpo, hlo⟩ := h.2.1
  obtain ⟨a, ha, rfl⟩ := zI_ex x
  by_cases c1 : 0 ≤ a ∧ a < ((σ.1 6 : Nat) : Int)
  · obtain ⟨i, rfl⟩ : ∃ n : Nat, a = (n : Int) := ⟨(a).toNat, by omega⟩
    have hi : i < σ.1 6 := by omega
    have hi2 : i < τ.1 6 := by omega
    exact ⟨0, zI ((cnt (fun y9 => shM τ i y9 && !rdR τ y9) (τ.1 4) : Nat) : Int), σ, τ, h.mono, jLa (m_L_unread l G q1 σ κ oa f i rfl hI hi) (by rw [h.unread i κ.1]) ⟨Nat.le_of_ble_eq_true rfl, Nat.le_of_ble_eq_true rfl, Nat.le_of_ble_eq_true rfl, Nat.le_of_ble_eq_true rfl⟩, jUI (m_X6_unread l G q2 τ μ i rfl hM hi2) rfl ⟨Nat.le_of_ble_eq_true rfl, Nat.le_of_ble_eq_true rfl, Nat.le_of_ble_eq_true rfl, Nat.le_of_ble_eq_true rfl⟩⟩
  · exact ⟨1, zI 0, σ, τ, h.mono, jLx (m_L_unread_x l G hst q1 σ κ oa f a hI ha (by omega)) (by decide) ⟨Nat.le_of_ble_eq_true rfl, Nat.le_of_ble_eq_true rfl, Nat.le_of_ble_eq_true rfl, Nat.le_of_ble_eq_true rfl⟩, jMI (m_X6_unread_t1 l G q2 τ μ a hM ha (by omega)) rfl ⟨Nat.le_of_ble_eq_true rfl, Nat.le_of_ble_eq_true rfl, Nat.le_of_ble_eq_true rfl, Nat.le_of_ble_eq_true rfl⟩⟩
theorem j_addRule (l : Launch) (G : ZG) (hst : l.stackTraces = false) {c : Nat} {σ τ : St} (h : Inv c σ τ) (hc : c < 600) (q1 q2 : Nat → Nat) (oa : Nat) (κ : KC) (f : Nat → Int64) (μ : KM) (al : Int64) (an : Int64) (x : Int32) (x2 : Int32) (x3 : Int32) :
    JI l G c q1 q2 oa σ κ f τ μ yL_addRule (wYW yL_addRule cL_addRule 10 (some .int) [(0, 17, 20, 13), (0, 17, 24, 15)]) yX6_addRule (wY yX6_addRule cX6_addRule 8 (some .int)) [.long al, .long an, .int x, .int x2, .int x3] := by
  have hI := h.2.1
  have hM := Inv_okM h
  have e0 := h.1.1 0 (by omega)
  have e1 := h.1.1 1 (by omega)
  have e2 := h.1.1 2 (by omega)
  have e3 := h.1.1 3 (by omega)
  have e4 := h.1.1 4 (by omega)
  have e5 := h.1.1 5 (by omega)
  have e6 := h.1.1 6 (by omega)
  have e7 := h.1.1 7 (by omega)
  obtain ⟨hn, hru, hrv, hdv, hsr, hmn, ht1, ht2, hwn, hv1, hv2, hmj, htm, hse, htg, hrt, hac, hk1, hk2, hkd, hmm, hmv, hord, hpo, hlo⟩ := h.2.1
  obtain ⟨sr, hsr_, rfl⟩ := zI_ex x
  obtain ⟨tg, htg_, rfl⟩ := zI_ex x2
  obtain ⟨ac, hac_, rfl⟩ := zI_ex x3
  by_cases c1 : 0 ≤ sr ∧ sr ≤ 63 ∧ (-1 ≤ tg ∧ tg ≤ 7) ∧ 0 ≤ ac ∧ ac ≤ 9
  · obtain ⟨n, rfl⟩ : ∃ n : Nat, sr = (n : Int) := ⟨(sr).toNat, by omega⟩
    obtain ⟨t, rfl⟩ : ∃ n : Nat, tg = (n : Int) - 1 := ⟨(tg + 1).toNat, by omega⟩
    obtain ⟨k, rfl⟩ : ∃ n : Nat, ac = (n : Int) := ⟨(ac).toNat, by omega⟩
    by_cases c2 : σ.1 5 < 6
    · exact ⟨0, zI ((σ.1 5 : Nat) : Int), addR σ al an (zI ((n : Nat) : Int)) t k, addR τ al an (zI ((n : Nat) : Int)) t k, (h.addR c2 al an _ (by omega) (by omega)).mono, jLa (m_L_addRule l G q1 σ κ oa f al an n rfl t rfl k rfl hI (by omega) (by omega) (by omega) c2) rfl ⟨Nat.le_of_ble_eq_true rfl, Nat.le_of_ble_eq_true rfl, Nat.le_of_ble_eq_true rfl, Nat.le_of_ble_eq_true rfl⟩, jMI (m_X6_addRule l G q2 τ μ al an n rfl t rfl k rfl hM (by omega) (by omega) (by omega) (by omega)) (by rw [e5]) ⟨Nat.le_of_ble_eq_true rfl, Nat.le_of_ble_eq_true rfl, Nat.le_of_ble_eq_true rfl, Nat.le_of_ble_eq_true rfl⟩⟩
    · exact ⟨2, zI 0, σ, τ, h.mono, jLx (m_L_addRule_x2 l G hst q1 σ κ oa f al an n rfl t rfl k rfl hI (by omega) (by omega) (by omega) (by omega)) (by decide) ⟨Nat.le_of_ble_eq_true rfl, Nat.le_of_ble_eq_true rfl, Nat.le_of_ble_eq_true rfl, Nat.le_of_ble_eq_true rfl⟩, jMI (m_X6_addRule_t2 l G q2 τ μ al an n rfl t rfl k rfl hM (by omega) (by omega) (by omega) (by omega)) rfl ⟨Nat.le_of_ble_eq_true rfl, Nat.le_of_ble_eq_true rfl, Nat.le_of_ble_eq_true rfl, Nat.le_of_ble_eq_true rfl⟩⟩
  · exact ⟨1, zI 0, σ, τ, h.mono, jLx (m_L_addRule_x1 l G hst q1 σ κ oa f al an sr tg ac hI ⟨hsr_, htg_, hac_⟩ c1) (by decide) ⟨Nat.le_of_ble_eq_true rfl, Nat.le_of_ble_eq_true rfl, Nat.le_of_ble_eq_true rfl, Nat.le_of_ble_eq_true rfl⟩, jMI (m_X6_addRule_t1 l G q2 τ μ al an sr tg ac hM ⟨hsr_, htg_, hac_⟩ c1) rfl ⟨Nat.le_of_ble_eq_true rfl, Nat.le_of_ble_eq_true rfl, Nat.le_of_ble_eq_true rfl, Nat.le_of_ble_eq_true rfl⟩⟩
theorem j_addRiver (l : Launch) (G : ZG) (hst : l.stackTraces = false) {c : Nat} {σ τ : St} (h : Inv c σ τ) (hc : c < 600) (q1 q2 : Nat → Nat) (oa : Nat) (κ : KC) (f : Nat → Int64) (μ : KM) (x : Int32) (x2 : Int32) :
    JI l G c q1 q2 oa σ κ f τ μ yL_addRiver (wYW yL_addRiver cL_addRiver 5 (some .int) [(0, 10, 13, 13), (0, 10, 17, 15)]) yX6_addRiver (wY yX6_addRiver cX6_addRiver 3 (some .int)) [.int x, .int x2] := by
  have hI := h.2.1
  have hM := Inv_okM h
  have e0 := h.1.1 0 (by omega)
  have e1 := h.1.1 1 (by omega)
  have e2 := h.1.1 2 (by omega)
  have e3 := h.1.1 3 (by omega)
  have e4 := h.1.1 4 (by omega)
  have e5 := h.1.1 5 (by omega)
  have e6 := h.1.1 6 (by omega)
  have e7 := h.1.1 7 (by omega)
  obtain ⟨hn, hru, hrv, hdv, hsr, hmn, ht1, ht2, hwn, hv1, hv2, hmj, htm, hse, htg, hrt, hac, hk1, hk2, hkd, hmm, hmv, hord, hpo, hlo⟩ := h.2.1
  obtain ⟨sr, hsr_, rfl⟩ := zI_ex x
  obtain ⟨tg, htg_, rfl⟩ := zI_ex x2
  by_cases c1 : 1 ≤ sr ∧ sr ≤ 63 ∧ (-1 ≤ tg ∧ tg ≤ 7)
  · obtain ⟨n, rfl⟩ : ∃ n : Nat, sr = (n : Int) := ⟨(sr).toNat, by omega⟩
    obtain ⟨t, rfl⟩ : ∃ n : Nat, tg = (n : Int) - 1 := ⟨(tg + 1).toNat, by omega⟩
    by_cases c2 : σ.1 6 < 4
    · exact ⟨0, zI ((σ.1 6 : Nat) : Int), addV σ (zI ((n : Nat) : Int)) t, addV τ (zI ((n : Nat) : Int)) t, (h.addV c2 _ (by omega)).mono, jLa (m_L_addRiver l G q1 σ κ oa f n rfl t rfl hI (by omega) (by omega) (by omega) c2) rfl ⟨Nat.le_of_ble_eq_true rfl, Nat.le_of_ble_eq_true rfl, Nat.le_of_ble_eq_true rfl, Nat.le_of_ble_eq_true rfl⟩, jMI (m_X6_addRiver l G q2 τ μ n rfl t rfl hM (by omega) (by omega) (by omega) (by omega)) (by rw [e6]) ⟨Nat.le_of_ble_eq_true rfl, Nat.le_of_ble_eq_true rfl, Nat.le_of_ble_eq_true rfl, Nat.le_of_ble_eq_true rfl⟩⟩
    · exact ⟨2, zI 0, σ, τ, h.mono, jLx (m_L_addRiver_x2 l G hst q1 σ κ oa f n rfl t rfl hI (by omega) (by omega) (by omega) (by omega)) (by decide) ⟨Nat.le_of_ble_eq_true rfl, Nat.le_of_ble_eq_true rfl, Nat.le_of_ble_eq_true rfl, Nat.le_of_ble_eq_true rfl⟩, jMI (m_X6_addRiver_t2 l G q2 τ μ n rfl t rfl hM (by omega) (by omega) (by omega) (by omega)) rfl ⟨Nat.le_of_ble_eq_true rfl, Nat.le_of_ble_eq_true rfl, Nat.le_of_ble_eq_true rfl, Nat.le_of_ble_eq_true rfl⟩⟩
  · exact ⟨1, zI 0, σ, τ, h.mono, jLx (m_L_addRiver_x1 l G hst q1 σ κ oa f sr tg hI ⟨hsr_, htg_⟩ c1) (by decide) ⟨Nat.le_of_ble_eq_true rfl, Nat.le_of_ble_eq_true rfl, Nat.le_of_ble_eq_true rfl, Nat.le_of_ble_eq_true rfl⟩, jMI (m_X6_addRiver_t1 l G q2 τ μ sr tg hM ⟨hsr_, htg_⟩ c1) rfl ⟨Nat.le_of_ble_eq_true rfl, Nat.le_of_ble_eq_true rfl, Nat.le_of_ble_eq_true rfl, Nat.le_of_ble_eq_true rfl⟩⟩
theorem j_riverAt (l : Launch) (G : ZG) (hst : l.stackTraces = false) {c : Nat} {σ τ : St} (h : Inv c σ τ) (hc : c < 600) (q1 q2 : Nat → Nat) (oa : Nat) (κ : KC) (f : Nat → Int64) (μ : KM) (x : Int32) (x2 : Int32) :
    JI l G c q1 q2 oa σ κ f τ μ yL_riverAt (wYW yL_riverAt cL_riverAt 5 (some .int) [(0, 10, 13, 35), (0, 10, 17, 41)]) yX6_riverAt (wY yX6_riverAt cX6_riverAt 3 (some .int)) [.int x, .int x2] := by
  have hI := h.2.1
  have hM := Inv_okM h
  have e0 := h.1.1 0 (by omega)
  have e1 := h.1.1 1 (by omega)
  have e2 := h.1.1 2 (by omega)
  have e3 := h.1.1 3 (by omega)
  have e4 := h.1.1 4 (by omega)
  have e5 := h.1.1 5 (by omega)
  have e6 := h.1.1 6 (by omega)
  have e7 := h.1.1 7 (by omega)
  obtain ⟨hn, hru, hrv, hdv, hsr, hmn, ht1, ht2, hwn, hv1, hv2, hmj, htm, hse, htg, hrt, hac, hk1, hk2, hkd, hmm, hmv, hord, hpo, hlo⟩ := h.2.1
  obtain ⟨a, ha, rfl⟩ := zI_ex x
  obtain ⟨rk, hrk, rfl⟩ := zI_ex x2
  by_cases c1 : 0 ≤ a ∧ a < ((σ.1 6 : Nat) : Int)
  · obtain ⟨i, rfl⟩ : ∃ n : Nat, a = (n : Int) := ⟨(a).toNat, by omega⟩
    have hi : i < σ.1 6 := by omega
    have hi2 : i < τ.1 6 := by omega
    have hz := h.size i κ.1
    by_cases c2 : 0 ≤ rk ∧ rk < ((cnt (shM τ i) (τ.1 4) : Nat) : Int)
    · obtain ⟨j, rfl⟩ : ∃ n : Nat, rk = (n : Int) := ⟨(rk).toNat, by omega⟩
      have hj : j < (gth (shw σ i) (σ.2.1 10) κ.1 (σ.1 4)).1 := by rw [hz]; omega
      have hat := h.at i κ.1 hj
      exact ⟨0, zI (itA τ i ((j : Nat) : Int)), σ, τ, h.mono, jLa (m_L_riverAt l G q1 σ κ oa f i rfl j rfl hI hi hj) (by rw [hat]) ⟨Nat.le_of_ble_eq_true rfl, Nat.le_of_ble_eq_true rfl, Nat.le_of_ble_eq_true rfl, Nat.le_of_ble_eq_true rfl⟩, jUI (m_X6_riverAt l G q2 τ μ i rfl ((j : Nat) : Int) hM hi2 hrk (by rw [hat]; exact Int.natCast_nonneg _)) rfl ⟨Nat.le_of_ble_eq_true rfl, Nat.le_of_ble_eq_true rfl, Nat.le_of_ble_eq_true rfl, Nat.le_of_ble_eq_true rfl⟩⟩
    · have hno := h.no i κ.1 (rk := rk) (by rw [hz]; omega)
      exact ⟨2, zI 0, σ, τ, h.mono, jLk (m_L_riverAt_x2 l G hst q1 σ κ oa f i rfl rk hI hi hrk (by rw [hz]; omega)) (by decide) ⟨Nat.le_of_ble_eq_true rfl, Nat.le_of_ble_eq_true rfl, Nat.le_of_ble_eq_true rfl, Nat.le_of_ble_eq_true rfl⟩, jUI (m_X6_riverAt_t2 l G q2 τ μ i rfl rk hM hi2 hrk (by rw [hno]; decide)) rfl ⟨Nat.le_of_ble_eq_true rfl, Nat.le_of_ble_eq_true rfl, Nat.le_of_ble_eq_true rfl, Nat.le_of_ble_eq_true rfl⟩⟩
  · exact ⟨1, zI 0, σ, τ, h.mono, jLk (m_L_riverAt_x1 l G hst q1 σ κ oa f a rk hI ha (by omega)) (by decide) ⟨Nat.le_of_ble_eq_true rfl, Nat.le_of_ble_eq_true rfl, Nat.le_of_ble_eq_true rfl, Nat.le_of_ble_eq_true rfl⟩, jMI (m_X6_riverAt_t1 l G q2 τ μ a rk hM ha (by omega)) rfl ⟨Nat.le_of_ble_eq_true rfl, Nat.le_of_ble_eq_true rfl, Nat.le_of_ble_eq_true rfl, Nat.le_of_ble_eq_true rfl⟩⟩
theorem j_riverAtAnew (l : Launch) (G : ZG) (hst : l.stackTraces = false) {c : Nat} {σ τ : St} (h : Inv c σ τ) (hc : c < 600) (q1 q2 : Nat → Nat) (oa : Nat) (κ : KC) (f : Nat → Int64) (μ : KM) (x : Int32) (x2 : Int32) :
    JI l G c q1 q2 oa σ κ f τ μ yL_riverAtAnew (wYW yL_riverAtAnew cL_riverAtAnew 5 (some .int) [(0, 10, 13, 35), (0, 10, 17, 41)]) yX6_riverAtAnew (wY yX6_riverAtAnew cX6_riverAtAnew 3 (some .int)) [.int x, .int x2] := by
  have hI := h.2.1
  have hM := Inv_okM h
  have e0 := h.1.1 0 (by omega)
  have e1 := h.1.1 1 (by omega)
  have e2 := h.1.1 2 (by omega)
  have e3 := h.1.1 3 (by omega)
  have e4 := h.1.1 4 (by omega)
  have e5 := h.1.1 5 (by omega)
  have e6 := h.1.1 6 (by omega)
  have e7 := h.1.1 7 (by omega)
  obtain ⟨hn, hru, hrv, hdv, hsr, hmn, ht1, ht2, hwn, hv1, hv2, hmj, htm, hse, htg, hrt, hac, hk1, hk2, hkd, hmm, hmv, hord, hpo, hlo⟩ := h.2.1
  obtain ⟨a, ha, rfl⟩ := zI_ex x
  obtain ⟨rk, hrk, rfl⟩ := zI_ex x2
  by_cases c1 : 0 ≤ a ∧ a < ((σ.1 6 : Nat) : Int)
  · obtain ⟨i, rfl⟩ : ∃ n : Nat, a = (n : Int) := ⟨(a).toNat, by omega⟩
    have hi : i < σ.1 6 := by omega
    have hi2 : i < τ.1 6 := by omega
    have hz := h.size i κ.1
    have hg := gth_eq (p := shw σ i) (o := anw1 (isAh σ) (σ.1 4) κ.2.2 (σ.1 4)) (o2 := σ.2.1 10) (r0 := κ.1) (r1 := κ.1) (σ.1 4) (h.anew κ.2.2).1
    by_cases c2 : 0 ≤ rk ∧ rk < ((cnt (shM τ i) (τ.1 4) : Nat) : Int)
    · obtain ⟨j, rfl⟩ : ∃ n : Nat, rk = (n : Int) := ⟨(rk).toNat, by omega⟩
      have hj : j < (gth (shw σ i) (σ.2.1 10) κ.1 (σ.1 4)).1 := by rw [hz]; omega
      have hat := h.at i κ.1 hj
      have hj2 : j < (gth (shw σ i) (anw1 (isAh σ) (σ.1 4) κ.2.2 (σ.1 4)) κ.1 (σ.1 4)).1 := by rw [hg.1]; exact hj
      exact ⟨0, zI (itA τ i ((j : Nat) : Int)), σ, τ, h.mono, jLa (m_L_riverAtAnew l G q1 σ κ oa f i rfl j rfl hI hi hj2) (by rw [hat, hg.2 j hj2]) ⟨Nat.le_of_ble_eq_true rfl, Nat.le_of_ble_eq_true rfl, Nat.le_of_ble_eq_true rfl, Nat.le_of_ble_eq_true rfl⟩, jUI (m_X6_riverAtAnew l G q2 τ μ i rfl ((j : Nat) : Int) hM hi2 hrk (by rw [hat]; exact Int.natCast_nonneg _)) rfl ⟨Nat.le_of_ble_eq_true rfl, Nat.le_of_ble_eq_true rfl, Nat.le_of_ble_eq_true rfl, Nat.le_of_ble_eq_true rfl⟩⟩
    · have hno := h.no i κ.1 (rk := rk) (by rw [hz]; omega)
      exact ⟨2, zI 0, σ, τ, h.mono, jLk (m_L_riverAtAnew_x2 l G hst q1 σ κ oa f i rfl rk hI hi hrk (by rw [hg.1]; rw [hz]; omega)) (by decide) ⟨Nat.le_of_ble_eq_true rfl, Nat.le_of_ble_eq_true rfl, Nat.le_of_ble_eq_true rfl, Nat.le_of_ble_eq_true rfl⟩, jUI (m_X6_riverAtAnew_t2 l G q2 τ μ i rfl rk hM hi2 hrk (by rw [hno]; decide)) rfl ⟨Nat.le_of_ble_eq_true rfl, Nat.le_of_ble_eq_true rfl, Nat.le_of_ble_eq_true rfl, Nat.le_of_ble_eq_true rfl⟩⟩
  · exact ⟨1, zI 0, σ, τ, h.mono, jLk (m_L_riverAtAnew_x1 l G hst q1 σ κ oa f a rk hI ha (by omega)) (by decide) ⟨Nat.le_of_ble_eq_true rfl, Nat.le_of_ble_eq_true rfl, Nat.le_of_ble_eq_true rfl, Nat.le_of_ble_eq_true rfl⟩, jMI (m_X6_riverAtAnew_t1 l G q2 τ μ a rk hM ha (by omega)) rfl ⟨Nat.le_of_ble_eq_true rfl, Nat.le_of_ble_eq_true rfl, Nat.le_of_ble_eq_true rfl, Nat.le_of_ble_eq_true rfl⟩⟩
theorem j_rankOf (l : Launch) (G : ZG) (hst : l.stackTraces = false) {c : Nat} {σ τ : St} (h : Inv c σ τ) (hc : c < 600) (q1 q2 : Nat → Nat) (oa : Nat) (κ : KC) (f : Nat → Int64) (μ : KM) (x : Int32) (x2 : Int32) :
    JI l G c q1 q2 oa σ κ f τ μ yL_rankOf (wYW yL_rankOf cL_rankOf 5 (some .int) [(0, 10, 13, 35), (0, 10, 17, 41)]) yX6_rankOf (wY yX6_rankOf cX6_rankOf 3 (some .int)) [.int x, .int x2] := by
  have hI := h.2.1
  have hM := Inv_okM h
  have e0 := h.1.1 0 (by omega)
  have e1 := h.1.1 1 (by omega)
  have e2 := h.1.1 2 (by omega)
  have e3 := h.1.1 3 (by omega)
  have e4 := h.1.1 4 (by omega)
  have e5 := h.1.1 5 (by omega)
  have e6 := h.1.1 6 (by omega)
  have e7 := h.1.1 7 (by omega)
  obtain ⟨hn, hru, hrv, hdv, hsr, hmn, ht1, ht2, hwn, hv1, hv2, hmj, htm, hse, htg, hrt, hac, hk1, hk2, hkd, hmm, hmv, hord, hpo, hlo⟩ := h.2.1
  obtain ⟨a, ha, rfl⟩ := zI_ex x
  obtain ⟨b, hb, rfl⟩ := zI_ex x2
  by_cases c1 : 0 ≤ a ∧ a < ((σ.1 6 : Nat) : Int)
  · obtain ⟨i, rfl⟩ : ∃ n : Nat, a = (n : Int) := ⟨(a).toNat, by omega⟩
    have hi : i < σ.1 6 := by omega
    have hi2 : i < τ.1 6 := by omega
    by_cases c2 : 0 ≤ b ∧ b < ((σ.1 4 : Nat) : Int)
    · obtain ⟨j, rfl⟩ : ∃ n : Nat, b = (n : Int) := ⟨(b).toNat, by omega⟩
      have hj : j < σ.1 4 := by omega
      have hw : shw σ i = shM τ i := Sh_shw h
      cases c3 : shM τ i j with
      | true =>
        have hr := rk_at (r0 := κ.1) (isAh_ord σ) h.2.2.2.1.1 h.2.2.2.1.2 (p := shw σ i) hj (by rw [hw]; exact c3)
        exact ⟨0, zI ((ahM τ i j : Nat) : Int), σ, τ, h.mono, jLa (m_L_rankOf l G q1 σ κ oa f i rfl j rfl hI hi hj hr.1) (by rw [hr.2, Inv_ahM h]) ⟨Nat.le_of_ble_eq_true rfl, Nat.le_of_ble_eq_true rfl, Nat.le_of_ble_eq_true rfl, Nat.le_of_ble_eq_true rfl⟩, jUI (m_X6_rankOf l G q2 τ μ i rfl j rfl hM hi2 (by omega) c3) rfl ⟨Nat.le_of_ble_eq_true rfl, Nat.le_of_ble_eq_true rfl, Nat.le_of_ble_eq_true rfl, Nat.le_of_ble_eq_true rfl⟩⟩
      | false =>
        exact ⟨2, zI 0, σ, τ, h.mono, jLk (m_L_rankOf_x3 l G hst q1 σ κ oa f i rfl j rfl hI hi hj (rk_no h.2.2.2.1.1 (by rw [hw]; exact c3))) (by decide) ⟨Nat.le_of_ble_eq_true rfl, Nat.le_of_ble_eq_true rfl, Nat.le_of_ble_eq_true rfl, Nat.le_of_ble_eq_true rfl⟩, jUI (m_X6_rankOf_t2 l G q2 τ μ i rfl j rfl hM hi2 (by omega) c3) rfl ⟨Nat.le_of_ble_eq_true rfl, Nat.le_of_ble_eq_true rfl, Nat.le_of_ble_eq_true rfl, Nat.le_of_ble_eq_true rfl⟩⟩
    · exact ⟨1, zI 0, σ, τ, h.mono, jLk (m_L_rankOf_x2 l G hst q1 σ κ oa f i rfl b hI hi hb (by omega)) (by decide) ⟨Nat.le_of_ble_eq_true rfl, Nat.le_of_ble_eq_true rfl, Nat.le_of_ble_eq_true rfl, Nat.le_of_ble_eq_true rfl⟩, jMI (m_X6_rankOf_t1 l G q2 τ μ ((i : Nat) : Int) b hM ⟨ha, hb⟩ (by omega)) rfl ⟨Nat.le_of_ble_eq_true rfl, Nat.le_of_ble_eq_true rfl, Nat.le_of_ble_eq_true rfl, Nat.le_of_ble_eq_true rfl⟩⟩
  · exact ⟨1, zI 0, σ, τ, h.mono, jLk (m_L_rankOf_x1 l G hst q1 σ κ oa f a b hI ha (by omega)) (by decide) ⟨Nat.le_of_ble_eq_true rfl, Nat.le_of_ble_eq_true rfl, Nat.le_of_ble_eq_true rfl, Nat.le_of_ble_eq_true rfl⟩, jMI (m_X6_rankOf_t1 l G q2 τ μ a b hM ⟨ha, hb⟩ (by omega)) rfl ⟨Nat.le_of_ble_eq_true rfl, Nat.le_of_ble_eq_true rfl, Nat.le_of_ble_eq_true rfl, Nat.le_of_ble_eq_true rfl⟩⟩
theorem j_nextUnread (l : Launch) (G : ZG) (hst : l.stackTraces = false) {c : Nat} {σ τ : St} (h : Inv c σ τ) (hc : c < 600) (q1 q2 : Nat → Nat) (oa : Nat) (κ : KC) (f : Nat → Int64) (μ : KM) (x : Int32) :
    JI l G c q1 q2 oa σ κ f τ μ yL_nextUnread (wYW yL_nextUnread cL_nextUnread 4 (some .int) [(0, 9, 12, 35), (0, 9, 15, 41)]) yX6_nextUnread (wY yX6_nextUnread cX6_nextUnread 3 (some .int)) [.int x] := by
  have hI := h.2.1
  have hM := Inv_okM h
  have e0 := h.1.1 0 (by omega)
  have e1 := h.1.1 1 (by omega)
  have e2 := h.1.1 2 (by omega)
  have e3 := h.1.1 3 (by omega)
  have e4 := h.1.1 4 (by omega)
  have e5 := h.1.1 5 (by omega)
  have e6 := h.1.1 6 (by omega)
  have e7 := h.1.1 7 (by omega)
  obtain ⟨hn, hru, hrv, hdv, hsr, hmn, ht1, ht2, hwn, hv1, hv2, hmj, htm, hse, htg, hrt, hac, hk1, hk2, hkd, hmm, hmv, hord, hpo, hlo⟩ := h.2.1
  obtain ⟨a, ha, rfl⟩ := zI_ex x
  by_cases c1 : 0 ≤ a ∧ a < ((σ.1 6 : Nat) : Int)
  · obtain ⟨i, rfl⟩ : ∃ n : Nat, a = (n : Int) := ⟨(a).toNat, by omega⟩
    have hi : i < σ.1 6 := by omega
    have hi2 : i < τ.1 6 := by omega
    have hu := h.unread i κ.1
    have hd := Sh_rdR h.1
    by_cases c2 : cnt (fun y9 => shM τ i y9 && !rdR τ y9) (τ.1 4) = 0
    · rw [c2] at hu
      exact ⟨2, zI 0, σ, τ, h.mono, jLk (m_L_nextUnread_x2 l G hst q1 σ κ oa f i rfl hI hi (fun y9 hy => by simpa using cnt_zero hu y9 hy)) (by decide) ⟨Nat.le_of_ble_eq_true rfl, Nat.le_of_ble_eq_true rfl, Nat.le_of_ble_eq_true rfl, Nat.le_of_ble_eq_true rfl⟩, jUI (m_X6_nextUnread_t2 l G q2 τ μ i rfl hM hi2 c2) rfl ⟨Nat.le_of_ble_eq_true rfl, Nat.le_of_ble_eq_true rfl, Nat.le_of_ble_eq_true rfl, Nat.le_of_ble_eq_true rfl⟩⟩
    · obtain ⟨k0, hk0, hk1⟩ := cnt_ex (p := fun y9 => !rdR σ ((gth (shw σ i) (σ.2.1 10) κ.1 (σ.1 4)).2 y9)) (n := (gth (shw σ i) (σ.2.1 10) κ.1 (σ.1 4)).1) (by rw [hu]; omega)
      obtain ⟨nn, n1, n2, n3⟩ := zleast (P := fun y9 => !rdR σ ((gth (shw σ i) (σ.2.1 10) κ.1 (σ.1 4)).2 y9)) k0 hk1
      have hnn : nn < (gth (shw σ i) (σ.2.1 10) κ.1 (σ.1 4)).1 := by omega
      have hfi := fI_yes hnn n2 n3
      have hat := h.at i κ.1 hnn
      have hle := gth_le (shw σ i) (σ.2.1 10) κ.1 (σ.1 4)
      refine ⟨0, zI (itA τ i ((nn : Nat) : Int)), σ, τ, h.mono, jLa (m_L_nextUnread l G q1 σ κ oa f i rfl hI hi ⟨nn, hnn, by simpa using n2⟩) (by rw [hfi, hat]; rfl) ⟨Nat.le_of_ble_eq_true rfl, Nat.le_of_ble_eq_true rfl, Nat.le_of_ble_eq_true rfl, Nat.le_of_ble_eq_true rfl⟩, jUI (m_X6_nextUnread l G q2 τ μ i rfl nn hM hi2 (by omega) (by omega) (fun y9 hy => ?_) (fun y9 hy => ?_) ?_) rfl ⟨Nat.le_of_ble_eq_true rfl, Nat.le_of_ble_eq_true rfl, Nat.le_of_ble_eq_true rfl, Nat.le_of_ble_eq_true rfl⟩⟩
      · rw [h.at i κ.1 (by omega)]; exact Int.natCast_nonneg _
      · rw [h.at i κ.1 (by omega), Int.toNat_natCast, ← hd]; simpa using n3 y9 hy
      · rw [hat, Int.toNat_natCast, ← hd]; simpa using n2
  · exact ⟨1, zI 0, σ, τ, h.mono, jLk (m_L_nextUnread_x1 l G hst q1 σ κ oa f a hI ha (by omega)) (by decide) ⟨Nat.le_of_ble_eq_true rfl, Nat.le_of_ble_eq_true rfl, Nat.le_of_ble_eq_true rfl, Nat.le_of_ble_eq_true rfl⟩, jMI (m_X6_nextUnread_t1 l G q2 τ μ a hM ha (by omega)) rfl ⟨Nat.le_of_ble_eq_true rfl, Nat.le_of_ble_eq_true rfl, Nat.le_of_ble_eq_true rfl, Nat.le_of_ble_eq_true rfl⟩⟩
theorem j_readShare (l : Launch) (G : ZG) (hst : l.stackTraces = false) {c : Nat} {σ τ : St} (h : Inv c σ τ) (hc : c < 600) (q1 q2 : Nat → Nat) (oa : Nat) (κ : KC) (f : Nat → UInt64) (μ : KM) (x : Int32) :
    JF l G c q1 q2 oa σ κ f τ μ yL_readShare (wYW yL_readShare cL_readShare 4 (some .int) [(0, 9, 12, 35), (0, 9, 15, 104)]) yX6_readShare (wY yX6_readShare cX6_readShare 2 (some .float)) [.int x] := by
  have hI := h.2.1
  have hM := Inv_okM h
  have e0 := h.1.1 0 (by omega)
  have e1 := h.1.1 1 (by omega)
  have e2 := h.1.1 2 (by omega)
  have e3 := h.1.1 3 (by omega)
  have e4 := h.1.1 4 (by omega)
  have e5 := h.1.1 5 (by omega)
  have e6 := h.1.1 6 (by omega)
  have e7 := h.1.1 7 (by omega)
  obtain ⟨hn, hru, hrv, hdv, hsr, hmn, ht1, ht2, hwn, hv1, hv2, hmj, htm, hse, htg, hrt, hac, hk1, hk2, hkd, hmm, hmv, hord, hpo, hlo⟩ := h.2.1
  obtain ⟨a, ha, rfl⟩ := zI_ex x
  by_cases c1 : 0 ≤ a ∧ a < ((σ.1 6 : Nat) : Int)
  · obtain ⟨i, rfl⟩ : ∃ n : Nat, a = (n : Int) := ⟨(a).toNat, by omega⟩
    have hi : i < σ.1 6 := by omega
    have hi2 : i < τ.1 6 := by omega
    have hu := h.unread i κ.1
    have hz := h.size i κ.1
    have hle := cnt_le (shM τ i) (τ.1 4)
    by_cases c2 : cnt (shM τ i) (τ.1 4) = 0
    · exact ⟨2, FP.fconst0, σ, τ, h.mono, jDk (P := fun v => v = FP.f2d FP.fconst0 ∧ vf_n64 (FP.f2d FP.fconst0)) (m_L_readShare_x2 l G hst q1 σ κ oa f i rfl hI hi (by rw [hz]; exact c2)) (by decide) ⟨Nat.le_of_ble_eq_true rfl, Nat.le_of_ble_eq_true rfl, Nat.le_of_ble_eq_true rfl, Nat.le_of_ble_eq_true rfl⟩, jUF (m_X6_readShare_t2 l G q2 τ μ i rfl hM hi2 c2) rfl ⟨Nat.le_of_ble_eq_true rfl, Nat.le_of_ble_eq_true rfl, Nat.le_of_ble_eq_true rfl, Nat.le_of_ble_eq_true rfl⟩⟩
    · refine ⟨0, FP.fdiv (FP.i2f (zI (((cnt (shM τ i) (τ.1 4) - cnt (fun y9 => shM τ i y9 && !rdR τ y9) (τ.1 4) : Nat)) : Int))) (FP.i2f (zI ((cnt (shM τ i) (τ.1 4) : Nat) : Int))), σ, τ, h.mono, jDa (P := fun v => v = FP.f2d _ ∧ vf_n64 (FP.f2d _)) (m_L_readShare l G q1 σ κ oa f i rfl hI hi (by rw [hz]; omega)) ?_ ⟨Nat.le_of_ble_eq_true rfl, Nat.le_of_ble_eq_true rfl, Nat.le_of_ble_eq_true rfl, Nat.le_of_ble_eq_true rfl⟩, jUF (m_X6_readShare l G q2 τ μ i rfl hM hi2 (by omega)) rfl ⟨Nat.le_of_ble_eq_true rfl, Nat.le_of_ble_eq_true rfl, Nat.le_of_ble_eq_true rfl, Nat.le_of_ble_eq_true rfl⟩⟩
      rw [hu, hz]
      exact ⟨rfl, f2d_ok (by omega) (by omega) (Nat.sub_le _ _)⟩
  · exact ⟨1, FP.fconst0, σ, τ, h.mono, jDk (P := fun v => v = FP.f2d FP.fconst0 ∧ vf_n64 (FP.f2d FP.fconst0)) (m_L_readShare_x1 l G hst q1 σ κ oa f a hI ha (by omega)) (by decide) ⟨Nat.le_of_ble_eq_true rfl, Nat.le_of_ble_eq_true rfl, Nat.le_of_ble_eq_true rfl, Nat.le_of_ble_eq_true rfl⟩, jMF (m_X6_readShare_t1 l G q2 τ μ a hM ha (by omega)) rfl ⟨Nat.le_of_ble_eq_true rfl, Nat.le_of_ble_eq_true rfl, Nat.le_of_ble_eq_true rfl, Nat.le_of_ble_eq_true rfl⟩⟩
theorem j_addDevice (l : Launch) (G : ZG) (hst : l.stackTraces = false) {c : Nat} {σ τ : St} (h : Inv c σ τ) (hc : c < 600) (q1 q2 : Nat → Nat) (oa : Nat) (κ : KC) (f : Nat → Int64) (μ : KM)  :
    JI l G c q1 q2 oa σ κ f τ μ yL_addDevice (wYW yL_addDevice cL_addDevice 3 (some .int) [(0, 8, 11, 15)]) yX6_addDevice (wY yX6_addDevice cX6_addDevice 2 (some .int)) [] := by
  have hI := h.2.1
  have hM := Inv_okM h
  have e0 := h.1.1 0 (by omega)
  have e1 := h.1.1 1 (by omega)
  have e2 := h.1.1 2 (by omega)
  have e3 := h.1.1 3 (by omega)
  have e4 := h.1.1 4 (by omega)
  have e5 := h.1.1 5 (by omega)
  have e6 := h.1.1 6 (by omega)
  have e7 := h.1.1 7 (by omega)
  obtain ⟨hn, hru, hrv, hdv, hsr, hmn, ht1, ht2, hwn, hv1, hv2, hmj, htm, hse, htg, hrt, hac, hk1, hk2, hkd, hmm, hmv, hord, hpo, hlo⟩ := h.2.1
  by_cases c1 : σ.1 7 < 4
  · exact ⟨0, zI ((σ.1 7 : Nat) : Int), _, _, (h.addDevice c1).mono, jLa (m_L_addDevice l G q1 σ κ oa f hI c1) rfl ⟨Nat.le_of_ble_eq_true rfl, Nat.le_of_ble_eq_true rfl, Nat.le_of_ble_eq_true rfl, Nat.le_of_ble_eq_true rfl⟩, jMI (m_X6_addDevice l G q2 τ μ hM (by omega)) (by rw [e7]) ⟨Nat.le_of_ble_eq_true rfl, Nat.le_of_ble_eq_true rfl, Nat.le_of_ble_eq_true rfl, Nat.le_of_ble_eq_true rfl⟩⟩
  · exact ⟨1, zI 0, σ, τ, h.mono, jLx (m_L_addDevice_x l G hst q1 σ κ oa f hI (by omega)) (by decide) ⟨Nat.le_of_ble_eq_true rfl, Nat.le_of_ble_eq_true rfl, Nat.le_of_ble_eq_true rfl, Nat.le_of_ble_eq_true rfl⟩, jMI (m_X6_addDevice_t1 l G q2 τ μ hM (by omega)) rfl ⟨Nat.le_of_ble_eq_true rfl, Nat.le_of_ble_eq_true rfl, Nat.le_of_ble_eq_true rfl, Nat.le_of_ble_eq_true rfl⟩⟩
theorem j_mark (l : Launch) (G : ZG) (hst : l.stackTraces = false) {c : Nat} {σ τ : St} (h : Inv c σ τ) (hc : c < 600) (q1 q2 : Nat → Nat) (oa : Nat) (κ : KC) (f : Nat → Int64) (μ : KM) (x : Int32) (x2 : Int32) (bb : Bool) :
    JZ l G c q1 q2 oa σ κ f τ μ yL_mark (wYW yL_mark cL_mark 6 (some .int) [(0, 19, 22, 35), (0, 19, 26, 15)]) yX6_mark (wY yX6_mark cX6_mark 5 (some .boolean)) [.int x, .int x2, .int (tB bb)] := by
  have hI := h.2.1
  have hM := Inv_okM h
  have e0 := h.1.1 0 (by omega)
  have e1 := h.1.1 1 (by omega)
  have e2 := h.1.1 2 (by omega)
  have e3 := h.1.1 3 (by omega)
  have e4 := h.1.1 4 (by omega)
  have e5 := h.1.1 5 (by omega)
  have e6 := h.1.1 6 (by omega)
  have e7 := h.1.1 7 (by omega)
  obtain ⟨hn, hru, hrv, hdv, hsr, hmn, ht1, ht2, hwn, hv1, hv2, hmj, htm, hse, htg, hrt, hac, hk1, hk2, hkd, hmm, hmv, hord, hpo, hlo⟩ := h.2.1
  obtain ⟨d, hd, rfl⟩ := zI_ex x
  obtain ⟨a, ha, rfl⟩ := zI_ex x2
  have f4 := h.1.2.1 4 (by omega)
  by_cases c1 : 0 ≤ d ∧ d < ((σ.1 7 : Nat) : Int)
  · obtain ⟨n, rfl⟩ : ∃ n : Nat, d = (n : Int) := ⟨(d).toNat, by omega⟩
    by_cases c2 : 0 ≤ a ∧ a < ((σ.1 4 : Nat) : Int)
    · obtain ⟨i, rfl⟩ : ∃ n : Nat, a = (n : Int) := ⟨(a).toNat, by omega⟩
      by_cases c3 : σ.2.1 4 (30 * n + i) = 0
      · exact ⟨2, false, σ, τ, h.mono, jLx (m_L_mark_x3 l G hst q1 σ κ oa f n rfl i rfl bb hI (by omega) (by omega) c3) (by decide) ⟨Nat.le_of_ble_eq_true rfl, Nat.le_of_ble_eq_true rfl, Nat.le_of_ble_eq_true rfl, Nat.le_of_ble_eq_true rfl⟩, jMI (m_X6_mark_t2 l G q2 τ μ n rfl i rfl bb hM (by omega) (by omega) (by rw [← f4]; exact c3)) rfl ⟨Nat.le_of_ble_eq_true rfl, Nat.le_of_ble_eq_true rfl, Nat.le_of_ble_eq_true rfl, Nat.le_of_ble_eq_true rfl⟩⟩
      · exact ⟨0, rdD σ n i, mkS σ n i bb, mkS τ n i bb, (h.mark n i bb).mono, jLa (m_L_mark l G q1 σ κ oa f n rfl i rfl bb hI (by omega) (by omega) (by omega)) rfl ⟨Nat.le_of_ble_eq_true rfl, Nat.le_of_ble_eq_true rfl, Nat.le_of_ble_eq_true rfl, Nat.le_of_ble_eq_true rfl⟩, jMI (m_X6_mark l G q2 τ μ n rfl i rfl bb hM (by omega) (by omega) (by rw [← f4]; omega)) (by rw [Sh_rdD h.1]) ⟨Nat.le_of_ble_eq_true rfl, Nat.le_of_ble_eq_true rfl, Nat.le_of_ble_eq_true rfl, Nat.le_of_ble_eq_true rfl⟩⟩
    · exact ⟨1, false, σ, τ, h.mono, jLx (m_L_mark_x2 l G hst q1 σ κ oa f n rfl a bb hI (by omega) ha (by omega)) (by decide) ⟨Nat.le_of_ble_eq_true rfl, Nat.le_of_ble_eq_true rfl, Nat.le_of_ble_eq_true rfl, Nat.le_of_ble_eq_true rfl⟩, jMI (m_X6_mark_t1 l G q2 τ μ ((n : Nat) : Int) a bb hM ⟨hd, ha⟩ (by omega)) rfl ⟨Nat.le_of_ble_eq_true rfl, Nat.le_of_ble_eq_true rfl, Nat.le_of_ble_eq_true rfl, Nat.le_of_ble_eq_true rfl⟩⟩
  · exact ⟨1, false, σ, τ, h.mono, jLx (m_L_mark_x1 l G hst q1 σ κ oa f d a bb hI hd (by omega)) (by decide) ⟨Nat.le_of_ble_eq_true rfl, Nat.le_of_ble_eq_true rfl, Nat.le_of_ble_eq_true rfl, Nat.le_of_ble_eq_true rfl⟩, jMI (m_X6_mark_t1 l G q2 τ μ d a bb hM ⟨hd, ha⟩ (by omega)) rfl ⟨Nat.le_of_ble_eq_true rfl, Nat.le_of_ble_eq_true rfl, Nat.le_of_ble_eq_true rfl, Nat.le_of_ble_eq_true rfl⟩⟩
theorem j_isReadOn (l : Launch) (G : ZG) (hst : l.stackTraces = false) {c : Nat} {σ τ : St} (h : Inv c σ τ) (hc : c < 600) (q1 q2 : Nat → Nat) (oa : Nat) (κ : KC) (f : Nat → Int64) (μ : KM) (x : Int32) (x2 : Int32) :
    JZ l G c q1 q2 oa σ κ f τ μ yL_isReadOn (wYW yL_isReadOn cL_isReadOn 5 (some .int) [(0, 17, 20, 35), (0, 17, 24, 15)]) yX6_isReadOn (wY yX6_isReadOn cX6_isReadOn 3 (some .boolean)) [.int x, .int x2] := by
  have hI := h.2.1
  have hM := Inv_okM h
  have e0 := h.1.1 0 (by omega)
  have e1 := h.1.1 1 (by omega)
  have e2 := h.1.1 2 (by omega)
  have e3 := h.1.1 3 (by omega)
  have e4 := h.1.1 4 (by omega)
  have e5 := h.1.1 5 (by omega)
  have e6 := h.1.1 6 (by omega)
  have e7 := h.1.1 7 (by omega)
  obtain ⟨hn, hru, hrv, hdv, hsr, hmn, ht1, ht2, hwn, hv1, hv2, hmj, htm, hse, htg, hrt, hac, hk1, hk2, hkd, hmm, hmv, hord, hpo, hlo⟩ := h.2.1
  obtain ⟨d, hd, rfl⟩ := zI_ex x
  obtain ⟨a, ha, rfl⟩ := zI_ex x2
  have f4 := h.1.2.1 4 (by omega)
  by_cases c1 : 0 ≤ d ∧ d < ((σ.1 7 : Nat) : Int)
  · obtain ⟨n, rfl⟩ : ∃ n : Nat, d = (n : Int) := ⟨(d).toNat, by omega⟩
    by_cases c2 : 0 ≤ a ∧ a < ((σ.1 4 : Nat) : Int)
    · obtain ⟨i, rfl⟩ : ∃ n : Nat, a = (n : Int) := ⟨(a).toNat, by omega⟩
      by_cases c3 : σ.2.1 4 (30 * n + i) = 0
      · exact ⟨2, false, σ, τ, h.mono, jLx (m_L_isReadOn_x3 l G hst q1 σ κ oa f n rfl i rfl hI (by omega) (by omega) c3) (by decide) ⟨Nat.le_of_ble_eq_true rfl, Nat.le_of_ble_eq_true rfl, Nat.le_of_ble_eq_true rfl, Nat.le_of_ble_eq_true rfl⟩, jMI (m_X6_isReadOn_t2 l G q2 τ μ n rfl i rfl hM (by omega) (by omega) (by rw [← f4]; exact c3)) rfl ⟨Nat.le_of_ble_eq_true rfl, Nat.le_of_ble_eq_true rfl, Nat.le_of_ble_eq_true rfl, Nat.le_of_ble_eq_true rfl⟩⟩
      · exact ⟨0, rdD σ n i, σ, τ, h.mono, jLa (m_L_isReadOn l G q1 σ κ oa f n rfl i rfl hI (by omega) (by omega) (by omega)) rfl ⟨Nat.le_of_ble_eq_true rfl, Nat.le_of_ble_eq_true rfl, Nat.le_of_ble_eq_true rfl, Nat.le_of_ble_eq_true rfl⟩, jMI (m_X6_isReadOn l G q2 τ μ n rfl i rfl hM (by omega) (by omega) (by rw [← f4]; omega)) (by rw [Sh_rdD h.1]) ⟨Nat.le_of_ble_eq_true rfl, Nat.le_of_ble_eq_true rfl, Nat.le_of_ble_eq_true rfl, Nat.le_of_ble_eq_true rfl⟩⟩
    · exact ⟨1, false, σ, τ, h.mono, jLx (m_L_isReadOn_x2 l G hst q1 σ κ oa f n rfl a hI (by omega) ha (by omega)) (by decide) ⟨Nat.le_of_ble_eq_true rfl, Nat.le_of_ble_eq_true rfl, Nat.le_of_ble_eq_true rfl, Nat.le_of_ble_eq_true rfl⟩, jMI (m_X6_isReadOn_t1 l G q2 τ μ ((n : Nat) : Int) a hM ⟨hd, ha⟩ (by omega)) rfl ⟨Nat.le_of_ble_eq_true rfl, Nat.le_of_ble_eq_true rfl, Nat.le_of_ble_eq_true rfl, Nat.le_of_ble_eq_true rfl⟩⟩
  · exact ⟨1, false, σ, τ, h.mono, jLx (m_L_isReadOn_x1 l G hst q1 σ κ oa f d a hI hd (by omega)) (by decide) ⟨Nat.le_of_ble_eq_true rfl, Nat.le_of_ble_eq_true rfl, Nat.le_of_ble_eq_true rfl, Nat.le_of_ble_eq_true rfl⟩, jMI (m_X6_isReadOn_t1 l G q2 τ μ d a hM ⟨hd, ha⟩ (by omega)) rfl ⟨Nat.le_of_ble_eq_true rfl, Nat.le_of_ble_eq_true rfl, Nat.le_of_ble_eq_true rfl, Nat.le_of_ble_eq_true rfl⟩⟩
theorem j_markRiver (l : Launch) (G : ZG) (hst : l.stackTraces = false) {c : Nat} {σ τ : St} (h : Inv c σ τ) (hc : c < 600) (q1 q2 : Nat → Nat) (oa : Nat) (κ : KC) (f : Nat → Int64) (μ : KM) (x : Int32) (x2 : Int32) :
    JI l G c q1 q2 oa σ κ f τ μ yL_markRiver (wYW yL_markRiver cL_markRiver 5 (some .int) [(0, 10, 13, 35)]) yX6_markRiver (wY yX6_markRiver cX6_markRiver 5 (some .int)) [.int x, .int x2] := by
  have hI := h.2.1
  have hM := Inv_okM h
  have e0 := h.1.1 0 (by omega)
  have e1 := h.1.1 1 (by omega)
  have e2 := h.1.1 2 (by omega)
  have e3 := h.1.1 3 (by omega)
  have e4 := h.1.1 4 (by omega)
  have e5 := h.1.1 5 (by omega)
  have e6 := h.1.1 6 (by omega)
  have e7 := h.1.1 7 (by omega)
  obtain ⟨hn, hru, hrv, hdv, hsr, hmn, ht1, ht2, hwn, hv1, hv2, hmj, htm, hse, htg, hrt, hac, hk1, hk2, hkd, hmm, hmv, hord, hpo, hlo⟩ := h.2.1
  obtain ⟨d, hd, rfl⟩ := zI_ex x
  obtain ⟨a, ha, rfl⟩ := zI_ex x2
  have f4 := h.1.2.1 4 (by omega)
  by_cases c1 : 0 ≤ d ∧ d < ((σ.1 7 : Nat) : Int)
  · obtain ⟨n, rfl⟩ : ∃ n : Nat, d = (n : Int) := ⟨(d).toNat, by omega⟩
    by_cases c2 : 0 ≤ a ∧ a < ((σ.1 6 : Nat) : Int)
    · obtain ⟨i, rfl⟩ : ∃ n : Nat, a = (n : Int) := ⟨(a).toNat, by omega⟩
      have hm := h.markRiver n i κ.1
      exact ⟨0, zI ((mrCM τ n i (τ.1 4) : Nat) : Int), _, _, hm.1.mono, jLa (m_L_markRiver l G q1 σ κ oa f n rfl i rfl hI (by omega) (by omega)) (by rw [hm.2]) ⟨Nat.le_of_ble_eq_true rfl, Nat.le_of_ble_eq_true rfl, Nat.le_of_ble_eq_true rfl, Nat.le_of_ble_eq_true rfl⟩, jUI (m_X6_markRiver l G q2 τ μ n rfl i rfl hM (by omega) (by omega)) rfl ⟨Nat.le_of_ble_eq_true rfl, Nat.le_of_ble_eq_true rfl, Nat.le_of_ble_eq_true rfl, Nat.le_of_ble_eq_true rfl⟩⟩
    · exact ⟨1, zI 0, σ, τ, h.mono, jLx (m_L_markRiver_x2 l G hst q1 σ κ oa f n rfl a hI (by omega) ha (by omega)) (by decide) ⟨Nat.le_of_ble_eq_true rfl, Nat.le_of_ble_eq_true rfl, Nat.le_of_ble_eq_true rfl, Nat.le_of_ble_eq_true rfl⟩, jMI (m_X6_markRiver_t1 l G q2 τ μ ((n : Nat) : Int) a hM ⟨hd, ha⟩ (by omega)) rfl ⟨Nat.le_of_ble_eq_true rfl, Nat.le_of_ble_eq_true rfl, Nat.le_of_ble_eq_true rfl, Nat.le_of_ble_eq_true rfl⟩⟩
  · exact ⟨1, zI 0, σ, τ, h.mono, jLx (m_L_markRiver_x1 l G hst q1 σ κ oa f d a hI hd (by omega)) (by decide) ⟨Nat.le_of_ble_eq_true rfl, Nat.le_of_ble_eq_true rfl, Nat.le_of_ble_eq_true rfl, Nat.le_of_ble_eq_true rfl⟩, jMI (m_X6_markRiver_t1 l G q2 τ μ d a hM ⟨hd, ha⟩ (by omega)) rfl ⟨Nat.le_of_ble_eq_true rfl, Nat.le_of_ble_eq_true rfl, Nat.le_of_ble_eq_true rfl, Nat.le_of_ble_eq_true rfl⟩⟩
theorem j_knownVersions (l : Launch) (G : ZG) (hst : l.stackTraces = false) {c : Nat} {σ τ : St} (h : Inv c σ τ) (hc : c < 600) (q1 q2 : Nat → Nat) (oa : Nat) (κ : KC) (f : Nat → Int64) (μ : KM) (x : Int32) (x2 : Int32) :
    JI l G c q1 q2 oa σ κ f τ μ yL_knownVersions (wYW yL_knownVersions cL_knownVersions 5 (some .int) [(0, 10, 13, 35)]) yX6_knownVersions (wY yX6_knownVersions cX6_knownVersions 3 (some .int)) [.int x, .int x2] := by
  have hI := h.2.1
  have hM := Inv_okM h
  have e0 := h.1.1 0 (by omega)
  have e1 := h.1.1 1 (by omega)
  have e2 := h.1.1 2 (by omega)
  have e3 := h.1.1 3 (by omega)
  have e4 := h.1.1 4 (by omega)
  have e5 := h.1.1 5 (by omega)
  have e6 := h.1.1 6 (by omega)
  have e7 := h.1.1 7 (by omega)
  obtain ⟨hn, hru, hrv, hdv, hsr, hmn, ht1, ht2, hwn, hv1, hv2, hmj, htm, hse, htg, hrt, hac, hk1, hk2, hkd, hmm, hmv, hord, hpo, hlo⟩ := h.2.1
  obtain ⟨d, hd, rfl⟩ := zI_ex x
  obtain ⟨a, ha, rfl⟩ := zI_ex x2
  have f4 := h.1.2.1 4 (by omega)
  by_cases c1 : 0 ≤ d ∧ d < ((σ.1 7 : Nat) : Int)
  · obtain ⟨n, rfl⟩ : ∃ n : Nat, d = (n : Int) := ⟨(d).toNat, by omega⟩
    by_cases c2 : 0 ≤ a ∧ a < ((σ.1 4 : Nat) : Int)
    · obtain ⟨i, rfl⟩ : ∃ n : Nat, a = (n : Int) := ⟨(a).toNat, by omega⟩
      exact ⟨0, zI ((σ.2.1 4 (30 * n + i) : Nat) : Int), σ, τ, h.mono, jLa (m_L_knownVersions l G q1 σ κ oa f n rfl i rfl hI (by omega) (by omega)) rfl ⟨Nat.le_of_ble_eq_true rfl, Nat.le_of_ble_eq_true rfl, Nat.le_of_ble_eq_true rfl, Nat.le_of_ble_eq_true rfl⟩, jMI (m_X6_knownVersions l G q2 τ μ n rfl i rfl hM (by omega) (by omega)) (by rw [f4]) ⟨Nat.le_of_ble_eq_true rfl, Nat.le_of_ble_eq_true rfl, Nat.le_of_ble_eq_true rfl, Nat.le_of_ble_eq_true rfl⟩⟩
    · exact ⟨1, zI 0, σ, τ, h.mono, jLx (m_L_knownVersions_x2 l G hst q1 σ κ oa f n rfl a hI (by omega) ha (by omega)) (by decide) ⟨Nat.le_of_ble_eq_true rfl, Nat.le_of_ble_eq_true rfl, Nat.le_of_ble_eq_true rfl, Nat.le_of_ble_eq_true rfl⟩, jMI (m_X6_knownVersions_t1 l G q2 τ μ ((n : Nat) : Int) a hM ⟨hd, ha⟩ (by omega)) rfl ⟨Nat.le_of_ble_eq_true rfl, Nat.le_of_ble_eq_true rfl, Nat.le_of_ble_eq_true rfl, Nat.le_of_ble_eq_true rfl⟩⟩
  · exact ⟨1, zI 0, σ, τ, h.mono, jLx (m_L_knownVersions_x1 l G hst q1 σ κ oa f d a hI hd (by omega)) (by decide) ⟨Nat.le_of_ble_eq_true rfl, Nat.le_of_ble_eq_true rfl, Nat.le_of_ble_eq_true rfl, Nat.le_of_ble_eq_true rfl⟩, jMI (m_X6_knownVersions_t1 l G q2 τ μ d a hM ⟨hd, ha⟩ (by omega)) rfl ⟨Nat.le_of_ble_eq_true rfl, Nat.le_of_ble_eq_true rfl, Nat.le_of_ble_eq_true rfl, Nat.le_of_ble_eq_true rfl⟩⟩
theorem j_sync (l : Launch) (G : ZG) (hst : l.stackTraces = false) {c : Nat} {σ τ : St} (h : Inv c σ τ) (hc : c < 600) (q1 q2 : Nat → Nat) (oa : Nat) (κ : KC) (f : Nat → Int64) (μ : KM) (x : Int32) :
    JI l G c q1 q2 oa σ κ f τ μ yL_sync (wYW yL_sync cL_sync 4 (some .int) [(0, 9, 12, 35)]) yX6_sync (wY yX6_sync cX6_sync 5 (some .int)) [.int x] := by
  have hI := h.2.1
  have hM := Inv_okM h
  have e0 := h.1.1 0 (by omega)
  have e1 := h.1.1 1 (by omega)
  have e2 := h.1.1 2 (by omega)
  have e3 := h.1.1 3 (by omega)
  have e4 := h.1.1 4 (by omega)
  have e5 := h.1.1 5 (by omega)
  have e6 := h.1.1 6 (by omega)
  have e7 := h.1.1 7 (by omega)
  obtain ⟨hn, hru, hrv, hdv, hsr, hmn, ht1, ht2, hwn, hv1, hv2, hmj, htm, hse, htg, hrt, hac, hk1, hk2, hkd, hmm, hmv, hord, hpo, hlo⟩ := h.2.1
  obtain ⟨a, ha, rfl⟩ := zI_ex x
  by_cases c1 : 0 ≤ a ∧ a < ((σ.1 7 : Nat) : Int)
  · obtain ⟨i, rfl⟩ : ∃ n : Nat, a = (n : Int) := ⟨(a).toNat, by omega⟩
    have hs := h.sync i
    exact ⟨0, zI ((syC σ i (σ.1 4) : Nat) : Int), _, _, hs.1.mono, jLa (m_L_sync l G q1 σ κ oa f i rfl hI (by omega)) rfl ⟨Nat.le_of_ble_eq_true rfl, Nat.le_of_ble_eq_true rfl, Nat.le_of_ble_eq_true rfl, Nat.le_of_ble_eq_true rfl⟩, jMI (m_X6_sync l G q2 τ μ i rfl hM (by omega)) (by rw [hs.2]) ⟨Nat.le_of_ble_eq_true rfl, Nat.le_of_ble_eq_true rfl, Nat.le_of_ble_eq_true rfl, Nat.le_of_ble_eq_true rfl⟩⟩
  · exact ⟨1, zI 0, σ, τ, h.mono, jLx (m_L_sync_x l G hst q1 σ κ oa f a hI ha (by omega)) (by decide) ⟨Nat.le_of_ble_eq_true rfl, Nat.le_of_ble_eq_true rfl, Nat.le_of_ble_eq_true rfl, Nat.le_of_ble_eq_true rfl⟩, jMI (m_X6_sync_t1 l G q2 τ μ a hM ha (by omega)) rfl ⟨Nat.le_of_ble_eq_true rfl, Nat.le_of_ble_eq_true rfl, Nat.le_of_ble_eq_true rfl, Nat.le_of_ble_eq_true rfl⟩⟩
theorem j_meanVersions (l : Launch) (G : ZG) (hst : l.stackTraces = false) {c : Nat} {σ τ : St} (h : Inv c σ τ) (hc : c < 600) (q1 q2 : Nat → Nat) (oa : Nat) (κ : KC) (f : Nat → UInt64) (μ : KM)  :
    JD l G c q1 q2 oa σ κ f τ μ yL_meanVersions (wYW yL_meanVersions cL_meanVersions 3 (some .int) [(0, 7, 10, 104)]) yX6_meanVersions (wY yX6_meanVersions cX6_meanVersions 3 (some .double)) [] := by
  have hI := h.2.1
  have hM := Inv_okM h
  have e0 := h.1.1 0 (by omega)
  have e1 := h.1.1 1 (by omega)
  have e2 := h.1.1 2 (by omega)
  have e3 := h.1.1 3 (by omega)
  have e4 := h.1.1 4 (by omega)
  have e5 := h.1.1 5 (by omega)
  have e6 := h.1.1 6 (by omega)
  have e7 := h.1.1 7 (by omega)
  obtain ⟨hn, hru, hrv, hdv, hsr, hmn, ht1, ht2, hwn, hv1, hv2, hmj, htm, hse, htg, hrt, hac, hk1, hk2, hkd, hmm, hmv, hord, hpo, hlo⟩ := h.2.1
  have hsv := Sh_sumV h.1 (σ.1 4)
  by_cases c1 : σ.1 4 = 0
  · exact ⟨1, FP.dconst0, σ, τ, h.mono, jDx (P := fun v => v = FP.dconst0 ∧ vf_n64 FP.dconst0) (m_L_meanVersions_x l G hst q1 σ κ oa f hI c1) (by decide) ⟨Nat.le_of_ble_eq_true rfl, Nat.le_of_ble_eq_true rfl, Nat.le_of_ble_eq_true rfl, Nat.le_of_ble_eq_true rfl⟩, jMD (m_X6_meanVersions_t1 l G q2 τ μ hM (by omega)) rfl ⟨Nat.le_of_ble_eq_true rfl, Nat.le_of_ble_eq_true rfl, Nat.le_of_ble_eq_true rfl, Nat.le_of_ble_eq_true rfl⟩⟩
  · refine ⟨0, FP.ddiv (FP.i2d (zI ((sumV σ (σ.1 4) : Nat) : Int))) (FP.i2d (zI ((σ.1 4 : Nat) : Int))), σ, τ, h.mono, jDa (P := fun v => v = FP.ddiv _ _ ∧ vf_n64 (FP.ddiv _ _)) (m_L_meanVersions l G q1 σ κ oa f hI (by omega)) ⟨rfl, ddiv_ok (by omega) (by omega) ?_⟩ ⟨Nat.le_of_ble_eq_true rfl, Nat.le_of_ble_eq_true rfl, Nat.le_of_ble_eq_true rfl, Nat.le_of_ble_eq_true rfl⟩, jMD (m_X6_meanVersions l G q2 τ μ hM (by omega)) (by rw [← e4, ← hsv]) ⟨Nat.le_of_ble_eq_true rfl, Nat.le_of_ble_eq_true rfl, Nat.le_of_ble_eq_true rfl, Nat.le_of_ble_eq_true rfl⟩⟩
    have hsl := sumV_le σ hv2 (σ.1 4)
    omega
