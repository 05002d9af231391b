/-! rivers: what the class lays into a row and what the reference counts; tags and hiding -/
section ZRiver
theorem tb_hi (x : Int32) (u : Nat) (h : 32 ≤ u) : tb x u = false := by
  unfold tb
  exact BitVec.getLsbD_of_ge _ _ h
theorem tb_ext {x y : Int32} (h : ∀ u, u < 32 → tb x u = tb y u) : x = y := by
  apply Int32.toBitVec_inj.mp
  apply BitVec.eq_of_getLsbD_eq
  intro i hi
  exact h i hi
theorem tb_257 (x : Int32) (u : Nat) : tb (x &&& zI (-257)) u = (tb x u && !(u == 8)) := by
  by_cases h : u < 32
  · unfold tb
    rw [Int32.toBitVec_and, BitVec.getLsbD_and]
    have : ∀ u : Fin 32, (zI (-257)).toBitVec.getLsbD u.val = !(u.val == 8) := by decide +kernel
    rw [this ⟨u, h⟩]
  · rw [tb_hi _ _ (by omega), tb_hi _ _ (by omega)]; rfl
theorem tb_255 (x : Int32) (u : Nat) : tb (x &&& zI 255) u = (tb x u && decide (u < 8)) := by
  by_cases h : u < 32
  · unfold tb
    rw [Int32.toBitVec_and, BitVec.getLsbD_and]
    have : ∀ u : Fin 32, (zI 255).toBitVec.getLsbD u.val = decide (u.val < 8) := by decide +kernel
    rw [this ⟨u, h⟩]
  · rw [tb_hi _ _ (by omega), tb_hi _ _ (by omega)]; rfl
theorem hold_eq {σ : St} {r : Nat} {t : Int64} {te s1 s2 : Int32} (h1 : σ.2.1 18 r ≤ 8) (h2 : ∀ u, u < 8 → tb s1 u = tb s2 u) : hold σ r t te s1 = hold σ r t te s2 := by
  unfold hold
  by_cases e : σ.2.1 18 r = 0
  · rw [e]; rfl
  · rw [h2 _ (by omega)]
theorem go_out (σ : St) (hac : ∀ k, σ.2.1 9 k ≤ 9) (htg : ∀ k, σ.2.1 18 k ≤ 8) (t : Int64) (te : Int32) : ∀ k, k ≤ 6 → (∀ u, u < 8 → tb (outc σ t te k) u = tb (goS σ t te k).1 u) ∧ tb (outc σ t te k) 8 = (goS σ t te k).2.2 ∧ (∀ u, 8 ≤ u → tb (goS σ t te k).1 u = false) ∧ ∀ u, tb (goS σ t te k).2.1 u = (decide (u < k) && hold σ u t te (outc σ t te u))
  | 0, _ => ⟨fun _ _ => rfl, by show tb (zI 0) 8 = false; decide, fun u _ => tb_0 u, fun u => by show tb (zI 0) u = _; rw [tb_0]; simp⟩
  | k + 1, hk => by
    obtain ⟨h1, h2, h3, h4⟩ := go_out σ hac htg t te k (by omega)
    have ha := hac k
    have hh : hold σ k t te (goS σ t te k).1 = hold σ k t te (outc σ t te k) := hold_eq (htg k) (fun u hu => (h1 u hu).symm)
    cases hb : hold σ k t te (outc σ t te k) with
    | false =>
      have e1 : outc σ t te (k + 1) = outc σ t te k := by rw [outc]; exact if_neg (by rw [hb]; decide)
      have e2 : goS σ t te (k + 1) = goS σ t te k := by rw [goS]; exact if_neg (by rw [hh, hb]; decide)
      rw [e1, e2]
      refine ⟨h1, h2, h3, fun u => ?_⟩
      rw [h4 u]
      by_cases e : u = k
      · subst e; rw [hb]; simp
      · rw [show decide (u < k + 1) = decide (u < k) from by simp; omega]
    | true =>
      have e1 : outc σ t te (k + 1) = act (σ.2.1 9 k) (outc σ t te k) := by rw [outc]; exact if_pos hb
      have hm : ∀ u, tb ((goS σ t te k).2.1 ||| (zI 1 <<< (zI ((k : Nat) : Int) &&& 31))) u = (decide (u < k + 1) && hold σ u t te (outc σ t te u)) := fun u => by
        rw [tb_or _ _ _ (by omega), h4 u]
        by_cases e : u = k
        · subst e; rw [hb]; simp
        · rw [show decide (u < k + 1) = decide (u < k) from by simp; omega]
          simp [e]
      by_cases c : σ.2.1 9 k < 8
      · have e2 : goS σ t te (k + 1) = ((goS σ t te k).1 ||| (zI 1 <<< (zI ((σ.2.1 9 k : Nat) : Int) &&& 31)), (goS σ t te k).2.1 ||| (zI 1 <<< (zI ((k : Nat) : Int) &&& 31)), (goS σ t te k).2.2) := by rw [goS, if_pos (by rw [hh]; exact hb)]; exact if_pos c
        have e3 : act (σ.2.1 9 k) (outc σ t te k) = outc σ t te k ||| (zI 1 <<< (zI ((σ.2.1 9 k : Nat) : Int) &&& 31)) := by unfold act; exact if_neg (by omega)
        rw [e1, e2, e3]
        refine ⟨fun u hu => ?_, ?_, fun u hu => ?_, hm⟩
        · rw [tb_or _ _ _ (by omega), tb_or _ _ _ (by omega), h1 u hu]
        · rw [tb_or _ _ _ (by omega), h2, show decide (8 = σ.2.1 9 k) = false from by simp; omega, Bool.or_false]
        · rw [tb_or _ _ _ (by omega), h3 u hu, show decide (u = σ.2.1 9 k) = false from by simp; omega]; rfl
      · have e2 : goS σ t te (k + 1) = ((goS σ t te k).1, (goS σ t te k).2.1 ||| (zI 1 <<< (zI ((k : Nat) : Int) &&& 31)), σ.2.1 9 k == 8) := by rw [goS, if_pos (by rw [hh]; exact hb)]; exact if_neg c
        rw [e1, e2]
        by_cases c9 : σ.2.1 9 k = 9
        · have e3 : act (σ.2.1 9 k) (outc σ t te k) = outc σ t te k &&& zI (-257) := by unfold act; exact if_pos c9
          rw [e3]
          refine ⟨fun u hu => ?_, ?_, h3, hm⟩
          · rw [tb_257, h1 u hu, show (u == 8) = false from by simp; omega]; simp
          · rw [tb_257, c9]; simp
        · have e3 : act (σ.2.1 9 k) (outc σ t te k) = outc σ t te k ||| (zI 1 <<< (zI ((σ.2.1 9 k : Nat) : Int) &&& 31)) := by unfold act; exact if_neg c9
          have c8 : σ.2.1 9 k = 8 := by omega
          rw [e3]
          refine ⟨fun u hu => ?_, ?_, h3, hm⟩
          · rw [tb_or _ _ _ (by omega), h1 u hu, show decide (u = σ.2.1 9 k) = false from by simp; omega]; simp
          · rw [tb_or _ _ _ (by omega), c8]; simp
theorem out_tags {σ : St} (hac : ∀ k, σ.2.1 9 k ≤ 9) (htg : ∀ k, σ.2.1 18 k ≤ 8) (hru : σ.1 5 ≤ 6) (i : Nat) : out σ i &&& zI 255 = (goI σ i).1 := by
  obtain ⟨h1, h2, h3, h4⟩ := go_out σ hac htg (lat σ i) (σ.2.2.1 0 i) (σ.1 5) hru
  apply tb_ext
  intro u hu
  rw [tb_255]
  by_cases e : u < 8
  · simp [e]
    exact h1 u e
  · simp [e]
    exact (h3 u (by omega)).symm ▸ rfl
theorem out_off {σ : St} (hac : ∀ k, σ.2.1 9 k ≤ 9) (htg : ∀ k, σ.2.1 18 k ≤ 8) (hru : σ.1 5 ≤ 6) (i : Nat) : tb (out σ i) 8 = (goI σ i).2.2 :=
  (go_out σ hac htg (lat σ i) (σ.2.2.1 0 i) (σ.1 5) hru).2.1
theorem out_mtc {σ : St} (hac : ∀ k, σ.2.1 9 k ≤ 9) (htg : ∀ k, σ.2.1 18 k ≤ 8) (hru : σ.1 5 ≤ 6) {r : Nat} (hr : r < σ.1 5) (i : Nat) : tb (goI σ i).2.1 r = mtc σ r i := by
  have h := (go_out σ hac htg (lat σ i) (σ.2.2.1 0 i) (σ.1 5) hru).2.2.2 r
  unfold goI mtc
  rw [h]; simp [hr]
theorem shw_shM {σ : St} (hac : ∀ k, σ.2.1 9 k ≤ 9) (htg : ∀ k, σ.2.1 18 k ≤ 8) (hru : σ.1 5 ≤ 6) {rv : Nat} (hrt : σ.2.1 19 rv ≤ 8) (i : Nat) : shw σ rv i = shM σ rv i := by
  obtain ⟨h1, h2, h3, h4⟩ := go_out σ hac htg (lat σ i) (σ.2.2.1 0 i) (σ.1 5) hru
  have h5 : tb (out σ i) 8 = (goI σ i).2.2 := h2
  unfold shw tk shM
  rw [h5]
  by_cases e : σ.2.1 19 rv = 0
  · rw [e]; rfl
  · rw [show tb (out σ i) (σ.2.1 19 rv - 1) = tb (goI σ i).1 (σ.2.1 19 rv - 1) from h1 _ (by omega)]
-- the row and the counts
theorem cnt_cut (p : Nat → Bool) (i : Nat) : ∀ n, i ≤ n → cnt (fun k => decide (k < i) && p k) n = cnt p i
  | 0, h => by
    have : i = 0 := by omega
    subst this; rfl
  | n + 1, h => by
    by_cases e : i = n + 1
    · rw [e]
      exact cnt_congr (fun k hk => by simp [hk])
    · rw [cnt_no (p := fun k => decide (k < i) && p k) (by simp; omega)]
      exact cnt_cut p i n (by omega)
theorem fI_is {P : Nat → Bool} {n x : Nat} (hx : x < n) (hP : P x = true) (hu : ∀ y, y < n → P y = true → y = x) : fI P n = (x : Int) :=
  fI_yes hx hP (fun j hj => by
    cases h : P j with
    | false => rfl
    | true => have := hu j (by omega) h; omega)
variable {ah : Nat → Nat → Bool} {n : Nat} {o : Nat → Nat} {p : Nat → Bool} {r0 : Nat → Nat}
theorem ah_at (hO : OrdS ah) (hp : PmO n o) (hs : SrO ah n o) {i : Nat} (hi : i < n) : cnt (fun k => ah k (o i) && p k) n = cnt (fun i => p (o i)) i := by
  rw [← hp (fun k => ah k (o i) && p k)]
  rw [cnt_congr (r := fun j => decide (j < i) && p (o j)) (fun j hj => ?_)]
  · exact cnt_cut _ i n (by omega)
  · show (ah (o j) (o i) && p (o j)) = _
    rcases Nat.lt_trichotomy j i with h1 | h1 | h1
    · rw [hs j i h1 hi]; simp [h1]
    · subst h1; rw [hO.1]; simp
    · rw [hO.2.1 _ _ (hs i j h1 hj), show decide (j < i) = false from by simp; omega]
theorem gth_size (hp : PmO n o) : (gth p o r0 n).1 = cnt p n := by rw [gth_c]; exact hp p
theorem it_at (hO : OrdS ah) (hp : PmO n o) (hs : SrO ah n o) {j : Nat} (hj : j < (gth p o r0 n).1) : fI (fun y => p y && decide (((cnt (fun k => ah k y && p k) n : Nat) : Int) = (j : Int))) n = (((gth p o r0 n).2 j : Nat) : Int) := by
  obtain ⟨i, h1, h2, h3, h4⟩ := gth_inv hj
  rw [h4]
  refine fI_is (hp.lt h1) ?_ (fun y hy h => ?_)
  · simp only [h2, Bool.true_and, decide_eq_true_eq]
    rw [ah_at hO hp hs h1, h3]
  · obtain ⟨i2, h5, h6⟩ := hp.sur hy
    simp only [Bool.and_eq_true, decide_eq_true_eq] at h
    obtain ⟨h7, h8⟩ := h
    rw [← h6, ah_at hO hp hs h5] at h8
    rw [← h6] at h7 ⊢
    have h9 : i2 = i := by
      rcases Nat.lt_trichotomy i2 i with c | c | c
      · have := cnt_step (p := fun i => p (o i)) h7 c; omega
      · exact c
      · have := cnt_step (p := fun i => p (o i)) h2 c; omega
    rw [h9]
theorem it_no (hO : OrdS ah) (hp : PmO n o) (hs : SrO ah n o) {rk : Int} (hj : rk < 0 ∨ (((gth p o r0 n).1 : Nat) : Int) ≤ rk) : fI (fun y => p y && decide (((cnt (fun k => ah k y && p k) n : Nat) : Int) = rk)) n = -1 := by
  refine fI_no (fun y hy => ?_)
  cases h : (p y && decide (((cnt (fun k => ah k y && p k) n : Nat) : Int) = rk)) with
  | false => rfl
  | true =>
    exfalso
    obtain ⟨i2, h5, h6⟩ := hp.sur hy
    simp only [Bool.and_eq_true, decide_eq_true_eq] at h
    obtain ⟨h7, h8⟩ := h
    rw [← h6, ah_at hO hp hs h5] at h8
    rw [← h6] at h7
    have := cnt_step (p := fun i => p (o i)) h7 h5
    rw [gth_c] at hj
    omega
theorem rk_at (hO : OrdS ah) (hp : PmO n o) (hs : SrO ah n o) {b : Nat} (hb : b < n) (hpb : p b = true) : (∃ y9, y9 < (gth p o r0 n).1 ∧ (gth p o r0 n).2 y9 = b) ∧ fI (fun y9 => (gth p o r0 n).2 y9 == b) (gth p o r0 n).1 = ((cnt (fun k => ah k b && p k) n : Nat) : Int) := by
  obtain ⟨i, h5, h6⟩ := hp.sur hb
  subst h6
  have h1 := gth_at (r0 := r0) hpb h5
  have h2 := cnt_step (p := fun i => p (o i)) hpb h5
  have h3 : cnt (fun i => p (o i)) i < (gth p o r0 n).1 := by rw [gth_c]; exact h2
  refine ⟨⟨_, h3, h1⟩, ?_⟩
  rw [ah_at hO hp hs h5]
  refine fI_is h3 (by simp [h1]) (fun y hy h => ?_)
  obtain ⟨i2, h7, h8, h9, h10⟩ := gth_inv hy
  have h11 : (gth p o r0 n).2 y = o i := by simpa using h
  rw [h10] at h11
  have := hs.inj hO h7 h5 h11
  rw [← h9, this]
theorem rk_no (hp : PmO n o) {b : Nat} (hpb : p b = false) : ∀ y9, y9 < (gth p o r0 n).1 → (gth p o r0 n).2 y9 ≠ b := fun y hy he => by
  obtain ⟨i2, h7, h8, h9, h10⟩ := gth_inv hy
  rw [h10] at he
  rw [he, hpb] at h8
  cases h8
theorem gth_all (hp : PmO n o) (g : Nat → Bool) : cnt (fun j => g ((gth p o r0 n).2 j)) (gth p o r0 n).1 = cnt (fun k => p k && g k) n := by
  rw [gth_cnt g n]; exact hp (fun k => p k && g k)
theorem gth_mem (hp : PmO n o) {x : Nat} (hx : x < n) (hpx : p x = true) : ∃ j, j < (gth p o r0 n).1 ∧ (gth p o r0 n).2 j = x := by
  obtain ⟨i, h5, h6⟩ := hp.sur hx
  subst h6
  exact ⟨_, by rw [gth_c]; exact cnt_step (p := fun i => p (o i)) hpx h5, gth_at hpx h5⟩
theorem gth_in (hp : PmO n o) {j : Nat} (hj : j < (gth p o r0 n).1) : (gth p o r0 n).2 j < n ∧ p ((gth p o r0 n).2 j) = true := by
  obtain ⟨i, h1, h2, h3, h4⟩ := gth_inv hj
  rw [h4]
  exact ⟨hp.lt h1, h2⟩
theorem gth_inj (hO : OrdS ah) (hs : SrO ah n o) {a b : Nat} (ha : a < (gth p o r0 n).1) (hb : b < (gth p o r0 n).1) (he : (gth p o r0 n).2 a = (gth p o r0 n).2 b) : a = b := by
  obtain ⟨i, h1, h2, h3, h4⟩ := gth_inv ha
  obtain ⟨i2, h5, h6, h7, h8⟩ := gth_inv hb
  rw [h4, h8] at he
  have := hs.inj hO h1 h5 he
  rw [← h3, ← h7, this]
end ZRiver
