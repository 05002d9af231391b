/-! orders of items: sorted rows that hold each item once -/
section ZPerm
theorem cnt_congr {p r : Nat → Bool} : ∀ {n}, (∀ k, k < n → p k = r k) → cnt p n = cnt r n
  | 0, _ => rfl
  | n + 1, h => by
    have ih := cnt_congr (n := n) (fun k hk => h k (by omega))
    unfold cnt
    rw [ih, h n (by omega)]
theorem cnt_lt (j : Nat) : ∀ n, j ≤ n → cnt (fun i => decide (i < j)) n = j
  | 0, h => by
    have : j = 0 := by omega
    subst this; rfl
  | n + 1, h => by
    unfold cnt
    by_cases e : j = n + 1
    · subst e
      have h9 : cnt (fun i => decide (i < n + 1)) n = cnt (fun i => decide (i < n)) n := cnt_congr (fun k hk => by simp; omega)
      rw [h9, cnt_lt n n (Nat.le_refl _)]
      simp
    · rw [cnt_lt j n (by omega)]
      have : ¬ n < j := by omega
      simp [this]
theorem cnt_pos {p : Nat → Bool} {k : Nat} (hp : p k = true) : ∀ {n}, k < n → 0 < cnt p n
  | 0, h => by omega
  | n + 1, h => by
    unfold cnt
    by_cases e : k = n
    · subst e; rw [hp]; simp
    · have := cnt_pos hp (n := n) (by omega)
      omega
theorem cnt_ex {p : Nat → Bool} {n : Nat} (h : 0 < cnt p n) : ∃ k, k < n ∧ p k = true := by
  induction n with
  | zero => simp [cnt] at h
  | succ n ih =>
    by_cases e : p n = true
    · exact ⟨n, by omega, e⟩
    · have e2 : p n = false := by simpa using e
      rw [cnt_no e2] at h
      obtain ⟨k, hk, hp⟩ := ih h
      exact ⟨k, by omega, hp⟩
theorem cnt_nil {p : Nat → Bool} : ∀ {n}, (∀ k, k < n → p k = false) → cnt p n = 0
  | 0, _ => rfl
  | n + 1, h => by
    rw [cnt_no (h n (by omega))]
    exact cnt_nil (fun k hk => h k (by omega))
def PmO (n : Nat) (o : Nat → Nat) : Prop := ∀ p : Nat → Bool, cnt (fun j => p (o j)) n = cnt p n
def SrO (ah : Nat → Nat → Bool) (n : Nat) (o : Nat → Nat) : Prop := ∀ i j, i < j → j < n → ah (o i) (o j) = true
/-- a strict order of all numbers -/
def OrdS (ah : Nat → Nat → Bool) : Prop := (∀ x, ah x x = false) ∧ (∀ x y, ah x y = true → ah y x = false) ∧ (∀ x y, x ≠ y → ah x y = false → ah y x = true) ∧ (∀ x y z, ah x y = true → ah y z = true → ah x z = true)
theorem isAh_ord (σ : St) : OrdS (isAh σ) := by
  refine ⟨fun x => ?_, fun x y h => ?_, fun x y h1 h2 => ?_, fun x y z h1 h2 => ?_⟩ <;> unfold isAh at * <;> simp at * <;> omega
variable {ah : Nat → Nat → Bool} {n : Nat} {o : Nat → Nat}
theorem PmO.lt (h : PmO n o) {j : Nat} (hj : j < n) : o j < n := by
  by_cases e : o j < n
  · exact e
  · have h1 := h (fun x => decide (n ≤ x))
    rw [cnt_nil (p := fun x => decide (n ≤ x)) (fun k hk => by simp; omega)] at h1
    have h2 := cnt_zero h1 j hj
    simp at h2
    omega
theorem PmO.sur (h : PmO n o) {x : Nat} (hx : x < n) : ∃ j, j < n ∧ o j = x := by
  have h1 := h (fun y => y == x)
  have h2 : 0 < cnt (fun y => y == x) n := cnt_pos (k := x) (by simp) hx
  rw [← h1] at h2
  obtain ⟨k, hk, hp⟩ := cnt_ex h2
  exact ⟨k, hk, by simpa using hp⟩
theorem SrO.inj (hO : OrdS ah) (h : SrO ah n o) {i j : Nat} (hi : i < n) (hj : j < n) (he : o i = o j) : i = j := by
  rcases Nat.lt_trichotomy i j with h1 | h1 | h1
  · have := h i j h1 hj
    rw [he, hO.1] at this
    cases this
  · exact h1
  · have := h j i h1 hi
    rw [he, hO.1] at this
    cases this
theorem srt_rank (hO : OrdS ah) (hp : PmO n o) (hs : SrO ah n o) {j : Nat} (hj : j < n) : cnt (fun k => ah k (o j)) n = j := by
  rw [← hp (fun k => ah k (o j))]
  rw [cnt_congr (r := fun i => decide (i < j)) (fun i hi => ?_)]
  · exact cnt_lt j n (by omega)
  · rcases Nat.lt_trichotomy i j with h1 | h1 | h1
    · simp [h1, hs i j h1 hj]
    · subst h1; simp [hO.1]
    · have := hO.2.1 _ _ (hs j i h1 hi)
      simp [this]; omega
theorem srt_uni (hO : OrdS ah) {a : Nat → Nat} (hp : PmO n o) (hs : SrO ah n o) (ha : PmO n a) (hb : SrO ah n a) {j : Nat} (hj : j < n) : o j = a j := by
  obtain ⟨i, hi, he⟩ := ha.sur (hp.lt hj)
  have h1 := srt_rank hO hp hs hj
  have h2 := srt_rank hO ha hb hi
  rw [he] at h2
  have : i = j := by omega
  rw [← he, this]
-- putting in
theorem ins_hi {f : Nat → Bool} {i : Nat} : ∀ p o j, p < j → insO f i p o j = o j
  | 0, o, j, h => by unfold insO; exact va_up_ne _ _ (by omega)
  | p + 1, o, j, h => by
    unfold insO
    split
    · rw [ins_hi p _ j (by omega)]; exact va_up_ne _ _ (by omega)
    · exact va_up_ne _ _ (by omega)
theorem ins_cnt {f : Nat → Bool} {i : Nat} (P : Nat → Bool) : ∀ p o, cnt (fun j => P (insO f i p o j)) (p + 1) = cnt (fun j => P (o j)) p + if P i then 1 else 0
  | 0, o => by
    unfold insO
    show (0 + if P (va_up o 0 i 0) then 1 else 0) = _
    rw [va_up_self]; rfl
  | p + 1, o => by
    unfold insO
    split
    · show cnt (fun j => P (insO f i p (va_up o (p + 1) (o p)) j)) (p + 1) + (if P (insO f i p (va_up o (p + 1) (o p)) (p + 1)) then 1 else 0) = (cnt (fun j => P (o j)) p + if P (o p) then 1 else 0) + _
      rw [ins_hi p _ _ (by omega), va_up_self, ins_cnt P p, cnt_congr (r := fun j => P (o j)) (fun k hk => by rw [va_up_ne _ _ (by omega)])]
      omega
    · show cnt (fun j => P (va_up o (p + 1) i j)) (p + 1) + (if P (va_up o (p + 1) i (p + 1)) then 1 else 0) = _
      rw [va_up_self, cnt_congr (r := fun j => P (o j)) (fun k hk => by rw [va_up_ne _ _ (by omega)])]
theorem ins_spec {f : Nat → Bool} {i : Nat} : ∀ p o, ∃ r, r ≤ p ∧ (∀ j, j < r → insO f i p o j = o j) ∧ insO f i p o r = i ∧ (∀ j, r < j → j ≤ p → insO f i p o j = o (j - 1)) ∧ (∀ j, r ≤ j → j < p → f (o j) = true) ∧ (0 < r → f (o (r - 1)) = false)
  | 0, o => ⟨0, Nat.le_refl _, fun j h => by omega, by unfold insO; exact va_up_self _ _ _, fun j h1 h2 => by omega, fun j h1 h2 => by omega, fun h => by omega⟩
  | p + 1, o => by
    unfold insO
    split
    · rename_i hf
      obtain ⟨r, h1, h2, h3, h4, h5, h6⟩ := ins_spec (f := f) (i := i) p (va_up o (p + 1) (o p))
      refine ⟨r, by omega, fun j hj => by rw [h2 j hj, va_up_ne _ _ (by omega)], h3, fun j hj hk => ?_, fun j hj hk => ?_, fun hr => ?_⟩
      · by_cases e : j = p + 1
        · subst e
          rw [ins_hi p _ _ (by omega), va_up_self]; rfl
        · rw [h4 j hj (by omega), va_up_ne _ _ (by omega)]
      · by_cases e : j = p
        · subst e; exact hf
        · have := h5 j hj (by omega)
          rwa [va_up_ne _ _ (by omega)] at this
      · have := h6 hr
        rwa [va_up_ne _ _ (by omega)] at this
    · rename_i hf
      refine ⟨p + 1, Nat.le_refl _, fun j hj => va_up_ne _ _ (by omega), va_up_self _ _ _, fun j h1 h2 => by omega, fun j h1 h2 => by omega, fun _ => ?_⟩
      simpa using hf
theorem ins_Pm (h : PmO n o) {f : Nat → Bool} : PmO (n + 1) (insO f n n o) := fun P => by
  rw [ins_cnt P n o, h P]; rfl
theorem ins_Sr (hO : OrdS ah) (h : SrO ah n o) (hl : ∀ j, j < n → o j < n) : SrO ah (n + 1) (insO (ah n) n n o) := by
  obtain ⟨r, h1, h2, h3, h4, h5, h6⟩ := ins_spec (f := ah n) (i := n) n o
  have hb : ∀ a, a < r → ah (o a) n = true := fun a ha => by
    have h7 : ah (o (r - 1)) n = true := hO.2.2.1 _ _ (by have := hl (r - 1) (by omega); omega) (h6 (by omega))
    by_cases e : a = r - 1
    · rw [e]; exact h7
    · exact hO.2.2.2 _ _ _ (h a (r - 1) (by omega) (by omega)) h7
  intro a b hab hbn
  by_cases ea : a < r
  · rw [h2 a ea]
    by_cases eb : b < r
    · rw [h2 b eb]; exact h a b hab (by omega)
    · by_cases ec : b = r
      · rw [ec, h3]; exact hb a ea
      · rw [h4 b (by omega) (by omega)]
        exact h a (b - 1) (by omega) (by omega)
  · rw [h4 b (by omega) (by omega)]
    by_cases ec : a = r
    · rw [ec, h3]; exact h5 (b - 1) (by omega) (by omega)
    · rw [h4 a (by omega) (by omega)]
      exact h (a - 1) (b - 1) (by omega) (by omega)
-- found anew
theorem cnt_up (P : Nat → Bool) (a : Nat → Nat) {x v : Nat} : ∀ {m}, x < m → cnt (fun j => P (va_up a x v j)) m + (if P (a x) then 1 else 0) = cnt (fun j => P (a j)) m + (if P v then 1 else 0)
  | 0, h => by omega
  | m + 1, h => by
    show cnt (fun j => P (va_up a x v j)) m + (if P (va_up a x v m) then 1 else 0) + _ = cnt (fun j => P (a j)) m + (if P (a m) then 1 else 0) + _
    by_cases e : x = m
    · subst e
      rw [va_up_self, cnt_congr (r := fun j => P (a j)) (fun k hk => by rw [va_up_ne _ _ (by omega)])]
      omega
    · have ih := cnt_up P a (x := x) (v := v) (m := m) (by omega)
      rw [va_up_ne _ _ (by omega)]
      omega
theorem swp_Pm (h : PmO n o) {f k : Nat} (hf : f < n) (hk : k < n) : PmO n (va_up (va_up o f (o k)) k (o f)) := fun P => by
  have h1 := cnt_up P o (x := f) (v := o k) hf
  have h2 := cnt_up P (va_up o f (o k)) (x := k) (v := o f) hk
  have h3 : va_up o f (o k) k = o k := by unfold va_up; split <;> simp_all
  rw [h3] at h2
  have h4 := h P
  omega
theorem anw0_id (r : Nat → Nat) : ∀ k j, j < k → anw0 r k j = j
  | 0, j, h => by omega
  | k + 1, j, h => by
    unfold anw0
    by_cases e : j = k
    · rw [e, va_up_self]
    · rw [va_up_ne _ _ e]; exact anw0_id r k j (by omega)
theorem anwF_first (hO : OrdS ah) {a : Nat → Nat} {pl : Nat} : ∀ m, (∀ x y, pl ≤ x → x ≤ pl + m → pl ≤ y → y ≤ pl + m → a x = a y → x = y) → ∀ x, pl ≤ x → x ≤ pl + m → x ≠ anwF ah a pl m → ah (a (anwF ah a pl m)) (a x) = true
  | 0, _, x, h1, h2, h3 => by
    unfold anwF at h3
    omega
  | m + 1, hi, x, h1, h2, h3 => by
    have ih := anwF_first hO (a := a) (pl := pl) m (fun x y p1 p2 p3 p4 => hi x y p1 (by omega) p3 (by omega))
    have hin := anwF_in ah a pl m
    unfold anwF at h3 ⊢
    split
    · rename_i hc
      rw [if_pos hc] at h3
      by_cases e : x = anwF ah a pl m
      · rw [e]; exact hc
      · exact hO.2.2.2 _ _ _ hc (ih x h1 (by omega) e)
    · rename_i hc
      rw [if_neg hc] at h3
      by_cases e : x = pl + 1 + m
      · rw [e]
        refine hO.2.2.1 _ _ (fun he => ?_) (by simpa using hc)
        have := hi _ _ (by omega) (by omega) (by omega) (by omega) he
        omega
      · exact ih x h1 (by omega) h3
theorem anw1_all (hO : OrdS ah) (r : Nat → Nat) : ∀ k, k ≤ n → PmO n (anw1 ah n r k) ∧ (∀ x y, x < n → y < n → anw1 ah n r k x = anw1 ah n r k y → x = y) ∧ ∀ i j, i < k → i < j → j < n → ah (anw1 ah n r k i) (anw1 ah n r k j) = true
  | 0, _ => ⟨fun P => cnt_congr (fun k hk => by show P (anw0 r n k) = _; rw [anw0_id r n k hk]), fun x y hx hy he => by
      have he : anw0 r n x = anw0 r n y := he
      rwa [anw0_id r n x hx, anw0_id r n y hy] at he, fun i j h => by omega⟩
  | k + 1, hk => by
    obtain ⟨h1, h2, h3⟩ := anw1_all hO r k (by omega)
    have hin := anwF_in ah (anw1 ah n r k) k (n - 1 - k)
    have hfi := anwF_first hO (a := anw1 ah n r k) (pl := k) (n - 1 - k) (fun x y p1 p2 p3 p4 he => h2 x y (by omega) (by omega) he)
    show PmO n (va_up (va_up _ _ _) _ _) ∧ (∀ x y, x < n → y < n → va_up (va_up _ _ _) _ _ x = va_up (va_up _ _ _) _ _ y → x = y) ∧ ∀ i j, i < k + 1 → i < j → j < n → ah (va_up (va_up _ _ _) _ _ i) (va_up (va_up _ _ _) _ _ j) = true
    generalize anw1 ah n r k = a at *
    generalize anwF ah a k (n - 1 - k) = f at *
    -- what the swapped row holds at x
    have hs : ∀ x, va_up (va_up a f (a k)) k (a f) x = a (if x = k then f else if x = f then k else x) := fun x => by
      unfold va_up
      split
      · rfl
      · split <;> rfl
    refine ⟨swp_Pm h1 (by omega) (by omega), fun x y hx hy he => ?_, fun i j h4 h5 h6 => ?_⟩
    · rw [hs, hs] at he
      have := h2 _ _ (by split <;> (try split) <;> omega) (by split <;> (try split) <;> omega) he
      split at this <;> split at this <;> (try split at this) <;> (try split at this) <;> omega
    · rw [hs, hs]
      by_cases e : i = k
      · rw [if_pos e, if_neg (show ¬ j = k by omega)]
        split
        · exact hfi k (by omega) (by omega) (by omega)
        · rename_i e2
          exact hfi j (by omega) (by omega) e2
      · rw [if_neg e, if_neg (show ¬ i = f by omega)]
        exact h3 i _ (by omega) (by split <;> (try split) <;> omega) (by split <;> (try split) <;> omega)
theorem anw_eq (hO : OrdS ah) (hp : PmO n o) (hs : SrO ah n o) (r : Nat → Nat) {j : Nat} (hj : j < n) : anw1 ah n r n j = o j := by
  have h := anw1_all (n := n) hO r n (Nat.le_refl _)
  exact srt_uni hO h.1 (fun i j h1 h2 => h.2.2 i j (by omega) h1 h2) hp hs hj
-- the shown ones
theorem gth_c {p : Nat → Bool} {r0 : Nat → Nat} : ∀ k, (gth p o r0 k).1 = cnt (fun i => p (o i)) k
  | 0 => rfl
  | k + 1 => by
    unfold gth cnt
    split
    · show (gth p o r0 k).1 + 1 = _
      rw [gth_c k]
    · rw [gth_c k]; simp
theorem cnt_step {p : Nat → Bool} {i : Nat} (hp : p i = true) : ∀ {k}, i < k → cnt p i < cnt p k
  | 0, h => by omega
  | k + 1, h => by
    by_cases e : i = k
    · subst e; rw [cnt_yes hp]; omega
    · have := cnt_step hp (k := k) (by omega)
      have := cnt_leS p k
      omega
theorem cnt_mon2 (p : Nat → Bool) {i : Nat} : ∀ {k}, i ≤ k → cnt p i ≤ cnt p k
  | 0, h => by have : i = 0 := by omega
               subst this; exact Nat.le_refl _
  | k + 1, h => by
    by_cases e : i = k + 1
    · subst e; exact Nat.le_refl _
    · have := cnt_mon2 p (i := i) (k := k) (by omega)
      have := cnt_leS p k
      omega
theorem gth_at {p : Nat → Bool} {r0 : Nat → Nat} {i : Nat} (hp : p (o i) = true) : ∀ {k}, i < k → (gth p o r0 k).2 (cnt (fun i => p (o i)) i) = o i
  | 0, h => by omega
  | k + 1, h => by
    unfold gth
    by_cases e : i = k
    · subst e
      rw [if_pos hp]
      show va_up _ _ _ _ = _
      rw [gth_c, va_up_self]
    · have ih := gth_at (r0 := r0) hp (k := k) (by omega)
      split
      · show va_up _ _ _ _ = _
        rw [gth_c, va_up_ne _ _ (by have := cnt_step (p := fun i => p (o i)) hp (k := k) (by omega); omega)]
        exact ih
      · exact ih
theorem gth_inv {p : Nat → Bool} {r0 : Nat → Nat} : ∀ {k j}, j < (gth p o r0 k).1 → ∃ i, i < k ∧ p (o i) = true ∧ cnt (fun i => p (o i)) i = j ∧ (gth p o r0 k).2 j = o i
  | k, j, h => by
    have h1 : ∃ i, i < k ∧ p (o i) = true ∧ cnt (fun i => p (o i)) i = j := by
      rw [gth_c] at h
      induction k with
      | zero => simp [cnt] at h
      | succ k ih =>
        by_cases e : j < cnt (fun i => p (o i)) k
        · obtain ⟨i, a, b⟩ := ih e
          exact ⟨i, by omega, b⟩
        · cases hp : p (o k) with
          | false => rw [cnt_no (p := fun i => p (o i)) hp] at h; exact absurd h e
          | true =>
            rw [cnt_yes (p := fun i => p (o i)) hp] at h
            exact ⟨k, by omega, hp, by omega⟩
    obtain ⟨i, h2, h3, h4⟩ := h1
    exact ⟨i, h2, h3, h4, by rw [← h4]; exact gth_at h3 h2⟩
theorem gth_cnt {p : Nat → Bool} {r0 : Nat → Nat} (g : Nat → Bool) : ∀ k, cnt (fun j => g ((gth p o r0 k).2 j)) (gth p o r0 k).1 = cnt (fun i => p (o i) && g (o i)) k
  | 0 => rfl
  | k + 1 => by
    have ih := gth_cnt (p := p) (r0 := r0) g k
    cases hp : p (o k) with
    | true =>
      have h1 : gth p o r0 (k + 1) = ((gth p o r0 k).1 + 1, va_up (gth p o r0 k).2 (gth p o r0 k).1 (o k)) := by rw [gth]; exact if_pos hp
      rw [h1]
      show cnt (fun j => g (va_up (gth p o r0 k).2 (gth p o r0 k).1 (o k) j)) (gth p o r0 k).1 + (if g (va_up (gth p o r0 k).2 (gth p o r0 k).1 (o k) (gth p o r0 k).1) then 1 else 0) = cnt (fun i => p (o i) && g (o i)) k + (if (p (o k) && g (o k)) then 1 else 0)
      rw [va_up_self, hp, Bool.true_and, ← ih, cnt_congr (r := fun j => g ((gth p o r0 k).2 j)) (fun j hj => by rw [va_up_ne _ _ (by omega)])]
    | false =>
      have h1 : gth p o r0 (k + 1) = gth p o r0 k := by rw [gth]; exact if_neg (by rw [hp]; decide)
      rw [h1, ih, cnt_no (p := fun i => p (o i) && g (o i)) (by show (p (o k) && g (o k)) = false; rw [hp]; rfl)]
end ZPerm
