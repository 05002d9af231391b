set_option maxHeartbeats 4000000 in
set_option maxRecDepth 100000 in
theorem lw_c26 {p : Program} {l : Launch} {e : Env} {s : State} {m : MethodId} {below : List Frame} {meth : Method} {c : Code} {H : Heap} {locs : List Loc} {cells slots : Nat} {Q : State → Prop} {b L : Nat} {xs : Nat → Int32} {ls : Array Slot} {G : ZG} {q1 q2 : Nat → Nat} {oa od n j : Nat} {σ τ : St} {κ : KC} {f : Nat → Int64} {μ : KM} {g : Nat → UInt64} (C : LC p l s m meth c G b L xs) (hn : n < 600) (hj : 8 * j + 8 ≤ L) (hi : Inv n σ τ) (hW : LW G (lwA s) q1 q2 oa od σ κ f τ μ g H) (hS : va_S (lwA s) s.heap H locs)
    (hl : lv_has ls 9 [(5, .int (zI ((8 * j : Nat) : Int))), (0, .ref b), (1, .ref (q1 0)), (2, .ref (q2 0)), (3, .ref oa), (4, .ref od)]) (hR : cells + 1 ≤ room_1.cells ∧ slots + 6 ≤ room_1.slots)
    (kk : LK p l e s m below meth c cells slots Q G b q1 q2 oa od n (8 * j)) : W p l e room_1 s m #[.ref b] below meth c H locs cells slots Q (F0 m 1918 ls []) := by
  have Z := C.1
  have hst := C.2.1
  have hx := Z.1
  have hb := Z.2.1
  have hown := Z.2.2.2.1
  have hW9 := Z.2.2.2.2.1
  obtain ⟨k, bv, σ1, τ1, hI, hCL, hCM⟩ := j_nextUnread l G hst hi hn q1 q2 oa κ f μ (xs (8 * j + 1))
  refine lv_aload_n hx hb dL_law_1918 rfl (lv_at hl 2 rfl) ?_
  refine lv_aload_n hx hb dL_law_1919 rfl (lv_at hl 1 rfl) ?_
  refine lv_iload hx hb dL_law_1920 (lv_at hl 0 rfl) ?_
  refine zr_iconst hx hb dL_law_1922 ?_
  refine zr_iadd hx hb dL_law_1923 ?_
  refine zs_ld C hS (8 * j + 1) (by omega) (by omega) dL_law_1924 ?_
  refine lv_aload_n hx hb dL_law_1925 rfl (lv_at hl 4 rfl) ?_
  refine callL (rest := []) Z hW hS hl.1 hCL zW_nextUnread km_L_230 rfl rfl ⟨⟨Nat.le_of_ble_eq_true rfl, Nat.le_of_ble_eq_true rfl⟩, hR.1, hR.2⟩ (Nat.le_of_ble_eq_true rfl) dL_law_1926 (fun r u H locs hp hW hS => ?_)
  rw [hp.1]
  refine lv_istore (lv' := [(6, .int (zI k)), (5, .int (zI ((8 * j : Nat) : Int))), (0, .ref b), (1, .ref (q1 0)), (2, .ref (q2 0)), (3, .ref oa), (4, .ref od)]) hx hb dL_law_1929 hl (by decide) rfl (fun ls hl => ?_)
  refine lv_aload_n hx hb dL_law_1931 rfl (lv_at hl 4 rfl) ?_
  refine lv_aload_n hx hb dL_law_1932 rfl (lv_at hl 2 rfl) ?_
  refine lv_iload hx hb dL_law_1933 (lv_at hl 1 rfl) ?_
  refine zr_iconst hx hb dL_law_1935 ?_
  refine zr_iadd hx hb dL_law_1936 ?_
  refine zs_ld C hS (8 * j + 1) (by omega) (by omega) dL_law_1937 ?_
  refine callM_I (rest := []) Z hW hS hl.1 hCM zY_X6_nextUnread km_L_232 rfl rfl rfl ⟨⟨Nat.le_of_ble_eq_true rfl, Nat.le_of_ble_eq_true rfl⟩, hR.1, hR.2⟩ (Nat.le_of_ble_eq_true rfl) dL_law_1938 (fun r u2 H locs hp2 hW hS => ?_)
  rw [hp2.1]
  refine lv_istore (lv' := [(7, .int bv), (6, .int (zI k)), (5, .int (zI ((8 * j : Nat) : Int))), (0, .ref b), (1, .ref (q1 0)), (2, .ref (q2 0)), (3, .ref oa), (4, .ref od)]) hx hb dL_law_1941 hl (by decide) rfl (fun ls hl => ?_)
  refine lv_aload_n hx hb dL_law_1943 rfl (lv_at hl 5 rfl) ?_
  refine callM_I (rest := []) Z hW hS hl.1 (lw_thr hp2.2) zY_X6_thrown km_L_143 rfl rfl rfl ⟨⟨Nat.le_of_ble_eq_true rfl, Nat.le_of_ble_eq_true rfl⟩, hR.1, hR.2⟩ (Nat.le_of_ble_eq_true rfl) dL_law_1944 (fun r u3 H locs hp3 hW hS => ?_)
  rw [hp3]
  refine lv_iload hx hb dL_law_1947 (lv_at hl 1 rfl) ?_
  refine lv_icmp_eq (tgt := 1954) hx hb dL_law_1949 (by decide) (fun _ => ?_) (fun h9 => absurd rfl h9)
  refine lv_iload hx hb dL_law_1954 (lv_at hl 1 rfl) ?_
  refine lv_if_ne (tgt := 1971) hx hb dL_law_1956 (by decide) (fun _ => ?_) (fun h0 => ?_)
  · refine lv_goto (tgt := 2607) hx hb dL_law_1971 (by decide) ?_
    exact kk σ1 τ1 _ _ _ _ H locs ls hI hW hS (lv_sub hl [2, 3, 4, 5, 6, 7] rfl)
  · have hv := hp.2 h0
    refine lv_aload_n hx hb dL_law_1959 rfl (lv_at hl 6 rfl) ?_
    refine zr_iconst hx hb dL_law_1960 ?_
    refine ldL Z hW.1.2.1 0 u.2 rfl 0 rfl (by decide) (by decide) dL_law_1961 ?_
    rw [hv]
    refine lv_iload hx hb dL_law_1962 (lv_at hl 0 rfl) ?_
    refine lv_i2l hx hb dL_law_1964 rfl ?_
    refine W.lcmp hx hb dL_law_1965 ?_
    rw [lg_cmp_self]
    refine lv_if_eq (tgt := 1971) hx hb dL_law_1966 (by decide) (fun _ => ?_) (fun h9 => absurd rfl h9)
    refine lv_goto (tgt := 2607) hx hb dL_law_1971 (by decide) ?_
    exact kk σ1 τ1 _ _ _ _ H locs ls hI hW hS (lv_sub hl [2, 3, 4, 5, 6, 7] rfl)
set_option maxHeartbeats 4000000 in
set_option maxRecDepth 100000 in
theorem lw_c27 {p : Program} {l : Launch} {e : Env} {s : State} {m : MethodId} {below : List Frame} {meth : Method} {c : Code} {H : Heap} {locs : List Loc} {cells slots : Nat} {Q : State → Prop} {b L : Nat} {xs : Nat → Int32} {ls : Array Slot} {G : ZG} {q1 q2 : Nat → Nat} {oa od n j : Nat} {σ τ : St} {κ : KC} {f : Nat → Int64} {μ : KM} {g : Nat → UInt64} (C : LC p l s m meth c G b L xs) (hn : n < 600) (hj : 8 * j + 8 ≤ L) (hi : Inv n σ τ) (hW : LW G (lwA s) q1 q2 oa od σ κ f τ μ g H) (hS : va_S (lwA s) s.heap H locs)
    (hl : lv_has ls 9 [(5, .int (zI ((8 * j : Nat) : Int))), (0, .ref b), (1, .ref (q1 0)), (2, .ref (q2 0)), (3, .ref oa), (4, .ref od)]) (hR : cells + 1 ≤ room_1.cells ∧ slots + 6 ≤ room_1.slots)
    (kk : LK p l e s m below meth c cells slots Q G b q1 q2 oa od n (8 * j)) : W p l e room_1 s m #[.ref b] below meth c H locs cells slots Q (F0 m 1974 ls []) := by
  have Z := C.1
  have hst := C.2.1
  have hx := Z.1
  have hb := Z.2.1
  have hown := Z.2.2.2.1
  have hW9 := Z.2.2.2.2.1
  obtain ⟨k, bv, σ1, τ1, hI, hCL, hCM⟩ := j_readShare l G hst hi hn q1 q2 od κ g μ (xs (8 * j + 1))
  refine lv_aload_n hx hb dL_law_1974 rfl (lv_at hl 2 rfl) ?_
  refine lv_aload_n hx hb dL_law_1975 rfl (lv_at hl 1 rfl) ?_
  refine lv_iload hx hb dL_law_1976 (lv_at hl 0 rfl) ?_
  refine zr_iconst hx hb dL_law_1978 ?_
  refine zr_iadd hx hb dL_law_1979 ?_
  refine zs_ld C hS (8 * j + 1) (by omega) (by omega) dL_law_1980 ?_
  refine lv_aload hx hb dL_law_1981 (lv_at hl 5 rfl) ?_
  refine callD (rest := []) Z hW hS hl.1 hCL zW_readShare km_L_233 rfl rfl ⟨⟨Nat.le_of_ble_eq_true rfl, Nat.le_of_ble_eq_true rfl⟩, hR.1, hR.2⟩ (Nat.le_of_ble_eq_true rfl) dL_law_1983 (fun r u H locs hp hW hS => ?_)
  rw [hp.1]
  refine lv_istore (lv' := [(6, .int (zI k)), (5, .int (zI ((8 * j : Nat) : Int))), (0, .ref b), (1, .ref (q1 0)), (2, .ref (q2 0)), (3, .ref oa), (4, .ref od)]) hx hb dL_law_1986 hl (by decide) rfl (fun ls hl => ?_)
  refine lv_aload_n hx hb dL_law_1988 rfl (lv_at hl 4 rfl) ?_
  refine lv_aload_n hx hb dL_law_1989 rfl (lv_at hl 2 rfl) ?_
  refine lv_iload hx hb dL_law_1990 (lv_at hl 1 rfl) ?_
  refine zr_iconst hx hb dL_law_1992 ?_
  refine zr_iadd hx hb dL_law_1993 ?_
  refine zs_ld C hS (8 * j + 1) (by omega) (by omega) dL_law_1994 ?_
  refine callM_F (rest := []) Z hW hS hl.1 hCM zY_X6_readShare km_L_236 rfl rfl rfl ⟨⟨Nat.le_of_ble_eq_true rfl, Nat.le_of_ble_eq_true rfl⟩, hR.1, hR.2⟩ (Nat.le_of_ble_eq_true rfl) dL_law_1995 (fun r u2 H locs hp2 hW hS => ?_)
  rw [hp2.1]
  refine lv_fstore (lv' := [(7, .float bv), (6, .int (zI k)), (5, .int (zI ((8 * j : Nat) : Int))), (0, .ref b), (1, .ref (q1 0)), (2, .ref (q2 0)), (3, .ref oa), (4, .ref od)]) hx hb dL_law_1998 hl (by decide) rfl (fun ls hl => ?_)
  refine lv_aload_n hx hb dL_law_2000 rfl (lv_at hl 5 rfl) ?_
  refine callM_I (rest := []) Z hW hS hl.1 (lw_thr hp2.2) zY_X6_thrown km_L_143 rfl rfl rfl ⟨⟨Nat.le_of_ble_eq_true rfl, Nat.le_of_ble_eq_true rfl⟩, hR.1, hR.2⟩ (Nat.le_of_ble_eq_true rfl) dL_law_2001 (fun r u3 H locs hp3 hW hS => ?_)
  rw [hp3]
  refine lv_iload hx hb dL_law_2004 (lv_at hl 1 rfl) ?_
  refine lv_icmp_eq (tgt := 2011) hx hb dL_law_2006 (by decide) (fun _ => ?_) (fun h9 => absurd rfl h9)
  refine lv_iload hx hb dL_law_2011 (lv_at hl 1 rfl) ?_
  refine lv_if_ne (tgt := 2049) hx hb dL_law_2013 (by decide) (fun _ => ?_) (fun h0 => ?_)
  · refine lv_goto (tgt := 2607) hx hb dL_law_2049 (by decide) ?_
    exact kk σ1 τ1 _ _ _ _ H locs ls hI hW hS (lv_sub hl [2, 3, 4, 5, 6, 7] rfl)
  · have hv := hp.2 h0
    refine lv_aload hx hb dL_law_2016 (lv_at hl 7 rfl) ?_
    refine zr_iconst hx hb dL_law_2018 ?_
    refine ldD Z hW.1.2.2.2 0 u.2 rfl 0 rfl (by decide) (by decide) dL_law_2019 ?_
    rw [hv.1]
    refine lv_fload hx hb dL_law_2020 (lv_at hl 0 rfl) ?_
    refine lv_f2d hx hb dL_law_2022 hv.2 ?_
    refine lv_dcmp hx hb dL_law_2023 ?_
    rw [zd_self hv.2]
    refine lv_if_eq (tgt := 2049) hx hb dL_law_2024 (by decide) (fun _ => ?_) (fun h9 => absurd rfl h9)
    refine lv_goto (tgt := 2607) hx hb dL_law_2049 (by decide) ?_
    exact kk σ1 τ1 _ _ _ _ H locs ls hI hW hS (lv_sub hl [2, 3, 4, 5, 6, 7] rfl)
set_option maxHeartbeats 4000000 in
set_option maxRecDepth 100000 in
theorem lw_c28 {p : Program} {l : Launch} {e : Env} {s : State} {m : MethodId} {below : List Frame} {meth : Method} {c : Code} {H : Heap} {locs : List Loc} {cells slots : Nat} {Q : State → Prop} {b L : Nat} {xs : Nat → Int32} {ls : Array Slot} {G : ZG} {q1 q2 : Nat → Nat} {oa od n j : Nat} {σ τ : St} {κ : KC} {f : Nat → Int64} {μ : KM} {g : Nat → UInt64} (C : LC p l s m meth c G b L xs) (hn : n < 600) (hj : 8 * j + 8 ≤ L) (hi : Inv n σ τ) (hW : LW G (lwA s) q1 q2 oa od σ κ f τ μ g H) (hS : va_S (lwA s) s.heap H locs)
    (hl : lv_has ls 9 [(5, .int (zI ((8 * j : Nat) : Int))), (0, .ref b), (1, .ref (q1 0)), (2, .ref (q2 0)), (3, .ref oa), (4, .ref od)]) (hR : cells + 1 ≤ room_1.cells ∧ slots + 6 ≤ room_1.slots)
    (kk : LK p l e s m below meth c cells slots Q G b q1 q2 oa od n (8 * j)) : W p l e room_1 s m #[.ref b] below meth c H locs cells slots Q (F0 m 2052 ls []) := by
  have Z := C.1
  have hst := C.2.1
  have hx := Z.1
  have hb := Z.2.1
  have hown := Z.2.2.2.1
  have hW9 := Z.2.2.2.2.1
  obtain ⟨k, bv, σ1, τ1, hI, hCL, hCM⟩ := j_addDevice l G hst hi hn q1 q2 oa κ f μ 
  refine lv_aload_n hx hb dL_law_2052 rfl (lv_at hl 2 rfl) ?_
  refine lv_aload_n hx hb dL_law_2053 rfl (lv_at hl 4 rfl) ?_
  refine callL (rest := []) Z hW hS hl.1 hCL zW_addDevice km_L_237 rfl rfl ⟨⟨Nat.le_of_ble_eq_true rfl, Nat.le_of_ble_eq_true rfl⟩, hR.1, hR.2⟩ (Nat.le_of_ble_eq_true rfl) dL_law_2054 (fun r u H locs hp hW hS => ?_)
  rw [hp.1]
  refine lv_istore (lv' := [(6, .int (zI k)), (5, .int (zI ((8 * j : Nat) : Int))), (0, .ref b), (1, .ref (q1 0)), (2, .ref (q2 0)), (3, .ref oa), (4, .ref od)]) hx hb dL_law_2057 hl (by decide) rfl (fun ls hl => ?_)
  refine lv_aload_n hx hb dL_law_2059 rfl (lv_at hl 4 rfl) ?_
  refine callM_I (rest := []) Z hW hS hl.1 hCM zY_X6_addDevice km_L_239 rfl rfl rfl ⟨⟨Nat.le_of_ble_eq_true rfl, Nat.le_of_ble_eq_true rfl⟩, hR.1, hR.2⟩ (Nat.le_of_ble_eq_true rfl) dL_law_2060 (fun r u2 H locs hp2 hW hS => ?_)
  rw [hp2.1]
  refine lv_istore (lv' := [(7, .int bv), (6, .int (zI k)), (5, .int (zI ((8 * j : Nat) : Int))), (0, .ref b), (1, .ref (q1 0)), (2, .ref (q2 0)), (3, .ref oa), (4, .ref od)]) hx hb dL_law_2063 hl (by decide) rfl (fun ls hl => ?_)
  refine lv_aload_n hx hb dL_law_2065 rfl (lv_at hl 5 rfl) ?_
  refine callM_I (rest := []) Z hW hS hl.1 (lw_thr hp2.2) zY_X6_thrown km_L_143 rfl rfl rfl ⟨⟨Nat.le_of_ble_eq_true rfl, Nat.le_of_ble_eq_true rfl⟩, hR.1, hR.2⟩ (Nat.le_of_ble_eq_true rfl) dL_law_2066 (fun r u3 H locs hp3 hW hS => ?_)
  rw [hp3]
  refine lv_iload hx hb dL_law_2069 (lv_at hl 1 rfl) ?_
  refine lv_icmp_eq (tgt := 2076) hx hb dL_law_2071 (by decide) (fun _ => ?_) (fun h9 => absurd rfl h9)
  refine lv_iload hx hb dL_law_2076 (lv_at hl 1 rfl) ?_
  refine lv_if_ne (tgt := 2093) hx hb dL_law_2078 (by decide) (fun _ => ?_) (fun h0 => ?_)
  · refine lv_goto (tgt := 2607) hx hb dL_law_2093 (by decide) ?_
    exact kk σ1 τ1 _ _ _ _ H locs ls hI hW hS (lv_sub hl [2, 3, 4, 5, 6, 7] rfl)
  · have hv := hp.2 h0
    refine lv_aload_n hx hb dL_law_2081 rfl (lv_at hl 6 rfl) ?_
    refine zr_iconst hx hb dL_law_2082 ?_
    refine ldL Z hW.1.2.1 0 u.2 rfl 0 rfl (by decide) (by decide) dL_law_2083 ?_
    rw [hv]
    refine lv_iload hx hb dL_law_2084 (lv_at hl 0 rfl) ?_
    refine lv_i2l hx hb dL_law_2086 rfl ?_
    refine W.lcmp hx hb dL_law_2087 ?_
    rw [lg_cmp_self]
    refine lv_if_eq (tgt := 2093) hx hb dL_law_2088 (by decide) (fun _ => ?_) (fun h9 => absurd rfl h9)
    refine lv_goto (tgt := 2607) hx hb dL_law_2093 (by decide) ?_
    exact kk σ1 τ1 _ _ _ _ H locs ls hI hW hS (lv_sub hl [2, 3, 4, 5, 6, 7] rfl)
set_option maxHeartbeats 4000000 in
set_option maxRecDepth 100000 in
theorem lw_c29 {p : Program} {l : Launch} {e : Env} {s : State} {m : MethodId} {below : List Frame} {meth : Method} {c : Code} {H : Heap} {locs : List Loc} {cells slots : Nat} {Q : State → Prop} {b L : Nat} {xs : Nat → Int32} {ls : Array Slot} {G : ZG} {q1 q2 : Nat → Nat} {oa od n j : Nat} {σ τ : St} {κ : KC} {f : Nat → Int64} {μ : KM} {g : Nat → UInt64} (C : LC p l s m meth c G b L xs) (hn : n < 600) (hj : 8 * j + 8 ≤ L) (hi : Inv n σ τ) (hW : LW G (lwA s) q1 q2 oa od σ κ f τ μ g H) (hS : va_S (lwA s) s.heap H locs)
    (hl : lv_has ls 9 [(5, .int (zI ((8 * j : Nat) : Int))), (0, .ref b), (1, .ref (q1 0)), (2, .ref (q2 0)), (3, .ref oa), (4, .ref od)]) (hR : cells + 1 ≤ room_1.cells ∧ slots + 6 ≤ room_1.slots)
    (kk : LK p l e s m below meth c cells slots Q G b q1 q2 oa od n (8 * j)) : W p l e room_1 s m #[.ref b] below meth c H locs cells slots Q (F0 m 2096 ls []) := by
  have Z := C.1
  have hst := C.2.1
  have hx := Z.1
  have hb := Z.2.1
  have hown := Z.2.2.2.1
  have hW9 := Z.2.2.2.2.1
  by_cases hz : xs (8 * j + 3) = 0
  · obtain ⟨k, bv, σ1, τ1, hI, hCL, hCM⟩ := j_mark l G hst hi hn q1 q2 oa κ f μ (xs (8 * j + 1)) (xs (8 * j + 2)) false
    refine lv_aload_n hx hb dL_law_2096 rfl (lv_at hl 2 rfl) ?_
    refine lv_aload_n hx hb dL_law_2097 rfl (lv_at hl 1 rfl) ?_
    refine lv_iload hx hb dL_law_2098 (lv_at hl 0 rfl) ?_
    refine zr_iconst hx hb dL_law_2100 ?_
    refine zr_iadd hx hb dL_law_2101 ?_
    refine zs_ld C hS (8 * j + 1) (by omega) (by omega) dL_law_2102 ?_
    refine lv_aload_n hx hb dL_law_2103 rfl (lv_at hl 1 rfl) ?_
    refine lv_iload hx hb dL_law_2104 (lv_at hl 0 rfl) ?_
    refine zr_iconst hx hb dL_law_2106 ?_
    refine zr_iadd hx hb dL_law_2107 ?_
    refine zs_ld C hS (8 * j + 2) (by omega) (by omega) dL_law_2108 ?_
    refine lv_aload_n hx hb dL_law_2109 rfl (lv_at hl 1 rfl) ?_
    refine lv_iload hx hb dL_law_2110 (lv_at hl 0 rfl) ?_
    refine zr_iconst hx hb dL_law_2112 ?_
    refine zr_iadd hx hb dL_law_2113 ?_
    refine zs_ld C hS (8 * j + 3) (by omega) (by omega) dL_law_2114 ?_
    refine lv_if_eq (tgt := 2122) hx hb dL_law_2115 (by decide) (fun _ => ?_) (fun h9 => absurd hz h9)
    refine zr_iconst hx hb dL_law_2122 ?_
    refine zr_top (w := .int (tB false)) (by rw [tB_f]) ?_
    refine lv_aload_n hx hb dL_law_2123 rfl (lv_at hl 4 rfl) ?_
    refine callL (rest := []) Z hW hS hl.1 hCL zW_mark km_L_240 rfl rfl ⟨⟨Nat.le_of_ble_eq_true rfl, Nat.le_of_ble_eq_true rfl⟩, hR.1, hR.2⟩ (Nat.le_of_ble_eq_true rfl) dL_law_2124 (fun r u H locs hp hW hS => ?_)
    rw [hp.1]
    refine lv_istore (lv' := [(6, .int (zI k)), (5, .int (zI ((8 * j : Nat) : Int))), (0, .ref b), (1, .ref (q1 0)), (2, .ref (q2 0)), (3, .ref oa), (4, .ref od)]) hx hb dL_law_2127 hl (by decide) rfl (fun ls hl => ?_)
    refine lv_aload_n hx hb dL_law_2129 rfl (lv_at hl 4 rfl) ?_
    refine lv_aload_n hx hb dL_law_2130 rfl (lv_at hl 2 rfl) ?_
    refine lv_iload hx hb dL_law_2131 (lv_at hl 1 rfl) ?_
    refine zr_iconst hx hb dL_law_2133 ?_
    refine zr_iadd hx hb dL_law_2134 ?_
    refine zs_ld C hS (8 * j + 1) (by omega) (by omega) dL_law_2135 ?_
    refine lv_aload_n hx hb dL_law_2136 rfl (lv_at hl 2 rfl) ?_
    refine lv_iload hx hb dL_law_2137 (lv_at hl 1 rfl) ?_
    refine zr_iconst hx hb dL_law_2139 ?_
    refine zr_iadd hx hb dL_law_2140 ?_
    refine zs_ld C hS (8 * j + 2) (by omega) (by omega) dL_law_2141 ?_
    refine lv_aload_n hx hb dL_law_2142 rfl (lv_at hl 2 rfl) ?_
    refine lv_iload hx hb dL_law_2143 (lv_at hl 1 rfl) ?_
    refine zr_iconst hx hb dL_law_2145 ?_
    refine zr_iadd hx hb dL_law_2146 ?_
    refine zs_ld C hS (8 * j + 3) (by omega) (by omega) dL_law_2147 ?_
    refine lv_if_eq (tgt := 2155) hx hb dL_law_2148 (by decide) (fun _ => ?_) (fun h9 => absurd hz h9)
    refine zr_iconst hx hb dL_law_2155 ?_
    refine zr_top (w := .int (tB false)) (by rw [tB_f]) ?_
    refine callM_I (rest := []) Z hW hS hl.1 hCM zY_X6_mark km_L_243 rfl rfl rfl ⟨⟨Nat.le_of_ble_eq_true rfl, Nat.le_of_ble_eq_true rfl⟩, hR.1, hR.2⟩ (Nat.le_of_ble_eq_true rfl) dL_law_2156 (fun r u2 H locs hp2 hW hS => ?_)
    rw [hp2.1]
    refine lv_istore (lv' := [(7, .int (tB bv)), (6, .int (zI k)), (5, .int (zI ((8 * j : Nat) : Int))), (0, .ref b), (1, .ref (q1 0)), (2, .ref (q2 0)), (3, .ref oa), (4, .ref od)]) hx hb dL_law_2159 hl (by decide) rfl (fun ls hl => ?_)
    refine lv_aload_n hx hb dL_law_2161 rfl (lv_at hl 5 rfl) ?_
    refine callM_I (rest := []) Z hW hS hl.1 (lw_thr hp2.2) zY_X6_thrown km_L_143 rfl rfl rfl ⟨⟨Nat.le_of_ble_eq_true rfl, Nat.le_of_ble_eq_true rfl⟩, hR.1, hR.2⟩ (Nat.le_of_ble_eq_true rfl) dL_law_2162 (fun r u3 H locs hp3 hW hS => ?_)
    rw [hp3]
    refine lv_iload hx hb dL_law_2165 (lv_at hl 1 rfl) ?_
    refine lv_icmp_eq (tgt := 2172) hx hb dL_law_2167 (by decide) (fun _ => ?_) (fun h9 => absurd rfl h9)
    refine lv_iload hx hb dL_law_2172 (lv_at hl 1 rfl) ?_
    refine lv_if_ne (tgt := 2196) hx hb dL_law_2174 (by decide) (fun _ => ?_) (fun h0 => ?_)
    · refine lv_goto (tgt := 2607) hx hb dL_law_2196 (by decide) ?_
      exact kk σ1 τ1 _ _ _ _ H locs ls hI hW hS (lv_sub hl [2, 3, 4, 5, 6, 7] rfl)
    · have hv := hp.2 h0
      refine lv_aload_n hx hb dL_law_2177 rfl (lv_at hl 6 rfl) ?_
      refine zr_iconst hx hb dL_law_2178 ?_
      refine ldL Z hW.1.2.1 0 u.2 rfl 0 rfl (by decide) (by decide) dL_law_2179 ?_
      rw [hv]
      refine lv_iload hx hb dL_law_2180 (lv_at hl 0 rfl) ?_
      refine zb_eq (tgt := 2189) hx hb dL_law_2182 (by decide) (fun c9 => ?_) (fun c9 => ?_)
      · rw [c9]
        refine lv_lconst (v := 0) hx hb dL_law_2189 (by decide) ?_
        show W p l e room_1 s m #[.ref b] below meth c H locs (cells + 1) (slots + 6) Q (F0 m 2190 ls [.long 0, .long 0])
        refine W.lcmp hx hb dL_law_2190 ?_
        rw [lg_cmp_self]
        refine lv_if_eq (tgt := 2196) hx hb dL_law_2191 (by decide) (fun _ => ?_) (fun h9 => absurd rfl h9)
        refine lv_goto (tgt := 2607) hx hb dL_law_2196 (by decide) ?_
        exact kk σ1 τ1 _ _ _ _ H locs ls hI hW hS (lv_sub hl [2, 3, 4, 5, 6, 7] rfl)
      · rw [c9]
        refine lv_lconst (v := 1) hx hb dL_law_2185 (by decide) ?_
        refine lv_goto (tgt := 2190) hx hb dL_law_2186 (by decide) ?_
        show W p l e room_1 s m #[.ref b] below meth c H locs (cells + 1) (slots + 6) Q (F0 m 2190 ls [.long 1, .long 1])
        refine W.lcmp hx hb dL_law_2190 ?_
        rw [lg_cmp_self]
        refine lv_if_eq (tgt := 2196) hx hb dL_law_2191 (by decide) (fun _ => ?_) (fun h9 => absurd rfl h9)
        refine lv_goto (tgt := 2607) hx hb dL_law_2196 (by decide) ?_
        exact kk σ1 τ1 _ _ _ _ H locs ls hI hW hS (lv_sub hl [2, 3, 4, 5, 6, 7] rfl)
  · obtain ⟨k, bv, σ1, τ1, hI, hCL, hCM⟩ := j_mark l G hst hi hn q1 q2 oa κ f μ (xs (8 * j + 1)) (xs (8 * j + 2)) true
    refine lv_aload_n hx hb dL_law_2096 rfl (lv_at hl 2 rfl) ?_
    refine lv_aload_n hx hb dL_law_2097 rfl (lv_at hl 1 rfl) ?_
    refine lv_iload hx hb dL_law_2098 (lv_at hl 0 rfl) ?_
    refine zr_iconst hx hb dL_law_2100 ?_
    refine zr_iadd hx hb dL_law_2101 ?_
    refine zs_ld C hS (8 * j + 1) (by omega) (by omega) dL_law_2102 ?_
    refine lv_aload_n hx hb dL_law_2103 rfl (lv_at hl 1 rfl) ?_
    refine lv_iload hx hb dL_law_2104 (lv_at hl 0 rfl) ?_
    refine zr_iconst hx hb dL_law_2106 ?_
    refine zr_iadd hx hb dL_law_2107 ?_
    refine zs_ld C hS (8 * j + 2) (by omega) (by omega) dL_law_2108 ?_
    refine lv_aload_n hx hb dL_law_2109 rfl (lv_at hl 1 rfl) ?_
    refine lv_iload hx hb dL_law_2110 (lv_at hl 0 rfl) ?_
    refine zr_iconst hx hb dL_law_2112 ?_
    refine zr_iadd hx hb dL_law_2113 ?_
    refine zs_ld C hS (8 * j + 3) (by omega) (by omega) dL_law_2114 ?_
    refine lv_if_eq (tgt := 2122) hx hb dL_law_2115 (by decide) (fun h9 => absurd h9 hz) (fun _ => ?_)
    refine zr_iconst hx hb dL_law_2118 ?_
    refine lv_goto (tgt := 2123) hx hb dL_law_2119 (by decide) ?_
    refine zr_top (w := .int (tB true)) (by rw [tB_t]) ?_
    refine lv_aload_n hx hb dL_law_2123 rfl (lv_at hl 4 rfl) ?_
    refine callL (rest := []) Z hW hS hl.1 hCL zW_mark km_L_240 rfl rfl ⟨⟨Nat.le_of_ble_eq_true rfl, Nat.le_of_ble_eq_true rfl⟩, hR.1, hR.2⟩ (Nat.le_of_ble_eq_true rfl) dL_law_2124 (fun r u H locs hp hW hS => ?_)
    rw [hp.1]
    refine lv_istore (lv' := [(6, .int (zI k)), (5, .int (zI ((8 * j : Nat) : Int))), (0, .ref b), (1, .ref (q1 0)), (2, .ref (q2 0)), (3, .ref oa), (4, .ref od)]) hx hb dL_law_2127 hl (by decide) rfl (fun ls hl => ?_)
    refine lv_aload_n hx hb dL_law_2129 rfl (lv_at hl 4 rfl) ?_
    refine lv_aload_n hx hb dL_law_2130 rfl (lv_at hl 2 rfl) ?_
    refine lv_iload hx hb dL_law_2131 (lv_at hl 1 rfl) ?_
    refine zr_iconst hx hb dL_law_2133 ?_
    refine zr_iadd hx hb dL_law_2134 ?_
    refine zs_ld C hS (8 * j + 1) (by omega) (by omega) dL_law_2135 ?_
    refine lv_aload_n hx hb dL_law_2136 rfl (lv_at hl 2 rfl) ?_
    refine lv_iload hx hb dL_law_2137 (lv_at hl 1 rfl) ?_
    refine zr_iconst hx hb dL_law_2139 ?_
    refine zr_iadd hx hb dL_law_2140 ?_
    refine zs_ld C hS (8 * j + 2) (by omega) (by omega) dL_law_2141 ?_
    refine lv_aload_n hx hb dL_law_2142 rfl (lv_at hl 2 rfl) ?_
    refine lv_iload hx hb dL_law_2143 (lv_at hl 1 rfl) ?_
    refine zr_iconst hx hb dL_law_2145 ?_
    refine zr_iadd hx hb dL_law_2146 ?_
    refine zs_ld C hS (8 * j + 3) (by omega) (by omega) dL_law_2147 ?_
    refine lv_if_eq (tgt := 2155) hx hb dL_law_2148 (by decide) (fun h9 => absurd h9 hz) (fun _ => ?_)
    refine zr_iconst hx hb dL_law_2151 ?_
    refine lv_goto (tgt := 2156) hx hb dL_law_2152 (by decide) ?_
    refine zr_top (w := .int (tB true)) (by rw [tB_t]) ?_
    refine callM_I (rest := []) Z hW hS hl.1 hCM zY_X6_mark km_L_243 rfl rfl rfl ⟨⟨Nat.le_of_ble_eq_true rfl, Nat.le_of_ble_eq_true rfl⟩, hR.1, hR.2⟩ (Nat.le_of_ble_eq_true rfl) dL_law_2156 (fun r u2 H locs hp2 hW hS => ?_)
    rw [hp2.1]
    refine lv_istore (lv' := [(7, .int (tB bv)), (6, .int (zI k)), (5, .int (zI ((8 * j : Nat) : Int))), (0, .ref b), (1, .ref (q1 0)), (2, .ref (q2 0)), (3, .ref oa), (4, .ref od)]) hx hb dL_law_2159 hl (by decide) rfl (fun ls hl => ?_)
    refine lv_aload_n hx hb dL_law_2161 rfl (lv_at hl 5 rfl) ?_
    refine callM_I (rest := []) Z hW hS hl.1 (lw_thr hp2.2) zY_X6_thrown km_L_143 rfl rfl rfl ⟨⟨Nat.le_of_ble_eq_true rfl, Nat.le_of_ble_eq_true rfl⟩, hR.1, hR.2⟩ (Nat.le_of_ble_eq_true rfl) dL_law_2162 (fun r u3 H locs hp3 hW hS => ?_)
    rw [hp3]
    refine lv_iload hx hb dL_law_2165 (lv_at hl 1 rfl) ?_
    refine lv_icmp_eq (tgt := 2172) hx hb dL_law_2167 (by decide) (fun _ => ?_) (fun h9 => absurd rfl h9)
    refine lv_iload hx hb dL_law_2172 (lv_at hl 1 rfl) ?_
    refine lv_if_ne (tgt := 2196) hx hb dL_law_2174 (by decide) (fun _ => ?_) (fun h0 => ?_)
    · refine lv_goto (tgt := 2607) hx hb dL_law_2196 (by decide) ?_
      exact kk σ1 τ1 _ _ _ _ H locs ls hI hW hS (lv_sub hl [2, 3, 4, 5, 6, 7] rfl)
    · have hv := hp.2 h0
      refine lv_aload_n hx hb dL_law_2177 rfl (lv_at hl 6 rfl) ?_
      refine zr_iconst hx hb dL_law_2178 ?_
      refine ldL Z hW.1.2.1 0 u.2 rfl 0 rfl (by decide) (by decide) dL_law_2179 ?_
      rw [hv]
      refine lv_iload hx hb dL_law_2180 (lv_at hl 0 rfl) ?_
      refine zb_eq (tgt := 2189) hx hb dL_law_2182 (by decide) (fun c9 => ?_) (fun c9 => ?_)
      · rw [c9]
        refine lv_lconst (v := 0) hx hb dL_law_2189 (by decide) ?_
        show W p l e room_1 s m #[.ref b] below meth c H locs (cells + 1) (slots + 6) Q (F0 m 2190 ls [.long 0, .long 0])
        refine W.lcmp hx hb dL_law_2190 ?_
        rw [lg_cmp_self]
        refine lv_if_eq (tgt := 2196) hx hb dL_law_2191 (by decide) (fun _ => ?_) (fun h9 => absurd rfl h9)
        refine lv_goto (tgt := 2607) hx hb dL_law_2196 (by decide) ?_
        exact kk σ1 τ1 _ _ _ _ H locs ls hI hW hS (lv_sub hl [2, 3, 4, 5, 6, 7] rfl)
      · rw [c9]
        refine lv_lconst (v := 1) hx hb dL_law_2185 (by decide) ?_
        refine lv_goto (tgt := 2190) hx hb dL_law_2186 (by decide) ?_
        show W p l e room_1 s m #[.ref b] below meth c H locs (cells + 1) (slots + 6) Q (F0 m 2190 ls [.long 1, .long 1])
        refine W.lcmp hx hb dL_law_2190 ?_
        rw [lg_cmp_self]
        refine lv_if_eq (tgt := 2196) hx hb dL_law_2191 (by decide) (fun _ => ?_) (fun h9 => absurd rfl h9)
        refine lv_goto (tgt := 2607) hx hb dL_law_2196 (by decide) ?_
        exact kk σ1 τ1 _ _ _ _ H locs ls hI hW hS (lv_sub hl [2, 3, 4, 5, 6, 7] rfl)
set_option maxHeartbeats 4000000 in
set_option maxRecDepth 100000 in
theorem lw_c30 {p : Program} {l : Launch} {e : Env} {s : State} {m : MethodId} {below : List Frame} {meth : Method} {c : Code} {H : Heap} {locs : List Loc} {cells slots : Nat} {Q : State → Prop} {b L : Nat} {xs : Nat → Int32} {ls : Array Slot} {G : ZG} {q1 q2 : Nat → Nat} {oa od n j : Nat} {σ τ : St} {κ : KC} {f : Nat → Int64} {μ : KM} {g : Nat → UInt64} (C : LC p l s m meth c G b L xs) (hn : n < 600) (hj : 8 * j + 8 ≤ L) (hi : Inv n σ τ) (hW : LW G (lwA s) q1 q2 oa od σ κ f τ μ g H) (hS : va_S (lwA s) s.heap H locs)
    (hl : lv_has ls 9 [(5, .int (zI ((8 * j : Nat) : Int))), (0, .ref b), (1, .ref (q1 0)), (2, .ref (q2 0)), (3, .ref oa), (4, .ref od)]) (hR : cells + 1 ≤ room_1.cells ∧ slots + 6 ≤ room_1.slots)
    (kk : LK p l e s m below meth c cells slots Q G b q1 q2 oa od n (8 * j)) : W p l e room_1 s m #[.ref b] below meth c H locs cells slots Q (F0 m 2199 ls []) := by
  have Z := C.1
  have hst := C.2.1
  have hx := Z.1
  have hb := Z.2.1
  have hown := Z.2.2.2.1
  have hW9 := Z.2.2.2.2.1
  obtain ⟨k, bv, σ1, τ1, hI, hCL, hCM⟩ := j_markRiver l G hst hi hn q1 q2 oa κ f μ (xs (8 * j + 1)) (xs (8 * j + 2))
  refine lv_aload_n hx hb dL_law_2199 rfl (lv_at hl 2 rfl) ?_
  refine lv_aload_n hx hb dL_law_2200 rfl (lv_at hl 1 rfl) ?_
  refine lv_iload hx hb dL_law_2201 (lv_at hl 0 rfl) ?_
  refine zr_iconst hx hb dL_law_2203 ?_
  refine zr_iadd hx hb dL_law_2204 ?_
  refine zs_ld C hS (8 * j + 1) (by omega) (by omega) dL_law_2205 ?_
  refine lv_aload_n hx hb dL_law_2206 rfl (lv_at hl 1 rfl) ?_
  refine lv_iload hx hb dL_law_2207 (lv_at hl 0 rfl) ?_
  refine zr_iconst hx hb dL_law_2209 ?_
  refine zr_iadd hx hb dL_law_2210 ?_
  refine zs_ld C hS (8 * j + 2) (by omega) (by omega) dL_law_2211 ?_
  refine lv_aload_n hx hb dL_law_2212 rfl (lv_at hl 4 rfl) ?_
  refine callL (rest := []) Z hW hS hl.1 hCL zW_markRiver km_L_244 rfl rfl ⟨⟨Nat.le_of_ble_eq_true rfl, Nat.le_of_ble_eq_true rfl⟩, hR.1, hR.2⟩ (Nat.le_of_ble_eq_true rfl) dL_law_2213 (fun r u H locs hp hW hS => ?_)
  rw [hp.1]
  refine lv_istore (lv' := [(6, .int (zI k)), (5, .int (zI ((8 * j : Nat) : Int))), (0, .ref b), (1, .ref (q1 0)), (2, .ref (q2 0)), (3, .ref oa), (4, .ref od)]) hx hb dL_law_2216 hl (by decide) rfl (fun ls hl => ?_)
  refine lv_aload_n hx hb dL_law_2218 rfl (lv_at hl 4 rfl) ?_
  refine lv_aload_n hx hb dL_law_2219 rfl (lv_at hl 2 rfl) ?_
  refine lv_iload hx hb dL_law_2220 (lv_at hl 1 rfl) ?_
  refine zr_iconst hx hb dL_law_2222 ?_
  refine zr_iadd hx hb dL_law_2223 ?_
  refine zs_ld C hS (8 * j + 1) (by omega) (by omega) dL_law_2224 ?_
  refine lv_aload_n hx hb dL_law_2225 rfl (lv_at hl 2 rfl) ?_
  refine lv_iload hx hb dL_law_2226 (lv_at hl 1 rfl) ?_
  refine zr_iconst hx hb dL_law_2228 ?_
  refine zr_iadd hx hb dL_law_2229 ?_
  refine zs_ld C hS (8 * j + 2) (by omega) (by omega) dL_law_2230 ?_
  refine callM_I (rest := []) Z hW hS hl.1 hCM zY_X6_markRiver km_L_246 rfl rfl rfl ⟨⟨Nat.le_of_ble_eq_true rfl, Nat.le_of_ble_eq_true rfl⟩, hR.1, hR.2⟩ (Nat.le_of_ble_eq_true rfl) dL_law_2231 (fun r u2 H locs hp2 hW hS => ?_)
  rw [hp2.1]
  refine lv_istore (lv' := [(7, .int bv), (6, .int (zI k)), (5, .int (zI ((8 * j : Nat) : Int))), (0, .ref b), (1, .ref (q1 0)), (2, .ref (q2 0)), (3, .ref oa), (4, .ref od)]) hx hb dL_law_2234 hl (by decide) rfl (fun ls hl => ?_)
  refine lv_aload_n hx hb dL_law_2236 rfl (lv_at hl 5 rfl) ?_
  refine callM_I (rest := []) Z hW hS hl.1 (lw_thr hp2.2) zY_X6_thrown km_L_143 rfl rfl rfl ⟨⟨Nat.le_of_ble_eq_true rfl, Nat.le_of_ble_eq_true rfl⟩, hR.1, hR.2⟩ (Nat.le_of_ble_eq_true rfl) dL_law_2237 (fun r u3 H locs hp3 hW hS => ?_)
  rw [hp3]
  refine lv_iload hx hb dL_law_2240 (lv_at hl 1 rfl) ?_
  refine lv_icmp_eq (tgt := 2247) hx hb dL_law_2242 (by decide) (fun _ => ?_) (fun h9 => absurd rfl h9)
  refine lv_iload hx hb dL_law_2247 (lv_at hl 1 rfl) ?_
  refine lv_if_ne (tgt := 2264) hx hb dL_law_2249 (by decide) (fun _ => ?_) (fun h0 => ?_)
  · refine lv_goto (tgt := 2607) hx hb dL_law_2264 (by decide) ?_
    exact kk σ1 τ1 _ _ _ _ H locs ls hI hW hS (lv_sub hl [2, 3, 4, 5, 6, 7] rfl)
  · have hv := hp.2 h0
    refine lv_aload_n hx hb dL_law_2252 rfl (lv_at hl 6 rfl) ?_
    refine zr_iconst hx hb dL_law_2253 ?_
    refine ldL Z hW.1.2.1 0 u.2 rfl 0 rfl (by decide) (by decide) dL_law_2254 ?_
    rw [hv]
    refine lv_iload hx hb dL_law_2255 (lv_at hl 0 rfl) ?_
    refine lv_i2l hx hb dL_law_2257 rfl ?_
    refine W.lcmp hx hb dL_law_2258 ?_
    rw [lg_cmp_self]
    refine lv_if_eq (tgt := 2264) hx hb dL_law_2259 (by decide) (fun _ => ?_) (fun h9 => absurd rfl h9)
    refine lv_goto (tgt := 2607) hx hb dL_law_2264 (by decide) ?_
    exact kk σ1 τ1 _ _ _ _ H locs ls hI hW hS (lv_sub hl [2, 3, 4, 5, 6, 7] rfl)
set_option maxHeartbeats 4000000 in
set_option maxRecDepth 100000 in
theorem lw_c31 {p : Program} {l : Launch} {e : Env} {s : State} {m : MethodId} {below : List Frame} {meth : Method} {c : Code} {H : Heap} {locs : List Loc} {cells slots : Nat} {Q : State → Prop} {b L : Nat} {xs : Nat → Int32} {ls : Array Slot} {G : ZG} {q1 q2 : Nat → Nat} {oa od n j : Nat} {σ τ : St} {κ : KC} {f : Nat → Int64} {μ : KM} {g : Nat → UInt64} (C : LC p l s m meth c G b L xs) (hn : n < 600) (hj : 8 * j + 8 ≤ L) (hi : Inv n σ τ) (hW : LW G (lwA s) q1 q2 oa od σ κ f τ μ g H) (hS : va_S (lwA s) s.heap H locs)
    (hl : lv_has ls 9 [(5, .int (zI ((8 * j : Nat) : Int))), (0, .ref b), (1, .ref (q1 0)), (2, .ref (q2 0)), (3, .ref oa), (4, .ref od)]) (hR : cells + 1 ≤ room_1.cells ∧ slots + 6 ≤ room_1.slots)
    (kk : LK p l e s m below meth c cells slots Q G b q1 q2 oa od n (8 * j)) : W p l e room_1 s m #[.ref b] below meth c H locs cells slots Q (F0 m 2267 ls []) := by
  have Z := C.1
  have hst := C.2.1
  have hx := Z.1
  have hb := Z.2.1
  have hown := Z.2.2.2.1
  have hW9 := Z.2.2.2.2.1
  obtain ⟨k, bv, σ1, τ1, hI, hCL, hCM⟩ := j_sync l G hst hi hn q1 q2 oa κ f μ (xs (8 * j + 1))
  refine lv_aload_n hx hb dL_law_2267 rfl (lv_at hl 2 rfl) ?_
  refine lv_aload_n hx hb dL_law_2268 rfl (lv_at hl 1 rfl) ?_
  refine lv_iload hx hb dL_law_2269 (lv_at hl 0 rfl) ?_
  refine zr_iconst hx hb dL_law_2271 ?_
  refine zr_iadd hx hb dL_law_2272 ?_
  refine zs_ld C hS (8 * j + 1) (by omega) (by omega) dL_law_2273 ?_
  refine lv_aload_n hx hb dL_law_2274 rfl (lv_at hl 4 rfl) ?_
  refine callL (rest := []) Z hW hS hl.1 hCL zW_sync km_L_247 rfl rfl ⟨⟨Nat.le_of_ble_eq_true rfl, Nat.le_of_ble_eq_true rfl⟩, hR.1, hR.2⟩ (Nat.le_of_ble_eq_true rfl) dL_law_2275 (fun r u H locs hp hW hS => ?_)
  rw [hp.1]
  refine lv_istore (lv' := [(6, .int (zI k)), (5, .int (zI ((8 * j : Nat) : Int))), (0, .ref b), (1, .ref (q1 0)), (2, .ref (q2 0)), (3, .ref oa), (4, .ref od)]) hx hb dL_law_2278 hl (by decide) rfl (fun ls hl => ?_)
  refine lv_aload_n hx hb dL_law_2280 rfl (lv_at hl 4 rfl) ?_
  refine lv_aload_n hx hb dL_law_2281 rfl (lv_at hl 2 rfl) ?_
  refine lv_iload hx hb dL_law_2282 (lv_at hl 1 rfl) ?_
  refine zr_iconst hx hb dL_law_2284 ?_
  refine zr_iadd hx hb dL_law_2285 ?_
  refine zs_ld C hS (8 * j + 1) (by omega) (by omega) dL_law_2286 ?_
  refine callM_I (rest := []) Z hW hS hl.1 hCM zY_X6_sync km_L_249 rfl rfl rfl ⟨⟨Nat.le_of_ble_eq_true rfl, Nat.le_of_ble_eq_true rfl⟩, hR.1, hR.2⟩ (Nat.le_of_ble_eq_true rfl) dL_law_2287 (fun r u2 H locs hp2 hW hS => ?_)
  rw [hp2.1]
  refine lv_istore (lv' := [(7, .int bv), (6, .int (zI k)), (5, .int (zI ((8 * j : Nat) : Int))), (0, .ref b), (1, .ref (q1 0)), (2, .ref (q2 0)), (3, .ref oa), (4, .ref od)]) hx hb dL_law_2290 hl (by decide) rfl (fun ls hl => ?_)
  refine lv_aload_n hx hb dL_law_2292 rfl (lv_at hl 5 rfl) ?_
  refine callM_I (rest := []) Z hW hS hl.1 (lw_thr hp2.2) zY_X6_thrown km_L_143 rfl rfl rfl ⟨⟨Nat.le_of_ble_eq_true rfl, Nat.le_of_ble_eq_true rfl⟩, hR.1, hR.2⟩ (Nat.le_of_ble_eq_true rfl) dL_law_2293 (fun r u3 H locs hp3 hW hS => ?_)
  rw [hp3]
  refine lv_iload hx hb dL_law_2296 (lv_at hl 1 rfl) ?_
  refine lv_icmp_eq (tgt := 2303) hx hb dL_law_2298 (by decide) (fun _ => ?_) (fun h9 => absurd rfl h9)
  refine lv_iload hx hb dL_law_2303 (lv_at hl 1 rfl) ?_
  refine lv_if_ne (tgt := 2320) hx hb dL_law_2305 (by decide) (fun _ => ?_) (fun h0 => ?_)
  · refine lv_goto (tgt := 2607) hx hb dL_law_2320 (by decide) ?_
    exact kk σ1 τ1 _ _ _ _ H locs ls hI hW hS (lv_sub hl [2, 3, 4, 5, 6, 7] rfl)
  · have hv := hp.2 h0
    refine lv_aload_n hx hb dL_law_2308 rfl (lv_at hl 6 rfl) ?_
    refine zr_iconst hx hb dL_law_2309 ?_
    refine ldL Z hW.1.2.1 0 u.2 rfl 0 rfl (by decide) (by decide) dL_law_2310 ?_
    rw [hv]
    refine lv_iload hx hb dL_law_2311 (lv_at hl 0 rfl) ?_
    refine lv_i2l hx hb dL_law_2313 rfl ?_
    refine W.lcmp hx hb dL_law_2314 ?_
    rw [lg_cmp_self]
    refine lv_if_eq (tgt := 2320) hx hb dL_law_2315 (by decide) (fun _ => ?_) (fun h9 => absurd rfl h9)
    refine lv_goto (tgt := 2607) hx hb dL_law_2320 (by decide) ?_
    exact kk σ1 τ1 _ _ _ _ H locs ls hI hW hS (lv_sub hl [2, 3, 4, 5, 6, 7] rfl)
set_option maxHeartbeats 4000000 in
set_option maxRecDepth 100000 in
theorem lw_c32 {p : Program} {l : Launch} {e : Env} {s : State} {m : MethodId} {below : List Frame} {meth : Method} {c : Code} {H : Heap} {locs : List Loc} {cells slots : Nat} {Q : State → Prop} {b L : Nat} {xs : Nat → Int32} {ls : Array Slot} {G : ZG} {q1 q2 : Nat → Nat} {oa od n j : Nat} {σ τ : St} {κ : KC} {f : Nat → Int64} {μ : KM} {g : Nat → UInt64} (C : LC p l s m meth c G b L xs) (hn : n < 600) (hj : 8 * j + 8 ≤ L) (hi : Inv n σ τ) (hW : LW G (lwA s) q1 q2 oa od σ κ f τ μ g H) (hS : va_S (lwA s) s.heap H locs)
    (hl : lv_has ls 9 [(5, .int (zI ((8 * j : Nat) : Int))), (0, .ref b), (1, .ref (q1 0)), (2, .ref (q2 0)), (3, .ref oa), (4, .ref od)]) (hR : cells + 1 ≤ room_1.cells ∧ slots + 6 ≤ room_1.slots)
    (kk : LK p l e s m below meth c cells slots Q G b q1 q2 oa od n (8 * j)) : W p l e room_1 s m #[.ref b] below meth c H locs cells slots Q (F0 m 2323 ls []) := by
  have Z := C.1
  have hst := C.2.1
  have hx := Z.1
  have hb := Z.2.1
  have hown := Z.2.2.2.1
  have hW9 := Z.2.2.2.2.1
  obtain ⟨k, bv, σ1, τ1, hI, hCL, hCM⟩ := j_isRead l G hst hi hn q1 q2 oa κ f μ (xs (8 * j + 1))
  refine lv_aload_n hx hb dL_law_2323 rfl (lv_at hl 2 rfl) ?_
  refine lv_aload_n hx hb dL_law_2324 rfl (lv_at hl 1 rfl) ?_
  refine lv_iload hx hb dL_law_2325 (lv_at hl 0 rfl) ?_
  refine zr_iconst hx hb dL_law_2327 ?_
  refine zr_iadd hx hb dL_law_2328 ?_
  refine zs_ld C hS (8 * j + 1) (by omega) (by omega) dL_law_2329 ?_
  refine lv_aload_n hx hb dL_law_2330 rfl (lv_at hl 4 rfl) ?_
  refine callL (rest := []) Z hW hS hl.1 hCL zW_isRead km_L_250 rfl rfl ⟨⟨Nat.le_of_ble_eq_true rfl, Nat.le_of_ble_eq_true rfl⟩, hR.1, hR.2⟩ (Nat.le_of_ble_eq_true rfl) dL_law_2331 (fun r u H locs hp hW hS => ?_)
  rw [hp.1]
  refine lv_istore (lv' := [(6, .int (zI k)), (5, .int (zI ((8 * j : Nat) : Int))), (0, .ref b), (1, .ref (q1 0)), (2, .ref (q2 0)), (3, .ref oa), (4, .ref od)]) hx hb dL_law_2334 hl (by decide) rfl (fun ls hl => ?_)
  refine lv_aload_n hx hb dL_law_2336 rfl (lv_at hl 4 rfl) ?_
  refine lv_aload_n hx hb dL_law_2337 rfl (lv_at hl 2 rfl) ?_
  refine lv_iload hx hb dL_law_2338 (lv_at hl 1 rfl) ?_
  refine zr_iconst hx hb dL_law_2340 ?_
  refine zr_iadd hx hb dL_law_2341 ?_
  refine zs_ld C hS (8 * j + 1) (by omega) (by omega) dL_law_2342 ?_
  refine callM_I (rest := []) Z hW hS hl.1 hCM zY_X6_isRead km_L_252 rfl rfl rfl ⟨⟨Nat.le_of_ble_eq_true rfl, Nat.le_of_ble_eq_true rfl⟩, hR.1, hR.2⟩ (Nat.le_of_ble_eq_true rfl) dL_law_2343 (fun r u2 H locs hp2 hW hS => ?_)
  rw [hp2.1]
  refine lv_istore (lv' := [(7, .int (tB bv)), (6, .int (zI k)), (5, .int (zI ((8 * j : Nat) : Int))), (0, .ref b), (1, .ref (q1 0)), (2, .ref (q2 0)), (3, .ref oa), (4, .ref od)]) hx hb dL_law_2346 hl (by decide) rfl (fun ls hl => ?_)
  refine lv_aload_n hx hb dL_law_2348 rfl (lv_at hl 5 rfl) ?_
  refine callM_I (rest := []) Z hW hS hl.1 (lw_thr hp2.2) zY_X6_thrown km_L_143 rfl rfl rfl ⟨⟨Nat.le_of_ble_eq_true rfl, Nat.le_of_ble_eq_true rfl⟩, hR.1, hR.2⟩ (Nat.le_of_ble_eq_true rfl) dL_law_2349 (fun r u3 H locs hp3 hW hS => ?_)
  rw [hp3]
  refine lv_iload hx hb dL_law_2352 (lv_at hl 1 rfl) ?_
  refine lv_icmp_eq (tgt := 2359) hx hb dL_law_2354 (by decide) (fun _ => ?_) (fun h9 => absurd rfl h9)
  refine lv_iload hx hb dL_law_2359 (lv_at hl 1 rfl) ?_
  refine lv_if_ne (tgt := 2383) hx hb dL_law_2361 (by decide) (fun _ => ?_) (fun h0 => ?_)
  · refine lv_goto (tgt := 2607) hx hb dL_law_2383 (by decide) ?_
    exact kk σ1 τ1 _ _ _ _ H locs ls hI hW hS (lv_sub hl [2, 3, 4, 5, 6, 7] rfl)
  · have hv := hp.2 h0
    refine lv_aload_n hx hb dL_law_2364 rfl (lv_at hl 6 rfl) ?_
    refine zr_iconst hx hb dL_law_2365 ?_
    refine ldL Z hW.1.2.1 0 u.2 rfl 0 rfl (by decide) (by decide) dL_law_2366 ?_
    rw [hv]
    refine lv_iload hx hb dL_law_2367 (lv_at hl 0 rfl) ?_
    refine zb_eq (tgt := 2376) hx hb dL_law_2369 (by decide) (fun c9 => ?_) (fun c9 => ?_)
    · rw [c9]
      refine lv_lconst (v := 0) hx hb dL_law_2376 (by decide) ?_
      show W p l e room_1 s m #[.ref b] below meth c H locs (cells + 1) (slots + 6) Q (F0 m 2377 ls [.long 0, .long 0])
      refine W.lcmp hx hb dL_law_2377 ?_
      rw [lg_cmp_self]
      refine lv_if_eq (tgt := 2383) hx hb dL_law_2378 (by decide) (fun _ => ?_) (fun h9 => absurd rfl h9)
      refine lv_goto (tgt := 2607) hx hb dL_law_2383 (by decide) ?_
      exact kk σ1 τ1 _ _ _ _ H locs ls hI hW hS (lv_sub hl [2, 3, 4, 5, 6, 7] rfl)
    · rw [c9]
      refine lv_lconst (v := 1) hx hb dL_law_2372 (by decide) ?_
      refine lv_goto (tgt := 2377) hx hb dL_law_2373 (by decide) ?_
      show W p l e room_1 s m #[.ref b] below meth c H locs (cells + 1) (slots + 6) Q (F0 m 2377 ls [.long 1, .long 1])
      refine W.lcmp hx hb dL_law_2377 ?_
      rw [lg_cmp_self]
      refine lv_if_eq (tgt := 2383) hx hb dL_law_2378 (by decide) (fun _ => ?_) (fun h9 => absurd rfl h9)
      refine lv_goto (tgt := 2607) hx hb dL_law_2383 (by decide) ?_
      exact kk σ1 τ1 _ _ _ _ H locs ls hI hW hS (lv_sub hl [2, 3, 4, 5, 6, 7] rfl)
set_option maxHeartbeats 4000000 in
set_option maxRecDepth 100000 in
theorem lw_c33 {p : Program} {l : Launch} {e : Env} {s : State} {m : MethodId} {below : List Frame} {meth : Method} {c : Code} {H : Heap} {locs : List Loc} {cells slots : Nat} {Q : State → Prop} {b L : Nat} {xs : Nat → Int32} {ls : Array Slot} {G : ZG} {q1 q2 : Nat → Nat} {oa od n j : Nat} {σ τ : St} {κ : KC} {f : Nat → Int64} {μ : KM} {g : Nat → UInt64} (C : LC p l s m meth c G b L xs) (hn : n < 600) (hj : 8 * j + 8 ≤ L) (hi : Inv n σ τ) (hW : LW G (lwA s) q1 q2 oa od σ κ f τ μ g H) (hS : va_S (lwA s) s.heap H locs)
    (hl : lv_has ls 9 [(5, .int (zI ((8 * j : Nat) : Int))), (0, .ref b), (1, .ref (q1 0)), (2, .ref (q2 0)), (3, .ref oa), (4, .ref od)]) (hR : cells + 1 ≤ room_1.cells ∧ slots + 6 ≤ room_1.slots)
    (kk : LK p l e s m below meth c cells slots Q G b q1 q2 oa od n (8 * j)) : W p l e room_1 s m #[.ref b] below meth c H locs cells slots Q (F0 m 2386 ls []) := by
  have Z := C.1
  have hst := C.2.1
  have hx := Z.1
  have hb := Z.2.1
  have hown := Z.2.2.2.1
  have hW9 := Z.2.2.2.2.1
  obtain ⟨k, bv, σ1, τ1, hI, hCL, hCM⟩ := j_isReadOn l G hst hi hn q1 q2 oa κ f μ (xs (8 * j + 1)) (xs (8 * j + 2))
  refine lv_aload_n hx hb dL_law_2386 rfl (lv_at hl 2 rfl) ?_
  refine lv_aload_n hx hb dL_law_2387 rfl (lv_at hl 1 rfl) ?_
  refine lv_iload hx hb dL_law_2388 (lv_at hl 0 rfl) ?_
  refine zr_iconst hx hb dL_law_2390 ?_
  refine zr_iadd hx hb dL_law_2391 ?_
  refine zs_ld C hS (8 * j + 1) (by omega) (by omega) dL_law_2392 ?_
  refine lv_aload_n hx hb dL_law_2393 rfl (lv_at hl 1 rfl) ?_
  refine lv_iload hx hb dL_law_2394 (lv_at hl 0 rfl) ?_
  refine zr_iconst hx hb dL_law_2396 ?_
  refine zr_iadd hx hb dL_law_2397 ?_
  refine zs_ld C hS (8 * j + 2) (by omega) (by omega) dL_law_2398 ?_
  refine lv_aload_n hx hb dL_law_2399 rfl (lv_at hl 4 rfl) ?_
  refine callL (rest := []) Z hW hS hl.1 hCL zW_isReadOn km_L_253 rfl rfl ⟨⟨Nat.le_of_ble_eq_true rfl, Nat.le_of_ble_eq_true rfl⟩, hR.1, hR.2⟩ (Nat.le_of_ble_eq_true rfl) dL_law_2400 (fun r u H locs hp hW hS => ?_)
  rw [hp.1]
  refine lv_istore (lv' := [(6, .int (zI k)), (5, .int (zI ((8 * j : Nat) : Int))), (0, .ref b), (1, .ref (q1 0)), (2, .ref (q2 0)), (3, .ref oa), (4, .ref od)]) hx hb dL_law_2403 hl (by decide) rfl (fun ls hl => ?_)
  refine lv_aload_n hx hb dL_law_2405 rfl (lv_at hl 4 rfl) ?_
  refine lv_aload_n hx hb dL_law_2406 rfl (lv_at hl 2 rfl) ?_
  refine lv_iload hx hb dL_law_2407 (lv_at hl 1 rfl) ?_
  refine zr_iconst hx hb dL_law_2409 ?_
  refine zr_iadd hx hb dL_law_2410 ?_
  refine zs_ld C hS (8 * j + 1) (by omega) (by omega) dL_law_2411 ?_
  refine lv_aload_n hx hb dL_law_2412 rfl (lv_at hl 2 rfl) ?_
  refine lv_iload hx hb dL_law_2413 (lv_at hl 1 rfl) ?_
  refine zr_iconst hx hb dL_law_2415 ?_
  refine zr_iadd hx hb dL_law_2416 ?_
  refine zs_ld C hS (8 * j + 2) (by omega) (by omega) dL_law_2417 ?_
  refine callM_I (rest := []) Z hW hS hl.1 hCM zY_X6_isReadOn km_L_255 rfl rfl rfl ⟨⟨Nat.le_of_ble_eq_true rfl, Nat.le_of_ble_eq_true rfl⟩, hR.1, hR.2⟩ (Nat.le_of_ble_eq_true rfl) dL_law_2418 (fun r u2 H locs hp2 hW hS => ?_)
  rw [hp2.1]
  refine lv_istore (lv' := [(7, .int (tB bv)), (6, .int (zI k)), (5, .int (zI ((8 * j : Nat) : Int))), (0, .ref b), (1, .ref (q1 0)), (2, .ref (q2 0)), (3, .ref oa), (4, .ref od)]) hx hb dL_law_2421 hl (by decide) rfl (fun ls hl => ?_)
  refine lv_aload_n hx hb dL_law_2423 rfl (lv_at hl 5 rfl) ?_
  refine callM_I (rest := []) Z hW hS hl.1 (lw_thr hp2.2) zY_X6_thrown km_L_143 rfl rfl rfl ⟨⟨Nat.le_of_ble_eq_true rfl, Nat.le_of_ble_eq_true rfl⟩, hR.1, hR.2⟩ (Nat.le_of_ble_eq_true rfl) dL_law_2424 (fun r u3 H locs hp3 hW hS => ?_)
  rw [hp3]
  refine lv_iload hx hb dL_law_2427 (lv_at hl 1 rfl) ?_
  refine lv_icmp_eq (tgt := 2434) hx hb dL_law_2429 (by decide) (fun _ => ?_) (fun h9 => absurd rfl h9)
  refine lv_iload hx hb dL_law_2434 (lv_at hl 1 rfl) ?_
  refine lv_if_ne (tgt := 2458) hx hb dL_law_2436 (by decide) (fun _ => ?_) (fun h0 => ?_)
  · refine lv_goto (tgt := 2607) hx hb dL_law_2458 (by decide) ?_
    exact kk σ1 τ1 _ _ _ _ H locs ls hI hW hS (lv_sub hl [2, 3, 4, 5, 6, 7] rfl)
  · have hv := hp.2 h0
    refine lv_aload_n hx hb dL_law_2439 rfl (lv_at hl 6 rfl) ?_
    refine zr_iconst hx hb dL_law_2440 ?_
    refine ldL Z hW.1.2.1 0 u.2 rfl 0 rfl (by decide) (by decide) dL_law_2441 ?_
    rw [hv]
    refine lv_iload hx hb dL_law_2442 (lv_at hl 0 rfl) ?_
    refine zb_eq (tgt := 2451) hx hb dL_law_2444 (by decide) (fun c9 => ?_) (fun c9 => ?_)
    · rw [c9]
      refine lv_lconst (v := 0) hx hb dL_law_2451 (by decide) ?_
      show W p l e room_1 s m #[.ref b] below meth c H locs (cells + 1) (slots + 6) Q (F0 m 2452 ls [.long 0, .long 0])
      refine W.lcmp hx hb dL_law_2452 ?_
      rw [lg_cmp_self]
      refine lv_if_eq (tgt := 2458) hx hb dL_law_2453 (by decide) (fun _ => ?_) (fun h9 => absurd rfl h9)
      refine lv_goto (tgt := 2607) hx hb dL_law_2458 (by decide) ?_
      exact kk σ1 τ1 _ _ _ _ H locs ls hI hW hS (lv_sub hl [2, 3, 4, 5, 6, 7] rfl)
    · rw [c9]
      refine lv_lconst (v := 1) hx hb dL_law_2447 (by decide) ?_
      refine lv_goto (tgt := 2452) hx hb dL_law_2448 (by decide) ?_
      show W p l e room_1 s m #[.ref b] below meth c H locs (cells + 1) (slots + 6) Q (F0 m 2452 ls [.long 1, .long 1])
      refine W.lcmp hx hb dL_law_2452 ?_
      rw [lg_cmp_self]
      refine lv_if_eq (tgt := 2458) hx hb dL_law_2453 (by decide) (fun _ => ?_) (fun h9 => absurd rfl h9)
      refine lv_goto (tgt := 2607) hx hb dL_law_2458 (by decide) ?_
      exact kk σ1 τ1 _ _ _ _ H locs ls hI hW hS (lv_sub hl [2, 3, 4, 5, 6, 7] rfl)
set_option maxHeartbeats 4000000 in
set_option maxRecDepth 100000 in
theorem lw_c34 {p : Program} {l : Launch} {e : Env} {s : State} {m : MethodId} {below : List Frame} {meth : Method} {c : Code} {H : Heap} {locs : List Loc} {cells slots : Nat} {Q : State → Prop} {b L : Nat} {xs : Nat → Int32} {ls : Array Slot} {G : ZG} {q1 q2 : Nat → Nat} {oa od n j : Nat} {σ τ : St} {κ : KC} {f : Nat → Int64} {μ : KM} {g : Nat → UInt64} (C : LC p l s m meth c G b L xs) (hn : n < 600) (hj : 8 * j + 8 ≤ L) (hi : Inv n σ τ) (hW : LW G (lwA s) q1 q2 oa od σ κ f τ μ g H) (hS : va_S (lwA s) s.heap H locs)
    (hl : lv_has ls 9 [(5, .int (zI ((8 * j : Nat) : Int))), (0, .ref b), (1, .ref (q1 0)), (2, .ref (q2 0)), (3, .ref oa), (4, .ref od)]) (hR : cells + 1 ≤ room_1.cells ∧ slots + 6 ≤ room_1.slots)
    (kk : LK p l e s m below meth c cells slots Q G b q1 q2 oa od n (8 * j)) : W p l e room_1 s m #[.ref b] below meth c H locs cells slots Q (F0 m 2461 ls []) := by
  have Z := C.1
  have hst := C.2.1
  have hx := Z.1
  have hb := Z.2.1
  have hown := Z.2.2.2.1
  have hW9 := Z.2.2.2.2.1
  obtain ⟨k, bv, σ1, τ1, hI, hCL, hCM⟩ := j_knownVersions l G hst hi hn q1 q2 oa κ f μ (xs (8 * j + 1)) (xs (8 * j + 2))
  refine lv_aload_n hx hb dL_law_2461 rfl (lv_at hl 2 rfl) ?_
  refine lv_aload_n hx hb dL_law_2462 rfl (lv_at hl 1 rfl) ?_
  refine lv_iload hx hb dL_law_2463 (lv_at hl 0 rfl) ?_
  refine zr_iconst hx hb dL_law_2465 ?_
  refine zr_iadd hx hb dL_law_2466 ?_
  refine zs_ld C hS (8 * j + 1) (by omega) (by omega) dL_law_2467 ?_
  refine lv_aload_n hx hb dL_law_2468 rfl (lv_at hl 1 rfl) ?_
  refine lv_iload hx hb dL_law_2469 (lv_at hl 0 rfl) ?_
  refine zr_iconst hx hb dL_law_2471 ?_
  refine zr_iadd hx hb dL_law_2472 ?_
  refine zs_ld C hS (8 * j + 2) (by omega) (by omega) dL_law_2473 ?_
  refine lv_aload_n hx hb dL_law_2474 rfl (lv_at hl 4 rfl) ?_
  refine callL (rest := []) Z hW hS hl.1 hCL zW_knownVersions km_L_256 rfl rfl ⟨⟨Nat.le_of_ble_eq_true rfl, Nat.le_of_ble_eq_true rfl⟩, hR.1, hR.2⟩ (Nat.le_of_ble_eq_true rfl) dL_law_2475 (fun r u H locs hp hW hS => ?_)
  rw [hp.1]
  refine lv_istore (lv' := [(6, .int (zI k)), (5, .int (zI ((8 * j : Nat) : Int))), (0, .ref b), (1, .ref (q1 0)), (2, .ref (q2 0)), (3, .ref oa), (4, .ref od)]) hx hb dL_law_2478 hl (by decide) rfl (fun ls hl => ?_)
  refine lv_aload_n hx hb dL_law_2480 rfl (lv_at hl 4 rfl) ?_
  refine lv_aload_n hx hb dL_law_2481 rfl (lv_at hl 2 rfl) ?_
  refine lv_iload hx hb dL_law_2482 (lv_at hl 1 rfl) ?_
  refine zr_iconst hx hb dL_law_2484 ?_
  refine zr_iadd hx hb dL_law_2485 ?_
  refine zs_ld C hS (8 * j + 1) (by omega) (by omega) dL_law_2486 ?_
  refine lv_aload_n hx hb dL_law_2487 rfl (lv_at hl 2 rfl) ?_
  refine lv_iload hx hb dL_law_2488 (lv_at hl 1 rfl) ?_
  refine zr_iconst hx hb dL_law_2490 ?_
  refine zr_iadd hx hb dL_law_2491 ?_
  refine zs_ld C hS (8 * j + 2) (by omega) (by omega) dL_law_2492 ?_
  refine callM_I (rest := []) Z hW hS hl.1 hCM zY_X6_knownVersions km_L_258 rfl rfl rfl ⟨⟨Nat.le_of_ble_eq_true rfl, Nat.le_of_ble_eq_true rfl⟩, hR.1, hR.2⟩ (Nat.le_of_ble_eq_true rfl) dL_law_2493 (fun r u2 H locs hp2 hW hS => ?_)
  rw [hp2.1]
  refine lv_istore (lv' := [(7, .int bv), (6, .int (zI k)), (5, .int (zI ((8 * j : Nat) : Int))), (0, .ref b), (1, .ref (q1 0)), (2, .ref (q2 0)), (3, .ref oa), (4, .ref od)]) hx hb dL_law_2496 hl (by decide) rfl (fun ls hl => ?_)
  refine lv_aload_n hx hb dL_law_2498 rfl (lv_at hl 5 rfl) ?_
  refine callM_I (rest := []) Z hW hS hl.1 (lw_thr hp2.2) zY_X6_thrown km_L_143 rfl rfl rfl ⟨⟨Nat.le_of_ble_eq_true rfl, Nat.le_of_ble_eq_true rfl⟩, hR.1, hR.2⟩ (Nat.le_of_ble_eq_true rfl) dL_law_2499 (fun r u3 H locs hp3 hW hS => ?_)
  rw [hp3]
  refine lv_iload hx hb dL_law_2502 (lv_at hl 1 rfl) ?_
  refine lv_icmp_eq (tgt := 2509) hx hb dL_law_2504 (by decide) (fun _ => ?_) (fun h9 => absurd rfl h9)
  refine lv_iload hx hb dL_law_2509 (lv_at hl 1 rfl) ?_
  refine lv_if_ne (tgt := 2526) hx hb dL_law_2511 (by decide) (fun _ => ?_) (fun h0 => ?_)
  · refine lv_goto (tgt := 2607) hx hb dL_law_2526 (by decide) ?_
    exact kk σ1 τ1 _ _ _ _ H locs ls hI hW hS (lv_sub hl [2, 3, 4, 5, 6, 7] rfl)
  · have hv := hp.2 h0
    refine lv_aload_n hx hb dL_law_2514 rfl (lv_at hl 6 rfl) ?_
    refine zr_iconst hx hb dL_law_2515 ?_
    refine ldL Z hW.1.2.1 0 u.2 rfl 0 rfl (by decide) (by decide) dL_law_2516 ?_
    rw [hv]
    refine lv_iload hx hb dL_law_2517 (lv_at hl 0 rfl) ?_
    refine lv_i2l hx hb dL_law_2519 rfl ?_
    refine W.lcmp hx hb dL_law_2520 ?_
    rw [lg_cmp_self]
    refine lv_if_eq (tgt := 2526) hx hb dL_law_2521 (by decide) (fun _ => ?_) (fun h9 => absurd rfl h9)
    refine lv_goto (tgt := 2607) hx hb dL_law_2526 (by decide) ?_
    exact kk σ1 τ1 _ _ _ _ H locs ls hI hW hS (lv_sub hl [2, 3, 4, 5, 6, 7] rfl)
set_option maxHeartbeats 4000000 in
set_option maxRecDepth 100000 in
theorem lw_c35 {p : Program} {l : Launch} {e : Env} {s : State} {m : MethodId} {below : List Frame} {meth : Method} {c : Code} {H : Heap} {locs : List Loc} {cells slots : Nat} {Q : State → Prop} {b L : Nat} {xs : Nat → Int32} {ls : Array Slot} {G : ZG} {q1 q2 : Nat → Nat} {oa od n j : Nat} {σ τ : St} {κ : KC} {f : Nat → Int64} {μ : KM} {g : Nat → UInt64} (C : LC p l s m meth c G b L xs) (hn : n < 600) (hj : 8 * j + 8 ≤ L) (hi : Inv n σ τ) (hW : LW G (lwA s) q1 q2 oa od σ κ f τ μ g H) (hS : va_S (lwA s) s.heap H locs)
    (hl : lv_has ls 9 [(5, .int (zI ((8 * j : Nat) : Int))), (0, .ref b), (1, .ref (q1 0)), (2, .ref (q2 0)), (3, .ref oa), (4, .ref od)]) (hR : cells + 1 ≤ room_1.cells ∧ slots + 6 ≤ room_1.slots)
    (kk : LK p l e s m below meth c cells slots Q G b q1 q2 oa od n (8 * j)) : W p l e room_1 s m #[.ref b] below meth c H locs cells slots Q (F0 m 2529 ls []) := by
  have Z := C.1
  have hst := C.2.1
  have hx := Z.1
  have hb := Z.2.1
  have hown := Z.2.2.2.1
  have hW9 := Z.2.2.2.2.1
  obtain ⟨k, bv, σ1, τ1, hI, hCL, hCM⟩ := j_meanVersions l G hst hi hn q1 q2 od κ g μ 
  refine lv_aload_n hx hb dL_law_2529 rfl (lv_at hl 2 rfl) ?_
  refine lv_aload hx hb dL_law_2530 (lv_at hl 5 rfl) ?_
  refine callD (rest := []) Z hW hS hl.1 hCL zW_meanVersions km_L_259 rfl rfl ⟨⟨Nat.le_of_ble_eq_true rfl, Nat.le_of_ble_eq_true rfl⟩, hR.1, hR.2⟩ (Nat.le_of_ble_eq_true rfl) dL_law_2532 (fun r u H locs hp hW hS => ?_)
  rw [hp.1]
  refine lv_istore (lv' := [(6, .int (zI k)), (5, .int (zI ((8 * j : Nat) : Int))), (0, .ref b), (1, .ref (q1 0)), (2, .ref (q2 0)), (3, .ref oa), (4, .ref od)]) hx hb dL_law_2535 hl (by decide) rfl (fun ls hl => ?_)
  refine lv_aload_n hx hb dL_law_2537 rfl (lv_at hl 4 rfl) ?_
  refine callM_D (rest := []) Z hW hS hl.1 hCM zY_X6_meanVersions km_L_262 rfl rfl rfl ⟨⟨Nat.le_of_ble_eq_true rfl, Nat.le_of_ble_eq_true rfl⟩, hR.1, hR.2⟩ (Nat.le_of_ble_eq_true rfl) dL_law_2538 (fun r u2 H locs hp2 hW hS => ?_)
  rw [hp2.1]
  refine lv_dstore (lv' := [(7, .double bv), (6, .int (zI k)), (5, .int (zI ((8 * j : Nat) : Int))), (0, .ref b), (1, .ref (q1 0)), (2, .ref (q2 0)), (3, .ref oa), (4, .ref od)]) hx hb dL_law_2541 hl (by decide) rfl (fun ls hl => ?_)
  refine lv_aload_n hx hb dL_law_2543 rfl (lv_at hl 5 rfl) ?_
  refine callM_I (rest := []) Z hW hS hl.1 (lw_thr hp2.2) zY_X6_thrown km_L_143 rfl rfl rfl ⟨⟨Nat.le_of_ble_eq_true rfl, Nat.le_of_ble_eq_true rfl⟩, hR.1, hR.2⟩ (Nat.le_of_ble_eq_true rfl) dL_law_2544 (fun r u3 H locs hp3 hW hS => ?_)
  rw [hp3]
  refine lv_iload hx hb dL_law_2547 (lv_at hl 1 rfl) ?_
  refine lv_icmp_eq (tgt := 2554) hx hb dL_law_2549 (by decide) (fun _ => ?_) (fun h9 => absurd rfl h9)
  refine lv_iload hx hb dL_law_2554 (lv_at hl 1 rfl) ?_
  refine lv_if_ne (tgt := 2591) hx hb dL_law_2556 (by decide) (fun _ => ?_) (fun h0 => ?_)
  · refine lv_goto (tgt := 2607) hx hb dL_law_2591 (by decide) ?_
    exact kk σ1 τ1 _ _ _ _ H locs ls hI hW hS (lv_sub hl [2, 3, 4, 5, 6, 7] rfl)
  · have hv := hp.2 h0
    refine lv_aload hx hb dL_law_2559 (lv_at hl 7 rfl) ?_
    refine zr_iconst hx hb dL_law_2561 ?_
    refine ldD Z hW.1.2.2.2 0 u.2 rfl 0 rfl (by decide) (by decide) dL_law_2562 ?_
    rw [hv.1]
    refine lv_dload hx hb dL_law_2563 (lv_at hl 0 rfl) ?_
    refine lv_dcmp hx hb dL_law_2565 ?_
    rw [zd_self hv.2]
    refine lv_if_eq (tgt := 2591) hx hb dL_law_2566 (by decide) (fun _ => ?_) (fun h9 => absurd rfl h9)
    refine lv_goto (tgt := 2607) hx hb dL_law_2591 (by decide) ?_
    exact kk σ1 τ1 _ _ _ _ H locs ls hI hW hS (lv_sub hl [2, 3, 4, 5, 6, 7] rfl)
set_option maxHeartbeats 4000000 in
set_option maxRecDepth 100000 in
theorem lw_c36 {p : Program} {l : Launch} {e : Env} {s : State} {m : MethodId} {below : List Frame} {meth : Method} {c : Code} {H : Heap} {locs : List Loc} {cells slots : Nat} {Q : State → Prop} {b L : Nat} {xs : Nat → Int32} {ls : Array Slot} {G : ZG} {q1 q2 : Nat → Nat} {oa od n j : Nat} {σ τ : St} {κ : KC} {f : Nat → Int64} {μ : KM} {g : Nat → UInt64} (C : LC p l s m meth c G b L xs) (hn : n < 600) (hj : 8 * j + 8 ≤ L) (hi : Inv n σ τ) (hW : LW G (lwA s) q1 q2 oa od σ κ f τ μ g H) (hS : va_S (lwA s) s.heap H locs)
    (hl : lv_has ls 9 [(5, .int (zI ((8 * j : Nat) : Int))), (0, .ref b), (1, .ref (q1 0)), (2, .ref (q2 0)), (3, .ref oa), (4, .ref od)]) (hR : cells + 1 ≤ room_1.cells ∧ slots + 6 ≤ room_1.slots)
    (kk : LK p l e s m below meth c cells slots Q G b q1 q2 oa od n (8 * j)) : W p l e room_1 s m #[.ref b] below meth c H locs cells slots Q (F0 m 2594 ls []) := by
  have Z := C.1
  have hst := C.2.1
  have hx := Z.1
  have hb := Z.2.1
  have hown := Z.2.2.2.1
  have hW9 := Z.2.2.2.2.1
  have ha := hi.anew κ.2.2
  refine lv_aload_n hx hb dL_law_2594 rfl (lv_at hl 2 rfl) ?_
  refine callC (rest := []) Z hW hS hl.1 (⟨r_X5_isSound, KC, _, _, ⟨(Nat.le_of_ble_eq_true rfl), (Nat.le_of_ble_eq_true rfl), (Nat.le_of_ble_eq_true rfl), (Nat.le_of_ble_eq_true rfl)⟩, m_X5_isSound l G q1 σ κ hi.2.1 ha.1 ha.2, fun _ u hr => ⟨u, hr, rfl⟩⟩ : CIv l G 0 0 yX5_isSound (wY yX5_isSound cX5_isSound 3 (some .boolean)) (wC G q1 σ κ) [.ref (q1 0)] (fun r (_ : KC) => r = tB true) (fun u => wC G q1 σ u)) zY_X5_isSound km_L_263 rfl rfl rfl ⟨⟨Nat.le_of_ble_eq_true rfl, Nat.le_of_ble_eq_true rfl⟩, by omega, by omega⟩ (Nat.le_of_ble_eq_true rfl) dL_law_2595 (fun r u H locs hp hW hS => ?_)
  rw [hp]
  refine lv_aload_n hx hb dL_law_2598 rfl (lv_at hl 3 rfl) ?_
  refine callM_I (rest := [.int (tB true)]) Z hW hS hl.1 (⟨r_X6_isSound, Unit, _, _, ⟨(Nat.le_of_ble_eq_true rfl), (Nat.le_of_ble_eq_true rfl), (Nat.le_of_ble_eq_true rfl), (Nat.le_of_ble_eq_true rfl)⟩, m_X6_isSound l G q2 τ μ, fun _ _ hr => ⟨(0, μ.2), hr, rfl⟩⟩ : CIv l G 0 0 yX6_isSound (wY yX6_isSound cX6_isSound 1 (some .boolean)) (wM G q2 τ μ) [.ref (q2 0)] (fun r (_ : KM) => r = tB true) (fun u => wM G q2 τ u)) zY_X6_isSound km_L_267 rfl rfl rfl ⟨⟨Nat.le_of_ble_eq_true rfl, Nat.le_of_ble_eq_true rfl⟩, by omega, by omega⟩ (Nat.le_of_ble_eq_true rfl) dL_law_2599 (fun r u2 H locs hp2 hW hS => ?_)
  rw [hp2]
  refine lv_icmp_eq (tgt := 2607) hx hb dL_law_2602 (by decide) (fun _ => ?_) (fun h9 => absurd rfl h9)
  refine W.widen (show cells ≤ cells + 1 by omega) (show slots ≤ slots + 6 by omega) ?_
  exact kk σ τ _ _ _ _ H locs ls hi.mono hW hS hl
