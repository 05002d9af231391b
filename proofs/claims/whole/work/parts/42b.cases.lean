set_option maxHeartbeats 4000000 in
set_option maxRecDepth 100000 in
theorem lw_c13 {p : Program} {l : Launch} {e : Env} {s : State} {m : MethodId} {below : List Frame} {meth : Method} {c : Code} {H : Heap} {locs : List Loc} {cells slots : Nat} {Q : State → Prop} {b L : Nat} {xs : Nat → Int32} {ls : Array Slot} {G : ZG} {q1 q2 : Nat → Nat} {oa od n j : Nat} {σ τ : St} {κ : KC} {f : Nat → Int64} {μ : KM} {g : Nat → UInt64} (C : LC p l s m meth c G b L xs) (hn : n < 600) (hj : 8 * j + 8 ≤ L) (hi : Inv n σ τ) (hW : LW G (lwA s) q1 q2 oa od σ κ f τ μ g H) (hS : va_S (lwA s) s.heap H locs)
    (hl : lv_has ls 9 [(5, .int (zI ((8 * j : Nat) : Int))), (0, .ref b), (1, .ref (q1 0)), (2, .ref (q2 0)), (3, .ref oa), (4, .ref od)]) (hR : cells + 1 ≤ room_1.cells ∧ slots + 6 ≤ room_1.slots)
    (kk : LK p l e s m below meth c cells slots Q G b q1 q2 oa od n (8 * j)) : W p l e room_1 s m #[.ref b] below meth c H locs cells slots Q (F0 m 1019 ls []) := by
  have Z := C.1
  have hst := C.2.1
  have hx := Z.1
  have hb := Z.2.1
  have hown := Z.2.2.2.1
  have hW9 := Z.2.2.2.2.1
  obtain ⟨k, bv, σ1, τ1, hI, hCL, hCM⟩ := j_sourcesOf l G hst hi hn q1 q2 oa κ f μ (xs (8 * j + 1))
  refine lv_aload_n hx hb dL_law_1019 rfl (lv_at hl 2 rfl) ?_
  refine lv_aload_n hx hb dL_law_1020 rfl (lv_at hl 1 rfl) ?_
  refine lv_iload hx hb dL_law_1021 (lv_at hl 0 rfl) ?_
  refine zr_iconst hx hb dL_law_1023 ?_
  refine zr_iadd hx hb dL_law_1024 ?_
  refine zs_ld C hS (8 * j + 1) (by omega) (by omega) dL_law_1025 ?_
  refine lv_aload_n hx hb dL_law_1026 rfl (lv_at hl 4 rfl) ?_
  refine callL (rest := []) Z hW hS hl.1 hCL zW_sourcesOf km_L_190 rfl rfl ⟨⟨Nat.le_of_ble_eq_true rfl, Nat.le_of_ble_eq_true rfl⟩, hR.1, hR.2⟩ (Nat.le_of_ble_eq_true rfl) dL_law_1027 (fun r u H locs hp hW hS => ?_)
  rw [hp.1]
  refine lv_istore (lv' := [(6, .int (zI k)), (5, .int (zI ((8 * j : Nat) : Int))), (0, .ref b), (1, .ref (q1 0)), (2, .ref (q2 0)), (3, .ref oa), (4, .ref od)]) hx hb dL_law_1030 hl (by decide) rfl (fun ls hl => ?_)
  refine lv_aload_n hx hb dL_law_1032 rfl (lv_at hl 4 rfl) ?_
  refine lv_aload_n hx hb dL_law_1033 rfl (lv_at hl 2 rfl) ?_
  refine lv_iload hx hb dL_law_1034 (lv_at hl 1 rfl) ?_
  refine zr_iconst hx hb dL_law_1036 ?_
  refine zr_iadd hx hb dL_law_1037 ?_
  refine zs_ld C hS (8 * j + 1) (by omega) (by omega) dL_law_1038 ?_
  refine callM_I (rest := []) Z hW hS hl.1 hCM zY_X6_sourcesOf km_L_192 rfl rfl rfl ⟨⟨Nat.le_of_ble_eq_true rfl, Nat.le_of_ble_eq_true rfl⟩, hR.1, hR.2⟩ (Nat.le_of_ble_eq_true rfl) dL_law_1039 (fun r u2 H locs hp2 hW hS => ?_)
  rw [hp2.1]
  refine lv_istore (lv' := [(7, .int bv), (6, .int (zI k)), (5, .int (zI ((8 * j : Nat) : Int))), (0, .ref b), (1, .ref (q1 0)), (2, .ref (q2 0)), (3, .ref oa), (4, .ref od)]) hx hb dL_law_1042 hl (by decide) rfl (fun ls hl => ?_)
  refine lv_aload_n hx hb dL_law_1044 rfl (lv_at hl 5 rfl) ?_
  refine callM_I (rest := []) Z hW hS hl.1 (lw_thr hp2.2) zY_X6_thrown km_L_143 rfl rfl rfl ⟨⟨Nat.le_of_ble_eq_true rfl, Nat.le_of_ble_eq_true rfl⟩, hR.1, hR.2⟩ (Nat.le_of_ble_eq_true rfl) dL_law_1045 (fun r u3 H locs hp3 hW hS => ?_)
  rw [hp3]
  refine lv_iload hx hb dL_law_1048 (lv_at hl 1 rfl) ?_
  refine lv_icmp_eq (tgt := 1055) hx hb dL_law_1050 (by decide) (fun _ => ?_) (fun h9 => absurd rfl h9)
  refine lv_iload hx hb dL_law_1055 (lv_at hl 1 rfl) ?_
  refine lv_if_ne (tgt := 1072) hx hb dL_law_1057 (by decide) (fun _ => ?_) (fun h0 => ?_)
  · refine lv_goto (tgt := 2607) hx hb dL_law_1072 (by decide) ?_
    exact kk σ1 τ1 _ _ _ _ H locs ls hI hW hS (lv_sub hl [2, 3, 4, 5, 6, 7] rfl)
  · have hv := hp.2 h0
    refine lv_aload_n hx hb dL_law_1060 rfl (lv_at hl 6 rfl) ?_
    refine zr_iconst hx hb dL_law_1061 ?_
    refine ldL Z hW.1.2.1 0 u.2 rfl 0 rfl (by decide) (by decide) dL_law_1062 ?_
    rw [hv]
    refine lv_iload hx hb dL_law_1063 (lv_at hl 0 rfl) ?_
    refine lv_i2l hx hb dL_law_1065 rfl ?_
    refine W.lcmp hx hb dL_law_1066 ?_
    rw [lg_cmp_self]
    refine lv_if_eq (tgt := 1072) hx hb dL_law_1067 (by decide) (fun _ => ?_) (fun h9 => absurd rfl h9)
    refine lv_goto (tgt := 2607) hx hb dL_law_1072 (by decide) ?_
    exact kk σ1 τ1 _ _ _ _ H locs ls hI hW hS (lv_sub hl [2, 3, 4, 5, 6, 7] rfl)
set_option maxHeartbeats 4000000 in
set_option maxRecDepth 100000 in
theorem lw_c14 {p : Program} {l : Launch} {e : Env} {s : State} {m : MethodId} {below : List Frame} {meth : Method} {c : Code} {H : Heap} {locs : List Loc} {cells slots : Nat} {Q : State → Prop} {b L : Nat} {xs : Nat → Int32} {ls : Array Slot} {G : ZG} {q1 q2 : Nat → Nat} {oa od n j : Nat} {σ τ : St} {κ : KC} {f : Nat → Int64} {μ : KM} {g : Nat → UInt64} (C : LC p l s m meth c G b L xs) (hn : n < 600) (hj : 8 * j + 8 ≤ L) (hi : Inv n σ τ) (hW : LW G (lwA s) q1 q2 oa od σ κ f τ μ g H) (hS : va_S (lwA s) s.heap H locs)
    (hl : lv_has ls 9 [(5, .int (zI ((8 * j : Nat) : Int))), (0, .ref b), (1, .ref (q1 0)), (2, .ref (q2 0)), (3, .ref oa), (4, .ref od)]) (hR : cells + 1 ≤ room_1.cells ∧ slots + 6 ≤ room_1.slots)
    (kk : LK p l e s m below meth c cells slots Q G b q1 q2 oa od n (8 * j)) : W p l e room_1 s m #[.ref b] below meth c H locs cells slots Q (F0 m 1075 ls []) := by
  have Z := C.1
  have hst := C.2.1
  have hx := Z.1
  have hb := Z.2.1
  have hown := Z.2.2.2.1
  have hW9 := Z.2.2.2.2.1
  obtain ⟨k, bv, σ1, τ1, hI, hCL, hCM⟩ := j_timeOf l G hst hi hn q1 q2 oa κ f μ (xs (8 * j + 1))
  refine lv_aload_n hx hb dL_law_1075 rfl (lv_at hl 2 rfl) ?_
  refine lv_aload_n hx hb dL_law_1076 rfl (lv_at hl 1 rfl) ?_
  refine lv_iload hx hb dL_law_1077 (lv_at hl 0 rfl) ?_
  refine zr_iconst hx hb dL_law_1079 ?_
  refine zr_iadd hx hb dL_law_1080 ?_
  refine zs_ld C hS (8 * j + 1) (by omega) (by omega) dL_law_1081 ?_
  refine lv_aload_n hx hb dL_law_1082 rfl (lv_at hl 4 rfl) ?_
  refine callL (rest := []) Z hW hS hl.1 hCL zW_timeOf km_L_193 rfl rfl ⟨⟨Nat.le_of_ble_eq_true rfl, Nat.le_of_ble_eq_true rfl⟩, hR.1, hR.2⟩ (Nat.le_of_ble_eq_true rfl) dL_law_1083 (fun r u H locs hp hW hS => ?_)
  rw [hp.1]
  refine lv_istore (lv' := [(6, .int (zI k)), (5, .int (zI ((8 * j : Nat) : Int))), (0, .ref b), (1, .ref (q1 0)), (2, .ref (q2 0)), (3, .ref oa), (4, .ref od)]) hx hb dL_law_1086 hl (by decide) rfl (fun ls hl => ?_)
  refine lv_aload_n hx hb dL_law_1088 rfl (lv_at hl 4 rfl) ?_
  refine lv_aload_n hx hb dL_law_1089 rfl (lv_at hl 2 rfl) ?_
  refine lv_iload hx hb dL_law_1090 (lv_at hl 1 rfl) ?_
  refine zr_iconst hx hb dL_law_1092 ?_
  refine zr_iadd hx hb dL_law_1093 ?_
  refine zs_ld C hS (8 * j + 1) (by omega) (by omega) dL_law_1094 ?_
  refine callM_I (rest := []) Z hW hS hl.1 hCM zY_X6_timeOf km_L_195 rfl rfl rfl ⟨⟨Nat.le_of_ble_eq_true rfl, Nat.le_of_ble_eq_true rfl⟩, hR.1, hR.2⟩ (Nat.le_of_ble_eq_true rfl) dL_law_1095 (fun r u2 H locs hp2 hW hS => ?_)
  rw [hp2.1]
  refine lv_istore (lv' := [(7, .int bv), (6, .int (zI k)), (5, .int (zI ((8 * j : Nat) : Int))), (0, .ref b), (1, .ref (q1 0)), (2, .ref (q2 0)), (3, .ref oa), (4, .ref od)]) hx hb dL_law_1098 hl (by decide) rfl (fun ls hl => ?_)
  refine lv_aload_n hx hb dL_law_1100 rfl (lv_at hl 5 rfl) ?_
  refine callM_I (rest := []) Z hW hS hl.1 (lw_thr hp2.2) zY_X6_thrown km_L_143 rfl rfl rfl ⟨⟨Nat.le_of_ble_eq_true rfl, Nat.le_of_ble_eq_true rfl⟩, hR.1, hR.2⟩ (Nat.le_of_ble_eq_true rfl) dL_law_1101 (fun r u3 H locs hp3 hW hS => ?_)
  rw [hp3]
  refine lv_iload hx hb dL_law_1104 (lv_at hl 1 rfl) ?_
  refine lv_icmp_eq (tgt := 1111) hx hb dL_law_1106 (by decide) (fun _ => ?_) (fun h9 => absurd rfl h9)
  refine lv_iload hx hb dL_law_1111 (lv_at hl 1 rfl) ?_
  refine lv_if_ne (tgt := 1128) hx hb dL_law_1113 (by decide) (fun _ => ?_) (fun h0 => ?_)
  · refine lv_goto (tgt := 2607) hx hb dL_law_1128 (by decide) ?_
    exact kk σ1 τ1 _ _ _ _ H locs ls hI hW hS (lv_sub hl [2, 3, 4, 5, 6, 7] rfl)
  · have hv := hp.2 h0
    refine lv_aload_n hx hb dL_law_1116 rfl (lv_at hl 6 rfl) ?_
    refine zr_iconst hx hb dL_law_1117 ?_
    refine ldL Z hW.1.2.1 0 u.2 rfl 0 rfl (by decide) (by decide) dL_law_1118 ?_
    rw [hv]
    refine lv_iload hx hb dL_law_1119 (lv_at hl 0 rfl) ?_
    refine lv_i2l hx hb dL_law_1121 rfl ?_
    refine W.lcmp hx hb dL_law_1122 ?_
    rw [lg_cmp_self]
    refine lv_if_eq (tgt := 1128) hx hb dL_law_1123 (by decide) (fun _ => ?_) (fun h9 => absurd rfl h9)
    refine lv_goto (tgt := 2607) hx hb dL_law_1128 (by decide) ?_
    exact kk σ1 τ1 _ _ _ _ H locs ls hI hW hS (lv_sub hl [2, 3, 4, 5, 6, 7] rfl)
set_option maxHeartbeats 4000000 in
set_option maxRecDepth 100000 in
theorem lw_c15 {p : Program} {l : Launch} {e : Env} {s : State} {m : MethodId} {below : List Frame} {meth : Method} {c : Code} {H : Heap} {locs : List Loc} {cells slots : Nat} {Q : State → Prop} {b L : Nat} {xs : Nat → Int32} {ls : Array Slot} {G : ZG} {q1 q2 : Nat → Nat} {oa od n j : Nat} {σ τ : St} {κ : KC} {f : Nat → Int64} {μ : KM} {g : Nat → UInt64} (C : LC p l s m meth c G b L xs) (hn : n < 600) (hj : 8 * j + 8 ≤ L) (hi : Inv n σ τ) (hW : LW G (lwA s) q1 q2 oa od σ κ f τ μ g H) (hS : va_S (lwA s) s.heap H locs)
    (hl : lv_has ls 9 [(5, .int (zI ((8 * j : Nat) : Int))), (0, .ref b), (1, .ref (q1 0)), (2, .ref (q2 0)), (3, .ref oa), (4, .ref od)]) (hR : cells + 1 ≤ room_1.cells ∧ slots + 6 ≤ room_1.slots)
    (kk : LK p l e s m below meth c cells slots Q G b q1 q2 oa od n (8 * j)) : W p l e room_1 s m #[.ref b] below meth c H locs cells slots Q (F0 m 1131 ls []) := by
  have Z := C.1
  have hst := C.2.1
  have hx := Z.1
  have hb := Z.2.1
  have hown := Z.2.2.2.1
  have hW9 := Z.2.2.2.2.1
  obtain ⟨k, bv, σ1, τ1, hI, hCL, hCM⟩ := j_addRule l G hst hi hn q1 q2 oa κ f μ (lwLong (xs (8 * j + 1)) (xs (8 * j + 2))) (lwLong (xs (8 * j + 3)) (xs (8 * j + 4))) (xs (8 * j + 5)) (xs (8 * j + 6)) (xs (8 * j + 7))
  refine lv_aload_n hx hb dL_law_1131 rfl (lv_at hl 2 rfl) ?_
  refine lv_aload_n hx hb dL_law_1132 rfl (lv_at hl 1 rfl) ?_
  refine lv_iload hx hb dL_law_1133 (lv_at hl 0 rfl) ?_
  refine zr_iconst hx hb dL_law_1135 ?_
  refine zr_iadd hx hb dL_law_1136 ?_
  refine zs_ld C hS (8 * j + 1) (by omega) (by omega) dL_law_1137 ?_
  refine lv_i2l hx hb dL_law_1138 rfl ?_
  refine zr_bipush (n := 32) hx hb dL_law_1139 (by decide +kernel) ?_
  refine lv_lshl hx hb dL_law_1141 rfl ?_
  refine lv_aload_n hx hb dL_law_1142 rfl (lv_at hl 1 rfl) ?_
  refine lv_iload hx hb dL_law_1143 (lv_at hl 0 rfl) ?_
  refine zr_iconst hx hb dL_law_1145 ?_
  refine zr_iadd hx hb dL_law_1146 ?_
  refine zs_ld C hS (8 * j + 2) (by omega) (by omega) dL_law_1147 ?_
  refine lv_i2l hx hb dL_law_1148 rfl ?_
  refine lv_ldc2 (v := 4294967295) hx hb hown (hW9 _ kk_L_156) dL_law_1149 ?_
  refine lv_land hx hb dL_law_1152 ?_
  refine lv_lor hx hb dL_law_1153 ?_
  refine lv_aload_n hx hb dL_law_1154 rfl (lv_at hl 1 rfl) ?_
  refine lv_iload hx hb dL_law_1155 (lv_at hl 0 rfl) ?_
  refine zr_iconst hx hb dL_law_1157 ?_
  refine zr_iadd hx hb dL_law_1158 ?_
  refine zs_ld C hS (8 * j + 3) (by omega) (by omega) dL_law_1159 ?_
  refine lv_i2l hx hb dL_law_1160 rfl ?_
  refine zr_bipush (n := 32) hx hb dL_law_1161 (by decide +kernel) ?_
  refine lv_lshl hx hb dL_law_1163 rfl ?_
  refine lv_aload_n hx hb dL_law_1164 rfl (lv_at hl 1 rfl) ?_
  refine lv_iload hx hb dL_law_1165 (lv_at hl 0 rfl) ?_
  refine zr_iconst hx hb dL_law_1167 ?_
  refine zr_iadd hx hb dL_law_1168 ?_
  refine zs_ld C hS (8 * j + 4) (by omega) (by omega) dL_law_1169 ?_
  refine lv_i2l hx hb dL_law_1170 rfl ?_
  refine lv_ldc2 (v := 4294967295) hx hb hown (hW9 _ kk_L_156) dL_law_1171 ?_
  refine lv_land hx hb dL_law_1174 ?_
  refine lv_lor hx hb dL_law_1175 ?_
  refine lv_aload_n hx hb dL_law_1176 rfl (lv_at hl 1 rfl) ?_
  refine lv_iload hx hb dL_law_1177 (lv_at hl 0 rfl) ?_
  refine zr_iconst hx hb dL_law_1179 ?_
  refine zr_iadd hx hb dL_law_1180 ?_
  refine zs_ld C hS (8 * j + 5) (by omega) (by omega) dL_law_1181 ?_
  refine lv_aload_n hx hb dL_law_1182 rfl (lv_at hl 1 rfl) ?_
  refine lv_iload hx hb dL_law_1183 (lv_at hl 0 rfl) ?_
  refine zr_bipush (n := 6) hx hb dL_law_1185 (by decide +kernel) ?_
  refine zr_iadd hx hb dL_law_1187 ?_
  refine zs_ld C hS (8 * j + 6) (by omega) (by omega) dL_law_1188 ?_
  refine lv_aload_n hx hb dL_law_1189 rfl (lv_at hl 1 rfl) ?_
  refine lv_iload hx hb dL_law_1190 (lv_at hl 0 rfl) ?_
  refine zr_bipush (n := 7) hx hb dL_law_1192 (by decide +kernel) ?_
  refine zr_iadd hx hb dL_law_1194 ?_
  refine zs_ld C hS (8 * j + 7) (by omega) (by omega) dL_law_1195 ?_
  refine lv_aload_n hx hb dL_law_1196 rfl (lv_at hl 4 rfl) ?_
  refine callL (rest := []) Z hW hS hl.1 hCL zW_addRule km_L_196 rfl rfl ⟨⟨Nat.le_of_ble_eq_true rfl, Nat.le_of_ble_eq_true rfl⟩, hR.1, hR.2⟩ (Nat.le_of_ble_eq_true rfl) dL_law_1197 (fun r u H locs hp hW hS => ?_)
  rw [hp.1]
  refine lv_istore (lv' := [(6, .int (zI k)), (5, .int (zI ((8 * j : Nat) : Int))), (0, .ref b), (1, .ref (q1 0)), (2, .ref (q2 0)), (3, .ref oa), (4, .ref od)]) hx hb dL_law_1200 hl (by decide) rfl (fun ls hl => ?_)
  refine lv_aload_n hx hb dL_law_1202 rfl (lv_at hl 4 rfl) ?_
  refine lv_aload_n hx hb dL_law_1203 rfl (lv_at hl 2 rfl) ?_
  refine lv_iload hx hb dL_law_1204 (lv_at hl 1 rfl) ?_
  refine zr_iconst hx hb dL_law_1206 ?_
  refine zr_iadd hx hb dL_law_1207 ?_
  refine zs_ld C hS (8 * j + 1) (by omega) (by omega) dL_law_1208 ?_
  refine lv_i2l hx hb dL_law_1209 rfl ?_
  refine zr_bipush (n := 32) hx hb dL_law_1210 (by decide +kernel) ?_
  refine lv_lshl hx hb dL_law_1212 rfl ?_
  refine lv_aload_n hx hb dL_law_1213 rfl (lv_at hl 2 rfl) ?_
  refine lv_iload hx hb dL_law_1214 (lv_at hl 1 rfl) ?_
  refine zr_iconst hx hb dL_law_1216 ?_
  refine zr_iadd hx hb dL_law_1217 ?_
  refine zs_ld C hS (8 * j + 2) (by omega) (by omega) dL_law_1218 ?_
  refine lv_i2l hx hb dL_law_1219 rfl ?_
  refine lv_ldc2 (v := 4294967295) hx hb hown (hW9 _ kk_L_156) dL_law_1220 ?_
  refine lv_land hx hb dL_law_1223 ?_
  refine lv_lor hx hb dL_law_1224 ?_
  refine lv_aload_n hx hb dL_law_1225 rfl (lv_at hl 2 rfl) ?_
  refine lv_iload hx hb dL_law_1226 (lv_at hl 1 rfl) ?_
  refine zr_iconst hx hb dL_law_1228 ?_
  refine zr_iadd hx hb dL_law_1229 ?_
  refine zs_ld C hS (8 * j + 3) (by omega) (by omega) dL_law_1230 ?_
  refine lv_i2l hx hb dL_law_1231 rfl ?_
  refine zr_bipush (n := 32) hx hb dL_law_1232 (by decide +kernel) ?_
  refine lv_lshl hx hb dL_law_1234 rfl ?_
  refine lv_aload_n hx hb dL_law_1235 rfl (lv_at hl 2 rfl) ?_
  refine lv_iload hx hb dL_law_1236 (lv_at hl 1 rfl) ?_
  refine zr_iconst hx hb dL_law_1238 ?_
  refine zr_iadd hx hb dL_law_1239 ?_
  refine zs_ld C hS (8 * j + 4) (by omega) (by omega) dL_law_1240 ?_
  refine lv_i2l hx hb dL_law_1241 rfl ?_
  refine lv_ldc2 (v := 4294967295) hx hb hown (hW9 _ kk_L_156) dL_law_1242 ?_
  refine lv_land hx hb dL_law_1245 ?_
  refine lv_lor hx hb dL_law_1246 ?_
  refine lv_aload_n hx hb dL_law_1247 rfl (lv_at hl 2 rfl) ?_
  refine lv_iload hx hb dL_law_1248 (lv_at hl 1 rfl) ?_
  refine zr_iconst hx hb dL_law_1250 ?_
  refine zr_iadd hx hb dL_law_1251 ?_
  refine zs_ld C hS (8 * j + 5) (by omega) (by omega) dL_law_1252 ?_
  refine lv_aload_n hx hb dL_law_1253 rfl (lv_at hl 2 rfl) ?_
  refine lv_iload hx hb dL_law_1254 (lv_at hl 1 rfl) ?_
  refine zr_bipush (n := 6) hx hb dL_law_1256 (by decide +kernel) ?_
  refine zr_iadd hx hb dL_law_1258 ?_
  refine zs_ld C hS (8 * j + 6) (by omega) (by omega) dL_law_1259 ?_
  refine lv_aload_n hx hb dL_law_1260 rfl (lv_at hl 2 rfl) ?_
  refine lv_iload hx hb dL_law_1261 (lv_at hl 1 rfl) ?_
  refine zr_bipush (n := 7) hx hb dL_law_1263 (by decide +kernel) ?_
  refine zr_iadd hx hb dL_law_1265 ?_
  refine zs_ld C hS (8 * j + 7) (by omega) (by omega) dL_law_1266 ?_
  refine callM_I (rest := []) Z hW hS hl.1 hCM zY_X6_addRule km_L_199 rfl rfl rfl ⟨⟨Nat.le_of_ble_eq_true rfl, Nat.le_of_ble_eq_true rfl⟩, hR.1, hR.2⟩ (Nat.le_of_ble_eq_true rfl) dL_law_1267 (fun r u2 H locs hp2 hW hS => ?_)
  rw [hp2.1]
  refine lv_istore (lv' := [(7, .int bv), (6, .int (zI k)), (5, .int (zI ((8 * j : Nat) : Int))), (0, .ref b), (1, .ref (q1 0)), (2, .ref (q2 0)), (3, .ref oa), (4, .ref od)]) hx hb dL_law_1270 hl (by decide) rfl (fun ls hl => ?_)
  refine lv_aload_n hx hb dL_law_1272 rfl (lv_at hl 5 rfl) ?_
  refine callM_I (rest := []) Z hW hS hl.1 (lw_thr hp2.2) zY_X6_thrown km_L_143 rfl rfl rfl ⟨⟨Nat.le_of_ble_eq_true rfl, Nat.le_of_ble_eq_true rfl⟩, hR.1, hR.2⟩ (Nat.le_of_ble_eq_true rfl) dL_law_1273 (fun r u3 H locs hp3 hW hS => ?_)
  rw [hp3]
  refine lv_iload hx hb dL_law_1276 (lv_at hl 1 rfl) ?_
  refine lv_icmp_eq (tgt := 1283) hx hb dL_law_1278 (by decide) (fun _ => ?_) (fun h9 => absurd rfl h9)
  refine lv_iload hx hb dL_law_1283 (lv_at hl 1 rfl) ?_
  refine lv_if_ne (tgt := 1300) hx hb dL_law_1285 (by decide) (fun _ => ?_) (fun h0 => ?_)
  · refine lv_goto (tgt := 2607) hx hb dL_law_1300 (by decide) ?_
    exact kk σ1 τ1 _ _ _ _ H locs ls hI hW hS (lv_sub hl [2, 3, 4, 5, 6, 7] rfl)
  · have hv := hp.2 h0
    refine lv_aload_n hx hb dL_law_1288 rfl (lv_at hl 6 rfl) ?_
    refine zr_iconst hx hb dL_law_1289 ?_
    refine ldL Z hW.1.2.1 0 u.2 rfl 0 rfl (by decide) (by decide) dL_law_1290 ?_
    rw [hv]
    refine lv_iload hx hb dL_law_1291 (lv_at hl 0 rfl) ?_
    refine lv_i2l hx hb dL_law_1293 rfl ?_
    refine W.lcmp hx hb dL_law_1294 ?_
    rw [lg_cmp_self]
    refine lv_if_eq (tgt := 1300) hx hb dL_law_1295 (by decide) (fun _ => ?_) (fun h9 => absurd rfl h9)
    refine lv_goto (tgt := 2607) hx hb dL_law_1300 (by decide) ?_
    exact kk σ1 τ1 _ _ _ _ H locs ls hI hW hS (lv_sub hl [2, 3, 4, 5, 6, 7] rfl)
set_option maxHeartbeats 4000000 in
set_option maxRecDepth 100000 in
theorem lw_c16 {p : Program} {l : Launch} {e : Env} {s : State} {m : MethodId} {below : List Frame} {meth : Method} {c : Code} {H : Heap} {locs : List Loc} {cells slots : Nat} {Q : State → Prop} {b L : Nat} {xs : Nat → Int32} {ls : Array Slot} {G : ZG} {q1 q2 : Nat → Nat} {oa od n j : Nat} {σ τ : St} {κ : KC} {f : Nat → Int64} {μ : KM} {g : Nat → UInt64} (C : LC p l s m meth c G b L xs) (hn : n < 600) (hj : 8 * j + 8 ≤ L) (hi : Inv n σ τ) (hW : LW G (lwA s) q1 q2 oa od σ κ f τ μ g H) (hS : va_S (lwA s) s.heap H locs)
    (hl : lv_has ls 9 [(5, .int (zI ((8 * j : Nat) : Int))), (0, .ref b), (1, .ref (q1 0)), (2, .ref (q2 0)), (3, .ref oa), (4, .ref od)]) (hR : cells + 1 ≤ room_1.cells ∧ slots + 6 ≤ room_1.slots)
    (kk : LK p l e s m below meth c cells slots Q G b q1 q2 oa od n (8 * j)) : W p l e room_1 s m #[.ref b] below meth c H locs cells slots Q (F0 m 1303 ls []) := by
  have Z := C.1
  have hst := C.2.1
  have hx := Z.1
  have hb := Z.2.1
  have hown := Z.2.2.2.1
  have hW9 := Z.2.2.2.2.1
  obtain ⟨k, bv, σ1, τ1, hI, hCL, hCM⟩ := j_dropRule l G hst hi hn q1 q2 oa κ f μ (xs (8 * j + 1))
  refine lv_aload_n hx hb dL_law_1303 rfl (lv_at hl 2 rfl) ?_
  refine lv_aload_n hx hb dL_law_1304 rfl (lv_at hl 1 rfl) ?_
  refine lv_iload hx hb dL_law_1305 (lv_at hl 0 rfl) ?_
  refine zr_iconst hx hb dL_law_1307 ?_
  refine zr_iadd hx hb dL_law_1308 ?_
  refine zs_ld C hS (8 * j + 1) (by omega) (by omega) dL_law_1309 ?_
  refine lv_aload_n hx hb dL_law_1310 rfl (lv_at hl 4 rfl) ?_
  refine callL (rest := []) Z hW hS hl.1 hCL zW_dropRule km_L_200 rfl rfl ⟨⟨Nat.le_of_ble_eq_true rfl, Nat.le_of_ble_eq_true rfl⟩, hR.1, hR.2⟩ (Nat.le_of_ble_eq_true rfl) dL_law_1311 (fun r u H locs hp hW hS => ?_)
  rw [hp.1]
  refine lv_istore (lv' := [(6, .int (zI k)), (5, .int (zI ((8 * j : Nat) : Int))), (0, .ref b), (1, .ref (q1 0)), (2, .ref (q2 0)), (3, .ref oa), (4, .ref od)]) hx hb dL_law_1314 hl (by decide) rfl (fun ls hl => ?_)
  refine lv_aload_n hx hb dL_law_1316 rfl (lv_at hl 4 rfl) ?_
  refine lv_aload_n hx hb dL_law_1317 rfl (lv_at hl 2 rfl) ?_
  refine lv_iload hx hb dL_law_1318 (lv_at hl 1 rfl) ?_
  refine zr_iconst hx hb dL_law_1320 ?_
  refine zr_iadd hx hb dL_law_1321 ?_
  refine zs_ld C hS (8 * j + 1) (by omega) (by omega) dL_law_1322 ?_
  refine callM_I (rest := []) Z hW hS hl.1 hCM zY_X6_dropRule km_L_202 rfl rfl rfl ⟨⟨Nat.le_of_ble_eq_true rfl, Nat.le_of_ble_eq_true rfl⟩, hR.1, hR.2⟩ (Nat.le_of_ble_eq_true rfl) dL_law_1323 (fun r u2 H locs hp2 hW hS => ?_)
  rw [hp2.1]
  refine lv_istore (lv' := [(7, .int bv), (6, .int (zI k)), (5, .int (zI ((8 * j : Nat) : Int))), (0, .ref b), (1, .ref (q1 0)), (2, .ref (q2 0)), (3, .ref oa), (4, .ref od)]) hx hb dL_law_1326 hl (by decide) rfl (fun ls hl => ?_)
  refine lv_aload_n hx hb dL_law_1328 rfl (lv_at hl 5 rfl) ?_
  refine callM_I (rest := []) Z hW hS hl.1 (lw_thr hp2.2) zY_X6_thrown km_L_143 rfl rfl rfl ⟨⟨Nat.le_of_ble_eq_true rfl, Nat.le_of_ble_eq_true rfl⟩, hR.1, hR.2⟩ (Nat.le_of_ble_eq_true rfl) dL_law_1329 (fun r u3 H locs hp3 hW hS => ?_)
  rw [hp3]
  refine lv_iload hx hb dL_law_1332 (lv_at hl 1 rfl) ?_
  refine lv_icmp_eq (tgt := 1339) hx hb dL_law_1334 (by decide) (fun _ => ?_) (fun h9 => absurd rfl h9)
  refine lv_iload hx hb dL_law_1339 (lv_at hl 1 rfl) ?_
  refine lv_if_ne (tgt := 1356) hx hb dL_law_1341 (by decide) (fun _ => ?_) (fun h0 => ?_)
  · refine lv_goto (tgt := 2607) hx hb dL_law_1356 (by decide) ?_
    exact kk σ1 τ1 _ _ _ _ H locs ls hI hW hS (lv_sub hl [2, 3, 4, 5, 6, 7] rfl)
  · have hv := hp.2 h0
    refine lv_aload_n hx hb dL_law_1344 rfl (lv_at hl 6 rfl) ?_
    refine zr_iconst hx hb dL_law_1345 ?_
    refine ldL Z hW.1.2.1 0 u.2 rfl 0 rfl (by decide) (by decide) dL_law_1346 ?_
    rw [hv]
    refine lv_iload hx hb dL_law_1347 (lv_at hl 0 rfl) ?_
    refine lv_i2l hx hb dL_law_1349 rfl ?_
    refine W.lcmp hx hb dL_law_1350 ?_
    rw [lg_cmp_self]
    refine lv_if_eq (tgt := 1356) hx hb dL_law_1351 (by decide) (fun _ => ?_) (fun h9 => absurd rfl h9)
    refine lv_goto (tgt := 2607) hx hb dL_law_1356 (by decide) ?_
    exact kk σ1 τ1 _ _ _ _ H locs ls hI hW hS (lv_sub hl [2, 3, 4, 5, 6, 7] rfl)
set_option maxHeartbeats 4000000 in
set_option maxRecDepth 100000 in
theorem lw_c17 {p : Program} {l : Launch} {e : Env} {s : State} {m : MethodId} {below : List Frame} {meth : Method} {c : Code} {H : Heap} {locs : List Loc} {cells slots : Nat} {Q : State → Prop} {b L : Nat} {xs : Nat → Int32} {ls : Array Slot} {G : ZG} {q1 q2 : Nat → Nat} {oa od n j : Nat} {σ τ : St} {κ : KC} {f : Nat → Int64} {μ : KM} {g : Nat → UInt64} (C : LC p l s m meth c G b L xs) (hn : n < 600) (hj : 8 * j + 8 ≤ L) (hi : Inv n σ τ) (hW : LW G (lwA s) q1 q2 oa od σ κ f τ μ g H) (hS : va_S (lwA s) s.heap H locs)
    (hl : lv_has ls 9 [(5, .int (zI ((8 * j : Nat) : Int))), (0, .ref b), (1, .ref (q1 0)), (2, .ref (q2 0)), (3, .ref oa), (4, .ref od)]) (hR : cells + 1 ≤ room_1.cells ∧ slots + 6 ≤ room_1.slots)
    (kk : LK p l e s m below meth c cells slots Q G b q1 q2 oa od n (8 * j)) : W p l e room_1 s m #[.ref b] below meth c H locs cells slots Q (F0 m 1359 ls []) := by
  have Z := C.1
  have hst := C.2.1
  have hx := Z.1
  have hb := Z.2.1
  have hown := Z.2.2.2.1
  have hW9 := Z.2.2.2.2.1
  obtain ⟨k, bv, σ1, τ1, hI, hCL, hCM⟩ := j_tagsOf l G hst hi hn q1 q2 oa κ f μ (xs (8 * j + 1))
  refine lv_aload_n hx hb dL_law_1359 rfl (lv_at hl 2 rfl) ?_
  refine lv_aload_n hx hb dL_law_1360 rfl (lv_at hl 1 rfl) ?_
  refine lv_iload hx hb dL_law_1361 (lv_at hl 0 rfl) ?_
  refine zr_iconst hx hb dL_law_1363 ?_
  refine zr_iadd hx hb dL_law_1364 ?_
  refine zs_ld C hS (8 * j + 1) (by omega) (by omega) dL_law_1365 ?_
  refine lv_aload_n hx hb dL_law_1366 rfl (lv_at hl 4 rfl) ?_
  refine callL (rest := []) Z hW hS hl.1 hCL zW_tagsOf km_L_203 rfl rfl ⟨⟨Nat.le_of_ble_eq_true rfl, Nat.le_of_ble_eq_true rfl⟩, hR.1, hR.2⟩ (Nat.le_of_ble_eq_true rfl) dL_law_1367 (fun r u H locs hp hW hS => ?_)
  rw [hp.1]
  refine lv_istore (lv' := [(6, .int (zI k)), (5, .int (zI ((8 * j : Nat) : Int))), (0, .ref b), (1, .ref (q1 0)), (2, .ref (q2 0)), (3, .ref oa), (4, .ref od)]) hx hb dL_law_1370 hl (by decide) rfl (fun ls hl => ?_)
  refine lv_aload_n hx hb dL_law_1372 rfl (lv_at hl 4 rfl) ?_
  refine lv_aload_n hx hb dL_law_1373 rfl (lv_at hl 2 rfl) ?_
  refine lv_iload hx hb dL_law_1374 (lv_at hl 1 rfl) ?_
  refine zr_iconst hx hb dL_law_1376 ?_
  refine zr_iadd hx hb dL_law_1377 ?_
  refine zs_ld C hS (8 * j + 1) (by omega) (by omega) dL_law_1378 ?_
  refine callM_I (rest := []) Z hW hS hl.1 hCM zY_X6_tagsOf km_L_205 rfl rfl rfl ⟨⟨Nat.le_of_ble_eq_true rfl, Nat.le_of_ble_eq_true rfl⟩, hR.1, hR.2⟩ (Nat.le_of_ble_eq_true rfl) dL_law_1379 (fun r u2 H locs hp2 hW hS => ?_)
  rw [hp2.1]
  refine lv_istore (lv' := [(7, .int bv), (6, .int (zI k)), (5, .int (zI ((8 * j : Nat) : Int))), (0, .ref b), (1, .ref (q1 0)), (2, .ref (q2 0)), (3, .ref oa), (4, .ref od)]) hx hb dL_law_1382 hl (by decide) rfl (fun ls hl => ?_)
  refine lv_aload_n hx hb dL_law_1384 rfl (lv_at hl 5 rfl) ?_
  refine callM_I (rest := []) Z hW hS hl.1 (lw_thr hp2.2) zY_X6_thrown km_L_143 rfl rfl rfl ⟨⟨Nat.le_of_ble_eq_true rfl, Nat.le_of_ble_eq_true rfl⟩, hR.1, hR.2⟩ (Nat.le_of_ble_eq_true rfl) dL_law_1385 (fun r u3 H locs hp3 hW hS => ?_)
  rw [hp3]
  refine lv_iload hx hb dL_law_1388 (lv_at hl 1 rfl) ?_
  refine lv_icmp_eq (tgt := 1395) hx hb dL_law_1390 (by decide) (fun _ => ?_) (fun h9 => absurd rfl h9)
  refine lv_iload hx hb dL_law_1395 (lv_at hl 1 rfl) ?_
  refine lv_if_ne (tgt := 1412) hx hb dL_law_1397 (by decide) (fun _ => ?_) (fun h0 => ?_)
  · refine lv_goto (tgt := 2607) hx hb dL_law_1412 (by decide) ?_
    exact kk σ1 τ1 _ _ _ _ H locs ls hI hW hS (lv_sub hl [2, 3, 4, 5, 6, 7] rfl)
  · have hv := hp.2 h0
    refine lv_aload_n hx hb dL_law_1400 rfl (lv_at hl 6 rfl) ?_
    refine zr_iconst hx hb dL_law_1401 ?_
    refine ldL Z hW.1.2.1 0 u.2 rfl 0 rfl (by decide) (by decide) dL_law_1402 ?_
    rw [hv]
    refine lv_iload hx hb dL_law_1403 (lv_at hl 0 rfl) ?_
    refine lv_i2l hx hb dL_law_1405 rfl ?_
    refine W.lcmp hx hb dL_law_1406 ?_
    rw [lg_cmp_self]
    refine lv_if_eq (tgt := 1412) hx hb dL_law_1407 (by decide) (fun _ => ?_) (fun h9 => absurd rfl h9)
    refine lv_goto (tgt := 2607) hx hb dL_law_1412 (by decide) ?_
    exact kk σ1 τ1 _ _ _ _ H locs ls hI hW hS (lv_sub hl [2, 3, 4, 5, 6, 7] rfl)
set_option maxHeartbeats 4000000 in
set_option maxRecDepth 100000 in
theorem lw_c18 {p : Program} {l : Launch} {e : Env} {s : State} {m : MethodId} {below : List Frame} {meth : Method} {c : Code} {H : Heap} {locs : List Loc} {cells slots : Nat} {Q : State → Prop} {b L : Nat} {xs : Nat → Int32} {ls : Array Slot} {G : ZG} {q1 q2 : Nat → Nat} {oa od n j : Nat} {σ τ : St} {κ : KC} {f : Nat → Int64} {μ : KM} {g : Nat → UInt64} (C : LC p l s m meth c G b L xs) (hn : n < 600) (hj : 8 * j + 8 ≤ L) (hi : Inv n σ τ) (hW : LW G (lwA s) q1 q2 oa od σ κ f τ μ g H) (hS : va_S (lwA s) s.heap H locs)
    (hl : lv_has ls 9 [(5, .int (zI ((8 * j : Nat) : Int))), (0, .ref b), (1, .ref (q1 0)), (2, .ref (q2 0)), (3, .ref oa), (4, .ref od)]) (hR : cells + 1 ≤ room_1.cells ∧ slots + 6 ≤ room_1.slots)
    (kk : LK p l e s m below meth c cells slots Q G b q1 q2 oa od n (8 * j)) : W p l e room_1 s m #[.ref b] below meth c H locs cells slots Q (F0 m 1415 ls []) := by
  have Z := C.1
  have hst := C.2.1
  have hx := Z.1
  have hb := Z.2.1
  have hown := Z.2.2.2.1
  have hW9 := Z.2.2.2.2.1
  obtain ⟨k, bv, σ1, τ1, hI, hCL, hCM⟩ := j_isHidden l G hst hi hn q1 q2 oa κ f μ (xs (8 * j + 1))
  refine lv_aload_n hx hb dL_law_1415 rfl (lv_at hl 2 rfl) ?_
  refine lv_aload_n hx hb dL_law_1416 rfl (lv_at hl 1 rfl) ?_
  refine lv_iload hx hb dL_law_1417 (lv_at hl 0 rfl) ?_
  refine zr_iconst hx hb dL_law_1419 ?_
  refine zr_iadd hx hb dL_law_1420 ?_
  refine zs_ld C hS (8 * j + 1) (by omega) (by omega) dL_law_1421 ?_
  refine lv_aload_n hx hb dL_law_1422 rfl (lv_at hl 4 rfl) ?_
  refine callL (rest := []) Z hW hS hl.1 hCL zW_isHidden km_L_206 rfl rfl ⟨⟨Nat.le_of_ble_eq_true rfl, Nat.le_of_ble_eq_true rfl⟩, hR.1, hR.2⟩ (Nat.le_of_ble_eq_true rfl) dL_law_1423 (fun r u H locs hp hW hS => ?_)
  rw [hp.1]
  refine lv_istore (lv' := [(6, .int (zI k)), (5, .int (zI ((8 * j : Nat) : Int))), (0, .ref b), (1, .ref (q1 0)), (2, .ref (q2 0)), (3, .ref oa), (4, .ref od)]) hx hb dL_law_1426 hl (by decide) rfl (fun ls hl => ?_)
  refine lv_aload_n hx hb dL_law_1428 rfl (lv_at hl 4 rfl) ?_
  refine lv_aload_n hx hb dL_law_1429 rfl (lv_at hl 2 rfl) ?_
  refine lv_iload hx hb dL_law_1430 (lv_at hl 1 rfl) ?_
  refine zr_iconst hx hb dL_law_1432 ?_
  refine zr_iadd hx hb dL_law_1433 ?_
  refine zs_ld C hS (8 * j + 1) (by omega) (by omega) dL_law_1434 ?_
  refine callM_I (rest := []) Z hW hS hl.1 hCM zY_X6_isHidden km_L_208 rfl rfl rfl ⟨⟨Nat.le_of_ble_eq_true rfl, Nat.le_of_ble_eq_true rfl⟩, hR.1, hR.2⟩ (Nat.le_of_ble_eq_true rfl) dL_law_1435 (fun r u2 H locs hp2 hW hS => ?_)
  rw [hp2.1]
  refine lv_istore (lv' := [(7, .int (tB bv)), (6, .int (zI k)), (5, .int (zI ((8 * j : Nat) : Int))), (0, .ref b), (1, .ref (q1 0)), (2, .ref (q2 0)), (3, .ref oa), (4, .ref od)]) hx hb dL_law_1438 hl (by decide) rfl (fun ls hl => ?_)
  refine lv_aload_n hx hb dL_law_1440 rfl (lv_at hl 5 rfl) ?_
  refine callM_I (rest := []) Z hW hS hl.1 (lw_thr hp2.2) zY_X6_thrown km_L_143 rfl rfl rfl ⟨⟨Nat.le_of_ble_eq_true rfl, Nat.le_of_ble_eq_true rfl⟩, hR.1, hR.2⟩ (Nat.le_of_ble_eq_true rfl) dL_law_1441 (fun r u3 H locs hp3 hW hS => ?_)
  rw [hp3]
  refine lv_iload hx hb dL_law_1444 (lv_at hl 1 rfl) ?_
  refine lv_icmp_eq (tgt := 1451) hx hb dL_law_1446 (by decide) (fun _ => ?_) (fun h9 => absurd rfl h9)
  refine lv_iload hx hb dL_law_1451 (lv_at hl 1 rfl) ?_
  refine lv_if_ne (tgt := 1475) hx hb dL_law_1453 (by decide) (fun _ => ?_) (fun h0 => ?_)
  · refine lv_goto (tgt := 2607) hx hb dL_law_1475 (by decide) ?_
    exact kk σ1 τ1 _ _ _ _ H locs ls hI hW hS (lv_sub hl [2, 3, 4, 5, 6, 7] rfl)
  · have hv := hp.2 h0
    refine lv_aload_n hx hb dL_law_1456 rfl (lv_at hl 6 rfl) ?_
    refine zr_iconst hx hb dL_law_1457 ?_
    refine ldL Z hW.1.2.1 0 u.2 rfl 0 rfl (by decide) (by decide) dL_law_1458 ?_
    rw [hv]
    refine lv_iload hx hb dL_law_1459 (lv_at hl 0 rfl) ?_
    refine zb_eq (tgt := 1468) hx hb dL_law_1461 (by decide) (fun c9 => ?_) (fun c9 => ?_)
    · rw [c9]
      refine lv_lconst (v := 0) hx hb dL_law_1468 (by decide) ?_
      show W p l e room_1 s m #[.ref b] below meth c H locs (cells + 1) (slots + 6) Q (F0 m 1469 ls [.long 0, .long 0])
      refine W.lcmp hx hb dL_law_1469 ?_
      rw [lg_cmp_self]
      refine lv_if_eq (tgt := 1475) hx hb dL_law_1470 (by decide) (fun _ => ?_) (fun h9 => absurd rfl h9)
      refine lv_goto (tgt := 2607) hx hb dL_law_1475 (by decide) ?_
      exact kk σ1 τ1 _ _ _ _ H locs ls hI hW hS (lv_sub hl [2, 3, 4, 5, 6, 7] rfl)
    · rw [c9]
      refine lv_lconst (v := 1) hx hb dL_law_1464 (by decide) ?_
      refine lv_goto (tgt := 1469) hx hb dL_law_1465 (by decide) ?_
      show W p l e room_1 s m #[.ref b] below meth c H locs (cells + 1) (slots + 6) Q (F0 m 1469 ls [.long 1, .long 1])
      refine W.lcmp hx hb dL_law_1469 ?_
      rw [lg_cmp_self]
      refine lv_if_eq (tgt := 1475) hx hb dL_law_1470 (by decide) (fun _ => ?_) (fun h9 => absurd rfl h9)
      refine lv_goto (tgt := 2607) hx hb dL_law_1475 (by decide) ?_
      exact kk σ1 τ1 _ _ _ _ H locs ls hI hW hS (lv_sub hl [2, 3, 4, 5, 6, 7] rfl)
set_option maxHeartbeats 4000000 in
set_option maxRecDepth 100000 in
theorem lw_c19 {p : Program} {l : Launch} {e : Env} {s : State} {m : MethodId} {below : List Frame} {meth : Method} {c : Code} {H : Heap} {locs : List Loc} {cells slots : Nat} {Q : State → Prop} {b L : Nat} {xs : Nat → Int32} {ls : Array Slot} {G : ZG} {q1 q2 : Nat → Nat} {oa od n j : Nat} {σ τ : St} {κ : KC} {f : Nat → Int64} {μ : KM} {g : Nat → UInt64} (C : LC p l s m meth c G b L xs) (hn : n < 600) (hj : 8 * j + 8 ≤ L) (hi : Inv n σ τ) (hW : LW G (lwA s) q1 q2 oa od σ κ f τ μ g H) (hS : va_S (lwA s) s.heap H locs)
    (hl : lv_has ls 9 [(5, .int (zI ((8 * j : Nat) : Int))), (0, .ref b), (1, .ref (q1 0)), (2, .ref (q2 0)), (3, .ref oa), (4, .ref od)]) (hR : cells + 1 ≤ room_1.cells ∧ slots + 6 ≤ room_1.slots)
    (kk : LK p l e s m below meth c cells slots Q G b q1 q2 oa od n (8 * j)) : W p l e room_1 s m #[.ref b] below meth c H locs cells slots Q (F0 m 1478 ls []) := by
  have Z := C.1
  have hst := C.2.1
  have hx := Z.1
  have hb := Z.2.1
  have hown := Z.2.2.2.1
  have hW9 := Z.2.2.2.2.1
  obtain ⟨k, bv, σ1, τ1, hI, hCL, hCM⟩ := j_matches l G hst hi hn q1 q2 oa κ f μ (xs (8 * j + 1))
  refine lv_aload_n hx hb dL_law_1478 rfl (lv_at hl 2 rfl) ?_
  refine lv_aload_n hx hb dL_law_1479 rfl (lv_at hl 1 rfl) ?_
  refine lv_iload hx hb dL_law_1480 (lv_at hl 0 rfl) ?_
  refine zr_iconst hx hb dL_law_1482 ?_
  refine zr_iadd hx hb dL_law_1483 ?_
  refine zs_ld C hS (8 * j + 1) (by omega) (by omega) dL_law_1484 ?_
  refine lv_aload_n hx hb dL_law_1485 rfl (lv_at hl 4 rfl) ?_
  refine callL (rest := []) Z hW hS hl.1 hCL zW_matches km_L_209 rfl rfl ⟨⟨Nat.le_of_ble_eq_true rfl, Nat.le_of_ble_eq_true rfl⟩, hR.1, hR.2⟩ (Nat.le_of_ble_eq_true rfl) dL_law_1486 (fun r u H locs hp hW hS => ?_)
  rw [hp.1]
  refine lv_istore (lv' := [(6, .int (zI k)), (5, .int (zI ((8 * j : Nat) : Int))), (0, .ref b), (1, .ref (q1 0)), (2, .ref (q2 0)), (3, .ref oa), (4, .ref od)]) hx hb dL_law_1489 hl (by decide) rfl (fun ls hl => ?_)
  refine lv_aload_n hx hb dL_law_1491 rfl (lv_at hl 4 rfl) ?_
  refine lv_aload_n hx hb dL_law_1492 rfl (lv_at hl 2 rfl) ?_
  refine lv_iload hx hb dL_law_1493 (lv_at hl 1 rfl) ?_
  refine zr_iconst hx hb dL_law_1495 ?_
  refine zr_iadd hx hb dL_law_1496 ?_
  refine zs_ld C hS (8 * j + 1) (by omega) (by omega) dL_law_1497 ?_
  refine callM_I (rest := []) Z hW hS hl.1 hCM zY_X6_matches km_L_211 rfl rfl rfl ⟨⟨Nat.le_of_ble_eq_true rfl, Nat.le_of_ble_eq_true rfl⟩, hR.1, hR.2⟩ (Nat.le_of_ble_eq_true rfl) dL_law_1498 (fun r u2 H locs hp2 hW hS => ?_)
  rw [hp2.1]
  refine lv_istore (lv' := [(7, .int bv), (6, .int (zI k)), (5, .int (zI ((8 * j : Nat) : Int))), (0, .ref b), (1, .ref (q1 0)), (2, .ref (q2 0)), (3, .ref oa), (4, .ref od)]) hx hb dL_law_1501 hl (by decide) rfl (fun ls hl => ?_)
  refine lv_aload_n hx hb dL_law_1503 rfl (lv_at hl 5 rfl) ?_
  refine callM_I (rest := []) Z hW hS hl.1 (lw_thr hp2.2) zY_X6_thrown km_L_143 rfl rfl rfl ⟨⟨Nat.le_of_ble_eq_true rfl, Nat.le_of_ble_eq_true rfl⟩, hR.1, hR.2⟩ (Nat.le_of_ble_eq_true rfl) dL_law_1504 (fun r u3 H locs hp3 hW hS => ?_)
  rw [hp3]
  refine lv_iload hx hb dL_law_1507 (lv_at hl 1 rfl) ?_
  refine lv_icmp_eq (tgt := 1514) hx hb dL_law_1509 (by decide) (fun _ => ?_) (fun h9 => absurd rfl h9)
  refine lv_iload hx hb dL_law_1514 (lv_at hl 1 rfl) ?_
  refine lv_if_ne (tgt := 1531) hx hb dL_law_1516 (by decide) (fun _ => ?_) (fun h0 => ?_)
  · refine lv_goto (tgt := 2607) hx hb dL_law_1531 (by decide) ?_
    exact kk σ1 τ1 _ _ _ _ H locs ls hI hW hS (lv_sub hl [2, 3, 4, 5, 6, 7] rfl)
  · have hv := hp.2 h0
    refine lv_aload_n hx hb dL_law_1519 rfl (lv_at hl 6 rfl) ?_
    refine zr_iconst hx hb dL_law_1520 ?_
    refine ldL Z hW.1.2.1 0 u.2 rfl 0 rfl (by decide) (by decide) dL_law_1521 ?_
    rw [hv]
    refine lv_iload hx hb dL_law_1522 (lv_at hl 0 rfl) ?_
    refine lv_i2l hx hb dL_law_1524 rfl ?_
    refine W.lcmp hx hb dL_law_1525 ?_
    rw [lg_cmp_self]
    refine lv_if_eq (tgt := 1531) hx hb dL_law_1526 (by decide) (fun _ => ?_) (fun h9 => absurd rfl h9)
    refine lv_goto (tgt := 2607) hx hb dL_law_1531 (by decide) ?_
    exact kk σ1 τ1 _ _ _ _ H locs ls hI hW hS (lv_sub hl [2, 3, 4, 5, 6, 7] rfl)
set_option maxHeartbeats 4000000 in
set_option maxRecDepth 100000 in
theorem lw_c20 {p : Program} {l : Launch} {e : Env} {s : State} {m : MethodId} {below : List Frame} {meth : Method} {c : Code} {H : Heap} {locs : List Loc} {cells slots : Nat} {Q : State → Prop} {b L : Nat} {xs : Nat → Int32} {ls : Array Slot} {G : ZG} {q1 q2 : Nat → Nat} {oa od n j : Nat} {σ τ : St} {κ : KC} {f : Nat → Int64} {μ : KM} {g : Nat → UInt64} (C : LC p l s m meth c G b L xs) (hn : n < 600) (hj : 8 * j + 8 ≤ L) (hi : Inv n σ τ) (hW : LW G (lwA s) q1 q2 oa od σ κ f τ μ g H) (hS : va_S (lwA s) s.heap H locs)
    (hl : lv_has ls 9 [(5, .int (zI ((8 * j : Nat) : Int))), (0, .ref b), (1, .ref (q1 0)), (2, .ref (q2 0)), (3, .ref oa), (4, .ref od)]) (hR : cells + 1 ≤ room_1.cells ∧ slots + 6 ≤ room_1.slots)
    (kk : LK p l e s m below meth c cells slots Q G b q1 q2 oa od n (8 * j)) : W p l e room_1 s m #[.ref b] below meth c H locs cells slots Q (F0 m 1534 ls []) := by
  have Z := C.1
  have hst := C.2.1
  have hx := Z.1
  have hb := Z.2.1
  have hown := Z.2.2.2.1
  have hW9 := Z.2.2.2.2.1
  obtain ⟨k, bv, σ1, τ1, hI, hCL, hCM⟩ := j_addRiver l G hst hi hn q1 q2 oa κ f μ (xs (8 * j + 1)) (xs (8 * j + 2))
  refine lv_aload_n hx hb dL_law_1534 rfl (lv_at hl 2 rfl) ?_
  refine lv_aload_n hx hb dL_law_1535 rfl (lv_at hl 1 rfl) ?_
  refine lv_iload hx hb dL_law_1536 (lv_at hl 0 rfl) ?_
  refine zr_iconst hx hb dL_law_1538 ?_
  refine zr_iadd hx hb dL_law_1539 ?_
  refine zs_ld C hS (8 * j + 1) (by omega) (by omega) dL_law_1540 ?_
  refine lv_aload_n hx hb dL_law_1541 rfl (lv_at hl 1 rfl) ?_
  refine lv_iload hx hb dL_law_1542 (lv_at hl 0 rfl) ?_
  refine zr_iconst hx hb dL_law_1544 ?_
  refine zr_iadd hx hb dL_law_1545 ?_
  refine zs_ld C hS (8 * j + 2) (by omega) (by omega) dL_law_1546 ?_
  refine lv_aload_n hx hb dL_law_1547 rfl (lv_at hl 4 rfl) ?_
  refine callL (rest := []) Z hW hS hl.1 hCL zW_addRiver km_L_212 rfl rfl ⟨⟨Nat.le_of_ble_eq_true rfl, Nat.le_of_ble_eq_true rfl⟩, hR.1, hR.2⟩ (Nat.le_of_ble_eq_true rfl) dL_law_1548 (fun r u H locs hp hW hS => ?_)
  rw [hp.1]
  refine lv_istore (lv' := [(6, .int (zI k)), (5, .int (zI ((8 * j : Nat) : Int))), (0, .ref b), (1, .ref (q1 0)), (2, .ref (q2 0)), (3, .ref oa), (4, .ref od)]) hx hb dL_law_1551 hl (by decide) rfl (fun ls hl => ?_)
  refine lv_aload_n hx hb dL_law_1553 rfl (lv_at hl 4 rfl) ?_
  refine lv_aload_n hx hb dL_law_1554 rfl (lv_at hl 2 rfl) ?_
  refine lv_iload hx hb dL_law_1555 (lv_at hl 1 rfl) ?_
  refine zr_iconst hx hb dL_law_1557 ?_
  refine zr_iadd hx hb dL_law_1558 ?_
  refine zs_ld C hS (8 * j + 1) (by omega) (by omega) dL_law_1559 ?_
  refine lv_aload_n hx hb dL_law_1560 rfl (lv_at hl 2 rfl) ?_
  refine lv_iload hx hb dL_law_1561 (lv_at hl 1 rfl) ?_
  refine zr_iconst hx hb dL_law_1563 ?_
  refine zr_iadd hx hb dL_law_1564 ?_
  refine zs_ld C hS (8 * j + 2) (by omega) (by omega) dL_law_1565 ?_
  refine callM_I (rest := []) Z hW hS hl.1 hCM zY_X6_addRiver km_L_214 rfl rfl rfl ⟨⟨Nat.le_of_ble_eq_true rfl, Nat.le_of_ble_eq_true rfl⟩, hR.1, hR.2⟩ (Nat.le_of_ble_eq_true rfl) dL_law_1566 (fun r u2 H locs hp2 hW hS => ?_)
  rw [hp2.1]
  refine lv_istore (lv' := [(7, .int bv), (6, .int (zI k)), (5, .int (zI ((8 * j : Nat) : Int))), (0, .ref b), (1, .ref (q1 0)), (2, .ref (q2 0)), (3, .ref oa), (4, .ref od)]) hx hb dL_law_1569 hl (by decide) rfl (fun ls hl => ?_)
  refine lv_aload_n hx hb dL_law_1571 rfl (lv_at hl 5 rfl) ?_
  refine callM_I (rest := []) Z hW hS hl.1 (lw_thr hp2.2) zY_X6_thrown km_L_143 rfl rfl rfl ⟨⟨Nat.le_of_ble_eq_true rfl, Nat.le_of_ble_eq_true rfl⟩, hR.1, hR.2⟩ (Nat.le_of_ble_eq_true rfl) dL_law_1572 (fun r u3 H locs hp3 hW hS => ?_)
  rw [hp3]
  refine lv_iload hx hb dL_law_1575 (lv_at hl 1 rfl) ?_
  refine lv_icmp_eq (tgt := 1582) hx hb dL_law_1577 (by decide) (fun _ => ?_) (fun h9 => absurd rfl h9)
  refine lv_iload hx hb dL_law_1582 (lv_at hl 1 rfl) ?_
  refine lv_if_ne (tgt := 1599) hx hb dL_law_1584 (by decide) (fun _ => ?_) (fun h0 => ?_)
  · refine lv_goto (tgt := 2607) hx hb dL_law_1599 (by decide) ?_
    exact kk σ1 τ1 _ _ _ _ H locs ls hI hW hS (lv_sub hl [2, 3, 4, 5, 6, 7] rfl)
  · have hv := hp.2 h0
    refine lv_aload_n hx hb dL_law_1587 rfl (lv_at hl 6 rfl) ?_
    refine zr_iconst hx hb dL_law_1588 ?_
    refine ldL Z hW.1.2.1 0 u.2 rfl 0 rfl (by decide) (by decide) dL_law_1589 ?_
    rw [hv]
    refine lv_iload hx hb dL_law_1590 (lv_at hl 0 rfl) ?_
    refine lv_i2l hx hb dL_law_1592 rfl ?_
    refine W.lcmp hx hb dL_law_1593 ?_
    rw [lg_cmp_self]
    refine lv_if_eq (tgt := 1599) hx hb dL_law_1594 (by decide) (fun _ => ?_) (fun h9 => absurd rfl h9)
    refine lv_goto (tgt := 2607) hx hb dL_law_1599 (by decide) ?_
    exact kk σ1 τ1 _ _ _ _ H locs ls hI hW hS (lv_sub hl [2, 3, 4, 5, 6, 7] rfl)
set_option maxHeartbeats 4000000 in
set_option maxRecDepth 100000 in
theorem lw_c21 {p : Program} {l : Launch} {e : Env} {s : State} {m : MethodId} {below : List Frame} {meth : Method} {c : Code} {H : Heap} {locs : List Loc} {cells slots : Nat} {Q : State → Prop} {b L : Nat} {xs : Nat → Int32} {ls : Array Slot} {G : ZG} {q1 q2 : Nat → Nat} {oa od n j : Nat} {σ τ : St} {κ : KC} {f : Nat → Int64} {μ : KM} {g : Nat → UInt64} (C : LC p l s m meth c G b L xs) (hn : n < 600) (hj : 8 * j + 8 ≤ L) (hi : Inv n σ τ) (hW : LW G (lwA s) q1 q2 oa od σ κ f τ μ g H) (hS : va_S (lwA s) s.heap H locs)
    (hl : lv_has ls 9 [(5, .int (zI ((8 * j : Nat) : Int))), (0, .ref b), (1, .ref (q1 0)), (2, .ref (q2 0)), (3, .ref oa), (4, .ref od)]) (hR : cells + 1 ≤ room_1.cells ∧ slots + 6 ≤ room_1.slots)
    (kk : LK p l e s m below meth c cells slots Q G b q1 q2 oa od n (8 * j)) : W p l e room_1 s m #[.ref b] below meth c H locs cells slots Q (F0 m 1602 ls []) := by
  have Z := C.1
  have hst := C.2.1
  have hx := Z.1
  have hb := Z.2.1
  have hown := Z.2.2.2.1
  have hW9 := Z.2.2.2.2.1
  obtain ⟨k, bv, σ1, τ1, hI, hCL, hCM⟩ := j_riverSize l G hst hi hn q1 q2 oa κ f μ (xs (8 * j + 1))
  refine lv_aload_n hx hb dL_law_1602 rfl (lv_at hl 2 rfl) ?_
  refine lv_aload_n hx hb dL_law_1603 rfl (lv_at hl 1 rfl) ?_
  refine lv_iload hx hb dL_law_1604 (lv_at hl 0 rfl) ?_
  refine zr_iconst hx hb dL_law_1606 ?_
  refine zr_iadd hx hb dL_law_1607 ?_
  refine zs_ld C hS (8 * j + 1) (by omega) (by omega) dL_law_1608 ?_
  refine lv_aload_n hx hb dL_law_1609 rfl (lv_at hl 4 rfl) ?_
  refine callL (rest := []) Z hW hS hl.1 hCL zW_riverSize km_L_215 rfl rfl ⟨⟨Nat.le_of_ble_eq_true rfl, Nat.le_of_ble_eq_true rfl⟩, hR.1, hR.2⟩ (Nat.le_of_ble_eq_true rfl) dL_law_1610 (fun r u H locs hp hW hS => ?_)
  rw [hp.1]
  refine lv_istore (lv' := [(6, .int (zI k)), (5, .int (zI ((8 * j : Nat) : Int))), (0, .ref b), (1, .ref (q1 0)), (2, .ref (q2 0)), (3, .ref oa), (4, .ref od)]) hx hb dL_law_1613 hl (by decide) rfl (fun ls hl => ?_)
  refine lv_aload_n hx hb dL_law_1615 rfl (lv_at hl 4 rfl) ?_
  refine lv_aload_n hx hb dL_law_1616 rfl (lv_at hl 2 rfl) ?_
  refine lv_iload hx hb dL_law_1617 (lv_at hl 1 rfl) ?_
  refine zr_iconst hx hb dL_law_1619 ?_
  refine zr_iadd hx hb dL_law_1620 ?_
  refine zs_ld C hS (8 * j + 1) (by omega) (by omega) dL_law_1621 ?_
  refine callM_I (rest := []) Z hW hS hl.1 hCM zY_X6_riverSize km_L_217 rfl rfl rfl ⟨⟨Nat.le_of_ble_eq_true rfl, Nat.le_of_ble_eq_true rfl⟩, hR.1, hR.2⟩ (Nat.le_of_ble_eq_true rfl) dL_law_1622 (fun r u2 H locs hp2 hW hS => ?_)
  rw [hp2.1]
  refine lv_istore (lv' := [(7, .int bv), (6, .int (zI k)), (5, .int (zI ((8 * j : Nat) : Int))), (0, .ref b), (1, .ref (q1 0)), (2, .ref (q2 0)), (3, .ref oa), (4, .ref od)]) hx hb dL_law_1625 hl (by decide) rfl (fun ls hl => ?_)
  refine lv_aload_n hx hb dL_law_1627 rfl (lv_at hl 5 rfl) ?_
  refine callM_I (rest := []) Z hW hS hl.1 (lw_thr hp2.2) zY_X6_thrown km_L_143 rfl rfl rfl ⟨⟨Nat.le_of_ble_eq_true rfl, Nat.le_of_ble_eq_true rfl⟩, hR.1, hR.2⟩ (Nat.le_of_ble_eq_true rfl) dL_law_1628 (fun r u3 H locs hp3 hW hS => ?_)
  rw [hp3]
  refine lv_iload hx hb dL_law_1631 (lv_at hl 1 rfl) ?_
  refine lv_icmp_eq (tgt := 1638) hx hb dL_law_1633 (by decide) (fun _ => ?_) (fun h9 => absurd rfl h9)
  refine lv_iload hx hb dL_law_1638 (lv_at hl 1 rfl) ?_
  refine lv_if_ne (tgt := 1655) hx hb dL_law_1640 (by decide) (fun _ => ?_) (fun h0 => ?_)
  · refine lv_goto (tgt := 2607) hx hb dL_law_1655 (by decide) ?_
    exact kk σ1 τ1 _ _ _ _ H locs ls hI hW hS (lv_sub hl [2, 3, 4, 5, 6, 7] rfl)
  · have hv := hp.2 h0
    refine lv_aload_n hx hb dL_law_1643 rfl (lv_at hl 6 rfl) ?_
    refine zr_iconst hx hb dL_law_1644 ?_
    refine ldL Z hW.1.2.1 0 u.2 rfl 0 rfl (by decide) (by decide) dL_law_1645 ?_
    rw [hv]
    refine lv_iload hx hb dL_law_1646 (lv_at hl 0 rfl) ?_
    refine lv_i2l hx hb dL_law_1648 rfl ?_
    refine W.lcmp hx hb dL_law_1649 ?_
    rw [lg_cmp_self]
    refine lv_if_eq (tgt := 1655) hx hb dL_law_1650 (by decide) (fun _ => ?_) (fun h9 => absurd rfl h9)
    refine lv_goto (tgt := 2607) hx hb dL_law_1655 (by decide) ?_
    exact kk σ1 τ1 _ _ _ _ H locs ls hI hW hS (lv_sub hl [2, 3, 4, 5, 6, 7] rfl)
set_option maxHeartbeats 4000000 in
set_option maxRecDepth 100000 in
theorem lw_c22 {p : Program} {l : Launch} {e : Env} {s : State} {m : MethodId} {below : List Frame} {meth : Method} {c : Code} {H : Heap} {locs : List Loc} {cells slots : Nat} {Q : State → Prop} {b L : Nat} {xs : Nat → Int32} {ls : Array Slot} {G : ZG} {q1 q2 : Nat → Nat} {oa od n j : Nat} {σ τ : St} {κ : KC} {f : Nat → Int64} {μ : KM} {g : Nat → UInt64} (C : LC p l s m meth c G b L xs) (hn : n < 600) (hj : 8 * j + 8 ≤ L) (hi : Inv n σ τ) (hW : LW G (lwA s) q1 q2 oa od σ κ f τ μ g H) (hS : va_S (lwA s) s.heap H locs)
    (hl : lv_has ls 9 [(5, .int (zI ((8 * j : Nat) : Int))), (0, .ref b), (1, .ref (q1 0)), (2, .ref (q2 0)), (3, .ref oa), (4, .ref od)]) (hR : cells + 1 ≤ room_1.cells ∧ slots + 6 ≤ room_1.slots)
    (kk : LK p l e s m below meth c cells slots Q G b q1 q2 oa od n (8 * j)) : W p l e room_1 s m #[.ref b] below meth c H locs cells slots Q (F0 m 1658 ls []) := by
  have Z := C.1
  have hst := C.2.1
  have hx := Z.1
  have hb := Z.2.1
  have hown := Z.2.2.2.1
  have hW9 := Z.2.2.2.2.1
  obtain ⟨k, bv, σ1, τ1, hI, hCL, hCM⟩ := j_riverAt l G hst hi hn q1 q2 oa κ f μ (xs (8 * j + 1)) (xs (8 * j + 2))
  refine lv_aload_n hx hb dL_law_1658 rfl (lv_at hl 2 rfl) ?_
  refine lv_aload_n hx hb dL_law_1659 rfl (lv_at hl 1 rfl) ?_
  refine lv_iload hx hb dL_law_1660 (lv_at hl 0 rfl) ?_
  refine zr_iconst hx hb dL_law_1662 ?_
  refine zr_iadd hx hb dL_law_1663 ?_
  refine zs_ld C hS (8 * j + 1) (by omega) (by omega) dL_law_1664 ?_
  refine lv_aload_n hx hb dL_law_1665 rfl (lv_at hl 1 rfl) ?_
  refine lv_iload hx hb dL_law_1666 (lv_at hl 0 rfl) ?_
  refine zr_iconst hx hb dL_law_1668 ?_
  refine zr_iadd hx hb dL_law_1669 ?_
  refine zs_ld C hS (8 * j + 2) (by omega) (by omega) dL_law_1670 ?_
  refine lv_aload_n hx hb dL_law_1671 rfl (lv_at hl 4 rfl) ?_
  refine callL (rest := []) Z hW hS hl.1 hCL zW_riverAt km_L_218 rfl rfl ⟨⟨Nat.le_of_ble_eq_true rfl, Nat.le_of_ble_eq_true rfl⟩, hR.1, hR.2⟩ (Nat.le_of_ble_eq_true rfl) dL_law_1672 (fun r u H locs hp hW hS => ?_)
  rw [hp.1]
  refine lv_istore (lv' := [(6, .int (zI k)), (5, .int (zI ((8 * j : Nat) : Int))), (0, .ref b), (1, .ref (q1 0)), (2, .ref (q2 0)), (3, .ref oa), (4, .ref od)]) hx hb dL_law_1675 hl (by decide) rfl (fun ls hl => ?_)
  refine lv_aload_n hx hb dL_law_1677 rfl (lv_at hl 4 rfl) ?_
  refine lv_aload_n hx hb dL_law_1678 rfl (lv_at hl 2 rfl) ?_
  refine lv_iload hx hb dL_law_1679 (lv_at hl 1 rfl) ?_
  refine zr_iconst hx hb dL_law_1681 ?_
  refine zr_iadd hx hb dL_law_1682 ?_
  refine zs_ld C hS (8 * j + 1) (by omega) (by omega) dL_law_1683 ?_
  refine lv_aload_n hx hb dL_law_1684 rfl (lv_at hl 2 rfl) ?_
  refine lv_iload hx hb dL_law_1685 (lv_at hl 1 rfl) ?_
  refine zr_iconst hx hb dL_law_1687 ?_
  refine zr_iadd hx hb dL_law_1688 ?_
  refine zs_ld C hS (8 * j + 2) (by omega) (by omega) dL_law_1689 ?_
  refine callM_I (rest := []) Z hW hS hl.1 hCM zY_X6_riverAt km_L_220 rfl rfl rfl ⟨⟨Nat.le_of_ble_eq_true rfl, Nat.le_of_ble_eq_true rfl⟩, hR.1, hR.2⟩ (Nat.le_of_ble_eq_true rfl) dL_law_1690 (fun r u2 H locs hp2 hW hS => ?_)
  rw [hp2.1]
  refine lv_istore (lv' := [(7, .int bv), (6, .int (zI k)), (5, .int (zI ((8 * j : Nat) : Int))), (0, .ref b), (1, .ref (q1 0)), (2, .ref (q2 0)), (3, .ref oa), (4, .ref od)]) hx hb dL_law_1693 hl (by decide) rfl (fun ls hl => ?_)
  refine lv_aload_n hx hb dL_law_1695 rfl (lv_at hl 5 rfl) ?_
  refine callM_I (rest := []) Z hW hS hl.1 (lw_thr hp2.2) zY_X6_thrown km_L_143 rfl rfl rfl ⟨⟨Nat.le_of_ble_eq_true rfl, Nat.le_of_ble_eq_true rfl⟩, hR.1, hR.2⟩ (Nat.le_of_ble_eq_true rfl) dL_law_1696 (fun r u3 H locs hp3 hW hS => ?_)
  rw [hp3]
  refine lv_iload hx hb dL_law_1699 (lv_at hl 1 rfl) ?_
  refine lv_icmp_eq (tgt := 1706) hx hb dL_law_1701 (by decide) (fun _ => ?_) (fun h9 => absurd rfl h9)
  refine lv_iload hx hb dL_law_1706 (lv_at hl 1 rfl) ?_
  refine lv_if_ne (tgt := 1723) hx hb dL_law_1708 (by decide) (fun _ => ?_) (fun h0 => ?_)
  · refine lv_goto (tgt := 2607) hx hb dL_law_1723 (by decide) ?_
    exact kk σ1 τ1 _ _ _ _ H locs ls hI hW hS (lv_sub hl [2, 3, 4, 5, 6, 7] rfl)
  · have hv := hp.2 h0
    refine lv_aload_n hx hb dL_law_1711 rfl (lv_at hl 6 rfl) ?_
    refine zr_iconst hx hb dL_law_1712 ?_
    refine ldL Z hW.1.2.1 0 u.2 rfl 0 rfl (by decide) (by decide) dL_law_1713 ?_
    rw [hv]
    refine lv_iload hx hb dL_law_1714 (lv_at hl 0 rfl) ?_
    refine lv_i2l hx hb dL_law_1716 rfl ?_
    refine W.lcmp hx hb dL_law_1717 ?_
    rw [lg_cmp_self]
    refine lv_if_eq (tgt := 1723) hx hb dL_law_1718 (by decide) (fun _ => ?_) (fun h9 => absurd rfl h9)
    refine lv_goto (tgt := 2607) hx hb dL_law_1723 (by decide) ?_
    exact kk σ1 τ1 _ _ _ _ H locs ls hI hW hS (lv_sub hl [2, 3, 4, 5, 6, 7] rfl)
set_option maxHeartbeats 4000000 in
set_option maxRecDepth 100000 in
theorem lw_c23 {p : Program} {l : Launch} {e : Env} {s : State} {m : MethodId} {below : List Frame} {meth : Method} {c : Code} {H : Heap} {locs : List Loc} {cells slots : Nat} {Q : State → Prop} {b L : Nat} {xs : Nat → Int32} {ls : Array Slot} {G : ZG} {q1 q2 : Nat → Nat} {oa od n j : Nat} {σ τ : St} {κ : KC} {f : Nat → Int64} {μ : KM} {g : Nat → UInt64} (C : LC p l s m meth c G b L xs) (hn : n < 600) (hj : 8 * j + 8 ≤ L) (hi : Inv n σ τ) (hW : LW G (lwA s) q1 q2 oa od σ κ f τ μ g H) (hS : va_S (lwA s) s.heap H locs)
    (hl : lv_has ls 9 [(5, .int (zI ((8 * j : Nat) : Int))), (0, .ref b), (1, .ref (q1 0)), (2, .ref (q2 0)), (3, .ref oa), (4, .ref od)]) (hR : cells + 1 ≤ room_1.cells ∧ slots + 6 ≤ room_1.slots)
    (kk : LK p l e s m below meth c cells slots Q G b q1 q2 oa od n (8 * j)) : W p l e room_1 s m #[.ref b] below meth c H locs cells slots Q (F0 m 1726 ls []) := by
  have Z := C.1
  have hst := C.2.1
  have hx := Z.1
  have hb := Z.2.1
  have hown := Z.2.2.2.1
  have hW9 := Z.2.2.2.2.1
  obtain ⟨k, bv, σ1, τ1, hI, hCL, hCM⟩ := j_riverAtAnew l G hst hi hn q1 q2 oa κ f μ (xs (8 * j + 1)) (xs (8 * j + 2))
  refine lv_aload_n hx hb dL_law_1726 rfl (lv_at hl 2 rfl) ?_
  refine lv_aload_n hx hb dL_law_1727 rfl (lv_at hl 1 rfl) ?_
  refine lv_iload hx hb dL_law_1728 (lv_at hl 0 rfl) ?_
  refine zr_iconst hx hb dL_law_1730 ?_
  refine zr_iadd hx hb dL_law_1731 ?_
  refine zs_ld C hS (8 * j + 1) (by omega) (by omega) dL_law_1732 ?_
  refine lv_aload_n hx hb dL_law_1733 rfl (lv_at hl 1 rfl) ?_
  refine lv_iload hx hb dL_law_1734 (lv_at hl 0 rfl) ?_
  refine zr_iconst hx hb dL_law_1736 ?_
  refine zr_iadd hx hb dL_law_1737 ?_
  refine zs_ld C hS (8 * j + 2) (by omega) (by omega) dL_law_1738 ?_
  refine lv_aload_n hx hb dL_law_1739 rfl (lv_at hl 4 rfl) ?_
  refine callL (rest := []) Z hW hS hl.1 hCL zW_riverAtAnew km_L_221 rfl rfl ⟨⟨Nat.le_of_ble_eq_true rfl, Nat.le_of_ble_eq_true rfl⟩, hR.1, hR.2⟩ (Nat.le_of_ble_eq_true rfl) dL_law_1740 (fun r u H locs hp hW hS => ?_)
  rw [hp.1]
  refine lv_istore (lv' := [(6, .int (zI k)), (5, .int (zI ((8 * j : Nat) : Int))), (0, .ref b), (1, .ref (q1 0)), (2, .ref (q2 0)), (3, .ref oa), (4, .ref od)]) hx hb dL_law_1743 hl (by decide) rfl (fun ls hl => ?_)
  refine lv_aload_n hx hb dL_law_1745 rfl (lv_at hl 4 rfl) ?_
  refine lv_aload_n hx hb dL_law_1746 rfl (lv_at hl 2 rfl) ?_
  refine lv_iload hx hb dL_law_1747 (lv_at hl 1 rfl) ?_
  refine zr_iconst hx hb dL_law_1749 ?_
  refine zr_iadd hx hb dL_law_1750 ?_
  refine zs_ld C hS (8 * j + 1) (by omega) (by omega) dL_law_1751 ?_
  refine lv_aload_n hx hb dL_law_1752 rfl (lv_at hl 2 rfl) ?_
  refine lv_iload hx hb dL_law_1753 (lv_at hl 1 rfl) ?_
  refine zr_iconst hx hb dL_law_1755 ?_
  refine zr_iadd hx hb dL_law_1756 ?_
  refine zs_ld C hS (8 * j + 2) (by omega) (by omega) dL_law_1757 ?_
  refine callM_I (rest := []) Z hW hS hl.1 hCM zY_X6_riverAtAnew km_L_223 rfl rfl rfl ⟨⟨Nat.le_of_ble_eq_true rfl, Nat.le_of_ble_eq_true rfl⟩, hR.1, hR.2⟩ (Nat.le_of_ble_eq_true rfl) dL_law_1758 (fun r u2 H locs hp2 hW hS => ?_)
  rw [hp2.1]
  refine lv_istore (lv' := [(7, .int bv), (6, .int (zI k)), (5, .int (zI ((8 * j : Nat) : Int))), (0, .ref b), (1, .ref (q1 0)), (2, .ref (q2 0)), (3, .ref oa), (4, .ref od)]) hx hb dL_law_1761 hl (by decide) rfl (fun ls hl => ?_)
  refine lv_aload_n hx hb dL_law_1763 rfl (lv_at hl 5 rfl) ?_
  refine callM_I (rest := []) Z hW hS hl.1 (lw_thr hp2.2) zY_X6_thrown km_L_143 rfl rfl rfl ⟨⟨Nat.le_of_ble_eq_true rfl, Nat.le_of_ble_eq_true rfl⟩, hR.1, hR.2⟩ (Nat.le_of_ble_eq_true rfl) dL_law_1764 (fun r u3 H locs hp3 hW hS => ?_)
  rw [hp3]
  refine lv_iload hx hb dL_law_1767 (lv_at hl 1 rfl) ?_
  refine lv_icmp_eq (tgt := 1774) hx hb dL_law_1769 (by decide) (fun _ => ?_) (fun h9 => absurd rfl h9)
  refine lv_iload hx hb dL_law_1774 (lv_at hl 1 rfl) ?_
  refine lv_if_ne (tgt := 1791) hx hb dL_law_1776 (by decide) (fun _ => ?_) (fun h0 => ?_)
  · refine lv_goto (tgt := 2607) hx hb dL_law_1791 (by decide) ?_
    exact kk σ1 τ1 _ _ _ _ H locs ls hI hW hS (lv_sub hl [2, 3, 4, 5, 6, 7] rfl)
  · have hv := hp.2 h0
    refine lv_aload_n hx hb dL_law_1779 rfl (lv_at hl 6 rfl) ?_
    refine zr_iconst hx hb dL_law_1780 ?_
    refine ldL Z hW.1.2.1 0 u.2 rfl 0 rfl (by decide) (by decide) dL_law_1781 ?_
    rw [hv]
    refine lv_iload hx hb dL_law_1782 (lv_at hl 0 rfl) ?_
    refine lv_i2l hx hb dL_law_1784 rfl ?_
    refine W.lcmp hx hb dL_law_1785 ?_
    rw [lg_cmp_self]
    refine lv_if_eq (tgt := 1791) hx hb dL_law_1786 (by decide) (fun _ => ?_) (fun h9 => absurd rfl h9)
    refine lv_goto (tgt := 2607) hx hb dL_law_1791 (by decide) ?_
    exact kk σ1 τ1 _ _ _ _ H locs ls hI hW hS (lv_sub hl [2, 3, 4, 5, 6, 7] rfl)
set_option maxHeartbeats 4000000 in
set_option maxRecDepth 100000 in
theorem lw_c24 {p : Program} {l : Launch} {e : Env} {s : State} {m : MethodId} {below : List Frame} {meth : Method} {c : Code} {H : Heap} {locs : List Loc} {cells slots : Nat} {Q : State → Prop} {b L : Nat} {xs : Nat → Int32} {ls : Array Slot} {G : ZG} {q1 q2 : Nat → Nat} {oa od n j : Nat} {σ τ : St} {κ : KC} {f : Nat → Int64} {μ : KM} {g : Nat → UInt64} (C : LC p l s m meth c G b L xs) (hn : n < 600) (hj : 8 * j + 8 ≤ L) (hi : Inv n σ τ) (hW : LW G (lwA s) q1 q2 oa od σ κ f τ μ g H) (hS : va_S (lwA s) s.heap H locs)
    (hl : lv_has ls 9 [(5, .int (zI ((8 * j : Nat) : Int))), (0, .ref b), (1, .ref (q1 0)), (2, .ref (q2 0)), (3, .ref oa), (4, .ref od)]) (hR : cells + 1 ≤ room_1.cells ∧ slots + 6 ≤ room_1.slots)
    (kk : LK p l e s m below meth c cells slots Q G b q1 q2 oa od n (8 * j)) : W p l e room_1 s m #[.ref b] below meth c H locs cells slots Q (F0 m 1794 ls []) := by
  have Z := C.1
  have hst := C.2.1
  have hx := Z.1
  have hb := Z.2.1
  have hown := Z.2.2.2.1
  have hW9 := Z.2.2.2.2.1
  obtain ⟨k, bv, σ1, τ1, hI, hCL, hCM⟩ := j_rankOf l G hst hi hn q1 q2 oa κ f μ (xs (8 * j + 1)) (xs (8 * j + 2))
  refine lv_aload_n hx hb dL_law_1794 rfl (lv_at hl 2 rfl) ?_
  refine lv_aload_n hx hb dL_law_1795 rfl (lv_at hl 1 rfl) ?_
  refine lv_iload hx hb dL_law_1796 (lv_at hl 0 rfl) ?_
  refine zr_iconst hx hb dL_law_1798 ?_
  refine zr_iadd hx hb dL_law_1799 ?_
  refine zs_ld C hS (8 * j + 1) (by omega) (by omega) dL_law_1800 ?_
  refine lv_aload_n hx hb dL_law_1801 rfl (lv_at hl 1 rfl) ?_
  refine lv_iload hx hb dL_law_1802 (lv_at hl 0 rfl) ?_
  refine zr_iconst hx hb dL_law_1804 ?_
  refine zr_iadd hx hb dL_law_1805 ?_
  refine zs_ld C hS (8 * j + 2) (by omega) (by omega) dL_law_1806 ?_
  refine lv_aload_n hx hb dL_law_1807 rfl (lv_at hl 4 rfl) ?_
  refine callL (rest := []) Z hW hS hl.1 hCL zW_rankOf km_L_224 rfl rfl ⟨⟨Nat.le_of_ble_eq_true rfl, Nat.le_of_ble_eq_true rfl⟩, hR.1, hR.2⟩ (Nat.le_of_ble_eq_true rfl) dL_law_1808 (fun r u H locs hp hW hS => ?_)
  rw [hp.1]
  refine lv_istore (lv' := [(6, .int (zI k)), (5, .int (zI ((8 * j : Nat) : Int))), (0, .ref b), (1, .ref (q1 0)), (2, .ref (q2 0)), (3, .ref oa), (4, .ref od)]) hx hb dL_law_1811 hl (by decide) rfl (fun ls hl => ?_)
  refine lv_aload_n hx hb dL_law_1813 rfl (lv_at hl 4 rfl) ?_
  refine lv_aload_n hx hb dL_law_1814 rfl (lv_at hl 2 rfl) ?_
  refine lv_iload hx hb dL_law_1815 (lv_at hl 1 rfl) ?_
  refine zr_iconst hx hb dL_law_1817 ?_
  refine zr_iadd hx hb dL_law_1818 ?_
  refine zs_ld C hS (8 * j + 1) (by omega) (by omega) dL_law_1819 ?_
  refine lv_aload_n hx hb dL_law_1820 rfl (lv_at hl 2 rfl) ?_
  refine lv_iload hx hb dL_law_1821 (lv_at hl 1 rfl) ?_
  refine zr_iconst hx hb dL_law_1823 ?_
  refine zr_iadd hx hb dL_law_1824 ?_
  refine zs_ld C hS (8 * j + 2) (by omega) (by omega) dL_law_1825 ?_
  refine callM_I (rest := []) Z hW hS hl.1 hCM zY_X6_rankOf km_L_226 rfl rfl rfl ⟨⟨Nat.le_of_ble_eq_true rfl, Nat.le_of_ble_eq_true rfl⟩, hR.1, hR.2⟩ (Nat.le_of_ble_eq_true rfl) dL_law_1826 (fun r u2 H locs hp2 hW hS => ?_)
  rw [hp2.1]
  refine lv_istore (lv' := [(7, .int bv), (6, .int (zI k)), (5, .int (zI ((8 * j : Nat) : Int))), (0, .ref b), (1, .ref (q1 0)), (2, .ref (q2 0)), (3, .ref oa), (4, .ref od)]) hx hb dL_law_1829 hl (by decide) rfl (fun ls hl => ?_)
  refine lv_aload_n hx hb dL_law_1831 rfl (lv_at hl 5 rfl) ?_
  refine callM_I (rest := []) Z hW hS hl.1 (lw_thr hp2.2) zY_X6_thrown km_L_143 rfl rfl rfl ⟨⟨Nat.le_of_ble_eq_true rfl, Nat.le_of_ble_eq_true rfl⟩, hR.1, hR.2⟩ (Nat.le_of_ble_eq_true rfl) dL_law_1832 (fun r u3 H locs hp3 hW hS => ?_)
  rw [hp3]
  refine lv_iload hx hb dL_law_1835 (lv_at hl 1 rfl) ?_
  refine lv_icmp_eq (tgt := 1842) hx hb dL_law_1837 (by decide) (fun _ => ?_) (fun h9 => absurd rfl h9)
  refine lv_iload hx hb dL_law_1842 (lv_at hl 1 rfl) ?_
  refine lv_if_ne (tgt := 1859) hx hb dL_law_1844 (by decide) (fun _ => ?_) (fun h0 => ?_)
  · refine lv_goto (tgt := 2607) hx hb dL_law_1859 (by decide) ?_
    exact kk σ1 τ1 _ _ _ _ H locs ls hI hW hS (lv_sub hl [2, 3, 4, 5, 6, 7] rfl)
  · have hv := hp.2 h0
    refine lv_aload_n hx hb dL_law_1847 rfl (lv_at hl 6 rfl) ?_
    refine zr_iconst hx hb dL_law_1848 ?_
    refine ldL Z hW.1.2.1 0 u.2 rfl 0 rfl (by decide) (by decide) dL_law_1849 ?_
    rw [hv]
    refine lv_iload hx hb dL_law_1850 (lv_at hl 0 rfl) ?_
    refine lv_i2l hx hb dL_law_1852 rfl ?_
    refine W.lcmp hx hb dL_law_1853 ?_
    rw [lg_cmp_self]
    refine lv_if_eq (tgt := 1859) hx hb dL_law_1854 (by decide) (fun _ => ?_) (fun h9 => absurd rfl h9)
    refine lv_goto (tgt := 2607) hx hb dL_law_1859 (by decide) ?_
    exact kk σ1 τ1 _ _ _ _ H locs ls hI hW hS (lv_sub hl [2, 3, 4, 5, 6, 7] rfl)
set_option maxHeartbeats 4000000 in
set_option maxRecDepth 100000 in
theorem lw_c25 {p : Program} {l : Launch} {e : Env} {s : State} {m : MethodId} {below : List Frame} {meth : Method} {c : Code} {H : Heap} {locs : List Loc} {cells slots : Nat} {Q : State → Prop} {b L : Nat} {xs : Nat → Int32} {ls : Array Slot} {G : ZG} {q1 q2 : Nat → Nat} {oa od n j : Nat} {σ τ : St} {κ : KC} {f : Nat → Int64} {μ : KM} {g : Nat → UInt64} (C : LC p l s m meth c G b L xs) (hn : n < 600) (hj : 8 * j + 8 ≤ L) (hi : Inv n σ τ) (hW : LW G (lwA s) q1 q2 oa od σ κ f τ μ g H) (hS : va_S (lwA s) s.heap H locs)
    (hl : lv_has ls 9 [(5, .int (zI ((8 * j : Nat) : Int))), (0, .ref b), (1, .ref (q1 0)), (2, .ref (q2 0)), (3, .ref oa), (4, .ref od)]) (hR : cells + 1 ≤ room_1.cells ∧ slots + 6 ≤ room_1.slots)
    (kk : LK p l e s m below meth c cells slots Q G b q1 q2 oa od n (8 * j)) : W p l e room_1 s m #[.ref b] below meth c H locs cells slots Q (F0 m 1862 ls []) := by
  have Z := C.1
  have hst := C.2.1
  have hx := Z.1
  have hb := Z.2.1
  have hown := Z.2.2.2.1
  have hW9 := Z.2.2.2.2.1
  obtain ⟨k, bv, σ1, τ1, hI, hCL, hCM⟩ := j_unread l G hst hi hn q1 q2 oa κ f μ (xs (8 * j + 1))
  refine lv_aload_n hx hb dL_law_1862 rfl (lv_at hl 2 rfl) ?_
  refine lv_aload_n hx hb dL_law_1863 rfl (lv_at hl 1 rfl) ?_
  refine lv_iload hx hb dL_law_1864 (lv_at hl 0 rfl) ?_
  refine zr_iconst hx hb dL_law_1866 ?_
  refine zr_iadd hx hb dL_law_1867 ?_
  refine zs_ld C hS (8 * j + 1) (by omega) (by omega) dL_law_1868 ?_
  refine lv_aload_n hx hb dL_law_1869 rfl (lv_at hl 4 rfl) ?_
  refine callL (rest := []) Z hW hS hl.1 hCL zW_unread km_L_227 rfl rfl ⟨⟨Nat.le_of_ble_eq_true rfl, Nat.le_of_ble_eq_true rfl⟩, hR.1, hR.2⟩ (Nat.le_of_ble_eq_true rfl) dL_law_1870 (fun r u H locs hp hW hS => ?_)
  rw [hp.1]
  refine lv_istore (lv' := [(6, .int (zI k)), (5, .int (zI ((8 * j : Nat) : Int))), (0, .ref b), (1, .ref (q1 0)), (2, .ref (q2 0)), (3, .ref oa), (4, .ref od)]) hx hb dL_law_1873 hl (by decide) rfl (fun ls hl => ?_)
  refine lv_aload_n hx hb dL_law_1875 rfl (lv_at hl 4 rfl) ?_
  refine lv_aload_n hx hb dL_law_1876 rfl (lv_at hl 2 rfl) ?_
  refine lv_iload hx hb dL_law_1877 (lv_at hl 1 rfl) ?_
  refine zr_iconst hx hb dL_law_1879 ?_
  refine zr_iadd hx hb dL_law_1880 ?_
  refine zs_ld C hS (8 * j + 1) (by omega) (by omega) dL_law_1881 ?_
  refine callM_I (rest := []) Z hW hS hl.1 hCM zY_X6_unread km_L_229 rfl rfl rfl ⟨⟨Nat.le_of_ble_eq_true rfl, Nat.le_of_ble_eq_true rfl⟩, hR.1, hR.2⟩ (Nat.le_of_ble_eq_true rfl) dL_law_1882 (fun r u2 H locs hp2 hW hS => ?_)
  rw [hp2.1]
  refine lv_istore (lv' := [(7, .int bv), (6, .int (zI k)), (5, .int (zI ((8 * j : Nat) : Int))), (0, .ref b), (1, .ref (q1 0)), (2, .ref (q2 0)), (3, .ref oa), (4, .ref od)]) hx hb dL_law_1885 hl (by decide) rfl (fun ls hl => ?_)
  refine lv_aload_n hx hb dL_law_1887 rfl (lv_at hl 5 rfl) ?_
  refine callM_I (rest := []) Z hW hS hl.1 (lw_thr hp2.2) zY_X6_thrown km_L_143 rfl rfl rfl ⟨⟨Nat.le_of_ble_eq_true rfl, Nat.le_of_ble_eq_true rfl⟩, hR.1, hR.2⟩ (Nat.le_of_ble_eq_true rfl) dL_law_1888 (fun r u3 H locs hp3 hW hS => ?_)
  rw [hp3]
  refine lv_iload hx hb dL_law_1891 (lv_at hl 1 rfl) ?_
  refine lv_icmp_eq (tgt := 1898) hx hb dL_law_1893 (by decide) (fun _ => ?_) (fun h9 => absurd rfl h9)
  refine lv_iload hx hb dL_law_1898 (lv_at hl 1 rfl) ?_
  refine lv_if_ne (tgt := 1915) hx hb dL_law_1900 (by decide) (fun _ => ?_) (fun h0 => ?_)
  · refine lv_goto (tgt := 2607) hx hb dL_law_1915 (by decide) ?_
    exact kk σ1 τ1 _ _ _ _ H locs ls hI hW hS (lv_sub hl [2, 3, 4, 5, 6, 7] rfl)
  · have hv := hp.2 h0
    refine lv_aload_n hx hb dL_law_1903 rfl (lv_at hl 6 rfl) ?_
    refine zr_iconst hx hb dL_law_1904 ?_
    refine ldL Z hW.1.2.1 0 u.2 rfl 0 rfl (by decide) (by decide) dL_law_1905 ?_
    rw [hv]
    refine lv_iload hx hb dL_law_1906 (lv_at hl 0 rfl) ?_
    refine lv_i2l hx hb dL_law_1908 rfl ?_
    refine W.lcmp hx hb dL_law_1909 ?_
    rw [lg_cmp_self]
    refine lv_if_eq (tgt := 1915) hx hb dL_law_1910 (by decide) (fun _ => ?_) (fun h9 => absurd rfl h9)
    refine lv_goto (tgt := 2607) hx hb dL_law_1915 (by decide) ?_
    exact kk σ1 τ1 _ _ _ _ H locs ls hI hW hS (lv_sub hl [2, 3, 4, 5, 6, 7] rfl)
