theorem dX12_init_1029 : decode cX12_init 1029 = .ok (.aload_n 0, 1) := by decide +kernel
theorem dX12_init_1030 : decode cX12_init 1030 = .ok (.sipush 240, 3) := by decide +kernel
theorem dX12_init_1033 : decode cX12_init 1033 = .ok (.newarray .int, 2) := by decide +kernel
theorem dX12_init_1035 : decode cX12_init 1035 = .ok (.putfield 384, 3) := by decide +kernel
theorem dX12_init_1038 : decode cX12_init 1038 = .ok (.aload_n 0, 1) := by decide +kernel
theorem dX12_init_1039 : decode cX12_init 1039 = .ok (.sipush 240, 3) := by decide +kernel
theorem dX12_init_1042 : decode cX12_init 1042 = .ok (.newarray .int, 2) := by decide +kernel
theorem dX12_init_1044 : decode cX12_init 1044 = .ok (.putfield 387, 3) := by decide +kernel
theorem dX12_init_1047 : decode cX12_init 1047 = .ok (.aload_n 0, 1) := by decide +kernel
theorem dX12_init_1048 : decode cX12_init 1048 = .ok (.sipush 240, 3) := by decide +kernel
theorem dX12_init_1051 : decode cX12_init 1051 = .ok (.newarray .int, 2) := by decide +kernel
theorem dX12_init_1053 : decode cX12_init 1053 = .ok (.putfield 390, 3) := by decide +kernel
theorem dX12_init_1056 : decode cX12_init 1056 = .ok (.aload_n 0, 1) := by decide +kernel
theorem dX12_init_1057 : decode cX12_init 1057 = .ok (.bipush 8, 2) := by decide +kernel
theorem dX12_init_1059 : decode cX12_init 1059 = .ok (.newarray .int, 2) := by decide +kernel
theorem dX12_init_1061 : decode cX12_init 1061 = .ok (.putfield 393, 3) := by decide +kernel
theorem dX12_init_1064 : decode cX12_init 1064 = .ok (.aload_n 0, 1) := by decide +kernel
theorem dX12_init_1065 : decode cX12_init 1065 = .ok (.sipush 144, 3) := by decide +kernel
theorem dX12_init_1068 : decode cX12_init 1068 = .ok (.newarray .int, 2) := by decide +kernel
theorem dX12_init_1070 : decode cX12_init 1070 = .ok (.putfield 396, 3) := by decide +kernel
theorem dX12_init_1073 : decode cX12_init 1073 = .ok (.aload_n 0, 1) := by decide +kernel
theorem dX12_init_1074 : decode cX12_init 1074 = .ok (.sipush 144, 3) := by decide +kernel
theorem dX12_init_1077 : decode cX12_init 1077 = .ok (.newarray .int, 2) := by decide +kernel
theorem dX12_init_1079 : decode cX12_init 1079 = .ok (.putfield 399, 3) := by decide +kernel
theorem dX12_init_1082 : decode cX12_init 1082 = .ok (.aload_n 0, 1) := by decide +kernel
theorem dX12_init_1083 : decode cX12_init 1083 = .ok (.bipush 61, 2) := by decide +kernel
theorem dX12_init_1085 : decode cX12_init 1085 = .ok (.newarray .int, 2) := by decide +kernel
theorem dX12_init_1087 : decode cX12_init 1087 = .ok (.putfield 402, 3) := by decide +kernel
theorem dX12_init_1090 : decode cX12_init 1090 = .ok (.aload_n 0, 1) := by decide +kernel
theorem dX12_init_1091 : decode cX12_init 1091 = .ok (.bipush 61, 2) := by decide +kernel
theorem dX12_init_1093 : decode cX12_init 1093 = .ok (.newarray .int, 2) := by decide +kernel
theorem dX12_init_1095 : decode cX12_init 1095 = .ok (.putfield 405, 3) := by decide +kernel
theorem dX12_init_1098 : decode cX12_init 1098 = .ok (.aload_n 0, 1) := by decide +kernel
theorem dX12_init_1099 : decode cX12_init 1099 = .ok (.bipush 61, 2) := by decide +kernel
theorem dX12_init_1101 : decode cX12_init 1101 = .ok (.newarray .long, 2) := by decide +kernel
theorem dX12_init_1103 : decode cX12_init 1103 = .ok (.putfield 408, 3) := by decide +kernel
theorem dX12_init_1106 : decode cX12_init 1106 = .ok (.aload_n 0, 1) := by decide +kernel
theorem dX12_init_1107 : decode cX12_init 1107 = .ok (.bipush 61, 2) := by decide +kernel
theorem dX12_init_1109 : decode cX12_init 1109 = .ok (.newarray .int, 2) := by decide +kernel
theorem dX12_init_1111 : decode cX12_init 1111 = .ok (.putfield 411, 3) := by decide +kernel
theorem dX12_init_1114 : decode cX12_init 1114 = .ok (.aload_n 0, 1) := by decide +kernel
theorem dX12_init_1115 : decode cX12_init 1115 = .ok (.sipush 6710, 3) := by decide +kernel
theorem dX12_init_1118 : decode cX12_init 1118 = .ok (.newarray .byte, 2) := by decide +kernel
theorem dX12_init_1120 : decode cX12_init 1120 = .ok (.putfield 414, 3) := by decide +kernel
theorem dX12_init_1123 : decode cX12_init 1123 = .ok (.aload_n 0, 1) := by decide +kernel
theorem dX12_init_1124 : decode cX12_init 1124 = .ok (.bipush 61, 2) := by decide +kernel
theorem dX12_init_1126 : decode cX12_init 1126 = .ok (.newarray .int, 2) := by decide +kernel
theorem dX12_init_1128 : decode cX12_init 1128 = .ok (.putfield 417, 3) := by decide +kernel
theorem dX12_init_1131 : decode cX12_init 1131 = .ok (.aload_n 0, 1) := by decide +kernel
theorem dX12_init_1132 : decode cX12_init 1132 = .ok (.sipush 252, 3) := by decide +kernel
theorem dX12_init_1135 : decode cX12_init 1135 = .ok (.newarray .byte, 2) := by decide +kernel
theorem dX12_init_1137 : decode cX12_init 1137 = .ok (.putfield 420, 3) := by decide +kernel
theorem dX12_init_1140 : decode cX12_init 1140 = .ok (.aload_n 0, 1) := by decide +kernel
theorem dX12_init_1141 : decode cX12_init 1141 = .ok (.ldc_w 356, 3) := by decide +kernel
theorem dX12_init_1144 : decode cX12_init 1144 = .ok (.newarray .byte, 2) := by decide +kernel
theorem dX12_init_1146 : decode cX12_init 1146 = .ok (.putfield 423, 3) := by decide +kernel
theorem dX12_init_1149 : decode cX12_init 1149 = .ok (.aload_n 0, 1) := by decide +kernel
theorem dX12_init_1150 : decode cX12_init 1150 = .ok (.sipush 186, 3) := by decide +kernel
theorem dX12_init_1153 : decode cX12_init 1153 = .ok (.newarray .int, 2) := by decide +kernel
theorem dX12_init_1155 : decode cX12_init 1155 = .ok (.putfield 426, 3) := by decide +kernel
theorem dX12_init_1158 : decode cX12_init 1158 = .ok (.aload_n 0, 1) := by decide +kernel
theorem dX12_init_1159 : decode cX12_init 1159 = .ok (.sipush 252, 3) := by decide +kernel
theorem dX12_init_1162 : decode cX12_init 1162 = .ok (.newarray .byte, 2) := by decide +kernel
theorem dX12_init_1164 : decode cX12_init 1164 = .ok (.putfield 429, 3) := by decide +kernel
theorem dX12_init_1167 : decode cX12_init 1167 = .ok (.aload_n 0, 1) := by decide +kernel
theorem dX12_init_1168 : decode cX12_init 1168 = .ok (.bipush 21, 2) := by decide +kernel
theorem dX12_init_1170 : decode cX12_init 1170 = .ok (.newarray .int, 2) := by decide +kernel
theorem dX12_init_1172 : decode cX12_init 1172 = .ok (.putfield 432, 3) := by decide +kernel
theorem dX12_init_1175 : decode cX12_init 1175 = .ok (.aload_n 0, 1) := by decide +kernel
theorem dX12_init_1176 : decode cX12_init 1176 = .ok (.sipush 600, 3) := by decide +kernel
theorem dX12_init_1179 : decode cX12_init 1179 = .ok (.newarray .byte, 2) := by decide +kernel
theorem dX12_init_1181 : decode cX12_init 1181 = .ok (.putfield 435, 3) := by decide +kernel
theorem dX12_init_1184 : decode cX12_init 1184 = .ok (.aload_n 0, 1) := by decide +kernel
theorem dX12_init_1185 : decode cX12_init 1185 = .ok (.sipush 1300, 3) := by decide +kernel
theorem dX12_init_1188 : decode cX12_init 1188 = .ok (.newarray .int, 2) := by decide +kernel
theorem dX12_init_1190 : decode cX12_init 1190 = .ok (.putfield 438, 3) := by decide +kernel
theorem dX12_init_1193 : decode cX12_init 1193 = .ok (.aload_n 0, 1) := by decide +kernel
theorem dX12_init_1194 : decode cX12_init 1194 = .ok (.sipush 240, 3) := by decide +kernel
theorem dX12_init_1197 : decode cX12_init 1197 = .ok (.newarray .byte, 2) := by decide +kernel
theorem dX12_init_1199 : decode cX12_init 1199 = .ok (.putfield 441, 3) := by decide +kernel
theorem dX12_init_1202 : decode cX12_init 1202 = .ok (.aload_n 0, 1) := by decide +kernel
theorem dX12_init_1203 : decode cX12_init 1203 = .ok (.bipush 8, 2) := by decide +kernel
theorem dX12_init_1205 : decode cX12_init 1205 = .ok (.newarray .int, 2) := by decide +kernel
theorem dX12_init_1207 : decode cX12_init 1207 = .ok (.putfield 444, 3) := by decide +kernel
theorem dX12_init_1210 : decode cX12_init 1210 = .ok (.aload_n 0, 1) := by decide +kernel
theorem dX12_init_1211 : decode cX12_init 1211 = .ok (.bipush 8, 2) := by decide +kernel
theorem dX12_init_1213 : decode cX12_init 1213 = .ok (.newarray .int, 2) := by decide +kernel
theorem dX12_init_1215 : decode cX12_init 1215 = .ok (.putfield 447, 3) := by decide +kernel
theorem dX12_init_1218 : decode cX12_init 1218 = .ok (.aload_n 0, 1) := by decide +kernel
theorem dX12_init_1219 : decode cX12_init 1219 = .ok (.bipush 8, 2) := by decide +kernel
theorem dX12_init_1221 : decode cX12_init 1221 = .ok (.newarray .int, 2) := by decide +kernel
theorem dX12_init_1223 : decode cX12_init 1223 = .ok (.putfield 450, 3) := by decide +kernel
theorem dX12_init_1226 : decode cX12_init 1226 = .ok (.aload_n 0, 1) := by decide +kernel
theorem dX12_init_1227 : decode cX12_init 1227 = .ok (.bipush 8, 2) := by decide +kernel
theorem dX12_init_1229 : decode cX12_init 1229 = .ok (.newarray .boolean, 2) := by decide +kernel
theorem dX12_init_1231 : decode cX12_init 1231 = .ok (.putfield 453, 3) := by decide +kernel
theorem dX12_init_1234 : decode cX12_init 1234 = .ok (.aload_n 0, 1) := by decide +kernel
theorem dX12_init_1235 : decode cX12_init 1235 = .ok (.sipush 4100, 3) := by decide +kernel
theorem dX12_init_1238 : decode cX12_init 1238 = .ok (.newarray .byte, 2) := by decide +kernel
theorem dX12_init_1240 : decode cX12_init 1240 = .ok (.putfield 456, 3) := by decide +kernel
theorem dX12_init_1243 : decode cX12_init 1243 = .ok (.aload_n 0, 1) := by decide +kernel
theorem dX12_init_1244 : decode cX12_init 1244 = .ok (.iconst (-1), 1) := by decide +kernel
theorem dX12_init_1245 : decode cX12_init 1245 = .ok (.putfield 459, 3) := by decide +kernel
theorem dX12_init_1248 : decode cX12_init 1248 = .ok (.aload_n 0, 1) := by decide +kernel
theorem dX12_init_1249 : decode cX12_init 1249 = .ok (.sipush 3100, 3) := by decide +kernel
theorem dX12_init_1252 : decode cX12_init 1252 = .ok (.newarray .byte, 2) := by decide +kernel
theorem dX12_init_1254 : decode cX12_init 1254 = .ok (.putfield 463, 3) := by decide +kernel
theorem dX12_init_1257 : decode cX12_init 1257 = .ok (.aload_n 0, 1) := by decide +kernel
theorem dX12_init_1258 : decode cX12_init 1258 = .ok (.ldc_w 356, 3) := by decide +kernel
theorem dX12_init_1261 : decode cX12_init 1261 = .ok (.newarray .byte, 2) := by decide +kernel
theorem dX12_init_1263 : decode cX12_init 1263 = .ok (.putfield 466, 3) := by decide +kernel
theorem dX12_init_1266 : decode cX12_init 1266 = .ok (.aload_n 0, 1) := by decide +kernel
theorem dX12_init_1267 : decode cX12_init 1267 = .ok (.sipush 186, 3) := by decide +kernel
theorem dX12_init_1270 : decode cX12_init 1270 = .ok (.newarray .int, 2) := by decide +kernel
theorem dX12_init_1272 : decode cX12_init 1272 = .ok (.putfield 469, 3) := by decide +kernel
theorem dX12_init_1275 : decode cX12_init 1275 = .ok (.aload_n 0, 1) := by decide +kernel
theorem dX12_init_1276 : decode cX12_init 1276 = .ok (.sipush 256, 3) := by decide +kernel
theorem dX12_init_1279 : decode cX12_init 1279 = .ok (.newarray .byte, 2) := by decide +kernel
theorem dX12_init_1281 : decode cX12_init 1281 = .ok (.putfield 472, 3) := by decide +kernel
theorem dX12_init_1284 : decode cX12_init 1284 = .ok (.aload_n 0, 1) := by decide +kernel
theorem dX12_init_1285 : decode cX12_init 1285 = .ok (.iconst (-1), 1) := by decide +kernel
theorem dX12_init_1286 : decode cX12_init 1286 = .ok (.putfield 475, 3) := by decide +kernel
theorem dX12_init_1289 : decode cX12_init 1289 = .ok (.aload_n 0, 1) := by decide +kernel
theorem dX12_init_1290 : decode cX12_init 1290 = .ok (.sipush 300, 3) := by decide +kernel
theorem dX12_init_1293 : decode cX12_init 1293 = .ok (.newarray .byte, 2) := by decide +kernel
theorem dX12_init_1295 : decode cX12_init 1295 = .ok (.putfield 478, 3) := by decide +kernel
theorem dX12_init_1298 : decode cX12_init 1298 = .ok (.aload_n 0, 1) := by decide +kernel
theorem dX12_init_1299 : decode cX12_init 1299 = .ok (.sipush 260, 3) := by decide +kernel
theorem dX12_init_1302 : decode cX12_init 1302 = .ok (.newarray .byte, 2) := by decide +kernel
theorem dX12_init_1304 : decode cX12_init 1304 = .ok (.putfield 481, 3) := by decide +kernel
theorem dX12_init_1307 : decode cX12_init 1307 = .ok (.aload_n 0, 1) := by decide +kernel
theorem dX12_init_1308 : decode cX12_init 1308 = .ok (.bipush 17, 2) := by decide +kernel
theorem dX12_init_1310 : decode cX12_init 1310 = .ok (.newarray .long, 2) := by decide +kernel
theorem dX12_init_1312 : decode cX12_init 1312 = .ok (.putfield 484, 3) := by decide +kernel
set_option maxHeartbeats 8000000 in
set_option maxRecDepth 100000 in
/-- a piece of MumpsHouseModel() -/
theorem sg_12 {p : Program} {l : Launch} {e : Env} {R : Room} {s : State} {m : MethodId} {args : Array Value} {below : List Frame} {meth : Method} {c : Code} {Q : State → Prop} {A : Nat → Prop} {D : va_G} {x : Nat → ClassId} {h0 : Nat} (hx : p.tables.exec = Jvm.exec) (hb : c.code = cX12_init) (hts : ∀ w ∈ (.code yX12_init cX12_init 2 none :: zW : List Cond), w.before args s = true) (hown : s.vm.findClass RX12 = some m.cls) (hin : meth.name = "<init>") (hZ : zK x D s) (hA : ∀ q, s.heap.size ≤ q → A q) (hc : 130 ≤ R.cells) (hsl : 1977325 ≤ R.slots) {rest : va_W} {f : Nat → Value} {H : Heap} {locs : List Loc} {ls : Array Slot} (hP : va_P D vwCl ((h0, .inr (12, zf 212 f)) :: rest) H) (hD : va_D A ((h0, .inr (12, zf 212 f)) :: rest)) (hS : va_S A s.heap H locs) (hl : lv_has ls 2 [(0, .ref h0)])
    (kk : ∀ (f' : Nat → Value) (q_1 q_5 q_9 q_13 q_17 q_21 q_25 q_29 q_33 q_37 : Nat) (H : Heap) (locs : List Loc), f' 155 = .ref q_1 → f' 156 = .ref q_5 → f' 157 = .ref q_9 → f' 158 = .ref q_13 → f' 159 = .ref q_17 → f' 160 = .ref q_21 → f' 162 = .ref q_25 → f' 163 = .ref q_29 → f' 164 = .ref q_33 → f' 165 = .ref q_37 → (∀ j, (∀ k ∈ [155, 156, 157, 158, 159, 160, 162, 163, 164, 165], j ≠ k) → f' j = f j) → va_P D vwCl ((h0, .inr (12, zf 212 f')) :: (rest ++ [(q_1, .inl (x 0, 240, .inl (fun _ => 0))), (q_5, .inl (x 0, 240, .inl (fun _ => 0))), (q_9, .inl (x 0, 240, .inl (fun _ => 0))), (q_13, .inl (x 0, 8, .inl (fun _ => 0))), (q_17, .inl (x 0, 144, .inl (fun _ => 0))), (q_21, .inl (x 0, 144, .inl (fun _ => 0))), (q_25, .inl (x 0, 61, .inl (fun _ => 0))), (q_29, .inl (x 0, 61, .inl (fun _ => 0))), (q_33, .inl (x 2, 61, .inr (.inl (fun _ => 0)))), (q_37, .inl (x 0, 61, .inl (fun _ => 0)))])) H → va_D A ((h0, .inr (12, zf 212 f')) :: (rest ++ [(q_1, .inl (x 0, 240, .inl (fun _ => 0))), (q_5, .inl (x 0, 240, .inl (fun _ => 0))), (q_9, .inl (x 0, 240, .inl (fun _ => 0))), (q_13, .inl (x 0, 8, .inl (fun _ => 0))), (q_17, .inl (x 0, 144, .inl (fun _ => 0))), (q_21, .inl (x 0, 144, .inl (fun _ => 0))), (q_25, .inl (x 0, 61, .inl (fun _ => 0))), (q_29, .inl (x 0, 61, .inl (fun _ => 0))), (q_33, .inl (x 2, 61, .inr (.inl (fun _ => 0)))), (q_37, .inl (x 0, 61, .inl (fun _ => 0)))])) → va_S A s.heap H locs → lv_has ls 2 [(0, .ref h0)] → W p l e R s m args below meth c H locs 130 1977325 Q (F0 m 1114 ls [])) :
    W p l e R s m args below meth c H locs 120 1976065 Q (F0 m 1029 ls []) := by
  have hK := hZ.1
  refine lv_aload_n hx hb dX12_init_1029 rfl (lv_at hl 0 rfl) ?_
  refine lv_sipush (v := 240) hx hb dX12_init_1030 (by decide) ?_
  refine z_newa (atype := .int) (ty := .int) (a0 := (240, .inl (fun _ => 0))) hx hb (hts _ (zm_2 _)) rfl hK 0 rfl hP hD hS hA (fun cA => rfl) (by decide) (by decide) (by decide) (Nat.le_trans (Nat.le_of_ble_eq_true rfl) hc) (Nat.le_trans (Nat.le_of_ble_eq_true rfl) hsl) dX12_init_1033 (fun q_1 H hP hD hS => ?_)
  rw [List.cons_append] at hP hD
  refine W.widen (k := 121) (n := 1976305) (Nat.le_of_ble_eq_true rfl) (Nat.le_of_ble_eq_true rfl) ?_
  refine y_putF (T := TX12) (N := 212) (ci := 12) hx hb hts (zi_12 _) hown hK hP hD hS 0 rfl rfl 155 (by decide) tX12_155 uX12_155 (hts _ (zm_593 _)) rfl hin rfl rfl rfl dX12_init_1035 (fun H locs f_2 ek_3 ok_4 hP hD hS => ?_)
  rw [List.set_cons_zero] at hP hD
  refine lv_aload_n hx hb dX12_init_1038 rfl (lv_at hl 0 rfl) ?_
  refine lv_sipush (v := 240) hx hb dX12_init_1039 (by decide) ?_
  refine z_newa (atype := .int) (ty := .int) (a0 := (240, .inl (fun _ => 0))) hx hb (hts _ (zm_2 _)) rfl hK 0 rfl hP hD hS hA (fun cA => rfl) (by decide) (by decide) (by decide) (Nat.le_trans (Nat.le_of_ble_eq_true rfl) hc) (Nat.le_trans (Nat.le_of_ble_eq_true rfl) hsl) dX12_init_1042 (fun q_5 H hP hD hS => ?_)
  rw [List.cons_append] at hP hD
  refine W.widen (k := 122) (n := 1976545) (Nat.le_of_ble_eq_true rfl) (Nat.le_of_ble_eq_true rfl) ?_
  refine y_putF (T := TX12) (N := 212) (ci := 12) hx hb hts (zi_12 _) hown hK hP hD hS 0 rfl rfl 156 (by decide) tX12_156 uX12_156 (hts _ (zm_594 _)) rfl hin rfl rfl rfl dX12_init_1044 (fun H locs f_6 ek_7 ok_8 hP hD hS => ?_)
  rw [List.set_cons_zero] at hP hD
  refine lv_aload_n hx hb dX12_init_1047 rfl (lv_at hl 0 rfl) ?_
  refine lv_sipush (v := 240) hx hb dX12_init_1048 (by decide) ?_
  refine z_newa (atype := .int) (ty := .int) (a0 := (240, .inl (fun _ => 0))) hx hb (hts _ (zm_2 _)) rfl hK 0 rfl hP hD hS hA (fun cA => rfl) (by decide) (by decide) (by decide) (Nat.le_trans (Nat.le_of_ble_eq_true rfl) hc) (Nat.le_trans (Nat.le_of_ble_eq_true rfl) hsl) dX12_init_1051 (fun q_9 H hP hD hS => ?_)
  rw [List.cons_append] at hP hD
  refine W.widen (k := 123) (n := 1976785) (Nat.le_of_ble_eq_true rfl) (Nat.le_of_ble_eq_true rfl) ?_
  refine y_putF (T := TX12) (N := 212) (ci := 12) hx hb hts (zi_12 _) hown hK hP hD hS 0 rfl rfl 157 (by decide) tX12_157 uX12_157 (hts _ (zm_595 _)) rfl hin rfl rfl rfl dX12_init_1053 (fun H locs f_10 ek_11 ok_12 hP hD hS => ?_)
  rw [List.set_cons_zero] at hP hD
  refine lv_aload_n hx hb dX12_init_1056 rfl (lv_at hl 0 rfl) ?_
  refine lv_bipush (v := 8) hx hb dX12_init_1057 (by decide) ?_
  refine z_newa (atype := .int) (ty := .int) (a0 := (8, .inl (fun _ => 0))) hx hb (hts _ (zm_2 _)) rfl hK 0 rfl hP hD hS hA (fun cA => rfl) (by decide) (by decide) (by decide) (Nat.le_trans (Nat.le_of_ble_eq_true rfl) hc) (Nat.le_trans (Nat.le_of_ble_eq_true rfl) hsl) dX12_init_1059 (fun q_13 H hP hD hS => ?_)
  rw [List.cons_append] at hP hD
  refine W.widen (k := 124) (n := 1976793) (Nat.le_of_ble_eq_true rfl) (Nat.le_of_ble_eq_true rfl) ?_
  refine y_putF (T := TX12) (N := 212) (ci := 12) hx hb hts (zi_12 _) hown hK hP hD hS 0 rfl rfl 158 (by decide) tX12_158 uX12_158 (hts _ (zm_596 _)) rfl hin rfl rfl rfl dX12_init_1061 (fun H locs f_14 ek_15 ok_16 hP hD hS => ?_)
  rw [List.set_cons_zero] at hP hD
  refine lv_aload_n hx hb dX12_init_1064 rfl (lv_at hl 0 rfl) ?_
  refine lv_sipush (v := 144) hx hb dX12_init_1065 (by decide) ?_
  refine z_newa (atype := .int) (ty := .int) (a0 := (144, .inl (fun _ => 0))) hx hb (hts _ (zm_2 _)) rfl hK 0 rfl hP hD hS hA (fun cA => rfl) (by decide) (by decide) (by decide) (Nat.le_trans (Nat.le_of_ble_eq_true rfl) hc) (Nat.le_trans (Nat.le_of_ble_eq_true rfl) hsl) dX12_init_1068 (fun q_17 H hP hD hS => ?_)
  rw [List.cons_append] at hP hD
  refine W.widen (k := 125) (n := 1976937) (Nat.le_of_ble_eq_true rfl) (Nat.le_of_ble_eq_true rfl) ?_
  refine y_putF (T := TX12) (N := 212) (ci := 12) hx hb hts (zi_12 _) hown hK hP hD hS 0 rfl rfl 159 (by decide) tX12_159 uX12_159 (hts _ (zm_597 _)) rfl hin rfl rfl rfl dX12_init_1070 (fun H locs f_18 ek_19 ok_20 hP hD hS => ?_)
  rw [List.set_cons_zero] at hP hD
  refine lv_aload_n hx hb dX12_init_1073 rfl (lv_at hl 0 rfl) ?_
  refine lv_sipush (v := 144) hx hb dX12_init_1074 (by decide) ?_
  refine z_newa (atype := .int) (ty := .int) (a0 := (144, .inl (fun _ => 0))) hx hb (hts _ (zm_2 _)) rfl hK 0 rfl hP hD hS hA (fun cA => rfl) (by decide) (by decide) (by decide) (Nat.le_trans (Nat.le_of_ble_eq_true rfl) hc) (Nat.le_trans (Nat.le_of_ble_eq_true rfl) hsl) dX12_init_1077 (fun q_21 H hP hD hS => ?_)
  rw [List.cons_append] at hP hD
  refine W.widen (k := 126) (n := 1977081) (Nat.le_of_ble_eq_true rfl) (Nat.le_of_ble_eq_true rfl) ?_
  refine y_putF (T := TX12) (N := 212) (ci := 12) hx hb hts (zi_12 _) hown hK hP hD hS 0 rfl rfl 160 (by decide) tX12_160 uX12_160 (hts _ (zm_598 _)) rfl hin rfl rfl rfl dX12_init_1079 (fun H locs f_22 ek_23 ok_24 hP hD hS => ?_)
  rw [List.set_cons_zero] at hP hD
  refine lv_aload_n hx hb dX12_init_1082 rfl (lv_at hl 0 rfl) ?_
  refine lv_bipush (v := 61) hx hb dX12_init_1083 (by decide) ?_
  refine z_newa (atype := .int) (ty := .int) (a0 := (61, .inl (fun _ => 0))) hx hb (hts _ (zm_2 _)) rfl hK 0 rfl hP hD hS hA (fun cA => rfl) (by decide) (by decide) (by decide) (Nat.le_trans (Nat.le_of_ble_eq_true rfl) hc) (Nat.le_trans (Nat.le_of_ble_eq_true rfl) hsl) dX12_init_1085 (fun q_25 H hP hD hS => ?_)
  rw [List.cons_append] at hP hD
  refine W.widen (k := 127) (n := 1977142) (Nat.le_of_ble_eq_true rfl) (Nat.le_of_ble_eq_true rfl) ?_
  refine y_putF (T := TX12) (N := 212) (ci := 12) hx hb hts (zi_12 _) hown hK hP hD hS 0 rfl rfl 162 (by decide) tX12_162 uX12_162 (hts _ (zm_599 _)) rfl hin rfl rfl rfl dX12_init_1087 (fun H locs f_26 ek_27 ok_28 hP hD hS => ?_)
  rw [List.set_cons_zero] at hP hD
  refine lv_aload_n hx hb dX12_init_1090 rfl (lv_at hl 0 rfl) ?_
  refine lv_bipush (v := 61) hx hb dX12_init_1091 (by decide) ?_
  refine z_newa (atype := .int) (ty := .int) (a0 := (61, .inl (fun _ => 0))) hx hb (hts _ (zm_2 _)) rfl hK 0 rfl hP hD hS hA (fun cA => rfl) (by decide) (by decide) (by decide) (Nat.le_trans (Nat.le_of_ble_eq_true rfl) hc) (Nat.le_trans (Nat.le_of_ble_eq_true rfl) hsl) dX12_init_1093 (fun q_29 H hP hD hS => ?_)
  rw [List.cons_append] at hP hD
  refine W.widen (k := 128) (n := 1977203) (Nat.le_of_ble_eq_true rfl) (Nat.le_of_ble_eq_true rfl) ?_
  refine y_putF (T := TX12) (N := 212) (ci := 12) hx hb hts (zi_12 _) hown hK hP hD hS 0 rfl rfl 163 (by decide) tX12_163 uX12_163 (hts _ (zm_600 _)) rfl hin rfl rfl rfl dX12_init_1095 (fun H locs f_30 ek_31 ok_32 hP hD hS => ?_)
  rw [List.set_cons_zero] at hP hD
  refine lv_aload_n hx hb dX12_init_1098 rfl (lv_at hl 0 rfl) ?_
  refine lv_bipush (v := 61) hx hb dX12_init_1099 (by decide) ?_
  refine z_newa (atype := .long) (ty := .long) (a0 := (61, .inr (.inl (fun _ => 0)))) hx hb (hts _ (zm_4 _)) rfl hK 2 rfl hP hD hS hA (fun cA => rfl) (by decide) (by decide) (by decide) (Nat.le_trans (Nat.le_of_ble_eq_true rfl) hc) (Nat.le_trans (Nat.le_of_ble_eq_true rfl) hsl) dX12_init_1101 (fun q_33 H hP hD hS => ?_)
  rw [List.cons_append] at hP hD
  refine W.widen (k := 129) (n := 1977264) (Nat.le_of_ble_eq_true rfl) (Nat.le_of_ble_eq_true rfl) ?_
  refine y_putF (T := TX12) (N := 212) (ci := 12) hx hb hts (zi_12 _) hown hK hP hD hS 0 rfl rfl 164 (by decide) tX12_164 uX12_164 (hts _ (zm_601 _)) rfl hin rfl rfl rfl dX12_init_1103 (fun H locs f_34 ek_35 ok_36 hP hD hS => ?_)
  rw [List.set_cons_zero] at hP hD
  refine lv_aload_n hx hb dX12_init_1106 rfl (lv_at hl 0 rfl) ?_
  refine lv_bipush (v := 61) hx hb dX12_init_1107 (by decide) ?_
  refine z_newa (atype := .int) (ty := .int) (a0 := (61, .inl (fun _ => 0))) hx hb (hts _ (zm_2 _)) rfl hK 0 rfl hP hD hS hA (fun cA => rfl) (by decide) (by decide) (by decide) (Nat.le_trans (Nat.le_of_ble_eq_true rfl) hc) (Nat.le_trans (Nat.le_of_ble_eq_true rfl) hsl) dX12_init_1109 (fun q_37 H hP hD hS => ?_)
  rw [List.cons_append] at hP hD
  refine W.widen (k := 130) (n := 1977325) (Nat.le_of_ble_eq_true rfl) (Nat.le_of_ble_eq_true rfl) ?_
  refine y_putF (T := TX12) (N := 212) (ci := 12) hx hb hts (zi_12 _) hown hK hP hD hS 0 rfl rfl 165 (by decide) tX12_165 uX12_165 (hts _ (zm_602 _)) rfl hin rfl rfl rfl dX12_init_1111 (fun H locs f_38 ek_39 ok_40 hP hD hS => ?_)
  rw [List.set_cons_zero] at hP hD
  simp only [List.append_assoc, List.cons_append, List.nil_append] at hP hD
  exact kk f_38 q_1 q_5 q_9 q_13 q_17 q_21 q_25 q_29 q_33 q_37 H locs ((ok_40 155 (by decide)).trans ((ok_36 155 (by decide)).trans ((ok_32 155 (by decide)).trans ((ok_28 155 (by decide)).trans ((ok_24 155 (by decide)).trans ((ok_20 155 (by decide)).trans ((ok_16 155 (by decide)).trans ((ok_12 155 (by decide)).trans ((ok_8 155 (by decide)).trans ek_3))))))))) ((ok_40 156 (by decide)).trans ((ok_36 156 (by decide)).trans ((ok_32 156 (by decide)).trans ((ok_28 156 (by decide)).trans ((ok_24 156 (by decide)).trans ((ok_20 156 (by decide)).trans ((ok_16 156 (by decide)).trans ((ok_12 156 (by decide)).trans ek_7)))))))) ((ok_40 157 (by decide)).trans ((ok_36 157 (by decide)).trans ((ok_32 157 (by decide)).trans ((ok_28 157 (by decide)).trans ((ok_24 157 (by decide)).trans ((ok_20 157 (by decide)).trans ((ok_16 157 (by decide)).trans ek_11))))))) ((ok_40 158 (by decide)).trans ((ok_36 158 (by decide)).trans ((ok_32 158 (by decide)).trans ((ok_28 158 (by decide)).trans ((ok_24 158 (by decide)).trans ((ok_20 158 (by decide)).trans ek_15)))))) ((ok_40 159 (by decide)).trans ((ok_36 159 (by decide)).trans ((ok_32 159 (by decide)).trans ((ok_28 159 (by decide)).trans ((ok_24 159 (by decide)).trans ek_19))))) ((ok_40 160 (by decide)).trans ((ok_36 160 (by decide)).trans ((ok_32 160 (by decide)).trans ((ok_28 160 (by decide)).trans ek_23)))) ((ok_40 162 (by decide)).trans ((ok_36 162 (by decide)).trans ((ok_32 162 (by decide)).trans ek_27))) ((ok_40 163 (by decide)).trans ((ok_36 163 (by decide)).trans ek_31)) ((ok_40 164 (by decide)).trans ek_35) ek_39 (fun j hj => ((ok_40 j (hj 165 (by decide))).trans ((ok_36 j (hj 164 (by decide))).trans ((ok_32 j (hj 163 (by decide))).trans ((ok_28 j (hj 162 (by decide))).trans ((ok_24 j (hj 160 (by decide))).trans ((ok_20 j (hj 159 (by decide))).trans ((ok_16 j (hj 158 (by decide))).trans ((ok_12 j (hj 157 (by decide))).trans ((ok_8 j (hj 156 (by decide))).trans ((ok_4 j (hj 155 (by decide))).trans rfl))))))))))) hP hD hS hl

set_option maxHeartbeats 8000000 in
set_option maxRecDepth 100000 in
/-- a piece of MumpsHouseModel() -/
theorem sg_13 {p : Program} {l : Launch} {e : Env} {R : Room} {s : State} {m : MethodId} {args : Array Value} {below : List Frame} {meth : Method} {c : Code} {Q : State → Prop} {A : Nat → Prop} {D : va_G} {x : Nat → ClassId} {h0 : Nat} (hx : p.tables.exec = Jvm.exec) (hb : c.code = cX12_init) (hts : ∀ w ∈ (.code yX12_init cX12_init 2 none :: zW : List Cond), w.before args s = true) (hown : s.vm.findClass RX12 = some m.cls) (hin : meth.name = "<init>") (hZ : zK x D s) (hA : ∀ q, s.heap.size ≤ q → A q) (hc : 140 ≤ R.cells) (hsl : 2033819 ≤ R.slots) {rest : va_W} {f : Nat → Value} {H : Heap} {locs : List Loc} {ls : Array Slot} (hP : va_P D vwCl ((h0, .inr (12, zf 212 f)) :: rest) H) (hD : va_D A ((h0, .inr (12, zf 212 f)) :: rest)) (hS : va_S A s.heap H locs) (hl : lv_has ls 2 [(0, .ref h0)])
    (kk : ∀ (f' : Nat → Value) (q_1 q_5 q_9 q_13 q_17 q_21 q_25 q_29 q_33 q_37 : Nat) (H : Heap) (locs : List Loc), f' 166 = .ref q_1 → f' 167 = .ref q_5 → f' 175 = .ref q_9 → f' 176 = .ref q_13 → f' 177 = .ref q_17 → f' 178 = .ref q_21 → f' 181 = .ref q_25 → f' 185 = .ref q_29 → f' 186 = .ref q_33 → f' 187 = .ref q_37 → (∀ j, (∀ k ∈ [166, 167, 175, 176, 177, 178, 181, 185, 186, 187], j ≠ k) → f' j = f j) → va_P D vwCl ((h0, .inr (12, zf 212 f')) :: (rest ++ [(q_1, .inl (x 1, 6710, .inl (fun _ => 0))), (q_5, .inl (x 0, 61, .inl (fun _ => 0))), (q_9, .inl (x 1, 252, .inl (fun _ => 0))), (q_13, .inl (x 1, 46872, .inl (fun _ => 0))), (q_17, .inl (x 0, 186, .inl (fun _ => 0))), (q_21, .inl (x 1, 252, .inl (fun _ => 0))), (q_25, .inl (x 0, 21, .inl (fun _ => 0))), (q_29, .inl (x 1, 600, .inl (fun _ => 0))), (q_33, .inl (x 0, 1300, .inl (fun _ => 0))), (q_37, .inl (x 1, 240, .inl (fun _ => 0)))])) H → va_D A ((h0, .inr (12, zf 212 f')) :: (rest ++ [(q_1, .inl (x 1, 6710, .inl (fun _ => 0))), (q_5, .inl (x 0, 61, .inl (fun _ => 0))), (q_9, .inl (x 1, 252, .inl (fun _ => 0))), (q_13, .inl (x 1, 46872, .inl (fun _ => 0))), (q_17, .inl (x 0, 186, .inl (fun _ => 0))), (q_21, .inl (x 1, 252, .inl (fun _ => 0))), (q_25, .inl (x 0, 21, .inl (fun _ => 0))), (q_29, .inl (x 1, 600, .inl (fun _ => 0))), (q_33, .inl (x 0, 1300, .inl (fun _ => 0))), (q_37, .inl (x 1, 240, .inl (fun _ => 0)))])) → va_S A s.heap H locs → lv_has ls 2 [(0, .ref h0)] → W p l e R s m args below meth c H locs 140 2033819 Q (F0 m 1202 ls [])) :
    W p l e R s m args below meth c H locs 130 1977325 Q (F0 m 1114 ls []) := by
  have hK := hZ.1
  refine lv_aload_n hx hb dX12_init_1114 rfl (lv_at hl 0 rfl) ?_
  refine lv_sipush (v := 6710) hx hb dX12_init_1115 (by decide) ?_
  refine z_newa (atype := .byte) (ty := .byte) (a0 := (6710, .inl (fun _ => 0))) hx hb (hts _ (zm_3 _)) rfl hK 1 rfl hP hD hS hA (fun cA => rfl) (by decide) (by decide) (by decide) (Nat.le_trans (Nat.le_of_ble_eq_true rfl) hc) (Nat.le_trans (Nat.le_of_ble_eq_true rfl) hsl) dX12_init_1118 (fun q_1 H hP hD hS => ?_)
  rw [List.cons_append] at hP hD
  refine W.widen (k := 131) (n := 1984035) (Nat.le_of_ble_eq_true rfl) (Nat.le_of_ble_eq_true rfl) ?_
  refine y_putF (T := TX12) (N := 212) (ci := 12) hx hb hts (zi_12 _) hown hK hP hD hS 0 rfl rfl 166 (by decide) tX12_166 uX12_166 (hts _ (zm_603 _)) rfl hin rfl rfl rfl dX12_init_1120 (fun H locs f_2 ek_3 ok_4 hP hD hS => ?_)
  rw [List.set_cons_zero] at hP hD
  refine lv_aload_n hx hb dX12_init_1123 rfl (lv_at hl 0 rfl) ?_
  refine lv_bipush (v := 61) hx hb dX12_init_1124 (by decide) ?_
  refine z_newa (atype := .int) (ty := .int) (a0 := (61, .inl (fun _ => 0))) hx hb (hts _ (zm_2 _)) rfl hK 0 rfl hP hD hS hA (fun cA => rfl) (by decide) (by decide) (by decide) (Nat.le_trans (Nat.le_of_ble_eq_true rfl) hc) (Nat.le_trans (Nat.le_of_ble_eq_true rfl) hsl) dX12_init_1126 (fun q_5 H hP hD hS => ?_)
  rw [List.cons_append] at hP hD
  refine W.widen (k := 132) (n := 1984096) (Nat.le_of_ble_eq_true rfl) (Nat.le_of_ble_eq_true rfl) ?_
  refine y_putF (T := TX12) (N := 212) (ci := 12) hx hb hts (zi_12 _) hown hK hP hD hS 0 rfl rfl 167 (by decide) tX12_167 uX12_167 (hts _ (zm_604 _)) rfl hin rfl rfl rfl dX12_init_1128 (fun H locs f_6 ek_7 ok_8 hP hD hS => ?_)
  rw [List.set_cons_zero] at hP hD
  refine lv_aload_n hx hb dX12_init_1131 rfl (lv_at hl 0 rfl) ?_
  refine lv_sipush (v := 252) hx hb dX12_init_1132 (by decide) ?_
  refine z_newa (atype := .byte) (ty := .byte) (a0 := (252, .inl (fun _ => 0))) hx hb (hts _ (zm_3 _)) rfl hK 1 rfl hP hD hS hA (fun cA => rfl) (by decide) (by decide) (by decide) (Nat.le_trans (Nat.le_of_ble_eq_true rfl) hc) (Nat.le_trans (Nat.le_of_ble_eq_true rfl) hsl) dX12_init_1135 (fun q_9 H hP hD hS => ?_)
  rw [List.cons_append] at hP hD
  refine W.widen (k := 133) (n := 1984348) (Nat.le_of_ble_eq_true rfl) (Nat.le_of_ble_eq_true rfl) ?_
  refine y_putF (T := TX12) (N := 212) (ci := 12) hx hb hts (zi_12 _) hown hK hP hD hS 0 rfl rfl 175 (by decide) tX12_175 uX12_175 (hts _ (zm_605 _)) rfl hin rfl rfl rfl dX12_init_1137 (fun H locs f_10 ek_11 ok_12 hP hD hS => ?_)
  rw [List.set_cons_zero] at hP hD
  refine lv_aload_n hx hb dX12_init_1140 rfl (lv_at hl 0 rfl) ?_
  refine lv_ldcw hx hb hown (hts _ (zm_583 _)) dX12_init_1141 ?_
  refine z_newa (atype := .byte) (ty := .byte) (a0 := (46872, .inl (fun _ => 0))) hx hb (hts _ (zm_3 _)) rfl hK 1 rfl hP hD hS hA (fun cA => rfl) (by decide) (by decide) (by decide) (Nat.le_trans (Nat.le_of_ble_eq_true rfl) hc) (Nat.le_trans (Nat.le_of_ble_eq_true rfl) hsl) dX12_init_1144 (fun q_13 H hP hD hS => ?_)
  rw [List.cons_append] at hP hD
  refine W.widen (k := 134) (n := 2031220) (Nat.le_of_ble_eq_true rfl) (Nat.le_of_ble_eq_true rfl) ?_
  refine y_putF (T := TX12) (N := 212) (ci := 12) hx hb hts (zi_12 _) hown hK hP hD hS 0 rfl rfl 176 (by decide) tX12_176 uX12_176 (hts _ (zm_606 _)) rfl hin rfl rfl rfl dX12_init_1146 (fun H locs f_14 ek_15 ok_16 hP hD hS => ?_)
  rw [List.set_cons_zero] at hP hD
  refine lv_aload_n hx hb dX12_init_1149 rfl (lv_at hl 0 rfl) ?_
  refine lv_sipush (v := 186) hx hb dX12_init_1150 (by decide) ?_
  refine z_newa (atype := .int) (ty := .int) (a0 := (186, .inl (fun _ => 0))) hx hb (hts _ (zm_2 _)) rfl hK 0 rfl hP hD hS hA (fun cA => rfl) (by decide) (by decide) (by decide) (Nat.le_trans (Nat.le_of_ble_eq_true rfl) hc) (Nat.le_trans (Nat.le_of_ble_eq_true rfl) hsl) dX12_init_1153 (fun q_17 H hP hD hS => ?_)
  rw [List.cons_append] at hP hD
  refine W.widen (k := 135) (n := 2031406) (Nat.le_of_ble_eq_true rfl) (Nat.le_of_ble_eq_true rfl) ?_
  refine y_putF (T := TX12) (N := 212) (ci := 12) hx hb hts (zi_12 _) hown hK hP hD hS 0 rfl rfl 177 (by decide) tX12_177 uX12_177 (hts _ (zm_607 _)) rfl hin rfl rfl rfl dX12_init_1155 (fun H locs f_18 ek_19 ok_20 hP hD hS => ?_)
  rw [List.set_cons_zero] at hP hD
  refine lv_aload_n hx hb dX12_init_1158 rfl (lv_at hl 0 rfl) ?_
  refine lv_sipush (v := 252) hx hb dX12_init_1159 (by decide) ?_
  refine z_newa (atype := .byte) (ty := .byte) (a0 := (252, .inl (fun _ => 0))) hx hb (hts _ (zm_3 _)) rfl hK 1 rfl hP hD hS hA (fun cA => rfl) (by decide) (by decide) (by decide) (Nat.le_trans (Nat.le_of_ble_eq_true rfl) hc) (Nat.le_trans (Nat.le_of_ble_eq_true rfl) hsl) dX12_init_1162 (fun q_21 H hP hD hS => ?_)
  rw [List.cons_append] at hP hD
  refine W.widen (k := 136) (n := 2031658) (Nat.le_of_ble_eq_true rfl) (Nat.le_of_ble_eq_true rfl) ?_
  refine y_putF (T := TX12) (N := 212) (ci := 12) hx hb hts (zi_12 _) hown hK hP hD hS 0 rfl rfl 178 (by decide) tX12_178 uX12_178 (hts _ (zm_608 _)) rfl hin rfl rfl rfl dX12_init_1164 (fun H locs f_22 ek_23 ok_24 hP hD hS => ?_)
  rw [List.set_cons_zero] at hP hD
  refine lv_aload_n hx hb dX12_init_1167 rfl (lv_at hl 0 rfl) ?_
  refine lv_bipush (v := 21) hx hb dX12_init_1168 (by decide) ?_
  refine z_newa (atype := .int) (ty := .int) (a0 := (21, .inl (fun _ => 0))) hx hb (hts _ (zm_2 _)) rfl hK 0 rfl hP hD hS hA (fun cA => rfl) (by decide) (by decide) (by decide) (Nat.le_trans (Nat.le_of_ble_eq_true rfl) hc) (Nat.le_trans (Nat.le_of_ble_eq_true rfl) hsl) dX12_init_1170 (fun q_25 H hP hD hS => ?_)
  rw [List.cons_append] at hP hD
  refine W.widen (k := 137) (n := 2031679) (Nat.le_of_ble_eq_true rfl) (Nat.le_of_ble_eq_true rfl) ?_
  refine y_putF (T := TX12) (N := 212) (ci := 12) hx hb hts (zi_12 _) hown hK hP hD hS 0 rfl rfl 181 (by decide) tX12_181 uX12_181 (hts _ (zm_609 _)) rfl hin rfl rfl rfl dX12_init_1172 (fun H locs f_26 ek_27 ok_28 hP hD hS => ?_)
  rw [List.set_cons_zero] at hP hD
  refine lv_aload_n hx hb dX12_init_1175 rfl (lv_at hl 0 rfl) ?_
  refine lv_sipush (v := 600) hx hb dX12_init_1176 (by decide) ?_
  refine z_newa (atype := .byte) (ty := .byte) (a0 := (600, .inl (fun _ => 0))) hx hb (hts _ (zm_3 _)) rfl hK 1 rfl hP hD hS hA (fun cA => rfl) (by decide) (by decide) (by decide) (Nat.le_trans (Nat.le_of_ble_eq_true rfl) hc) (Nat.le_trans (Nat.le_of_ble_eq_true rfl) hsl) dX12_init_1179 (fun q_29 H hP hD hS => ?_)
  rw [List.cons_append] at hP hD
  refine W.widen (k := 138) (n := 2032279) (Nat.le_of_ble_eq_true rfl) (Nat.le_of_ble_eq_true rfl) ?_
  refine y_putF (T := TX12) (N := 212) (ci := 12) hx hb hts (zi_12 _) hown hK hP hD hS 0 rfl rfl 185 (by decide) tX12_185 uX12_185 (hts _ (zm_610 _)) rfl hin rfl rfl rfl dX12_init_1181 (fun H locs f_30 ek_31 ok_32 hP hD hS => ?_)
  rw [List.set_cons_zero] at hP hD
  refine lv_aload_n hx hb dX12_init_1184 rfl (lv_at hl 0 rfl) ?_
  refine lv_sipush (v := 1300) hx hb dX12_init_1185 (by decide) ?_
  refine z_newa (atype := .int) (ty := .int) (a0 := (1300, .inl (fun _ => 0))) hx hb (hts _ (zm_2 _)) rfl hK 0 rfl hP hD hS hA (fun cA => rfl) (by decide) (by decide) (by decide) (Nat.le_trans (Nat.le_of_ble_eq_true rfl) hc) (Nat.le_trans (Nat.le_of_ble_eq_true rfl) hsl) dX12_init_1188 (fun q_33 H hP hD hS => ?_)
  rw [List.cons_append] at hP hD
  refine W.widen (k := 139) (n := 2033579) (Nat.le_of_ble_eq_true rfl) (Nat.le_of_ble_eq_true rfl) ?_
  refine y_putF (T := TX12) (N := 212) (ci := 12) hx hb hts (zi_12 _) hown hK hP hD hS 0 rfl rfl 186 (by decide) tX12_186 uX12_186 (hts _ (zm_611 _)) rfl hin rfl rfl rfl dX12_init_1190 (fun H locs f_34 ek_35 ok_36 hP hD hS => ?_)
  rw [List.set_cons_zero] at hP hD
  refine lv_aload_n hx hb dX12_init_1193 rfl (lv_at hl 0 rfl) ?_
  refine lv_sipush (v := 240) hx hb dX12_init_1194 (by decide) ?_
  refine z_newa (atype := .byte) (ty := .byte) (a0 := (240, .inl (fun _ => 0))) hx hb (hts _ (zm_3 _)) rfl hK 1 rfl hP hD hS hA (fun cA => rfl) (by decide) (by decide) (by decide) (Nat.le_trans (Nat.le_of_ble_eq_true rfl) hc) (Nat.le_trans (Nat.le_of_ble_eq_true rfl) hsl) dX12_init_1197 (fun q_37 H hP hD hS => ?_)
  rw [List.cons_append] at hP hD
  refine W.widen (k := 140) (n := 2033819) (Nat.le_of_ble_eq_true rfl) (Nat.le_of_ble_eq_true rfl) ?_
  refine y_putF (T := TX12) (N := 212) (ci := 12) hx hb hts (zi_12 _) hown hK hP hD hS 0 rfl rfl 187 (by decide) tX12_187 uX12_187 (hts _ (zm_612 _)) rfl hin rfl rfl rfl dX12_init_1199 (fun H locs f_38 ek_39 ok_40 hP hD hS => ?_)
  rw [List.set_cons_zero] at hP hD
  simp only [List.append_assoc, List.cons_append, List.nil_append] at hP hD
  exact kk f_38 q_1 q_5 q_9 q_13 q_17 q_21 q_25 q_29 q_33 q_37 H locs ((ok_40 166 (by decide)).trans ((ok_36 166 (by decide)).trans ((ok_32 166 (by decide)).trans ((ok_28 166 (by decide)).trans ((ok_24 166 (by decide)).trans ((ok_20 166 (by decide)).trans ((ok_16 166 (by decide)).trans ((ok_12 166 (by decide)).trans ((ok_8 166 (by decide)).trans ek_3))))))))) ((ok_40 167 (by decide)).trans ((ok_36 167 (by decide)).trans ((ok_32 167 (by decide)).trans ((ok_28 167 (by decide)).trans ((ok_24 167 (by decide)).trans ((ok_20 167 (by decide)).trans ((ok_16 167 (by decide)).trans ((ok_12 167 (by decide)).trans ek_7)))))))) ((ok_40 175 (by decide)).trans ((ok_36 175 (by decide)).trans ((ok_32 175 (by decide)).trans ((ok_28 175 (by decide)).trans ((ok_24 175 (by decide)).trans ((ok_20 175 (by decide)).trans ((ok_16 175 (by decide)).trans ek_11))))))) ((ok_40 176 (by decide)).trans ((ok_36 176 (by decide)).trans ((ok_32 176 (by decide)).trans ((ok_28 176 (by decide)).trans ((ok_24 176 (by decide)).trans ((ok_20 176 (by decide)).trans ek_15)))))) ((ok_40 177 (by decide)).trans ((ok_36 177 (by decide)).trans ((ok_32 177 (by decide)).trans ((ok_28 177 (by decide)).trans ((ok_24 177 (by decide)).trans ek_19))))) ((ok_40 178 (by decide)).trans ((ok_36 178 (by decide)).trans ((ok_32 178 (by decide)).trans ((ok_28 178 (by decide)).trans ek_23)))) ((ok_40 181 (by decide)).trans ((ok_36 181 (by decide)).trans ((ok_32 181 (by decide)).trans ek_27))) ((ok_40 185 (by decide)).trans ((ok_36 185 (by decide)).trans ek_31)) ((ok_40 186 (by decide)).trans ek_35) ek_39 (fun j hj => ((ok_40 j (hj 187 (by decide))).trans ((ok_36 j (hj 186 (by decide))).trans ((ok_32 j (hj 185 (by decide))).trans ((ok_28 j (hj 181 (by decide))).trans ((ok_24 j (hj 178 (by decide))).trans ((ok_20 j (hj 177 (by decide))).trans ((ok_16 j (hj 176 (by decide))).trans ((ok_12 j (hj 175 (by decide))).trans ((ok_8 j (hj 167 (by decide))).trans ((ok_4 j (hj 166 (by decide))).trans rfl))))))))))) hP hD hS hl

set_option maxHeartbeats 8000000 in
set_option maxRecDepth 100000 in
/-- a piece of MumpsHouseModel() -/
theorem sg_14 {p : Program} {l : Launch} {e : Env} {R : Room} {s : State} {m : MethodId} {args : Array Value} {below : List Frame} {meth : Method} {c : Code} {Q : State → Prop} {A : Nat → Prop} {D : va_G} {x : Nat → ClassId} {h0 : Nat} (hx : p.tables.exec = Jvm.exec) (hb : c.code = cX12_init) (hts : ∀ w ∈ (.code yX12_init cX12_init 2 none :: zW : List Cond), w.before args s = true) (hown : s.vm.findClass RX12 = some m.cls) (hin : meth.name = "<init>") (hZ : zK x D s) (hA : ∀ q, s.heap.size ≤ q → A q) (hc : 149 ≤ R.cells) (hsl : 2088365 ≤ R.slots) {rest : va_W} {f : Nat → Value} {H : Heap} {locs : List Loc} {ls : Array Slot} (hP : va_P D vwCl ((h0, .inr (12, zf 212 f)) :: rest) H) (hD : va_D A ((h0, .inr (12, zf 212 f)) :: rest)) (hS : va_S A s.heap H locs) (hl : lv_has ls 2 [(0, .ref h0)])
    (kk : ∀ (f' : Nat → Value) (q_1 q_5 q_9 q_13 q_17 q_24 q_28 q_32 q_36 : Nat) (H : Heap) (locs : List Loc), f' 188 = .ref q_1 → f' 189 = .ref q_5 → f' 190 = .ref q_9 → f' 191 = .ref q_13 → f' 194 = .ref q_17 → f' 197 = .int (-1) → f' 199 = .ref q_24 → f' 201 = .ref q_28 → f' 202 = .ref q_32 → f' 203 = .ref q_36 → (∀ j, (∀ k ∈ [188, 189, 190, 191, 194, 197, 199, 201, 202, 203], j ≠ k) → f' j = f j) → va_P D vwCl ((h0, .inr (12, zf 212 f')) :: (rest ++ [(q_1, .inl (x 0, 8, .inl (fun _ => 0))), (q_5, .inl (x 0, 8, .inl (fun _ => 0))), (q_9, .inl (x 0, 8, .inl (fun _ => 0))), (q_13, .inl (x 3, 8, .inl (fun _ => 0))), (q_17, .inl (x 1, 4100, .inl (fun _ => 0))), (q_24, .inl (x 1, 3100, .inl (fun _ => 0))), (q_28, .inl (x 1, 46872, .inl (fun _ => 0))), (q_32, .inl (x 0, 186, .inl (fun _ => 0))), (q_36, .inl (x 1, 256, .inl (fun _ => 0)))])) H → va_D A ((h0, .inr (12, zf 212 f')) :: (rest ++ [(q_1, .inl (x 0, 8, .inl (fun _ => 0))), (q_5, .inl (x 0, 8, .inl (fun _ => 0))), (q_9, .inl (x 0, 8, .inl (fun _ => 0))), (q_13, .inl (x 3, 8, .inl (fun _ => 0))), (q_17, .inl (x 1, 4100, .inl (fun _ => 0))), (q_24, .inl (x 1, 3100, .inl (fun _ => 0))), (q_28, .inl (x 1, 46872, .inl (fun _ => 0))), (q_32, .inl (x 0, 186, .inl (fun _ => 0))), (q_36, .inl (x 1, 256, .inl (fun _ => 0)))])) → va_S A s.heap H locs → lv_has ls 2 [(0, .ref h0)] → W p l e R s m args below meth c H locs 149 2088365 Q (F0 m 1284 ls [])) :
    W p l e R s m args below meth c H locs 140 2033819 Q (F0 m 1202 ls []) := by
  have hK := hZ.1
  refine lv_aload_n hx hb dX12_init_1202 rfl (lv_at hl 0 rfl) ?_
  refine lv_bipush (v := 8) hx hb dX12_init_1203 (by decide) ?_
  refine z_newa (atype := .int) (ty := .int) (a0 := (8, .inl (fun _ => 0))) hx hb (hts _ (zm_2 _)) rfl hK 0 rfl hP hD hS hA (fun cA => rfl) (by decide) (by decide) (by decide) (Nat.le_trans (Nat.le_of_ble_eq_true rfl) hc) (Nat.le_trans (Nat.le_of_ble_eq_true rfl) hsl) dX12_init_1205 (fun q_1 H hP hD hS => ?_)
  rw [List.cons_append] at hP hD
  refine W.widen (k := 141) (n := 2033827) (Nat.le_of_ble_eq_true rfl) (Nat.le_of_ble_eq_true rfl) ?_
  refine y_putF (T := TX12) (N := 212) (ci := 12) hx hb hts (zi_12 _) hown hK hP hD hS 0 rfl rfl 188 (by decide) tX12_188 uX12_188 (hts _ (zm_613 _)) rfl hin rfl rfl rfl dX12_init_1207 (fun H locs f_2 ek_3 ok_4 hP hD hS => ?_)
  rw [List.set_cons_zero] at hP hD
  refine lv_aload_n hx hb dX12_init_1210 rfl (lv_at hl 0 rfl) ?_
  refine lv_bipush (v := 8) hx hb dX12_init_1211 (by decide) ?_
  refine z_newa (atype := .int) (ty := .int) (a0 := (8, .inl (fun _ => 0))) hx hb (hts _ (zm_2 _)) rfl hK 0 rfl hP hD hS hA (fun cA => rfl) (by decide) (by decide) (by decide) (Nat.le_trans (Nat.le_of_ble_eq_true rfl) hc) (Nat.le_trans (Nat.le_of_ble_eq_true rfl) hsl) dX12_init_1213 (fun q_5 H hP hD hS => ?_)
  rw [List.cons_append] at hP hD
  refine W.widen (k := 142) (n := 2033835) (Nat.le_of_ble_eq_true rfl) (Nat.le_of_ble_eq_true rfl) ?_
  refine y_putF (T := TX12) (N := 212) (ci := 12) hx hb hts (zi_12 _) hown hK hP hD hS 0 rfl rfl 189 (by decide) tX12_189 uX12_189 (hts _ (zm_614 _)) rfl hin rfl rfl rfl dX12_init_1215 (fun H locs f_6 ek_7 ok_8 hP hD hS => ?_)
  rw [List.set_cons_zero] at hP hD
  refine lv_aload_n hx hb dX12_init_1218 rfl (lv_at hl 0 rfl) ?_
  refine lv_bipush (v := 8) hx hb dX12_init_1219 (by decide) ?_
  refine z_newa (atype := .int) (ty := .int) (a0 := (8, .inl (fun _ => 0))) hx hb (hts _ (zm_2 _)) rfl hK 0 rfl hP hD hS hA (fun cA => rfl) (by decide) (by decide) (by decide) (Nat.le_trans (Nat.le_of_ble_eq_true rfl) hc) (Nat.le_trans (Nat.le_of_ble_eq_true rfl) hsl) dX12_init_1221 (fun q_9 H hP hD hS => ?_)
  rw [List.cons_append] at hP hD
  refine W.widen (k := 143) (n := 2033843) (Nat.le_of_ble_eq_true rfl) (Nat.le_of_ble_eq_true rfl) ?_
  refine y_putF (T := TX12) (N := 212) (ci := 12) hx hb hts (zi_12 _) hown hK hP hD hS 0 rfl rfl 190 (by decide) tX12_190 uX12_190 (hts _ (zm_615 _)) rfl hin rfl rfl rfl dX12_init_1223 (fun H locs f_10 ek_11 ok_12 hP hD hS => ?_)
  rw [List.set_cons_zero] at hP hD
  refine lv_aload_n hx hb dX12_init_1226 rfl (lv_at hl 0 rfl) ?_
  refine lv_bipush (v := 8) hx hb dX12_init_1227 (by decide) ?_
  refine z_newa (atype := .boolean) (ty := .boolean) (a0 := (8, .inl (fun _ => 0))) hx hb (hts _ (zm_5 _)) rfl hK 3 rfl hP hD hS hA (fun cA => rfl) (by decide) (by decide) (by decide) (Nat.le_trans (Nat.le_of_ble_eq_true rfl) hc) (Nat.le_trans (Nat.le_of_ble_eq_true rfl) hsl) dX12_init_1229 (fun q_13 H hP hD hS => ?_)
  rw [List.cons_append] at hP hD
  refine W.widen (k := 144) (n := 2033851) (Nat.le_of_ble_eq_true rfl) (Nat.le_of_ble_eq_true rfl) ?_
  refine y_putF (T := TX12) (N := 212) (ci := 12) hx hb hts (zi_12 _) hown hK hP hD hS 0 rfl rfl 191 (by decide) tX12_191 uX12_191 (hts _ (zm_616 _)) rfl hin rfl rfl rfl dX12_init_1231 (fun H locs f_14 ek_15 ok_16 hP hD hS => ?_)
  rw [List.set_cons_zero] at hP hD
  refine lv_aload_n hx hb dX12_init_1234 rfl (lv_at hl 0 rfl) ?_
  refine lv_sipush (v := 4100) hx hb dX12_init_1235 (by decide) ?_
  refine z_newa (atype := .byte) (ty := .byte) (a0 := (4100, .inl (fun _ => 0))) hx hb (hts _ (zm_3 _)) rfl hK 1 rfl hP hD hS hA (fun cA => rfl) (by decide) (by decide) (by decide) (Nat.le_trans (Nat.le_of_ble_eq_true rfl) hc) (Nat.le_trans (Nat.le_of_ble_eq_true rfl) hsl) dX12_init_1238 (fun q_17 H hP hD hS => ?_)
  rw [List.cons_append] at hP hD
  refine W.widen (k := 145) (n := 2037951) (Nat.le_of_ble_eq_true rfl) (Nat.le_of_ble_eq_true rfl) ?_
  refine y_putF (T := TX12) (N := 212) (ci := 12) hx hb hts (zi_12 _) hown hK hP hD hS 0 rfl rfl 194 (by decide) tX12_194 uX12_194 (hts _ (zm_617 _)) rfl hin rfl rfl rfl dX12_init_1240 (fun H locs f_18 ek_19 ok_20 hP hD hS => ?_)
  rw [List.set_cons_zero] at hP hD
  refine lv_aload_n hx hb dX12_init_1243 rfl (lv_at hl 0 rfl) ?_
  refine lv_iconst (v := (-1)) hx hb dX12_init_1244 (by decide) ?_
  refine y_put (T := TX12) (N := 212) (ci := 12) hx hb hts (zi_12 _) hown hK hP hD hS 0 rfl rfl 197 (by decide) tX12_197 uX12_197 (hts _ (zm_618 _)) rfl rfl rfl dX12_init_1245 (fun H locs f_21 ek_22 ok_23 hP hD hS => ?_)
  rw [List.set_cons_zero] at hP hD
  refine lv_aload_n hx hb dX12_init_1248 rfl (lv_at hl 0 rfl) ?_
  refine lv_sipush (v := 3100) hx hb dX12_init_1249 (by decide) ?_
  refine z_newa (atype := .byte) (ty := .byte) (a0 := (3100, .inl (fun _ => 0))) hx hb (hts _ (zm_3 _)) rfl hK 1 rfl hP hD hS hA (fun cA => rfl) (by decide) (by decide) (by decide) (Nat.le_trans (Nat.le_of_ble_eq_true rfl) hc) (Nat.le_trans (Nat.le_of_ble_eq_true rfl) hsl) dX12_init_1252 (fun q_24 H hP hD hS => ?_)
  rw [List.cons_append] at hP hD
  refine W.widen (k := 146) (n := 2041051) (Nat.le_of_ble_eq_true rfl) (Nat.le_of_ble_eq_true rfl) ?_
  refine y_putF (T := TX12) (N := 212) (ci := 12) hx hb hts (zi_12 _) hown hK hP hD hS 0 rfl rfl 199 (by decide) tX12_199 uX12_199 (hts _ (zm_619 _)) rfl hin rfl rfl rfl dX12_init_1254 (fun H locs f_25 ek_26 ok_27 hP hD hS => ?_)
  rw [List.set_cons_zero] at hP hD
  refine lv_aload_n hx hb dX12_init_1257 rfl (lv_at hl 0 rfl) ?_
  refine lv_ldcw hx hb hown (hts _ (zm_583 _)) dX12_init_1258 ?_
  refine z_newa (atype := .byte) (ty := .byte) (a0 := (46872, .inl (fun _ => 0))) hx hb (hts _ (zm_3 _)) rfl hK 1 rfl hP hD hS hA (fun cA => rfl) (by decide) (by decide) (by decide) (Nat.le_trans (Nat.le_of_ble_eq_true rfl) hc) (Nat.le_trans (Nat.le_of_ble_eq_true rfl) hsl) dX12_init_1261 (fun q_28 H hP hD hS => ?_)
  rw [List.cons_append] at hP hD
  refine W.widen (k := 147) (n := 2087923) (Nat.le_of_ble_eq_true rfl) (Nat.le_of_ble_eq_true rfl) ?_
  refine y_putF (T := TX12) (N := 212) (ci := 12) hx hb hts (zi_12 _) hown hK hP hD hS 0 rfl rfl 201 (by decide) tX12_201 uX12_201 (hts _ (zm_620 _)) rfl hin rfl rfl rfl dX12_init_1263 (fun H locs f_29 ek_30 ok_31 hP hD hS => ?_)
  rw [List.set_cons_zero] at hP hD
  refine lv_aload_n hx hb dX12_init_1266 rfl (lv_at hl 0 rfl) ?_
  refine lv_sipush (v := 186) hx hb dX12_init_1267 (by decide) ?_
  refine z_newa (atype := .int) (ty := .int) (a0 := (186, .inl (fun _ => 0))) hx hb (hts _ (zm_2 _)) rfl hK 0 rfl hP hD hS hA (fun cA => rfl) (by decide) (by decide) (by decide) (Nat.le_trans (Nat.le_of_ble_eq_true rfl) hc) (Nat.le_trans (Nat.le_of_ble_eq_true rfl) hsl) dX12_init_1270 (fun q_32 H hP hD hS => ?_)
  rw [List.cons_append] at hP hD
  refine W.widen (k := 148) (n := 2088109) (Nat.le_of_ble_eq_true rfl) (Nat.le_of_ble_eq_true rfl) ?_
  refine y_putF (T := TX12) (N := 212) (ci := 12) hx hb hts (zi_12 _) hown hK hP hD hS 0 rfl rfl 202 (by decide) tX12_202 uX12_202 (hts _ (zm_621 _)) rfl hin rfl rfl rfl dX12_init_1272 (fun H locs f_33 ek_34 ok_35 hP hD hS => ?_)
  rw [List.set_cons_zero] at hP hD
  refine lv_aload_n hx hb dX12_init_1275 rfl (lv_at hl 0 rfl) ?_
  refine lv_sipush (v := 256) hx hb dX12_init_1276 (by decide) ?_
  refine z_newa (atype := .byte) (ty := .byte) (a0 := (256, .inl (fun _ => 0))) hx hb (hts _ (zm_3 _)) rfl hK 1 rfl hP hD hS hA (fun cA => rfl) (by decide) (by decide) (by decide) (Nat.le_trans (Nat.le_of_ble_eq_true rfl) hc) (Nat.le_trans (Nat.le_of_ble_eq_true rfl) hsl) dX12_init_1279 (fun q_36 H hP hD hS => ?_)
  rw [List.cons_append] at hP hD
  refine W.widen (k := 149) (n := 2088365) (Nat.le_of_ble_eq_true rfl) (Nat.le_of_ble_eq_true rfl) ?_
  refine y_putF (T := TX12) (N := 212) (ci := 12) hx hb hts (zi_12 _) hown hK hP hD hS 0 rfl rfl 203 (by decide) tX12_203 uX12_203 (hts _ (zm_622 _)) rfl hin rfl rfl rfl dX12_init_1281 (fun H locs f_37 ek_38 ok_39 hP hD hS => ?_)
  rw [List.set_cons_zero] at hP hD
  simp only [List.append_assoc, List.cons_append, List.nil_append] at hP hD
  exact kk f_37 q_1 q_5 q_9 q_13 q_17 q_24 q_28 q_32 q_36 H locs ((ok_39 188 (by decide)).trans ((ok_35 188 (by decide)).trans ((ok_31 188 (by decide)).trans ((ok_27 188 (by decide)).trans ((ok_23 188 (by decide)).trans ((ok_20 188 (by decide)).trans ((ok_16 188 (by decide)).trans ((ok_12 188 (by decide)).trans ((ok_8 188 (by decide)).trans ek_3))))))))) ((ok_39 189 (by decide)).trans ((ok_35 189 (by decide)).trans ((ok_31 189 (by decide)).trans ((ok_27 189 (by decide)).trans ((ok_23 189 (by decide)).trans ((ok_20 189 (by decide)).trans ((ok_16 189 (by decide)).trans ((ok_12 189 (by decide)).trans ek_7)))))))) ((ok_39 190 (by decide)).trans ((ok_35 190 (by decide)).trans ((ok_31 190 (by decide)).trans ((ok_27 190 (by decide)).trans ((ok_23 190 (by decide)).trans ((ok_20 190 (by decide)).trans ((ok_16 190 (by decide)).trans ek_11))))))) ((ok_39 191 (by decide)).trans ((ok_35 191 (by decide)).trans ((ok_31 191 (by decide)).trans ((ok_27 191 (by decide)).trans ((ok_23 191 (by decide)).trans ((ok_20 191 (by decide)).trans ek_15)))))) ((ok_39 194 (by decide)).trans ((ok_35 194 (by decide)).trans ((ok_31 194 (by decide)).trans ((ok_27 194 (by decide)).trans ((ok_23 194 (by decide)).trans ek_19))))) ((ok_39 197 (by decide)).trans ((ok_35 197 (by decide)).trans ((ok_31 197 (by decide)).trans ((ok_27 197 (by decide)).trans ek_22)))) ((ok_39 199 (by decide)).trans ((ok_35 199 (by decide)).trans ((ok_31 199 (by decide)).trans ek_26))) ((ok_39 201 (by decide)).trans ((ok_35 201 (by decide)).trans ek_30)) ((ok_39 202 (by decide)).trans ek_34) ek_38 (fun j hj => ((ok_39 j (hj 203 (by decide))).trans ((ok_35 j (hj 202 (by decide))).trans ((ok_31 j (hj 201 (by decide))).trans ((ok_27 j (hj 199 (by decide))).trans ((ok_23 j (hj 197 (by decide))).trans ((ok_20 j (hj 194 (by decide))).trans ((ok_16 j (hj 191 (by decide))).trans ((ok_12 j (hj 190 (by decide))).trans ((ok_8 j (hj 189 (by decide))).trans ((ok_4 j (hj 188 (by decide))).trans rfl))))))))))) hP hD hS hl

set_option maxHeartbeats 8000000 in
set_option maxRecDepth 100000 in
/-- a piece of MumpsHouseModel() -/
theorem sg_15 {p : Program} {l : Launch} {e : Env} {R : Room} {s : State} {m : MethodId} {args : Array Value} {below : List Frame} {meth : Method} {c : Code} {Q : State → Prop} {A : Nat → Prop} {D : va_G} {x : Nat → ClassId} {h0 : Nat} (hx : p.tables.exec = Jvm.exec) (hb : c.code = cX12_init) (hts : ∀ w ∈ (.code yX12_init cX12_init 2 none :: zW : List Cond), w.before args s = true) (hown : s.vm.findClass RX12 = some m.cls) (hin : meth.name = "<init>") (hZ : zK x D s) (hA : ∀ q, s.heap.size ≤ q → A q) (hc : 152 ≤ R.cells) (hsl : 2088942 ≤ R.slots) {rest : va_W} {f : Nat → Value} {H : Heap} {locs : List Loc} {ls : Array Slot} (hP : va_P D vwCl ((h0, .inr (12, zf 212 f)) :: rest) H) (hD : va_D A ((h0, .inr (12, zf 212 f)) :: rest)) (hS : va_S A s.heap H locs) (hl : lv_has ls 2 [(0, .ref h0)])
    (kk : ∀ (f' : Nat → Value) (q_4 q_8 q_12 : Nat) (H : Heap) (locs : List Loc), f' 204 = .int (-1) → f' 208 = .ref q_4 → f' 209 = .ref q_8 → f' 211 = .ref q_12 → (∀ j, (∀ k ∈ [204, 208, 209, 211], j ≠ k) → f' j = f j) → va_P D vwCl ((h0, .inr (12, zf 212 f')) :: (rest ++ [(q_4, .inl (x 1, 300, .inl (fun _ => 0))), (q_8, .inl (x 1, 260, .inl (fun _ => 0))), (q_12, .inl (x 2, 17, .inr (.inl (fun _ => 0))))])) H → va_D A ((h0, .inr (12, zf 212 f')) :: (rest ++ [(q_4, .inl (x 1, 300, .inl (fun _ => 0))), (q_8, .inl (x 1, 260, .inl (fun _ => 0))), (q_12, .inl (x 2, 17, .inr (.inl (fun _ => 0))))])) → va_S A s.heap H locs → lv_has ls 2 [(0, .ref h0)] → W p l e R s m args below meth c H locs 152 2088942 Q (F0 m 1315 ls [])) :
    W p l e R s m args below meth c H locs 149 2088365 Q (F0 m 1284 ls []) := by
  have hK := hZ.1
  refine lv_aload_n hx hb dX12_init_1284 rfl (lv_at hl 0 rfl) ?_
  refine lv_iconst (v := (-1)) hx hb dX12_init_1285 (by decide) ?_
  refine y_put (T := TX12) (N := 212) (ci := 12) hx hb hts (zi_12 _) hown hK hP hD hS 0 rfl rfl 204 (by decide) tX12_204 uX12_204 (hts _ (zm_623 _)) rfl rfl rfl dX12_init_1286 (fun H locs f_1 ek_2 ok_3 hP hD hS => ?_)
  rw [List.set_cons_zero] at hP hD
  refine lv_aload_n hx hb dX12_init_1289 rfl (lv_at hl 0 rfl) ?_
  refine lv_sipush (v := 300) hx hb dX12_init_1290 (by decide) ?_
  refine z_newa (atype := .byte) (ty := .byte) (a0 := (300, .inl (fun _ => 0))) hx hb (hts _ (zm_3 _)) rfl hK 1 rfl hP hD hS hA (fun cA => rfl) (by decide) (by decide) (by decide) (Nat.le_trans (Nat.le_of_ble_eq_true rfl) hc) (Nat.le_trans (Nat.le_of_ble_eq_true rfl) hsl) dX12_init_1293 (fun q_4 H hP hD hS => ?_)
  rw [List.cons_append] at hP hD
  refine W.widen (k := 150) (n := 2088665) (Nat.le_of_ble_eq_true rfl) (Nat.le_of_ble_eq_true rfl) ?_
  refine y_putF (T := TX12) (N := 212) (ci := 12) hx hb hts (zi_12 _) hown hK hP hD hS 0 rfl rfl 208 (by decide) tX12_208 uX12_208 (hts _ (zm_624 _)) rfl hin rfl rfl rfl dX12_init_1295 (fun H locs f_5 ek_6 ok_7 hP hD hS => ?_)
  rw [List.set_cons_zero] at hP hD
  refine lv_aload_n hx hb dX12_init_1298 rfl (lv_at hl 0 rfl) ?_
  refine lv_sipush (v := 260) hx hb dX12_init_1299 (by decide) ?_
  refine z_newa (atype := .byte) (ty := .byte) (a0 := (260, .inl (fun _ => 0))) hx hb (hts _ (zm_3 _)) rfl hK 1 rfl hP hD hS hA (fun cA => rfl) (by decide) (by decide) (by decide) (Nat.le_trans (Nat.le_of_ble_eq_true rfl) hc) (Nat.le_trans (Nat.le_of_ble_eq_true rfl) hsl) dX12_init_1302 (fun q_8 H hP hD hS => ?_)
  rw [List.cons_append] at hP hD
  refine W.widen (k := 151) (n := 2088925) (Nat.le_of_ble_eq_true rfl) (Nat.le_of_ble_eq_true rfl) ?_
  refine y_putF (T := TX12) (N := 212) (ci := 12) hx hb hts (zi_12 _) hown hK hP hD hS 0 rfl rfl 209 (by decide) tX12_209 uX12_209 (hts _ (zm_625 _)) rfl hin rfl rfl rfl dX12_init_1304 (fun H locs f_9 ek_10 ok_11 hP hD hS => ?_)
  rw [List.set_cons_zero] at hP hD
  refine lv_aload_n hx hb dX12_init_1307 rfl (lv_at hl 0 rfl) ?_
  refine lv_bipush (v := 17) hx hb dX12_init_1308 (by decide) ?_
  refine z_newa (atype := .long) (ty := .long) (a0 := (17, .inr (.inl (fun _ => 0)))) hx hb (hts _ (zm_4 _)) rfl hK 2 rfl hP hD hS hA (fun cA => rfl) (by decide) (by decide) (by decide) (Nat.le_trans (Nat.le_of_ble_eq_true rfl) hc) (Nat.le_trans (Nat.le_of_ble_eq_true rfl) hsl) dX12_init_1310 (fun q_12 H hP hD hS => ?_)
  rw [List.cons_append] at hP hD
  refine W.widen (k := 152) (n := 2088942) (Nat.le_of_ble_eq_true rfl) (Nat.le_of_ble_eq_true rfl) ?_
  refine y_putF (T := TX12) (N := 212) (ci := 12) hx hb hts (zi_12 _) hown hK hP hD hS 0 rfl rfl 211 (by decide) tX12_211 uX12_211 (hts _ (zm_626 _)) rfl hin rfl rfl rfl dX12_init_1312 (fun H locs f_13 ek_14 ok_15 hP hD hS => ?_)
  rw [List.set_cons_zero] at hP hD
  simp only [List.append_assoc, List.cons_append, List.nil_append] at hP hD
  exact kk f_13 q_4 q_8 q_12 H locs ((ok_15 204 (by decide)).trans ((ok_11 204 (by decide)).trans ((ok_7 204 (by decide)).trans ek_2))) ((ok_15 208 (by decide)).trans ((ok_11 208 (by decide)).trans ek_6)) ((ok_15 209 (by decide)).trans ek_10) ek_14 (fun j hj => ((ok_15 j (hj 211 (by decide))).trans ((ok_11 j (hj 209 (by decide))).trans ((ok_7 j (hj 208 (by decide))).trans ((ok_3 j (hj 204 (by decide))).trans rfl))))) hP hD hS hl
