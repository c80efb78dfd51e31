theorem dX12_init_4 : decode cX12_init 4 = .ok (.aload_n 0, 1) := by decide +kernel
theorem dX12_init_5 : decode cX12_init 5 = .ok (.sipush 150, 3) := by decide +kernel
theorem dX12_init_8 : decode cX12_init 8 = .ok (.newarray .int, 2) := by decide +kernel
theorem dX12_init_10 : decode cX12_init 10 = .ok (.putfield 7, 3) := by decide +kernel
theorem dX12_init_13 : decode cX12_init 13 = .ok (.aload_n 0, 1) := by decide +kernel
theorem dX12_init_14 : decode cX12_init 14 = .ok (.sipush 150, 3) := by decide +kernel
theorem dX12_init_17 : decode cX12_init 17 = .ok (.newarray .int, 2) := by decide +kernel
theorem dX12_init_19 : decode cX12_init 19 = .ok (.putfield 13, 3) := by decide +kernel
theorem dX12_init_22 : decode cX12_init 22 = .ok (.aload_n 0, 1) := by decide +kernel
theorem dX12_init_23 : decode cX12_init 23 = .ok (.sipush 150, 3) := by decide +kernel
theorem dX12_init_26 : decode cX12_init 26 = .ok (.newarray .int, 2) := by decide +kernel
theorem dX12_init_28 : decode cX12_init 28 = .ok (.putfield 16, 3) := by decide +kernel
theorem dX12_init_31 : decode cX12_init 31 = .ok (.aload_n 0, 1) := by decide +kernel
theorem dX12_init_32 : decode cX12_init 32 = .ok (.sipush 260, 3) := by decide +kernel
theorem dX12_init_35 : decode cX12_init 35 = .ok (.newarray .byte, 2) := by decide +kernel
theorem dX12_init_37 : decode cX12_init 37 = .ok (.putfield 19, 3) := by decide +kernel
theorem dX12_init_40 : decode cX12_init 40 = .ok (.aload_n 0, 1) := by decide +kernel
theorem dX12_init_41 : decode cX12_init 41 = .ok (.sipush 1300, 3) := by decide +kernel
theorem dX12_init_44 : decode cX12_init 44 = .ok (.newarray .int, 2) := by decide +kernel
theorem dX12_init_46 : decode cX12_init 46 = .ok (.putfield 23, 3) := by decide +kernel
theorem dX12_init_49 : decode cX12_init 49 = .ok (.aload_n 0, 1) := by decide +kernel
theorem dX12_init_50 : decode cX12_init 50 = .ok (.sipush 1300, 3) := by decide +kernel
theorem dX12_init_53 : decode cX12_init 53 = .ok (.newarray .int, 2) := by decide +kernel
theorem dX12_init_55 : decode cX12_init 55 = .ok (.putfield 26, 3) := by decide +kernel
theorem dX12_init_58 : decode cX12_init 58 = .ok (.aload_n 0, 1) := by decide +kernel
theorem dX12_init_59 : decode cX12_init 59 = .ok (.sipush 1300, 3) := by decide +kernel
theorem dX12_init_62 : decode cX12_init 62 = .ok (.newarray .long, 2) := by decide +kernel
theorem dX12_init_64 : decode cX12_init 64 = .ok (.putfield 29, 3) := by decide +kernel
theorem dX12_init_67 : decode cX12_init 67 = .ok (.aload_n 0, 1) := by decide +kernel
theorem dX12_init_68 : decode cX12_init 68 = .ok (.sipush 1300, 3) := by decide +kernel
theorem dX12_init_71 : decode cX12_init 71 = .ok (.newarray .int, 2) := by decide +kernel
theorem dX12_init_73 : decode cX12_init 73 = .ok (.putfield 33, 3) := by decide +kernel
theorem dX12_init_76 : decode cX12_init 76 = .ok (.aload_n 0, 1) := by decide +kernel
theorem dX12_init_77 : decode cX12_init 77 = .ok (.ldc 36, 2) := by decide +kernel
theorem dX12_init_79 : decode cX12_init 79 = .ok (.newarray .byte, 2) := by decide +kernel
theorem dX12_init_81 : decode cX12_init 81 = .ok (.putfield 37, 3) := by decide +kernel
theorem dX12_init_84 : decode cX12_init 84 = .ok (.aload_n 0, 1) := by decide +kernel
theorem dX12_init_85 : decode cX12_init 85 = .ok (.sipush 1300, 3) := by decide +kernel
theorem dX12_init_88 : decode cX12_init 88 = .ok (.newarray .int, 2) := by decide +kernel
theorem dX12_init_90 : decode cX12_init 90 = .ok (.putfield 40, 3) := by decide +kernel
theorem dX12_init_93 : decode cX12_init 93 = .ok (.aload_n 0, 1) := by decide +kernel
theorem dX12_init_94 : decode cX12_init 94 = .ok (.ldc 43, 2) := by decide +kernel
theorem dX12_init_96 : decode cX12_init 96 = .ok (.newarray .byte, 2) := by decide +kernel
theorem dX12_init_98 : decode cX12_init 98 = .ok (.putfield 44, 3) := by decide +kernel
theorem dX12_init_101 : decode cX12_init 101 = .ok (.aload_n 0, 1) := by decide +kernel
theorem dX12_init_102 : decode cX12_init 102 = .ok (.ldc 47, 2) := by decide +kernel
theorem dX12_init_104 : decode cX12_init 104 = .ok (.newarray .int, 2) := by decide +kernel
theorem dX12_init_106 : decode cX12_init 106 = .ok (.putfield 48, 3) := by decide +kernel
theorem dX12_init_109 : decode cX12_init 109 = .ok (.aload_n 0, 1) := by decide +kernel
theorem dX12_init_110 : decode cX12_init 110 = .ok (.bipush 21, 2) := by decide +kernel
theorem dX12_init_112 : decode cX12_init 112 = .ok (.newarray .int, 2) := by decide +kernel
theorem dX12_init_114 : decode cX12_init 114 = .ok (.putfield 51, 3) := by decide +kernel
theorem dX12_init_117 : decode cX12_init 117 = .ok (.aload_n 0, 1) := by decide +kernel
theorem dX12_init_118 : decode cX12_init 118 = .ok (.bipush 21, 2) := by decide +kernel
theorem dX12_init_120 : decode cX12_init 120 = .ok (.newarray .int, 2) := by decide +kernel
theorem dX12_init_122 : decode cX12_init 122 = .ok (.putfield 54, 3) := by decide +kernel
theorem dX12_init_125 : decode cX12_init 125 = .ok (.aload_n 0, 1) := by decide +kernel
theorem dX12_init_126 : decode cX12_init 126 = .ok (.bipush 17, 2) := by decide +kernel
theorem dX12_init_128 : decode cX12_init 128 = .ok (.newarray .long, 2) := by decide +kernel
theorem dX12_init_130 : decode cX12_init 130 = .ok (.putfield 57, 3) := by decide +kernel
theorem dX12_init_133 : decode cX12_init 133 = .ok (.aload_n 0, 1) := by decide +kernel
theorem dX12_init_134 : decode cX12_init 134 = .ok (.bipush 17, 2) := by decide +kernel
theorem dX12_init_136 : decode cX12_init 136 = .ok (.newarray .int, 2) := by decide +kernel
theorem dX12_init_138 : decode cX12_init 138 = .ok (.putfield 60, 3) := by decide +kernel
theorem dX12_init_141 : decode cX12_init 141 = .ok (.aload_n 0, 1) := by decide +kernel
theorem dX12_init_142 : decode cX12_init 142 = .ok (.ldc 63, 2) := by decide +kernel
theorem dX12_init_144 : decode cX12_init 144 = .ok (.newarray .byte, 2) := by decide +kernel
theorem dX12_init_146 : decode cX12_init 146 = .ok (.putfield 64, 3) := by decide +kernel
theorem dX12_init_149 : decode cX12_init 149 = .ok (.aload_n 0, 1) := by decide +kernel
theorem dX12_init_150 : decode cX12_init 150 = .ok (.bipush 17, 2) := by decide +kernel
theorem dX12_init_152 : decode cX12_init 152 = .ok (.newarray .int, 2) := by decide +kernel
theorem dX12_init_154 : decode cX12_init 154 = .ok (.putfield 67, 3) := by decide +kernel
theorem dX12_init_157 : decode cX12_init 157 = .ok (.aload_n 0, 1) := by decide +kernel
theorem dX12_init_158 : decode cX12_init 158 = .ok (.sipush 1717, 3) := by decide +kernel
theorem dX12_init_161 : decode cX12_init 161 = .ok (.newarray .int, 2) := by decide +kernel
theorem dX12_init_163 : decode cX12_init 163 = .ok (.putfield 70, 3) := by decide +kernel
theorem dX12_init_166 : decode cX12_init 166 = .ok (.aload_n 0, 1) := by decide +kernel
theorem dX12_init_167 : decode cX12_init 167 = .ok (.sipush 1717, 3) := by decide +kernel
theorem dX12_init_170 : decode cX12_init 170 = .ok (.newarray .int, 2) := by decide +kernel
theorem dX12_init_172 : decode cX12_init 172 = .ok (.putfield 73, 3) := by decide +kernel
theorem dX12_init_175 : decode cX12_init 175 = .ok (.aload_n 0, 1) := by decide +kernel
theorem dX12_init_176 : decode cX12_init 176 = .ok (.sipush 1717, 3) := by decide +kernel
theorem dX12_init_179 : decode cX12_init 179 = .ok (.newarray .long, 2) := by decide +kernel
theorem dX12_init_181 : decode cX12_init 181 = .ok (.putfield 76, 3) := by decide +kernel
theorem dX12_init_184 : decode cX12_init 184 = .ok (.aload_n 0, 1) := by decide +kernel
theorem dX12_init_185 : decode cX12_init 185 = .ok (.sipush 1717, 3) := by decide +kernel
theorem dX12_init_188 : decode cX12_init 188 = .ok (.newarray .int, 2) := by decide +kernel
theorem dX12_init_190 : decode cX12_init 190 = .ok (.putfield 79, 3) := by decide +kernel
theorem dX12_init_193 : decode cX12_init 193 = .ok (.aload_n 0, 1) := by decide +kernel
theorem dX12_init_194 : decode cX12_init 194 = .ok (.sipush 1717, 3) := by decide +kernel
theorem dX12_init_197 : decode cX12_init 197 = .ok (.newarray .int, 2) := by decide +kernel
theorem dX12_init_199 : decode cX12_init 199 = .ok (.putfield 82, 3) := by decide +kernel
theorem dX12_init_202 : decode cX12_init 202 = .ok (.aload_n 0, 1) := by decide +kernel
theorem dX12_init_203 : decode cX12_init 203 = .ok (.sipush 1717, 3) := by decide +kernel
theorem dX12_init_206 : decode cX12_init 206 = .ok (.newarray .int, 2) := by decide +kernel
theorem dX12_init_208 : decode cX12_init 208 = .ok (.putfield 85, 3) := by decide +kernel
theorem dX12_init_211 : decode cX12_init 211 = .ok (.aload_n 0, 1) := by decide +kernel
theorem dX12_init_212 : decode cX12_init 212 = .ok (.ldc 88, 2) := by decide +kernel
theorem dX12_init_214 : decode cX12_init 214 = .ok (.newarray .long, 2) := by decide +kernel
theorem dX12_init_216 : decode cX12_init 216 = .ok (.putfield 89, 3) := by decide +kernel
theorem dX12_init_219 : decode cX12_init 219 = .ok (.aload_n 0, 1) := by decide +kernel
theorem dX12_init_220 : decode cX12_init 220 = .ok (.sipush 3100, 3) := by decide +kernel
theorem dX12_init_223 : decode cX12_init 223 = .ok (.newarray .byte, 2) := by decide +kernel
theorem dX12_init_225 : decode cX12_init 225 = .ok (.putfield 92, 3) := by decide +kernel
theorem dX12_init_228 : decode cX12_init 228 = .ok (.aload_n 0, 1) := by decide +kernel
theorem dX12_init_229 : decode cX12_init 229 = .ok (.sipush 18000, 3) := by decide +kernel
theorem dX12_init_232 : decode cX12_init 232 = .ok (.newarray .boolean, 2) := by decide +kernel
theorem dX12_init_234 : decode cX12_init 234 = .ok (.putfield 95, 3) := by decide +kernel
theorem dX12_init_237 : decode cX12_init 237 = .ok (.aload_n 0, 1) := by decide +kernel
theorem dX12_init_238 : decode cX12_init 238 = .ok (.bipush 8, 2) := by decide +kernel
theorem dX12_init_240 : decode cX12_init 240 = .ok (.newarray .int, 2) := by decide +kernel
theorem dX12_init_242 : decode cX12_init 242 = .ok (.putfield 99, 3) := by decide +kernel
theorem dX12_init_245 : decode cX12_init 245 = .ok (.aload_n 0, 1) := by decide +kernel
theorem dX12_init_246 : decode cX12_init 246 = .ok (.sipush 360, 3) := by decide +kernel
theorem dX12_init_249 : decode cX12_init 249 = .ok (.newarray .int, 2) := by decide +kernel
theorem dX12_init_251 : decode cX12_init 251 = .ok (.putfield 102, 3) := by decide +kernel
theorem dX12_init_254 : decode cX12_init 254 = .ok (.aload_n 0, 1) := by decide +kernel
theorem dX12_init_255 : decode cX12_init 255 = .ok (.ldc 105, 2) := by decide +kernel
theorem dX12_init_257 : decode cX12_init 257 = .ok (.newarray .byte, 2) := by decide +kernel
theorem dX12_init_259 : decode cX12_init 259 = .ok (.putfield 106, 3) := by decide +kernel
theorem dX12_init_262 : decode cX12_init 262 = .ok (.aload_n 0, 1) := by decide +kernel
theorem dX12_init_263 : decode cX12_init 263 = .ok (.bipush 8, 2) := by decide +kernel
theorem dX12_init_265 : decode cX12_init 265 = .ok (.newarray .int, 2) := by decide +kernel
theorem dX12_init_267 : decode cX12_init 267 = .ok (.putfield 109, 3) := by decide +kernel
theorem dX12_init_270 : decode cX12_init 270 = .ok (.aload_n 0, 1) := by decide +kernel
theorem dX12_init_271 : decode cX12_init 271 = .ok (.sipush 240, 3) := by decide +kernel
theorem dX12_init_274 : decode cX12_init 274 = .ok (.newarray .int, 2) := by decide +kernel
theorem dX12_init_276 : decode cX12_init 276 = .ok (.putfield 112, 3) := by decide +kernel
theorem dX12_init_279 : decode cX12_init 279 = .ok (.aload_n 0, 1) := by decide +kernel
theorem dX12_init_280 : decode cX12_init 280 = .ok (.sipush 240, 3) := by decide +kernel
theorem dX12_init_283 : decode cX12_init 283 = .ok (.newarray .long, 2) := by decide +kernel
theorem dX12_init_285 : decode cX12_init 285 = .ok (.putfield 115, 3) := by decide +kernel
theorem dX12_init_288 : decode cX12_init 288 = .ok (.aload_n 0, 1) := by decide +kernel
theorem dX12_init_289 : decode cX12_init 289 = .ok (.sipush 240, 3) := by decide +kernel
theorem dX12_init_292 : decode cX12_init 292 = .ok (.newarray .int, 2) := by decide +kernel
theorem dX12_init_294 : decode cX12_init 294 = .ok (.putfield 118, 3) := by decide +kernel
theorem dX12_init_297 : decode cX12_init 297 = .ok (.aload_n 0, 1) := by decide +kernel
theorem dX12_init_298 : decode cX12_init 298 = .ok (.sipush 26400, 3) := by decide +kernel
theorem dX12_init_301 : decode cX12_init 301 = .ok (.newarray .byte, 2) := by decide +kernel
theorem dX12_init_303 : decode cX12_init 303 = .ok (.putfield 121, 3) := by decide +kernel
theorem dX12_init_306 : decode cX12_init 306 = .ok (.aload_n 0, 1) := by decide +kernel
theorem dX12_init_307 : decode cX12_init 307 = .ok (.sipush 360, 3) := by decide +kernel
theorem dX12_init_310 : decode cX12_init 310 = .ok (.newarray .int, 2) := by decide +kernel
theorem dX12_init_312 : decode cX12_init 312 = .ok (.putfield 124, 3) := by decide +kernel
theorem dX12_init_315 : decode cX12_init 315 = .ok (.aload_n 0, 1) := by decide +kernel
theorem dX12_init_316 : decode cX12_init 316 = .ok (.sipush 360, 3) := by decide +kernel
theorem dX12_init_319 : decode cX12_init 319 = .ok (.newarray .long, 2) := by decide +kernel
theorem dX12_init_321 : decode cX12_init 321 = .ok (.putfield 127, 3) := by decide +kernel
theorem dX12_init_324 : decode cX12_init 324 = .ok (.aload_n 0, 1) := by decide +kernel
theorem dX12_init_325 : decode cX12_init 325 = .ok (.bipush 8, 2) := by decide +kernel
theorem dX12_init_327 : decode cX12_init 327 = .ok (.newarray .int, 2) := by decide +kernel
theorem dX12_init_329 : decode cX12_init 329 = .ok (.putfield 130, 3) := by decide +kernel
theorem dX12_init_332 : decode cX12_init 332 = .ok (.aload_n 0, 1) := by decide +kernel
theorem dX12_init_333 : decode cX12_init 333 = .ok (.sipush 7200, 3) := by decide +kernel
theorem dX12_init_336 : decode cX12_init 336 = .ok (.newarray .long, 2) := by decide +kernel
theorem dX12_init_338 : decode cX12_init 338 = .ok (.putfield 133, 3) := by decide +kernel
theorem dX12_init_341 : decode cX12_init 341 = .ok (.aload_n 0, 1) := by decide +kernel
theorem dX12_init_342 : decode cX12_init 342 = .ok (.sipush 7200, 3) := by decide +kernel
theorem dX12_init_345 : decode cX12_init 345 = .ok (.newarray .int, 2) := by decide +kernel
theorem dX12_init_347 : decode cX12_init 347 = .ok (.putfield 136, 3) := by decide +kernel
set_option maxHeartbeats 8000000 in
set_option maxRecDepth 100000 in
/-- a piece of MumpsHouseModel() -/
theorem sg_0 {p : Program} {l : Launch} {e : Env} {R : Room} {s : State} {m : MethodId} {args : Array Value} {below : List Frame} {meth : Method} {c : Code} {Q : State → Prop} {A : Nat → Prop} {D : va_G} {x : Nat → ClassId} {h0 : Nat} (hx : p.tables.exec = Jvm.exec) (hb : c.code = cX12_init) (hts : ∀ w ∈ (.code yX12_init cX12_init 2 none :: zW : List Cond), w.before args s = true) (hown : s.vm.findClass RX12 = some m.cls) (hin : meth.name = "<init>") (hZ : zK x D s) (hA : ∀ q, s.heap.size ≤ q → A q) (hc : 10 ≤ R.cells) (hsl : 150210 ≤ R.slots) {rest : va_W} {f : Nat → Value} {H : Heap} {locs : List Loc} {ls : Array Slot} (hP : va_P D vwCl ((h0, .inr (12, zf 212 f)) :: rest) H) (hD : va_D A ((h0, .inr (12, zf 212 f)) :: rest)) (hS : va_S A s.heap H locs) (hl : lv_has ls 2 [(0, .ref h0)])
    (kk : ∀ (f' : Nat → Value) (q_1 q_5 q_9 q_13 q_17 q_21 q_25 q_29 q_33 q_37 : Nat) (H : Heap) (locs : List Loc), f' 0 = .ref q_1 → f' 1 = .ref q_5 → f' 2 = .ref q_9 → f' 5 = .ref q_13 → f' 9 = .ref q_17 → f' 10 = .ref q_21 → f' 11 = .ref q_25 → f' 12 = .ref q_29 → f' 13 = .ref q_33 → f' 14 = .ref q_37 → (∀ j, (∀ k ∈ [0, 1, 2, 5, 9, 10, 11, 12, 13, 14], j ≠ k) → f' j = f j) → va_P D vwCl ((h0, .inr (12, zf 212 f')) :: (rest ++ [(q_1, .inl (x 0, 150, .inl (fun _ => 0))), (q_5, .inl (x 0, 150, .inl (fun _ => 0))), (q_9, .inl (x 0, 150, .inl (fun _ => 0))), (q_13, .inl (x 1, 260, .inl (fun _ => 0))), (q_17, .inl (x 0, 1300, .inl (fun _ => 0))), (q_21, .inl (x 0, 1300, .inl (fun _ => 0))), (q_25, .inl (x 2, 1300, .inr (.inl (fun _ => 0)))), (q_29, .inl (x 0, 1300, .inl (fun _ => 0))), (q_33, .inl (x 1, 143000, .inl (fun _ => 0))), (q_37, .inl (x 0, 1300, .inl (fun _ => 0)))])) H → va_D A ((h0, .inr (12, zf 212 f')) :: (rest ++ [(q_1, .inl (x 0, 150, .inl (fun _ => 0))), (q_5, .inl (x 0, 150, .inl (fun _ => 0))), (q_9, .inl (x 0, 150, .inl (fun _ => 0))), (q_13, .inl (x 1, 260, .inl (fun _ => 0))), (q_17, .inl (x 0, 1300, .inl (fun _ => 0))), (q_21, .inl (x 0, 1300, .inl (fun _ => 0))), (q_25, .inl (x 2, 1300, .inr (.inl (fun _ => 0)))), (q_29, .inl (x 0, 1300, .inl (fun _ => 0))), (q_33, .inl (x 1, 143000, .inl (fun _ => 0))), (q_37, .inl (x 0, 1300, .inl (fun _ => 0)))])) → va_S A s.heap H locs → lv_has ls 2 [(0, .ref h0)] → W p l e R s m args below meth c H locs 10 150210 Q (F0 m 93 ls [])) :
    W p l e R s m args below meth c H locs 0 0 Q (F0 m 4 ls []) := by
  have hK := hZ.1
  refine lv_aload_n hx hb dX12_init_4 rfl (lv_at hl 0 rfl) ?_
  refine lv_sipush (v := 150) hx hb dX12_init_5 (by decide) ?_
  refine z_newa (atype := .int) (ty := .int) (a0 := (150, .inl (fun _ => 0))) hx hb (hts _ (zm_2 _)) rfl hK 0 rfl hP hD hS hA (fun cA => rfl) (by decide) (by decide) (by decide) (Nat.le_trans (Nat.le_of_ble_eq_true rfl) hc) (Nat.le_trans (Nat.le_of_ble_eq_true rfl) hsl) dX12_init_8 (fun q_1 H hP hD hS => ?_)
  rw [List.cons_append] at hP hD
  refine W.widen (k := 1) (n := 150) (Nat.le_of_ble_eq_true rfl) (Nat.le_of_ble_eq_true rfl) ?_
  refine y_putF (T := TX12) (N := 212) (ci := 12) hx hb hts (zi_12 _) hown hK hP hD hS 0 rfl rfl 0 (by decide) tX12_0 uX12_0 (hts _ (zm_462 _)) rfl hin rfl rfl rfl dX12_init_10 (fun H locs f_2 ek_3 ok_4 hP hD hS => ?_)
  rw [List.set_cons_zero] at hP hD
  refine lv_aload_n hx hb dX12_init_13 rfl (lv_at hl 0 rfl) ?_
  refine lv_sipush (v := 150) hx hb dX12_init_14 (by decide) ?_
  refine z_newa (atype := .int) (ty := .int) (a0 := (150, .inl (fun _ => 0))) hx hb (hts _ (zm_2 _)) rfl hK 0 rfl hP hD hS hA (fun cA => rfl) (by decide) (by decide) (by decide) (Nat.le_trans (Nat.le_of_ble_eq_true rfl) hc) (Nat.le_trans (Nat.le_of_ble_eq_true rfl) hsl) dX12_init_17 (fun q_5 H hP hD hS => ?_)
  rw [List.cons_append] at hP hD
  refine W.widen (k := 2) (n := 300) (Nat.le_of_ble_eq_true rfl) (Nat.le_of_ble_eq_true rfl) ?_
  refine y_putF (T := TX12) (N := 212) (ci := 12) hx hb hts (zi_12 _) hown hK hP hD hS 0 rfl rfl 1 (by decide) tX12_1 uX12_1 (hts _ (zm_463 _)) rfl hin rfl rfl rfl dX12_init_19 (fun H locs f_6 ek_7 ok_8 hP hD hS => ?_)
  rw [List.set_cons_zero] at hP hD
  refine lv_aload_n hx hb dX12_init_22 rfl (lv_at hl 0 rfl) ?_
  refine lv_sipush (v := 150) hx hb dX12_init_23 (by decide) ?_
  refine z_newa (atype := .int) (ty := .int) (a0 := (150, .inl (fun _ => 0))) hx hb (hts _ (zm_2 _)) rfl hK 0 rfl hP hD hS hA (fun cA => rfl) (by decide) (by decide) (by decide) (Nat.le_trans (Nat.le_of_ble_eq_true rfl) hc) (Nat.le_trans (Nat.le_of_ble_eq_true rfl) hsl) dX12_init_26 (fun q_9 H hP hD hS => ?_)
  rw [List.cons_append] at hP hD
  refine W.widen (k := 3) (n := 450) (Nat.le_of_ble_eq_true rfl) (Nat.le_of_ble_eq_true rfl) ?_
  refine y_putF (T := TX12) (N := 212) (ci := 12) hx hb hts (zi_12 _) hown hK hP hD hS 0 rfl rfl 2 (by decide) tX12_2 uX12_2 (hts _ (zm_464 _)) rfl hin rfl rfl rfl dX12_init_28 (fun H locs f_10 ek_11 ok_12 hP hD hS => ?_)
  rw [List.set_cons_zero] at hP hD
  refine lv_aload_n hx hb dX12_init_31 rfl (lv_at hl 0 rfl) ?_
  refine lv_sipush (v := 260) hx hb dX12_init_32 (by decide) ?_
  refine z_newa (atype := .byte) (ty := .byte) (a0 := (260, .inl (fun _ => 0))) hx hb (hts _ (zm_3 _)) rfl hK 1 rfl hP hD hS hA (fun cA => rfl) (by decide) (by decide) (by decide) (Nat.le_trans (Nat.le_of_ble_eq_true rfl) hc) (Nat.le_trans (Nat.le_of_ble_eq_true rfl) hsl) dX12_init_35 (fun q_13 H hP hD hS => ?_)
  rw [List.cons_append] at hP hD
  refine W.widen (k := 4) (n := 710) (Nat.le_of_ble_eq_true rfl) (Nat.le_of_ble_eq_true rfl) ?_
  refine y_putF (T := TX12) (N := 212) (ci := 12) hx hb hts (zi_12 _) hown hK hP hD hS 0 rfl rfl 5 (by decide) tX12_5 uX12_5 (hts _ (zm_465 _)) rfl hin rfl rfl rfl dX12_init_37 (fun H locs f_14 ek_15 ok_16 hP hD hS => ?_)
  rw [List.set_cons_zero] at hP hD
  refine lv_aload_n hx hb dX12_init_40 rfl (lv_at hl 0 rfl) ?_
  refine lv_sipush (v := 1300) hx hb dX12_init_41 (by decide) ?_
  refine z_newa (atype := .int) (ty := .int) (a0 := (1300, .inl (fun _ => 0))) hx hb (hts _ (zm_2 _)) rfl hK 0 rfl hP hD hS hA (fun cA => rfl) (by decide) (by decide) (by decide) (Nat.le_trans (Nat.le_of_ble_eq_true rfl) hc) (Nat.le_trans (Nat.le_of_ble_eq_true rfl) hsl) dX12_init_44 (fun q_17 H hP hD hS => ?_)
  rw [List.cons_append] at hP hD
  refine W.widen (k := 5) (n := 2010) (Nat.le_of_ble_eq_true rfl) (Nat.le_of_ble_eq_true rfl) ?_
  refine y_putF (T := TX12) (N := 212) (ci := 12) hx hb hts (zi_12 _) hown hK hP hD hS 0 rfl rfl 9 (by decide) tX12_9 uX12_9 (hts _ (zm_466 _)) rfl hin rfl rfl rfl dX12_init_46 (fun H locs f_18 ek_19 ok_20 hP hD hS => ?_)
  rw [List.set_cons_zero] at hP hD
  refine lv_aload_n hx hb dX12_init_49 rfl (lv_at hl 0 rfl) ?_
  refine lv_sipush (v := 1300) hx hb dX12_init_50 (by decide) ?_
  refine z_newa (atype := .int) (ty := .int) (a0 := (1300, .inl (fun _ => 0))) hx hb (hts _ (zm_2 _)) rfl hK 0 rfl hP hD hS hA (fun cA => rfl) (by decide) (by decide) (by decide) (Nat.le_trans (Nat.le_of_ble_eq_true rfl) hc) (Nat.le_trans (Nat.le_of_ble_eq_true rfl) hsl) dX12_init_53 (fun q_21 H hP hD hS => ?_)
  rw [List.cons_append] at hP hD
  refine W.widen (k := 6) (n := 3310) (Nat.le_of_ble_eq_true rfl) (Nat.le_of_ble_eq_true rfl) ?_
  refine y_putF (T := TX12) (N := 212) (ci := 12) hx hb hts (zi_12 _) hown hK hP hD hS 0 rfl rfl 10 (by decide) tX12_10 uX12_10 (hts _ (zm_467 _)) rfl hin rfl rfl rfl dX12_init_55 (fun H locs f_22 ek_23 ok_24 hP hD hS => ?_)
  rw [List.set_cons_zero] at hP hD
  refine lv_aload_n hx hb dX12_init_58 rfl (lv_at hl 0 rfl) ?_
  refine lv_sipush (v := 1300) hx hb dX12_init_59 (by decide) ?_
  refine z_newa (atype := .long) (ty := .long) (a0 := (1300, .inr (.inl (fun _ => 0)))) hx hb (hts _ (zm_4 _)) rfl hK 2 rfl hP hD hS hA (fun cA => rfl) (by decide) (by decide) (by decide) (Nat.le_trans (Nat.le_of_ble_eq_true rfl) hc) (Nat.le_trans (Nat.le_of_ble_eq_true rfl) hsl) dX12_init_62 (fun q_25 H hP hD hS => ?_)
  rw [List.cons_append] at hP hD
  refine W.widen (k := 7) (n := 4610) (Nat.le_of_ble_eq_true rfl) (Nat.le_of_ble_eq_true rfl) ?_
  refine y_putF (T := TX12) (N := 212) (ci := 12) hx hb hts (zi_12 _) hown hK hP hD hS 0 rfl rfl 11 (by decide) tX12_11 uX12_11 (hts _ (zm_468 _)) rfl hin rfl rfl rfl dX12_init_64 (fun H locs f_26 ek_27 ok_28 hP hD hS => ?_)
  rw [List.set_cons_zero] at hP hD
  refine lv_aload_n hx hb dX12_init_67 rfl (lv_at hl 0 rfl) ?_
  refine lv_sipush (v := 1300) hx hb dX12_init_68 (by decide) ?_
  refine z_newa (atype := .int) (ty := .int) (a0 := (1300, .inl (fun _ => 0))) hx hb (hts _ (zm_2 _)) rfl hK 0 rfl hP hD hS hA (fun cA => rfl) (by decide) (by decide) (by decide) (Nat.le_trans (Nat.le_of_ble_eq_true rfl) hc) (Nat.le_trans (Nat.le_of_ble_eq_true rfl) hsl) dX12_init_71 (fun q_29 H hP hD hS => ?_)
  rw [List.cons_append] at hP hD
  refine W.widen (k := 8) (n := 5910) (Nat.le_of_ble_eq_true rfl) (Nat.le_of_ble_eq_true rfl) ?_
  refine y_putF (T := TX12) (N := 212) (ci := 12) hx hb hts (zi_12 _) hown hK hP hD hS 0 rfl rfl 12 (by decide) tX12_12 uX12_12 (hts _ (zm_469 _)) rfl hin rfl rfl rfl dX12_init_73 (fun H locs f_30 ek_31 ok_32 hP hD hS => ?_)
  rw [List.set_cons_zero] at hP hD
  refine lv_aload_n hx hb dX12_init_76 rfl (lv_at hl 0 rfl) ?_
  refine lv_ldc hx hb hown (hts _ (zm_470 _)) dX12_init_77 ?_
  refine z_newa (atype := .byte) (ty := .byte) (a0 := (143000, .inl (fun _ => 0))) hx hb (hts _ (zm_3 _)) rfl hK 1 rfl hP hD hS hA (fun cA => rfl) (by decide) (by decide) (by decide) (Nat.le_trans (Nat.le_of_ble_eq_true rfl) hc) (Nat.le_trans (Nat.le_of_ble_eq_true rfl) hsl) dX12_init_79 (fun q_33 H hP hD hS => ?_)
  rw [List.cons_append] at hP hD
  refine W.widen (k := 9) (n := 148910) (Nat.le_of_ble_eq_true rfl) (Nat.le_of_ble_eq_true rfl) ?_
  refine y_putF (T := TX12) (N := 212) (ci := 12) hx hb hts (zi_12 _) hown hK hP hD hS 0 rfl rfl 13 (by decide) tX12_13 uX12_13 (hts _ (zm_471 _)) rfl hin rfl rfl rfl dX12_init_81 (fun H locs f_34 ek_35 ok_36 hP hD hS => ?_)
  rw [List.set_cons_zero] at hP hD
  refine lv_aload_n hx hb dX12_init_84 rfl (lv_at hl 0 rfl) ?_
  refine lv_sipush (v := 1300) hx hb dX12_init_85 (by decide) ?_
  refine z_newa (atype := .int) (ty := .int) (a0 := (1300, .inl (fun _ => 0))) hx hb (hts _ (zm_2 _)) rfl hK 0 rfl hP hD hS hA (fun cA => rfl) (by decide) (by decide) (by decide) (Nat.le_trans (Nat.le_of_ble_eq_true rfl) hc) (Nat.le_trans (Nat.le_of_ble_eq_true rfl) hsl) dX12_init_88 (fun q_37 H hP hD hS => ?_)
  rw [List.cons_append] at hP hD
  refine W.widen (k := 10) (n := 150210) (Nat.le_of_ble_eq_true rfl) (Nat.le_of_ble_eq_true rfl) ?_
  refine y_putF (T := TX12) (N := 212) (ci := 12) hx hb hts (zi_12 _) hown hK hP hD hS 0 rfl rfl 14 (by decide) tX12_14 uX12_14 (hts _ (zm_472 _)) rfl hin rfl rfl rfl dX12_init_90 (fun H locs f_38 ek_39 ok_40 hP hD hS => ?_)
  rw [List.set_cons_zero] at hP hD
  simp only [List.append_assoc, List.cons_append, List.nil_append] at hP hD
  exact kk f_38 q_1 q_5 q_9 q_13 q_17 q_21 q_25 q_29 q_33 q_37 H locs ((ok_40 0 (by decide)).trans ((ok_36 0 (by decide)).trans ((ok_32 0 (by decide)).trans ((ok_28 0 (by decide)).trans ((ok_24 0 (by decide)).trans ((ok_20 0 (by decide)).trans ((ok_16 0 (by decide)).trans ((ok_12 0 (by decide)).trans ((ok_8 0 (by decide)).trans ek_3))))))))) ((ok_40 1 (by decide)).trans ((ok_36 1 (by decide)).trans ((ok_32 1 (by decide)).trans ((ok_28 1 (by decide)).trans ((ok_24 1 (by decide)).trans ((ok_20 1 (by decide)).trans ((ok_16 1 (by decide)).trans ((ok_12 1 (by decide)).trans ek_7)))))))) ((ok_40 2 (by decide)).trans ((ok_36 2 (by decide)).trans ((ok_32 2 (by decide)).trans ((ok_28 2 (by decide)).trans ((ok_24 2 (by decide)).trans ((ok_20 2 (by decide)).trans ((ok_16 2 (by decide)).trans ek_11))))))) ((ok_40 5 (by decide)).trans ((ok_36 5 (by decide)).trans ((ok_32 5 (by decide)).trans ((ok_28 5 (by decide)).trans ((ok_24 5 (by decide)).trans ((ok_20 5 (by decide)).trans ek_15)))))) ((ok_40 9 (by decide)).trans ((ok_36 9 (by decide)).trans ((ok_32 9 (by decide)).trans ((ok_28 9 (by decide)).trans ((ok_24 9 (by decide)).trans ek_19))))) ((ok_40 10 (by decide)).trans ((ok_36 10 (by decide)).trans ((ok_32 10 (by decide)).trans ((ok_28 10 (by decide)).trans ek_23)))) ((ok_40 11 (by decide)).trans ((ok_36 11 (by decide)).trans ((ok_32 11 (by decide)).trans ek_27))) ((ok_40 12 (by decide)).trans ((ok_36 12 (by decide)).trans ek_31)) ((ok_40 13 (by decide)).trans ek_35) ek_39 (fun j hj => ((ok_40 j (hj 14 (by decide))).trans ((ok_36 j (hj 13 (by decide))).trans ((ok_32 j (hj 12 (by decide))).trans ((ok_28 j (hj 11 (by decide))).trans ((ok_24 j (hj 10 (by decide))).trans ((ok_20 j (hj 9 (by decide))).trans ((ok_16 j (hj 5 (by decide))).trans ((ok_12 j (hj 2 (by decide))).trans ((ok_8 j (hj 1 (by decide))).trans ((ok_4 j (hj 0 (by decide))).trans rfl))))))))))) hP hD hS hl

set_option maxHeartbeats 8000000 in
set_option maxRecDepth 100000 in
/-- a piece of MumpsHouseModel() -/
theorem sg_1 {p : Program} {l : Launch} {e : Env} {R : Room} {s : State} {m : MethodId} {args : Array Value} {below : List Frame} {meth : Method} {c : Code} {Q : State → Prop} {A : Nat → Prop} {D : va_G} {x : Nat → ClassId} {h0 : Nat} (hx : p.tables.exec = Jvm.exec) (hb : c.code = cX12_init) (hts : ∀ w ∈ (.code yX12_init cX12_init 2 none :: zW : List Cond), w.before args s = true) (hown : s.vm.findClass RX12 = some m.cls) (hin : meth.name = "<init>") (hZ : zK x D s) (hA : ∀ q, s.heap.size ≤ q → A q) (hc : 20 ≤ R.cells) (hsl : 1371437 ≤ R.slots) {rest : va_W} {f : Nat → Value} {H : Heap} {locs : List Loc} {ls : Array Slot} (hP : va_P D vwCl ((h0, .inr (12, zf 212 f)) :: rest) H) (hD : va_D A ((h0, .inr (12, zf 212 f)) :: rest)) (hS : va_S A s.heap H locs) (hl : lv_has ls 2 [(0, .ref h0)])
    (kk : ∀ (f' : Nat → Value) (q_1 q_5 q_9 q_13 q_17 q_21 q_25 q_29 q_33 q_37 : Nat) (H : Heap) (locs : List Loc), f' 15 = .ref q_1 → f' 21 = .ref q_5 → f' 24 = .ref q_9 → f' 25 = .ref q_13 → f' 29 = .ref q_17 → f' 30 = .ref q_21 → f' 31 = .ref q_25 → f' 32 = .ref q_29 → f' 33 = .ref q_33 → f' 34 = .ref q_37 → (∀ j, (∀ k ∈ [15, 21, 24, 25, 29, 30, 31, 32, 33, 34], j ≠ k) → f' j = f j) → va_P D vwCl ((h0, .inr (12, zf 212 f')) :: (rest ++ [(q_1, .inl (x 1, 325000, .inl (fun _ => 0))), (q_5, .inl (x 0, 840000, .inl (fun _ => 0))), (q_9, .inl (x 0, 21, .inl (fun _ => 0))), (q_13, .inl (x 0, 21, .inl (fun _ => 0))), (q_17, .inl (x 2, 17, .inr (.inl (fun _ => 0)))), (q_21, .inl (x 0, 17, .inl (fun _ => 0))), (q_25, .inl (x 1, 52700, .inl (fun _ => 0))), (q_29, .inl (x 0, 17, .inl (fun _ => 0))), (q_33, .inl (x 0, 1717, .inl (fun _ => 0))), (q_37, .inl (x 0, 1717, .inl (fun _ => 0)))])) H → va_D A ((h0, .inr (12, zf 212 f')) :: (rest ++ [(q_1, .inl (x 1, 325000, .inl (fun _ => 0))), (q_5, .inl (x 0, 840000, .inl (fun _ => 0))), (q_9, .inl (x 0, 21, .inl (fun _ => 0))), (q_13, .inl (x 0, 21, .inl (fun _ => 0))), (q_17, .inl (x 2, 17, .inr (.inl (fun _ => 0)))), (q_21, .inl (x 0, 17, .inl (fun _ => 0))), (q_25, .inl (x 1, 52700, .inl (fun _ => 0))), (q_29, .inl (x 0, 17, .inl (fun _ => 0))), (q_33, .inl (x 0, 1717, .inl (fun _ => 0))), (q_37, .inl (x 0, 1717, .inl (fun _ => 0)))])) → va_S A s.heap H locs → lv_has ls 2 [(0, .ref h0)] → W p l e R s m args below meth c H locs 20 1371437 Q (F0 m 175 ls [])) :
    W p l e R s m args below meth c H locs 10 150210 Q (F0 m 93 ls []) := by
  have hK := hZ.1
  refine lv_aload_n hx hb dX12_init_93 rfl (lv_at hl 0 rfl) ?_
  refine lv_ldc hx hb hown (hts _ (zm_473 _)) dX12_init_94 ?_
  refine z_newa (atype := .byte) (ty := .byte) (a0 := (325000, .inl (fun _ => 0))) hx hb (hts _ (zm_3 _)) rfl hK 1 rfl hP hD hS hA (fun cA => rfl) (by decide) (by decide) (by decide) (Nat.le_trans (Nat.le_of_ble_eq_true rfl) hc) (Nat.le_trans (Nat.le_of_ble_eq_true rfl) hsl) dX12_init_96 (fun q_1 H hP hD hS => ?_)
  rw [List.cons_append] at hP hD
  refine W.widen (k := 11) (n := 475210) (Nat.le_of_ble_eq_true rfl) (Nat.le_of_ble_eq_true rfl) ?_
  refine y_putF (T := TX12) (N := 212) (ci := 12) hx hb hts (zi_12 _) hown hK hP hD hS 0 rfl rfl 15 (by decide) tX12_15 uX12_15 (hts _ (zm_474 _)) rfl hin rfl rfl rfl dX12_init_98 (fun H locs f_2 ek_3 ok_4 hP hD hS => ?_)
  rw [List.set_cons_zero] at hP hD
  refine lv_aload_n hx hb dX12_init_101 rfl (lv_at hl 0 rfl) ?_
  refine lv_ldc hx hb hown (hts _ (zm_475 _)) dX12_init_102 ?_
  refine z_newa (atype := .int) (ty := .int) (a0 := (840000, .inl (fun _ => 0))) hx hb (hts _ (zm_2 _)) rfl hK 0 rfl hP hD hS hA (fun cA => rfl) (by decide) (by decide) (by decide) (Nat.le_trans (Nat.le_of_ble_eq_true rfl) hc) (Nat.le_trans (Nat.le_of_ble_eq_true rfl) hsl) dX12_init_104 (fun q_5 H hP hD hS => ?_)
  rw [List.cons_append] at hP hD
  refine W.widen (k := 12) (n := 1315210) (Nat.le_of_ble_eq_true rfl) (Nat.le_of_ble_eq_true rfl) ?_
  refine y_putF (T := TX12) (N := 212) (ci := 12) hx hb hts (zi_12 _) hown hK hP hD hS 0 rfl rfl 21 (by decide) tX12_21 uX12_21 (hts _ (zm_476 _)) rfl hin rfl rfl rfl dX12_init_106 (fun H locs f_6 ek_7 ok_8 hP hD hS => ?_)
  rw [List.set_cons_zero] at hP hD
  refine lv_aload_n hx hb dX12_init_109 rfl (lv_at hl 0 rfl) ?_
  refine lv_bipush (v := 21) hx hb dX12_init_110 (by decide) ?_
  refine z_newa (atype := .int) (ty := .int) (a0 := (21, .inl (fun _ => 0))) hx hb (hts _ (zm_2 _)) rfl hK 0 rfl hP hD hS hA (fun cA => rfl) (by decide) (by decide) (by decide) (Nat.le_trans (Nat.le_of_ble_eq_true rfl) hc) (Nat.le_trans (Nat.le_of_ble_eq_true rfl) hsl) dX12_init_112 (fun q_9 H hP hD hS => ?_)
  rw [List.cons_append] at hP hD
  refine W.widen (k := 13) (n := 1315231) (Nat.le_of_ble_eq_true rfl) (Nat.le_of_ble_eq_true rfl) ?_
  refine y_putF (T := TX12) (N := 212) (ci := 12) hx hb hts (zi_12 _) hown hK hP hD hS 0 rfl rfl 24 (by decide) tX12_24 uX12_24 (hts _ (zm_477 _)) rfl hin rfl rfl rfl dX12_init_114 (fun H locs f_10 ek_11 ok_12 hP hD hS => ?_)
  rw [List.set_cons_zero] at hP hD
  refine lv_aload_n hx hb dX12_init_117 rfl (lv_at hl 0 rfl) ?_
  refine lv_bipush (v := 21) hx hb dX12_init_118 (by decide) ?_
  refine z_newa (atype := .int) (ty := .int) (a0 := (21, .inl (fun _ => 0))) hx hb (hts _ (zm_2 _)) rfl hK 0 rfl hP hD hS hA (fun cA => rfl) (by decide) (by decide) (by decide) (Nat.le_trans (Nat.le_of_ble_eq_true rfl) hc) (Nat.le_trans (Nat.le_of_ble_eq_true rfl) hsl) dX12_init_120 (fun q_13 H hP hD hS => ?_)
  rw [List.cons_append] at hP hD
  refine W.widen (k := 14) (n := 1315252) (Nat.le_of_ble_eq_true rfl) (Nat.le_of_ble_eq_true rfl) ?_
  refine y_putF (T := TX12) (N := 212) (ci := 12) hx hb hts (zi_12 _) hown hK hP hD hS 0 rfl rfl 25 (by decide) tX12_25 uX12_25 (hts _ (zm_478 _)) rfl hin rfl rfl rfl dX12_init_122 (fun H locs f_14 ek_15 ok_16 hP hD hS => ?_)
  rw [List.set_cons_zero] at hP hD
  refine lv_aload_n hx hb dX12_init_125 rfl (lv_at hl 0 rfl) ?_
  refine lv_bipush (v := 17) hx hb dX12_init_126 (by decide) ?_
  refine z_newa (atype := .long) (ty := .long) (a0 := (17, .inr (.inl (fun _ => 0)))) hx hb (hts _ (zm_4 _)) rfl hK 2 rfl hP hD hS hA (fun cA => rfl) (by decide) (by decide) (by decide) (Nat.le_trans (Nat.le_of_ble_eq_true rfl) hc) (Nat.le_trans (Nat.le_of_ble_eq_true rfl) hsl) dX12_init_128 (fun q_17 H hP hD hS => ?_)
  rw [List.cons_append] at hP hD
  refine W.widen (k := 15) (n := 1315269) (Nat.le_of_ble_eq_true rfl) (Nat.le_of_ble_eq_true rfl) ?_
  refine y_putF (T := TX12) (N := 212) (ci := 12) hx hb hts (zi_12 _) hown hK hP hD hS 0 rfl rfl 29 (by decide) tX12_29 uX12_29 (hts _ (zm_479 _)) rfl hin rfl rfl rfl dX12_init_130 (fun H locs f_18 ek_19 ok_20 hP hD hS => ?_)
  rw [List.set_cons_zero] at hP hD
  refine lv_aload_n hx hb dX12_init_133 rfl (lv_at hl 0 rfl) ?_
  refine lv_bipush (v := 17) hx hb dX12_init_134 (by decide) ?_
  refine z_newa (atype := .int) (ty := .int) (a0 := (17, .inl (fun _ => 0))) hx hb (hts _ (zm_2 _)) rfl hK 0 rfl hP hD hS hA (fun cA => rfl) (by decide) (by decide) (by decide) (Nat.le_trans (Nat.le_of_ble_eq_true rfl) hc) (Nat.le_trans (Nat.le_of_ble_eq_true rfl) hsl) dX12_init_136 (fun q_21 H hP hD hS => ?_)
  rw [List.cons_append] at hP hD
  refine W.widen (k := 16) (n := 1315286) (Nat.le_of_ble_eq_true rfl) (Nat.le_of_ble_eq_true rfl) ?_
  refine y_putF (T := TX12) (N := 212) (ci := 12) hx hb hts (zi_12 _) hown hK hP hD hS 0 rfl rfl 30 (by decide) tX12_30 uX12_30 (hts _ (zm_480 _)) rfl hin rfl rfl rfl dX12_init_138 (fun H locs f_22 ek_23 ok_24 hP hD hS => ?_)
  rw [List.set_cons_zero] at hP hD
  refine lv_aload_n hx hb dX12_init_141 rfl (lv_at hl 0 rfl) ?_
  refine lv_ldc hx hb hown (hts _ (zm_481 _)) dX12_init_142 ?_
  refine z_newa (atype := .byte) (ty := .byte) (a0 := (52700, .inl (fun _ => 0))) hx hb (hts _ (zm_3 _)) rfl hK 1 rfl hP hD hS hA (fun cA => rfl) (by decide) (by decide) (by decide) (Nat.le_trans (Nat.le_of_ble_eq_true rfl) hc) (Nat.le_trans (Nat.le_of_ble_eq_true rfl) hsl) dX12_init_144 (fun q_25 H hP hD hS => ?_)
  rw [List.cons_append] at hP hD
  refine W.widen (k := 17) (n := 1367986) (Nat.le_of_ble_eq_true rfl) (Nat.le_of_ble_eq_true rfl) ?_
  refine y_putF (T := TX12) (N := 212) (ci := 12) hx hb hts (zi_12 _) hown hK hP hD hS 0 rfl rfl 31 (by decide) tX12_31 uX12_31 (hts _ (zm_482 _)) rfl hin rfl rfl rfl dX12_init_146 (fun H locs f_26 ek_27 ok_28 hP hD hS => ?_)
  rw [List.set_cons_zero] at hP hD
  refine lv_aload_n hx hb dX12_init_149 rfl (lv_at hl 0 rfl) ?_
  refine lv_bipush (v := 17) hx hb dX12_init_150 (by decide) ?_
  refine z_newa (atype := .int) (ty := .int) (a0 := (17, .inl (fun _ => 0))) hx hb (hts _ (zm_2 _)) rfl hK 0 rfl hP hD hS hA (fun cA => rfl) (by decide) (by decide) (by decide) (Nat.le_trans (Nat.le_of_ble_eq_true rfl) hc) (Nat.le_trans (Nat.le_of_ble_eq_true rfl) hsl) dX12_init_152 (fun q_29 H hP hD hS => ?_)
  rw [List.cons_append] at hP hD
  refine W.widen (k := 18) (n := 1368003) (Nat.le_of_ble_eq_true rfl) (Nat.le_of_ble_eq_true rfl) ?_
  refine y_putF (T := TX12) (N := 212) (ci := 12) hx hb hts (zi_12 _) hown hK hP hD hS 0 rfl rfl 32 (by decide) tX12_32 uX12_32 (hts _ (zm_483 _)) rfl hin rfl rfl rfl dX12_init_154 (fun H locs f_30 ek_31 ok_32 hP hD hS => ?_)
  rw [List.set_cons_zero] at hP hD
  refine lv_aload_n hx hb dX12_init_157 rfl (lv_at hl 0 rfl) ?_
  refine lv_sipush (v := 1717) hx hb dX12_init_158 (by decide) ?_
  refine z_newa (atype := .int) (ty := .int) (a0 := (1717, .inl (fun _ => 0))) hx hb (hts _ (zm_2 _)) rfl hK 0 rfl hP hD hS hA (fun cA => rfl) (by decide) (by decide) (by decide) (Nat.le_trans (Nat.le_of_ble_eq_true rfl) hc) (Nat.le_trans (Nat.le_of_ble_eq_true rfl) hsl) dX12_init_161 (fun q_33 H hP hD hS => ?_)
  rw [List.cons_append] at hP hD
  refine W.widen (k := 19) (n := 1369720) (Nat.le_of_ble_eq_true rfl) (Nat.le_of_ble_eq_true rfl) ?_
  refine y_putF (T := TX12) (N := 212) (ci := 12) hx hb hts (zi_12 _) hown hK hP hD hS 0 rfl rfl 33 (by decide) tX12_33 uX12_33 (hts _ (zm_484 _)) rfl hin rfl rfl rfl dX12_init_163 (fun H locs f_34 ek_35 ok_36 hP hD hS => ?_)
  rw [List.set_cons_zero] at hP hD
  refine lv_aload_n hx hb dX12_init_166 rfl (lv_at hl 0 rfl) ?_
  refine lv_sipush (v := 1717) hx hb dX12_init_167 (by decide) ?_
  refine z_newa (atype := .int) (ty := .int) (a0 := (1717, .inl (fun _ => 0))) hx hb (hts _ (zm_2 _)) rfl hK 0 rfl hP hD hS hA (fun cA => rfl) (by decide) (by decide) (by decide) (Nat.le_trans (Nat.le_of_ble_eq_true rfl) hc) (Nat.le_trans (Nat.le_of_ble_eq_true rfl) hsl) dX12_init_170 (fun q_37 H hP hD hS => ?_)
  rw [List.cons_append] at hP hD
  refine W.widen (k := 20) (n := 1371437) (Nat.le_of_ble_eq_true rfl) (Nat.le_of_ble_eq_true rfl) ?_
  refine y_putF (T := TX12) (N := 212) (ci := 12) hx hb hts (zi_12 _) hown hK hP hD hS 0 rfl rfl 34 (by decide) tX12_34 uX12_34 (hts _ (zm_485 _)) rfl hin rfl rfl rfl dX12_init_172 (fun H locs f_38 ek_39 ok_40 hP hD hS => ?_)
  rw [List.set_cons_zero] at hP hD
  simp only [List.append_assoc, List.cons_append, List.nil_append] at hP hD
  exact kk f_38 q_1 q_5 q_9 q_13 q_17 q_21 q_25 q_29 q_33 q_37 H locs ((ok_40 15 (by decide)).trans ((ok_36 15 (by decide)).trans ((ok_32 15 (by decide)).trans ((ok_28 15 (by decide)).trans ((ok_24 15 (by decide)).trans ((ok_20 15 (by decide)).trans ((ok_16 15 (by decide)).trans ((ok_12 15 (by decide)).trans ((ok_8 15 (by decide)).trans ek_3))))))))) ((ok_40 21 (by decide)).trans ((ok_36 21 (by decide)).trans ((ok_32 21 (by decide)).trans ((ok_28 21 (by decide)).trans ((ok_24 21 (by decide)).trans ((ok_20 21 (by decide)).trans ((ok_16 21 (by decide)).trans ((ok_12 21 (by decide)).trans ek_7)))))))) ((ok_40 24 (by decide)).trans ((ok_36 24 (by decide)).trans ((ok_32 24 (by decide)).trans ((ok_28 24 (by decide)).trans ((ok_24 24 (by decide)).trans ((ok_20 24 (by decide)).trans ((ok_16 24 (by decide)).trans ek_11))))))) ((ok_40 25 (by decide)).trans ((ok_36 25 (by decide)).trans ((ok_32 25 (by decide)).trans ((ok_28 25 (by decide)).trans ((ok_24 25 (by decide)).trans ((ok_20 25 (by decide)).trans ek_15)))))) ((ok_40 29 (by decide)).trans ((ok_36 29 (by decide)).trans ((ok_32 29 (by decide)).trans ((ok_28 29 (by decide)).trans ((ok_24 29 (by decide)).trans ek_19))))) ((ok_40 30 (by decide)).trans ((ok_36 30 (by decide)).trans ((ok_32 30 (by decide)).trans ((ok_28 30 (by decide)).trans ek_23)))) ((ok_40 31 (by decide)).trans ((ok_36 31 (by decide)).trans ((ok_32 31 (by decide)).trans ek_27))) ((ok_40 32 (by decide)).trans ((ok_36 32 (by decide)).trans ek_31)) ((ok_40 33 (by decide)).trans ek_35) ek_39 (fun j hj => ((ok_40 j (hj 34 (by decide))).trans ((ok_36 j (hj 33 (by decide))).trans ((ok_32 j (hj 32 (by decide))).trans ((ok_28 j (hj 31 (by decide))).trans ((ok_24 j (hj 30 (by decide))).trans ((ok_20 j (hj 29 (by decide))).trans ((ok_16 j (hj 25 (by decide))).trans ((ok_12 j (hj 24 (by decide))).trans ((ok_8 j (hj 21 (by decide))).trans ((ok_4 j (hj 15 (by decide))).trans rfl))))))))))) hP hD hS hl

set_option maxHeartbeats 8000000 in
set_option maxRecDepth 100000 in
/-- a piece of MumpsHouseModel() -/
theorem sg_2 {p : Program} {l : Launch} {e : Env} {R : Room} {s : State} {m : MethodId} {args : Array Value} {below : List Frame} {meth : Method} {c : Code} {Q : State → Prop} {A : Nat → Prop} {D : va_G} {x : Nat → ClassId} {h0 : Nat} (hx : p.tables.exec = Jvm.exec) (hb : c.code = cX12_init) (hts : ∀ w ∈ (.code yX12_init cX12_init 2 none :: zW : List Cond), w.before args s = true) (hown : s.vm.findClass RX12 = some m.cls) (hin : meth.name = "<init>") (hZ : zK x D s) (hA : ∀ q, s.heap.size ≤ q → A q) (hc : 30 ≤ R.cells) (hsl : 1524833 ≤ R.slots) {rest : va_W} {f : Nat → Value} {H : Heap} {locs : List Loc} {ls : Array Slot} (hP : va_P D vwCl ((h0, .inr (12, zf 212 f)) :: rest) H) (hD : va_D A ((h0, .inr (12, zf 212 f)) :: rest)) (hS : va_S A s.heap H locs) (hl : lv_has ls 2 [(0, .ref h0)])
    (kk : ∀ (f' : Nat → Value) (q_1 q_5 q_9 q_13 q_17 q_21 q_25 q_29 q_33 q_37 : Nat) (H : Heap) (locs : List Loc), f' 35 = .ref q_1 → f' 36 = .ref q_5 → f' 37 = .ref q_9 → f' 38 = .ref q_13 → f' 39 = .ref q_17 → f' 40 = .ref q_21 → f' 41 = .ref q_25 → f' 46 = .ref q_29 → f' 47 = .ref q_33 → f' 48 = .ref q_37 → (∀ j, (∀ k ∈ [35, 36, 37, 38, 39, 40, 41, 46, 47, 48], j ≠ k) → f' j = f j) → va_P D vwCl ((h0, .inr (12, zf 212 f')) :: (rest ++ [(q_1, .inl (x 2, 1717, .inr (.inl (fun _ => 0)))), (q_5, .inl (x 0, 1717, .inl (fun _ => 0))), (q_9, .inl (x 0, 1717, .inl (fun _ => 0))), (q_13, .inl (x 0, 1717, .inl (fun _ => 0))), (q_17, .inl (x 2, 34340, .inr (.inl (fun _ => 0)))), (q_21, .inl (x 1, 3100, .inl (fun _ => 0))), (q_25, .inl (x 3, 18000, .inl (fun _ => 0))), (q_29, .inl (x 0, 8, .inl (fun _ => 0))), (q_33, .inl (x 0, 360, .inl (fun _ => 0))), (q_37, .inl (x 1, 90720, .inl (fun _ => 0)))])) H → va_D A ((h0, .inr (12, zf 212 f')) :: (rest ++ [(q_1, .inl (x 2, 1717, .inr (.inl (fun _ => 0)))), (q_5, .inl (x 0, 1717, .inl (fun _ => 0))), (q_9, .inl (x 0, 1717, .inl (fun _ => 0))), (q_13, .inl (x 0, 1717, .inl (fun _ => 0))), (q_17, .inl (x 2, 34340, .inr (.inl (fun _ => 0)))), (q_21, .inl (x 1, 3100, .inl (fun _ => 0))), (q_25, .inl (x 3, 18000, .inl (fun _ => 0))), (q_29, .inl (x 0, 8, .inl (fun _ => 0))), (q_33, .inl (x 0, 360, .inl (fun _ => 0))), (q_37, .inl (x 1, 90720, .inl (fun _ => 0)))])) → va_S A s.heap H locs → lv_has ls 2 [(0, .ref h0)] → W p l e R s m args below meth c H locs 30 1524833 Q (F0 m 262 ls [])) :
    W p l e R s m args below meth c H locs 20 1371437 Q (F0 m 175 ls []) := by
  have hK := hZ.1
  refine lv_aload_n hx hb dX12_init_175 rfl (lv_at hl 0 rfl) ?_
  refine lv_sipush (v := 1717) hx hb dX12_init_176 (by decide) ?_
  refine z_newa (atype := .long) (ty := .long) (a0 := (1717, .inr (.inl (fun _ => 0)))) hx hb (hts _ (zm_4 _)) rfl hK 2 rfl hP hD hS hA (fun cA => rfl) (by decide) (by decide) (by decide) (Nat.le_trans (Nat.le_of_ble_eq_true rfl) hc) (Nat.le_trans (Nat.le_of_ble_eq_true rfl) hsl) dX12_init_179 (fun q_1 H hP hD hS => ?_)
  rw [List.cons_append] at hP hD
  refine W.widen (k := 21) (n := 1373154) (Nat.le_of_ble_eq_true rfl) (Nat.le_of_ble_eq_true rfl) ?_
  refine y_putF (T := TX12) (N := 212) (ci := 12) hx hb hts (zi_12 _) hown hK hP hD hS 0 rfl rfl 35 (by decide) tX12_35 uX12_35 (hts _ (zm_486 _)) rfl hin rfl rfl rfl dX12_init_181 (fun H locs f_2 ek_3 ok_4 hP hD hS => ?_)
  rw [List.set_cons_zero] at hP hD
  refine lv_aload_n hx hb dX12_init_184 rfl (lv_at hl 0 rfl) ?_
  refine lv_sipush (v := 1717) hx hb dX12_init_185 (by decide) ?_
  refine z_newa (atype := .int) (ty := .int) (a0 := (1717, .inl (fun _ => 0))) hx hb (hts _ (zm_2 _)) rfl hK 0 rfl hP hD hS hA (fun cA => rfl) (by decide) (by decide) (by decide) (Nat.le_trans (Nat.le_of_ble_eq_true rfl) hc) (Nat.le_trans (Nat.le_of_ble_eq_true rfl) hsl) dX12_init_188 (fun q_5 H hP hD hS => ?_)
  rw [List.cons_append] at hP hD
  refine W.widen (k := 22) (n := 1374871) (Nat.le_of_ble_eq_true rfl) (Nat.le_of_ble_eq_true rfl) ?_
  refine y_putF (T := TX12) (N := 212) (ci := 12) hx hb hts (zi_12 _) hown hK hP hD hS 0 rfl rfl 36 (by decide) tX12_36 uX12_36 (hts _ (zm_487 _)) rfl hin rfl rfl rfl dX12_init_190 (fun H locs f_6 ek_7 ok_8 hP hD hS => ?_)
  rw [List.set_cons_zero] at hP hD
  refine lv_aload_n hx hb dX12_init_193 rfl (lv_at hl 0 rfl) ?_
  refine lv_sipush (v := 1717) hx hb dX12_init_194 (by decide) ?_
  refine z_newa (atype := .int) (ty := .int) (a0 := (1717, .inl (fun _ => 0))) hx hb (hts _ (zm_2 _)) rfl hK 0 rfl hP hD hS hA (fun cA => rfl) (by decide) (by decide) (by decide) (Nat.le_trans (Nat.le_of_ble_eq_true rfl) hc) (Nat.le_trans (Nat.le_of_ble_eq_true rfl) hsl) dX12_init_197 (fun q_9 H hP hD hS => ?_)
  rw [List.cons_append] at hP hD
  refine W.widen (k := 23) (n := 1376588) (Nat.le_of_ble_eq_true rfl) (Nat.le_of_ble_eq_true rfl) ?_
  refine y_putF (T := TX12) (N := 212) (ci := 12) hx hb hts (zi_12 _) hown hK hP hD hS 0 rfl rfl 37 (by decide) tX12_37 uX12_37 (hts _ (zm_488 _)) rfl hin rfl rfl rfl dX12_init_199 (fun H locs f_10 ek_11 ok_12 hP hD hS => ?_)
  rw [List.set_cons_zero] at hP hD
  refine lv_aload_n hx hb dX12_init_202 rfl (lv_at hl 0 rfl) ?_
  refine lv_sipush (v := 1717) hx hb dX12_init_203 (by decide) ?_
  refine z_newa (atype := .int) (ty := .int) (a0 := (1717, .inl (fun _ => 0))) hx hb (hts _ (zm_2 _)) rfl hK 0 rfl hP hD hS hA (fun cA => rfl) (by decide) (by decide) (by decide) (Nat.le_trans (Nat.le_of_ble_eq_true rfl) hc) (Nat.le_trans (Nat.le_of_ble_eq_true rfl) hsl) dX12_init_206 (fun q_13 H hP hD hS => ?_)
  rw [List.cons_append] at hP hD
  refine W.widen (k := 24) (n := 1378305) (Nat.le_of_ble_eq_true rfl) (Nat.le_of_ble_eq_true rfl) ?_
  refine y_putF (T := TX12) (N := 212) (ci := 12) hx hb hts (zi_12 _) hown hK hP hD hS 0 rfl rfl 38 (by decide) tX12_38 uX12_38 (hts _ (zm_489 _)) rfl hin rfl rfl rfl dX12_init_208 (fun H locs f_14 ek_15 ok_16 hP hD hS => ?_)
  rw [List.set_cons_zero] at hP hD
  refine lv_aload_n hx hb dX12_init_211 rfl (lv_at hl 0 rfl) ?_
  refine lv_ldc hx hb hown (hts _ (zm_490 _)) dX12_init_212 ?_
  refine z_newa (atype := .long) (ty := .long) (a0 := (34340, .inr (.inl (fun _ => 0)))) hx hb (hts _ (zm_4 _)) rfl hK 2 rfl hP hD hS hA (fun cA => rfl) (by decide) (by decide) (by decide) (Nat.le_trans (Nat.le_of_ble_eq_true rfl) hc) (Nat.le_trans (Nat.le_of_ble_eq_true rfl) hsl) dX12_init_214 (fun q_17 H hP hD hS => ?_)
  rw [List.cons_append] at hP hD
  refine W.widen (k := 25) (n := 1412645) (Nat.le_of_ble_eq_true rfl) (Nat.le_of_ble_eq_true rfl) ?_
  refine y_putF (T := TX12) (N := 212) (ci := 12) hx hb hts (zi_12 _) hown hK hP hD hS 0 rfl rfl 39 (by decide) tX12_39 uX12_39 (hts _ (zm_491 _)) rfl hin rfl rfl rfl dX12_init_216 (fun H locs f_18 ek_19 ok_20 hP hD hS => ?_)
  rw [List.set_cons_zero] at hP hD
  refine lv_aload_n hx hb dX12_init_219 rfl (lv_at hl 0 rfl) ?_
  refine lv_sipush (v := 3100) hx hb dX12_init_220 (by decide) ?_
  refine z_newa (atype := .byte) (ty := .byte) (a0 := (3100, .inl (fun _ => 0))) hx hb (hts _ (zm_3 _)) rfl hK 1 rfl hP hD hS hA (fun cA => rfl) (by decide) (by decide) (by decide) (Nat.le_trans (Nat.le_of_ble_eq_true rfl) hc) (Nat.le_trans (Nat.le_of_ble_eq_true rfl) hsl) dX12_init_223 (fun q_21 H hP hD hS => ?_)
  rw [List.cons_append] at hP hD
  refine W.widen (k := 26) (n := 1415745) (Nat.le_of_ble_eq_true rfl) (Nat.le_of_ble_eq_true rfl) ?_
  refine y_putF (T := TX12) (N := 212) (ci := 12) hx hb hts (zi_12 _) hown hK hP hD hS 0 rfl rfl 40 (by decide) tX12_40 uX12_40 (hts _ (zm_492 _)) rfl hin rfl rfl rfl dX12_init_225 (fun H locs f_22 ek_23 ok_24 hP hD hS => ?_)
  rw [List.set_cons_zero] at hP hD
  refine lv_aload_n hx hb dX12_init_228 rfl (lv_at hl 0 rfl) ?_
  refine lv_sipush (v := 18000) hx hb dX12_init_229 (by decide) ?_
  refine z_newa (atype := .boolean) (ty := .boolean) (a0 := (18000, .inl (fun _ => 0))) hx hb (hts _ (zm_5 _)) rfl hK 3 rfl hP hD hS hA (fun cA => rfl) (by decide) (by decide) (by decide) (Nat.le_trans (Nat.le_of_ble_eq_true rfl) hc) (Nat.le_trans (Nat.le_of_ble_eq_true rfl) hsl) dX12_init_232 (fun q_25 H hP hD hS => ?_)
  rw [List.cons_append] at hP hD
  refine W.widen (k := 27) (n := 1433745) (Nat.le_of_ble_eq_true rfl) (Nat.le_of_ble_eq_true rfl) ?_
  refine y_putF (T := TX12) (N := 212) (ci := 12) hx hb hts (zi_12 _) hown hK hP hD hS 0 rfl rfl 41 (by decide) tX12_41 uX12_41 (hts _ (zm_493 _)) rfl hin rfl rfl rfl dX12_init_234 (fun H locs f_26 ek_27 ok_28 hP hD hS => ?_)
  rw [List.set_cons_zero] at hP hD
  refine lv_aload_n hx hb dX12_init_237 rfl (lv_at hl 0 rfl) ?_
  refine lv_bipush (v := 8) hx hb dX12_init_238 (by decide) ?_
  refine z_newa (atype := .int) (ty := .int) (a0 := (8, .inl (fun _ => 0))) hx hb (hts _ (zm_2 _)) rfl hK 0 rfl hP hD hS hA (fun cA => rfl) (by decide) (by decide) (by decide) (Nat.le_trans (Nat.le_of_ble_eq_true rfl) hc) (Nat.le_trans (Nat.le_of_ble_eq_true rfl) hsl) dX12_init_240 (fun q_29 H hP hD hS => ?_)
  rw [List.cons_append] at hP hD
  refine W.widen (k := 28) (n := 1433753) (Nat.le_of_ble_eq_true rfl) (Nat.le_of_ble_eq_true rfl) ?_
  refine y_putF (T := TX12) (N := 212) (ci := 12) hx hb hts (zi_12 _) hown hK hP hD hS 0 rfl rfl 46 (by decide) tX12_46 uX12_46 (hts _ (zm_494 _)) rfl hin rfl rfl rfl dX12_init_242 (fun H locs f_30 ek_31 ok_32 hP hD hS => ?_)
  rw [List.set_cons_zero] at hP hD
  refine lv_aload_n hx hb dX12_init_245 rfl (lv_at hl 0 rfl) ?_
  refine lv_sipush (v := 360) hx hb dX12_init_246 (by decide) ?_
  refine z_newa (atype := .int) (ty := .int) (a0 := (360, .inl (fun _ => 0))) hx hb (hts _ (zm_2 _)) rfl hK 0 rfl hP hD hS hA (fun cA => rfl) (by decide) (by decide) (by decide) (Nat.le_trans (Nat.le_of_ble_eq_true rfl) hc) (Nat.le_trans (Nat.le_of_ble_eq_true rfl) hsl) dX12_init_249 (fun q_33 H hP hD hS => ?_)
  rw [List.cons_append] at hP hD
  refine W.widen (k := 29) (n := 1434113) (Nat.le_of_ble_eq_true rfl) (Nat.le_of_ble_eq_true rfl) ?_
  refine y_putF (T := TX12) (N := 212) (ci := 12) hx hb hts (zi_12 _) hown hK hP hD hS 0 rfl rfl 47 (by decide) tX12_47 uX12_47 (hts _ (zm_495 _)) rfl hin rfl rfl rfl dX12_init_251 (fun H locs f_34 ek_35 ok_36 hP hD hS => ?_)
  rw [List.set_cons_zero] at hP hD
  refine lv_aload_n hx hb dX12_init_254 rfl (lv_at hl 0 rfl) ?_
  refine lv_ldc hx hb hown (hts _ (zm_496 _)) dX12_init_255 ?_
  refine z_newa (atype := .byte) (ty := .byte) (a0 := (90720, .inl (fun _ => 0))) hx hb (hts _ (zm_3 _)) rfl hK 1 rfl hP hD hS hA (fun cA => rfl) (by decide) (by decide) (by decide) (Nat.le_trans (Nat.le_of_ble_eq_true rfl) hc) (Nat.le_trans (Nat.le_of_ble_eq_true rfl) hsl) dX12_init_257 (fun q_37 H hP hD hS => ?_)
  rw [List.cons_append] at hP hD
  refine W.widen (k := 30) (n := 1524833) (Nat.le_of_ble_eq_true rfl) (Nat.le_of_ble_eq_true rfl) ?_
  refine y_putF (T := TX12) (N := 212) (ci := 12) hx hb hts (zi_12 _) hown hK hP hD hS 0 rfl rfl 48 (by decide) tX12_48 uX12_48 (hts _ (zm_497 _)) rfl hin rfl rfl rfl dX12_init_259 (fun H locs f_38 ek_39 ok_40 hP hD hS => ?_)
  rw [List.set_cons_zero] at hP hD
  simp only [List.append_assoc, List.cons_append, List.nil_append] at hP hD
  exact kk f_38 q_1 q_5 q_9 q_13 q_17 q_21 q_25 q_29 q_33 q_37 H locs ((ok_40 35 (by decide)).trans ((ok_36 35 (by decide)).trans ((ok_32 35 (by decide)).trans ((ok_28 35 (by decide)).trans ((ok_24 35 (by decide)).trans ((ok_20 35 (by decide)).trans ((ok_16 35 (by decide)).trans ((ok_12 35 (by decide)).trans ((ok_8 35 (by decide)).trans ek_3))))))))) ((ok_40 36 (by decide)).trans ((ok_36 36 (by decide)).trans ((ok_32 36 (by decide)).trans ((ok_28 36 (by decide)).trans ((ok_24 36 (by decide)).trans ((ok_20 36 (by decide)).trans ((ok_16 36 (by decide)).trans ((ok_12 36 (by decide)).trans ek_7)))))))) ((ok_40 37 (by decide)).trans ((ok_36 37 (by decide)).trans ((ok_32 37 (by decide)).trans ((ok_28 37 (by decide)).trans ((ok_24 37 (by decide)).trans ((ok_20 37 (by decide)).trans ((ok_16 37 (by decide)).trans ek_11))))))) ((ok_40 38 (by decide)).trans ((ok_36 38 (by decide)).trans ((ok_32 38 (by decide)).trans ((ok_28 38 (by decide)).trans ((ok_24 38 (by decide)).trans ((ok_20 38 (by decide)).trans ek_15)))))) ((ok_40 39 (by decide)).trans ((ok_36 39 (by decide)).trans ((ok_32 39 (by decide)).trans ((ok_28 39 (by decide)).trans ((ok_24 39 (by decide)).trans ek_19))))) ((ok_40 40 (by decide)).trans ((ok_36 40 (by decide)).trans ((ok_32 40 (by decide)).trans ((ok_28 40 (by decide)).trans ek_23)))) ((ok_40 41 (by decide)).trans ((ok_36 41 (by decide)).trans ((ok_32 41 (by decide)).trans ek_27))) ((ok_40 46 (by decide)).trans ((ok_36 46 (by decide)).trans ek_31)) ((ok_40 47 (by decide)).trans ek_35) ek_39 (fun j hj => ((ok_40 j (hj 48 (by decide))).trans ((ok_36 j (hj 47 (by decide))).trans ((ok_32 j (hj 46 (by decide))).trans ((ok_28 j (hj 41 (by decide))).trans ((ok_24 j (hj 40 (by decide))).trans ((ok_20 j (hj 39 (by decide))).trans ((ok_16 j (hj 38 (by decide))).trans ((ok_12 j (hj 37 (by decide))).trans ((ok_8 j (hj 36 (by decide))).trans ((ok_4 j (hj 35 (by decide))).trans rfl))))))))))) hP hD hS hl

set_option maxHeartbeats 8000000 in
set_option maxRecDepth 100000 in
/-- a piece of MumpsHouseModel() -/
theorem sg_3 {p : Program} {l : Launch} {e : Env} {R : Room} {s : State} {m : MethodId} {args : Array Value} {below : List Frame} {meth : Method} {c : Code} {Q : State → Prop} {A : Nat → Prop} {D : va_G} {x : Nat → ClassId} {h0 : Nat} (hx : p.tables.exec = Jvm.exec) (hb : c.code = cX12_init) (hts : ∀ w ∈ (.code yX12_init cX12_init 2 none :: zW : List Cond), w.before args s = true) (hown : s.vm.findClass RX12 = some m.cls) (hin : meth.name = "<init>") (hZ : zK x D s) (hA : ∀ q, s.heap.size ≤ q → A q) (hc : 40 ≤ R.cells) (hsl : 1567089 ≤ R.slots) {rest : va_W} {f : Nat → Value} {H : Heap} {locs : List Loc} {ls : Array Slot} (hP : va_P D vwCl ((h0, .inr (12, zf 212 f)) :: rest) H) (hD : va_D A ((h0, .inr (12, zf 212 f)) :: rest)) (hS : va_S A s.heap H locs) (hl : lv_has ls 2 [(0, .ref h0)])
    (kk : ∀ (f' : Nat → Value) (q_1 q_5 q_9 q_13 q_17 q_21 q_25 q_29 q_33 q_37 : Nat) (H : Heap) (locs : List Loc), f' 49 = .ref q_1 → f' 50 = .ref q_5 → f' 51 = .ref q_9 → f' 52 = .ref q_13 → f' 53 = .ref q_17 → f' 54 = .ref q_21 → f' 55 = .ref q_25 → f' 57 = .ref q_29 → f' 58 = .ref q_33 → f' 59 = .ref q_37 → (∀ j, (∀ k ∈ [49, 50, 51, 52, 53, 54, 55, 57, 58, 59], j ≠ k) → f' j = f j) → va_P D vwCl ((h0, .inr (12, zf 212 f')) :: (rest ++ [(q_1, .inl (x 0, 8, .inl (fun _ => 0))), (q_5, .inl (x 0, 240, .inl (fun _ => 0))), (q_9, .inl (x 2, 240, .inr (.inl (fun _ => 0)))), (q_13, .inl (x 0, 240, .inl (fun _ => 0))), (q_17, .inl (x 1, 26400, .inl (fun _ => 0))), (q_21, .inl (x 0, 360, .inl (fun _ => 0))), (q_25, .inl (x 2, 360, .inr (.inl (fun _ => 0)))), (q_29, .inl (x 0, 8, .inl (fun _ => 0))), (q_33, .inl (x 2, 7200, .inr (.inl (fun _ => 0)))), (q_37, .inl (x 0, 7200, .inl (fun _ => 0)))])) H → va_D A ((h0, .inr (12, zf 212 f')) :: (rest ++ [(q_1, .inl (x 0, 8, .inl (fun _ => 0))), (q_5, .inl (x 0, 240, .inl (fun _ => 0))), (q_9, .inl (x 2, 240, .inr (.inl (fun _ => 0)))), (q_13, .inl (x 0, 240, .inl (fun _ => 0))), (q_17, .inl (x 1, 26400, .inl (fun _ => 0))), (q_21, .inl (x 0, 360, .inl (fun _ => 0))), (q_25, .inl (x 2, 360, .inr (.inl (fun _ => 0)))), (q_29, .inl (x 0, 8, .inl (fun _ => 0))), (q_33, .inl (x 2, 7200, .inr (.inl (fun _ => 0)))), (q_37, .inl (x 0, 7200, .inl (fun _ => 0)))])) → va_S A s.heap H locs → lv_has ls 2 [(0, .ref h0)] → W p l e R s m args below meth c H locs 40 1567089 Q (F0 m 350 ls [])) :
    W p l e R s m args below meth c H locs 30 1524833 Q (F0 m 262 ls []) := by
  have hK := hZ.1
  refine lv_aload_n hx hb dX12_init_262 rfl (lv_at hl 0 rfl) ?_
  refine lv_bipush (v := 8) hx hb dX12_init_263 (by decide) ?_
  refine z_newa (atype := .int) (ty := .int) (a0 := (8, .inl (fun _ => 0))) hx hb (hts _ (zm_2 _)) rfl hK 0 rfl hP hD hS hA (fun cA => rfl) (by decide) (by decide) (by decide) (Nat.le_trans (Nat.le_of_ble_eq_true rfl) hc) (Nat.le_trans (Nat.le_of_ble_eq_true rfl) hsl) dX12_init_265 (fun q_1 H hP hD hS => ?_)
  rw [List.cons_append] at hP hD
  refine W.widen (k := 31) (n := 1524841) (Nat.le_of_ble_eq_true rfl) (Nat.le_of_ble_eq_true rfl) ?_
  refine y_putF (T := TX12) (N := 212) (ci := 12) hx hb hts (zi_12 _) hown hK hP hD hS 0 rfl rfl 49 (by decide) tX12_49 uX12_49 (hts _ (zm_498 _)) rfl hin rfl rfl rfl dX12_init_267 (fun H locs f_2 ek_3 ok_4 hP hD hS => ?_)
  rw [List.set_cons_zero] at hP hD
  refine lv_aload_n hx hb dX12_init_270 rfl (lv_at hl 0 rfl) ?_
  refine lv_sipush (v := 240) hx hb dX12_init_271 (by decide) ?_
  refine z_newa (atype := .int) (ty := .int) (a0 := (240, .inl (fun _ => 0))) hx hb (hts _ (zm_2 _)) rfl hK 0 rfl hP hD hS hA (fun cA => rfl) (by decide) (by decide) (by decide) (Nat.le_trans (Nat.le_of_ble_eq_true rfl) hc) (Nat.le_trans (Nat.le_of_ble_eq_true rfl) hsl) dX12_init_274 (fun q_5 H hP hD hS => ?_)
  rw [List.cons_append] at hP hD
  refine W.widen (k := 32) (n := 1525081) (Nat.le_of_ble_eq_true rfl) (Nat.le_of_ble_eq_true rfl) ?_
  refine y_putF (T := TX12) (N := 212) (ci := 12) hx hb hts (zi_12 _) hown hK hP hD hS 0 rfl rfl 50 (by decide) tX12_50 uX12_50 (hts _ (zm_499 _)) rfl hin rfl rfl rfl dX12_init_276 (fun H locs f_6 ek_7 ok_8 hP hD hS => ?_)
  rw [List.set_cons_zero] at hP hD
  refine lv_aload_n hx hb dX12_init_279 rfl (lv_at hl 0 rfl) ?_
  refine lv_sipush (v := 240) hx hb dX12_init_280 (by decide) ?_
  refine z_newa (atype := .long) (ty := .long) (a0 := (240, .inr (.inl (fun _ => 0)))) hx hb (hts _ (zm_4 _)) rfl hK 2 rfl hP hD hS hA (fun cA => rfl) (by decide) (by decide) (by decide) (Nat.le_trans (Nat.le_of_ble_eq_true rfl) hc) (Nat.le_trans (Nat.le_of_ble_eq_true rfl) hsl) dX12_init_283 (fun q_9 H hP hD hS => ?_)
  rw [List.cons_append] at hP hD
  refine W.widen (k := 33) (n := 1525321) (Nat.le_of_ble_eq_true rfl) (Nat.le_of_ble_eq_true rfl) ?_
  refine y_putF (T := TX12) (N := 212) (ci := 12) hx hb hts (zi_12 _) hown hK hP hD hS 0 rfl rfl 51 (by decide) tX12_51 uX12_51 (hts _ (zm_500 _)) rfl hin rfl rfl rfl dX12_init_285 (fun H locs f_10 ek_11 ok_12 hP hD hS => ?_)
  rw [List.set_cons_zero] at hP hD
  refine lv_aload_n hx hb dX12_init_288 rfl (lv_at hl 0 rfl) ?_
  refine lv_sipush (v := 240) hx hb dX12_init_289 (by decide) ?_
  refine z_newa (atype := .int) (ty := .int) (a0 := (240, .inl (fun _ => 0))) hx hb (hts _ (zm_2 _)) rfl hK 0 rfl hP hD hS hA (fun cA => rfl) (by decide) (by decide) (by decide) (Nat.le_trans (Nat.le_of_ble_eq_true rfl) hc) (Nat.le_trans (Nat.le_of_ble_eq_true rfl) hsl) dX12_init_292 (fun q_13 H hP hD hS => ?_)
  rw [List.cons_append] at hP hD
  refine W.widen (k := 34) (n := 1525561) (Nat.le_of_ble_eq_true rfl) (Nat.le_of_ble_eq_true rfl) ?_
  refine y_putF (T := TX12) (N := 212) (ci := 12) hx hb hts (zi_12 _) hown hK hP hD hS 0 rfl rfl 52 (by decide) tX12_52 uX12_52 (hts _ (zm_501 _)) rfl hin rfl rfl rfl dX12_init_294 (fun H locs f_14 ek_15 ok_16 hP hD hS => ?_)
  rw [List.set_cons_zero] at hP hD
  refine lv_aload_n hx hb dX12_init_297 rfl (lv_at hl 0 rfl) ?_
  refine lv_sipush (v := 26400) hx hb dX12_init_298 (by decide) ?_
  refine z_newa (atype := .byte) (ty := .byte) (a0 := (26400, .inl (fun _ => 0))) hx hb (hts _ (zm_3 _)) rfl hK 1 rfl hP hD hS hA (fun cA => rfl) (by decide) (by decide) (by decide) (Nat.le_trans (Nat.le_of_ble_eq_true rfl) hc) (Nat.le_trans (Nat.le_of_ble_eq_true rfl) hsl) dX12_init_301 (fun q_17 H hP hD hS => ?_)
  rw [List.cons_append] at hP hD
  refine W.widen (k := 35) (n := 1551961) (Nat.le_of_ble_eq_true rfl) (Nat.le_of_ble_eq_true rfl) ?_
  refine y_putF (T := TX12) (N := 212) (ci := 12) hx hb hts (zi_12 _) hown hK hP hD hS 0 rfl rfl 53 (by decide) tX12_53 uX12_53 (hts _ (zm_502 _)) rfl hin rfl rfl rfl dX12_init_303 (fun H locs f_18 ek_19 ok_20 hP hD hS => ?_)
  rw [List.set_cons_zero] at hP hD
  refine lv_aload_n hx hb dX12_init_306 rfl (lv_at hl 0 rfl) ?_
  refine lv_sipush (v := 360) hx hb dX12_init_307 (by decide) ?_
  refine z_newa (atype := .int) (ty := .int) (a0 := (360, .inl (fun _ => 0))) hx hb (hts _ (zm_2 _)) rfl hK 0 rfl hP hD hS hA (fun cA => rfl) (by decide) (by decide) (by decide) (Nat.le_trans (Nat.le_of_ble_eq_true rfl) hc) (Nat.le_trans (Nat.le_of_ble_eq_true rfl) hsl) dX12_init_310 (fun q_21 H hP hD hS => ?_)
  rw [List.cons_append] at hP hD
  refine W.widen (k := 36) (n := 1552321) (Nat.le_of_ble_eq_true rfl) (Nat.le_of_ble_eq_true rfl) ?_
  refine y_putF (T := TX12) (N := 212) (ci := 12) hx hb hts (zi_12 _) hown hK hP hD hS 0 rfl rfl 54 (by decide) tX12_54 uX12_54 (hts _ (zm_503 _)) rfl hin rfl rfl rfl dX12_init_312 (fun H locs f_22 ek_23 ok_24 hP hD hS => ?_)
  rw [List.set_cons_zero] at hP hD
  refine lv_aload_n hx hb dX12_init_315 rfl (lv_at hl 0 rfl) ?_
  refine lv_sipush (v := 360) hx hb dX12_init_316 (by decide) ?_
  refine z_newa (atype := .long) (ty := .long) (a0 := (360, .inr (.inl (fun _ => 0)))) hx hb (hts _ (zm_4 _)) rfl hK 2 rfl hP hD hS hA (fun cA => rfl) (by decide) (by decide) (by decide) (Nat.le_trans (Nat.le_of_ble_eq_true rfl) hc) (Nat.le_trans (Nat.le_of_ble_eq_true rfl) hsl) dX12_init_319 (fun q_25 H hP hD hS => ?_)
  rw [List.cons_append] at hP hD
  refine W.widen (k := 37) (n := 1552681) (Nat.le_of_ble_eq_true rfl) (Nat.le_of_ble_eq_true rfl) ?_
  refine y_putF (T := TX12) (N := 212) (ci := 12) hx hb hts (zi_12 _) hown hK hP hD hS 0 rfl rfl 55 (by decide) tX12_55 uX12_55 (hts _ (zm_504 _)) rfl hin rfl rfl rfl dX12_init_321 (fun H locs f_26 ek_27 ok_28 hP hD hS => ?_)
  rw [List.set_cons_zero] at hP hD
  refine lv_aload_n hx hb dX12_init_324 rfl (lv_at hl 0 rfl) ?_
  refine lv_bipush (v := 8) hx hb dX12_init_325 (by decide) ?_
  refine z_newa (atype := .int) (ty := .int) (a0 := (8, .inl (fun _ => 0))) hx hb (hts _ (zm_2 _)) rfl hK 0 rfl hP hD hS hA (fun cA => rfl) (by decide) (by decide) (by decide) (Nat.le_trans (Nat.le_of_ble_eq_true rfl) hc) (Nat.le_trans (Nat.le_of_ble_eq_true rfl) hsl) dX12_init_327 (fun q_29 H hP hD hS => ?_)
  rw [List.cons_append] at hP hD
  refine W.widen (k := 38) (n := 1552689) (Nat.le_of_ble_eq_true rfl) (Nat.le_of_ble_eq_true rfl) ?_
  refine y_putF (T := TX12) (N := 212) (ci := 12) hx hb hts (zi_12 _) hown hK hP hD hS 0 rfl rfl 57 (by decide) tX12_57 uX12_57 (hts _ (zm_505 _)) rfl hin rfl rfl rfl dX12_init_329 (fun H locs f_30 ek_31 ok_32 hP hD hS => ?_)
  rw [List.set_cons_zero] at hP hD
  refine lv_aload_n hx hb dX12_init_332 rfl (lv_at hl 0 rfl) ?_
  refine lv_sipush (v := 7200) hx hb dX12_init_333 (by decide) ?_
  refine z_newa (atype := .long) (ty := .long) (a0 := (7200, .inr (.inl (fun _ => 0)))) hx hb (hts _ (zm_4 _)) rfl hK 2 rfl hP hD hS hA (fun cA => rfl) (by decide) (by decide) (by decide) (Nat.le_trans (Nat.le_of_ble_eq_true rfl) hc) (Nat.le_trans (Nat.le_of_ble_eq_true rfl) hsl) dX12_init_336 (fun q_33 H hP hD hS => ?_)
  rw [List.cons_append] at hP hD
  refine W.widen (k := 39) (n := 1559889) (Nat.le_of_ble_eq_true rfl) (Nat.le_of_ble_eq_true rfl) ?_
  refine y_putF (T := TX12) (N := 212) (ci := 12) hx hb hts (zi_12 _) hown hK hP hD hS 0 rfl rfl 58 (by decide) tX12_58 uX12_58 (hts _ (zm_506 _)) rfl hin rfl rfl rfl dX12_init_338 (fun H locs f_34 ek_35 ok_36 hP hD hS => ?_)
  rw [List.set_cons_zero] at hP hD
  refine lv_aload_n hx hb dX12_init_341 rfl (lv_at hl 0 rfl) ?_
  refine lv_sipush (v := 7200) hx hb dX12_init_342 (by decide) ?_
  refine z_newa (atype := .int) (ty := .int) (a0 := (7200, .inl (fun _ => 0))) hx hb (hts _ (zm_2 _)) rfl hK 0 rfl hP hD hS hA (fun cA => rfl) (by decide) (by decide) (by decide) (Nat.le_trans (Nat.le_of_ble_eq_true rfl) hc) (Nat.le_trans (Nat.le_of_ble_eq_true rfl) hsl) dX12_init_345 (fun q_37 H hP hD hS => ?_)
  rw [List.cons_append] at hP hD
  refine W.widen (k := 40) (n := 1567089) (Nat.le_of_ble_eq_true rfl) (Nat.le_of_ble_eq_true rfl) ?_
  refine y_putF (T := TX12) (N := 212) (ci := 12) hx hb hts (zi_12 _) hown hK hP hD hS 0 rfl rfl 59 (by decide) tX12_59 uX12_59 (hts _ (zm_507 _)) rfl hin rfl rfl rfl dX12_init_347 (fun H locs f_38 ek_39 ok_40 hP hD hS => ?_)
  rw [List.set_cons_zero] at hP hD
  simp only [List.append_assoc, List.cons_append, List.nil_append] at hP hD
  exact kk f_38 q_1 q_5 q_9 q_13 q_17 q_21 q_25 q_29 q_33 q_37 H locs ((ok_40 49 (by decide)).trans ((ok_36 49 (by decide)).trans ((ok_32 49 (by decide)).trans ((ok_28 49 (by decide)).trans ((ok_24 49 (by decide)).trans ((ok_20 49 (by decide)).trans ((ok_16 49 (by decide)).trans ((ok_12 49 (by decide)).trans ((ok_8 49 (by decide)).trans ek_3))))))))) ((ok_40 50 (by decide)).trans ((ok_36 50 (by decide)).trans ((ok_32 50 (by decide)).trans ((ok_28 50 (by decide)).trans ((ok_24 50 (by decide)).trans ((ok_20 50 (by decide)).trans ((ok_16 50 (by decide)).trans ((ok_12 50 (by decide)).trans ek_7)))))))) ((ok_40 51 (by decide)).trans ((ok_36 51 (by decide)).trans ((ok_32 51 (by decide)).trans ((ok_28 51 (by decide)).trans ((ok_24 51 (by decide)).trans ((ok_20 51 (by decide)).trans ((ok_16 51 (by decide)).trans ek_11))))))) ((ok_40 52 (by decide)).trans ((ok_36 52 (by decide)).trans ((ok_32 52 (by decide)).trans ((ok_28 52 (by decide)).trans ((ok_24 52 (by decide)).trans ((ok_20 52 (by decide)).trans ek_15)))))) ((ok_40 53 (by decide)).trans ((ok_36 53 (by decide)).trans ((ok_32 53 (by decide)).trans ((ok_28 53 (by decide)).trans ((ok_24 53 (by decide)).trans ek_19))))) ((ok_40 54 (by decide)).trans ((ok_36 54 (by decide)).trans ((ok_32 54 (by decide)).trans ((ok_28 54 (by decide)).trans ek_23)))) ((ok_40 55 (by decide)).trans ((ok_36 55 (by decide)).trans ((ok_32 55 (by decide)).trans ek_27))) ((ok_40 57 (by decide)).trans ((ok_36 57 (by decide)).trans ek_31)) ((ok_40 58 (by decide)).trans ek_35) ek_39 (fun j hj => ((ok_40 j (hj 59 (by decide))).trans ((ok_36 j (hj 58 (by decide))).trans ((ok_32 j (hj 57 (by decide))).trans ((ok_28 j (hj 55 (by decide))).trans ((ok_24 j (hj 54 (by decide))).trans ((ok_20 j (hj 53 (by decide))).trans ((ok_16 j (hj 52 (by decide))).trans ((ok_12 j (hj 51 (by decide))).trans ((ok_8 j (hj 50 (by decide))).trans ((ok_4 j (hj 49 (by decide))).trans rfl))))))))))) hP hD hS hl
