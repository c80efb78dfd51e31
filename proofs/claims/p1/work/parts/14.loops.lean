theorem dX12_init_1317 : decode cX12_init 1317 = .ok (.iload_n 1, 1) := by decide +kernel
theorem dX12_init_1318 : decode cX12_init 1318 = .ok (.bipush 8, 2) := by decide +kernel
theorem dX12_init_1320 : decode cX12_init 1320 = .ok (.if_icmp .ge 16, 3) := by decide +kernel
theorem dX12_init_1323 : decode cX12_init 1323 = .ok (.aload_n 0, 1) := by decide +kernel
theorem dX12_init_1324 : decode cX12_init 1324 = .ok (.getfield 238, 3) := by decide +kernel
theorem dX12_init_1327 : decode cX12_init 1327 = .ok (.iload_n 1, 1) := by decide +kernel
theorem dX12_init_1328 : decode cX12_init 1328 = .ok (.iconst (-1), 1) := by decide +kernel
theorem dX12_init_1329 : decode cX12_init 1329 = .ok (.iastore, 1) := by decide +kernel
theorem dX12_init_1330 : decode cX12_init 1330 = .ok (.iinc 1 1, 3) := by decide +kernel
theorem dX12_init_1333 : decode cX12_init 1333 = .ok (.goto (-16), 3) := by decide +kernel
theorem dX12_init_1338 : decode cX12_init 1338 = .ok (.iload_n 1, 1) := by decide +kernel
theorem dX12_init_1339 : decode cX12_init 1339 = .ok (.bipush 25, 2) := by decide +kernel
theorem dX12_init_1341 : decode cX12_init 1341 = .ok (.if_icmp .ge 16, 3) := by decide +kernel
theorem dX12_init_1344 : decode cX12_init 1344 = .ok (.aload_n 0, 1) := by decide +kernel
theorem dX12_init_1345 : decode cX12_init 1345 = .ok (.getfield 235, 3) := by decide +kernel
theorem dX12_init_1348 : decode cX12_init 1348 = .ok (.iload_n 1, 1) := by decide +kernel
theorem dX12_init_1349 : decode cX12_init 1349 = .ok (.iconst (-1), 1) := by decide +kernel
theorem dX12_init_1350 : decode cX12_init 1350 = .ok (.iastore, 1) := by decide +kernel
theorem dX12_init_1351 : decode cX12_init 1351 = .ok (.iinc 1 1, 3) := by decide +kernel
theorem dX12_init_1354 : decode cX12_init 1354 = .ok (.goto (-16), 3) := by decide +kernel
set_option maxHeartbeats 8000000 in
set_option maxRecDepth 100000 in
/-- a loop of MumpsHouseModel() -/
theorem lp_Model_1 {p : Program} {l : Launch} {e : Env} {R : Room} {s : State} {m : MethodId} {args : Array Value} {below : List Frame} {meth : Method} {c : Code} {Q : State → Prop} {A : Nat → Prop} {D : va_G} {x : Nat → ClassId} (h0 q : Nat) (f : Nat → Value) (rest : va_W) (hx : p.tables.exec = Jvm.exec) (hb : c.code = cX12_init) (hml : c.maxLocals = 2) (hts : ∀ w ∈ (.code yX12_init cX12_init 2 none :: zW : List Cond), w.before args s = true) (hown : s.vm.findClass RX12 = some m.cls) (hZ : zK x D s) (hA : ∀ q, s.heap.size ≤ q → A q) (hf : f 106 = .ref q) 
    (kk : ∀ (g : Nat → Int32) (H : Heap) (locs : List Loc) (ls : Array Slot), (∀ j, j < 8 → g j = -1) → va_P D vwCl ((h0, .inr (12, zf 212 f)) :: (q, .inl (x 0, 8, .inl g)) :: rest) H → va_D A ((h0, .inr (12, zf 212 f)) :: (q, .inl (x 0, 8, .inl g)) :: rest) → va_S A s.heap H locs → lv_has ls 2 [(1, .int (nI 8)), (0, .ref h0)] → W p l e R s m args below meth c H locs 152 2088942 Q (F0 m 1336 ls [])) :
    ∀ (k i : Nat), i + k = 8 → ∀ (g : Nat → Int32) (H : Heap) (locs : List Loc) (ls : Array Slot), (∀ j, j < i → g j = -1) → va_P D vwCl ((h0, .inr (12, zf 212 f)) :: (q, .inl (x 0, 8, .inl g)) :: rest) H → va_D A ((h0, .inr (12, zf 212 f)) :: (q, .inl (x 0, 8, .inl g)) :: rest) → va_S A s.heap H locs → lv_has ls 2 [(1, .int (nI i)), (0, .ref h0)] → W p l e R s m args below meth c H locs 152 2088942 Q (F0 m 1317 ls []) := by
  intro k
  induction k with
  | zero =>
    intro i hi g H locs ls hg hP hD hS hl
    obtain rfl : i = 8 := by omega
    have hK := hZ.1
    refine lv_iload_n hx hb dX12_init_1317 rfl (lv_at hl 0 rfl) ?_
    refine lv_bipush (v := 8) hx hb dX12_init_1318 (by decide) ?_
    refine lv_icmp_ge (tgt := 1336) hx hb dX12_init_1320 (by decide) (fun _ => ?_) (fun c9 => absurd ((by decide : (8 : Int32) ≤ nI 8)) c9)
    exact kk g H locs ls hg hP hD hS hl
  | succ k ih =>
    intro i hi g H locs ls hg hP hD hS hl
    have hK := hZ.1
    have hlt : i < 8 := by omega
    refine lv_iload_n hx hb dX12_init_1317 rfl (lv_at hl 0 rfl) ?_
    refine lv_bipush (v := 8) hx hb dX12_init_1318 (by decide) ?_
    refine lv_icmp_ge (tgt := 1336) hx hb dX12_init_1320 (by decide) (fun c9 => absurd c9 ((show ¬ nI 8 ≤ nI i from nI_ge hlt (by decide)))) (fun _ => ?_)
    refine lv_aload_n hx hb dX12_init_1323 rfl (lv_at hl 1 rfl) ?_
    refine y_get (T := TX12) (N := 212) (ci := 12) hx hb hts (zi_12 _) hown hK hP 0 rfl rfl 106 (by decide) tX12_106 (hts _ (zm_543 _)) rfl hf dX12_init_1324 ?_
    refine lv_iload_n hx hb dX12_init_1327 rfl (lv_at hl 0 rfl) ?_
    refine lv_iconst (v := (-1)) hx hb dX12_init_1328 (by decide) ?_
    refine z_iast hx hb hK hP hD hS 1 0 rfl rfl (vp_in_nI hlt (by decide)) dX12_init_1329 (fun H locs g_1 ek_2 ok_3 hP hD hS => ?_)
    have hP : va_P D vwCl ((h0, .inr (12, zf 212 f)) :: (q, .inl (x 0, 8, .inl g_1)) :: rest) H := hP
    have hD : va_D A ((h0, .inr (12, zf 212 f)) :: (q, .inl (x 0, 8, .inl g_1)) :: rest) := hD
    refine lv_iinc (v := nI (i + 1)) (lv' := [(1, .int (nI (i + 1))), (0, .ref h0)]) hx hb dX12_init_1330 hl (k := 0) rfl (nI_1 i) (by decide) rfl (fun ls hl => ?_)
    refine lv_goto (tgt := 1317) hx hb dX12_init_1333 (by decide) ?_
    exact ih (i + 1) (by omega) _ H locs ls (fun j hj => (Nat.lt_succ_iff_lt_or_eq.mp hj).elim (fun h => (ok_3 j (by rw [nI_clamp (by omega)]; omega)).trans (hg j h)) (fun h => by subst h; rw [nI_clamp (by omega)] at ek_2; exact ek_2)) hP hD hS (lv_sub hl [0, 1] rfl)

set_option maxHeartbeats 8000000 in
set_option maxRecDepth 100000 in
/-- a loop of MumpsHouseModel() -/
theorem lp_Model_2 {p : Program} {l : Launch} {e : Env} {R : Room} {s : State} {m : MethodId} {args : Array Value} {below : List Frame} {meth : Method} {c : Code} {Q : State → Prop} {A : Nat → Prop} {D : va_G} {x : Nat → ClassId} (h0 q : Nat) (f : Nat → Value) (rest : va_W) (hx : p.tables.exec = Jvm.exec) (hb : c.code = cX12_init) (hml : c.maxLocals = 2) (hts : ∀ w ∈ (.code yX12_init cX12_init 2 none :: zW : List Cond), w.before args s = true) (hown : s.vm.findClass RX12 = some m.cls) (hZ : zK x D s) (hA : ∀ q, s.heap.size ≤ q → A q) (hf : f 105 = .ref q) 
    (kk : ∀ (g : Nat → Int32) (H : Heap) (locs : List Loc) (ls : Array Slot), va_P D vwCl ((h0, .inr (12, zf 212 f)) :: (q, .inl (x 0, 25, .inl g)) :: rest) H → va_D A ((h0, .inr (12, zf 212 f)) :: (q, .inl (x 0, 25, .inl g)) :: rest) → va_S A s.heap H locs → lv_has ls 2 [(1, .int (nI 25)), (0, .ref h0)] → W p l e R s m args below meth c H locs 152 2088942 Q (F0 m 1357 ls [])) :
    ∀ (k i : Nat), i + k = 25 → ∀ (g : Nat → Int32) (H : Heap) (locs : List Loc) (ls : Array Slot), va_P D vwCl ((h0, .inr (12, zf 212 f)) :: (q, .inl (x 0, 25, .inl g)) :: rest) H → va_D A ((h0, .inr (12, zf 212 f)) :: (q, .inl (x 0, 25, .inl g)) :: rest) → va_S A s.heap H locs → lv_has ls 2 [(1, .int (nI i)), (0, .ref h0)] → W p l e R s m args below meth c H locs 152 2088942 Q (F0 m 1338 ls []) := by
  intro k
  induction k with
  | zero =>
    intro i hi g H locs ls hP hD hS hl
    obtain rfl : i = 25 := by omega
    have hK := hZ.1
    refine lv_iload_n hx hb dX12_init_1338 rfl (lv_at hl 0 rfl) ?_
    refine lv_bipush (v := 25) hx hb dX12_init_1339 (by decide) ?_
    refine lv_icmp_ge (tgt := 1357) hx hb dX12_init_1341 (by decide) (fun _ => ?_) (fun c9 => absurd ((by decide : (25 : Int32) ≤ nI 25)) c9)
    exact kk g H locs ls hP hD hS hl
  | succ k ih =>
    intro i hi g H locs ls hP hD hS hl
    have hK := hZ.1
    have hlt : i < 25 := by omega
    refine lv_iload_n hx hb dX12_init_1338 rfl (lv_at hl 0 rfl) ?_
    refine lv_bipush (v := 25) hx hb dX12_init_1339 (by decide) ?_
    refine lv_icmp_ge (tgt := 1357) hx hb dX12_init_1341 (by decide) (fun c9 => absurd c9 ((show ¬ nI 25 ≤ nI i from nI_ge hlt (by decide)))) (fun _ => ?_)
    refine lv_aload_n hx hb dX12_init_1344 rfl (lv_at hl 1 rfl) ?_
    refine y_get (T := TX12) (N := 212) (ci := 12) hx hb hts (zi_12 _) hown hK hP 0 rfl rfl 105 (by decide) tX12_105 (hts _ (zm_542 _)) rfl hf dX12_init_1345 ?_
    refine lv_iload_n hx hb dX12_init_1348 rfl (lv_at hl 0 rfl) ?_
    refine lv_iconst (v := (-1)) hx hb dX12_init_1349 (by decide) ?_
    refine z_iast hx hb hK hP hD hS 1 0 rfl rfl (vp_in_nI hlt (by decide)) dX12_init_1350 (fun H locs g_1 ek_2 ok_3 hP hD hS => ?_)
    have hP : va_P D vwCl ((h0, .inr (12, zf 212 f)) :: (q, .inl (x 0, 25, .inl g_1)) :: rest) H := hP
    have hD : va_D A ((h0, .inr (12, zf 212 f)) :: (q, .inl (x 0, 25, .inl g_1)) :: rest) := hD
    refine lv_iinc (v := nI (i + 1)) (lv' := [(1, .int (nI (i + 1))), (0, .ref h0)]) hx hb dX12_init_1351 hl (k := 0) rfl (nI_1 i) (by decide) rfl (fun ls hl => ?_)
    refine lv_goto (tgt := 1338) hx hb dX12_init_1354 (by decide) ?_
    exact ih (i + 1) (by omega) _ H locs ls hP hD hS (lv_sub hl [0, 1] rfl)
