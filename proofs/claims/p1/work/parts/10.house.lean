theorem dX0_init_0 : decode cX0_init 0 = .ok (.aload_n 0, 1) := by decide +kernel
theorem dX0_init_1 : decode cX0_init 1 = .ok (.invokespecial 3, 3) := by decide +kernel
theorem dX0_init_4 : decode cX0_init 4 = .ok (.aload_n 0, 1) := by decide +kernel
theorem dX0_init_5 : decode cX0_init 5 = .ok (.new 9, 3) := by decide +kernel
theorem dX0_init_8 : decode cX0_init 8 = .ok (.dup, 1) := by decide +kernel
theorem dX0_init_9 : decode cX0_init 9 = .ok (.sipush 800, 3) := by decide +kernel
theorem dX0_init_12 : decode cX0_init 12 = .ok (.iconst 1, 1) := by decide +kernel
theorem dX0_init_13 : decode cX0_init 13 = .ok (.invokespecial 11, 3) := by decide +kernel
theorem dX0_init_16 : decode cX0_init 16 = .ok (.putfield 14, 3) := by decide +kernel
theorem dX0_init_19 : decode cX0_init 19 = .ok (.aload_n 0, 1) := by decide +kernel
theorem dX0_init_20 : decode cX0_init 20 = .ok (.bipush 16, 2) := by decide +kernel
theorem dX0_init_22 : decode cX0_init 22 = .ok (.sipush 3000, 3) := by decide +kernel
theorem dX0_init_25 : decode cX0_init 25 = .ok (.bipush 100, 2) := by decide +kernel
theorem dX0_init_27 : decode cX0_init 27 = .ok (.invokestatic 20, 3) := by decide +kernel
theorem dX0_init_30 : decode cX0_init 30 = .ok (.putfield 26, 3) := by decide +kernel
theorem dX0_init_33 : decode cX0_init 33 = .ok (.aload_n 0, 1) := by decide +kernel
theorem dX0_init_34 : decode cX0_init 34 = .ok (.new 21, 3) := by decide +kernel
theorem dX0_init_37 : decode cX0_init 37 = .ok (.dup, 1) := by decide +kernel
theorem dX0_init_38 : decode cX0_init 38 = .ok (.sipush 3000, 3) := by decide +kernel
theorem dX0_init_41 : decode cX0_init 41 = .ok (.bipush 100, 2) := by decide +kernel
theorem dX0_init_43 : decode cX0_init 43 = .ok (.invokespecial 30, 3) := by decide +kernel
theorem dX0_init_46 : decode cX0_init 46 = .ok (.putfield 33, 3) := by decide +kernel
theorem dX0_init_49 : decode cX0_init 49 = .ok (.aload_n 0, 1) := by decide +kernel
theorem dX0_init_50 : decode cX0_init 50 = .ok (.ldc 37, 2) := by decide +kernel
theorem dX0_init_52 : decode cX0_init 52 = .ok (.newarray .byte, 2) := by decide +kernel
theorem dX0_init_54 : decode cX0_init 54 = .ok (.putfield 38, 3) := by decide +kernel
theorem dX0_init_57 : decode cX0_init 57 = .ok (.aload_n 0, 1) := by decide +kernel
theorem dX0_init_58 : decode cX0_init 58 = .ok (.sipush 256, 3) := by decide +kernel
theorem dX0_init_61 : decode cX0_init 61 = .ok (.newarray .byte, 2) := by decide +kernel
theorem dX0_init_63 : decode cX0_init 63 = .ok (.putfield 42, 3) := by decide +kernel
theorem dX0_init_66 : decode cX0_init 66 = .ok (.aload_n 0, 1) := by decide +kernel
theorem dX0_init_67 : decode cX0_init 67 = .ok (.new 45, 3) := by decide +kernel
theorem dX0_init_70 : decode cX0_init 70 = .ok (.dup, 1) := by decide +kernel
theorem dX0_init_71 : decode cX0_init 71 = .ok (.ldc 47, 2) := by decide +kernel
theorem dX0_init_73 : decode cX0_init 73 = .ok (.invokespecial 48, 3) := by decide +kernel
theorem dX0_init_76 : decode cX0_init 76 = .ok (.putfield 51, 3) := by decide +kernel
theorem dX0_init_79 : decode cX0_init 79 = .ok (.aload_n 0, 1) := by decide +kernel
theorem dX0_init_80 : decode cX0_init 80 = .ok (.iconst (-1), 1) := by decide +kernel
theorem dX0_init_81 : decode cX0_init 81 = .ok (.putfield 55, 3) := by decide +kernel
theorem dX0_init_84 : decode cX0_init 84 = .ok (.aload_n 0, 1) := by decide +kernel
theorem dX0_init_85 : decode cX0_init 85 = .ok (.bipush 60, 2) := by decide +kernel
theorem dX0_init_87 : decode cX0_init 87 = .ok (.invokestatic 59, 3) := by decide +kernel
theorem dX0_init_90 : decode cX0_init 90 = .ok (.putfield 64, 3) := by decide +kernel
theorem dX0_init_93 : decode cX0_init 93 = .ok (.aload_n 0, 1) := by decide +kernel
theorem dX0_init_94 : decode cX0_init 94 = .ok (.iconst 5, 1) := by decide +kernel
theorem dX0_init_95 : decode cX0_init 95 = .ok (.newarray .int, 2) := by decide +kernel
theorem dX0_init_97 : decode cX0_init 97 = .ok (.putfield 68, 3) := by decide +kernel
theorem dX0_init_100 : decode cX0_init 100 = .ok (.return_, 1) := by decide +kernel
set_option maxHeartbeats 8000000 in
set_option maxRecDepth 100000 in
/-- House() -/
theorem c_House_init (l : Launch) (D : va_G) (x : Nat → ClassId) (h0 : Nat) (f0 : Nat → Value) (sz : Nat) (h0_2 : f0 2 = .int 0) (h0_3 : f0 3 = .null) (h0_6 : f0 6 = .int 0) (h0_8 : f0 8 = .int 0) (h0_9 : f0 9 = .int 0) (h0_10 : f0 10 = .int 0) (h0_11 : f0 11 = .int 0) (h0_12 : f0 12 = .int 0) (h0_14 : f0 14 = .int 0) (h0_15 : f0 15 = .int 0) (h0_16 : f0 16 = .long 0) : Met l yX0_init (.code yX0_init cX0_init 1 none :: zW) ({ frames := 4, cells := (3485), slots := (670546), locals := 78 }) (va_Pc [.ref h0] (fun U => U.heap.size = sz ∧ va_P D vwCl [(h0, .inr (0, zf 18 f0))] U.heap ∧ zK x D U ∧ va_D (fun _ => True) [(h0, .inr (0, zf 18 f0))])) (va_Qv (fun u : (Nat → Value) × (Nat) × (Nat → Value) × (Nat) × (Nat → Value) × (Nat) × (Nat) × (Nat) × (Nat) × (Nat) × (Nat) × (Nat) × (Nat) × (Nat) × (Nat) × (Nat → Value) × (Nat) => match u with | (c0, a1, c1, a2, c2, a3, a4, a5, a6, a7, a8, a9, a10, a11, a12, c12, a13) => c0 0 = .ref a1 ∧ c0 2 = .int 0 ∧ c0 3 = .ref a2 ∧ c0 4 = .ref a11 ∧ c0 6 = .int 0 ∧ c0 7 = .ref a12 ∧ c0 8 = .int 0 ∧ c0 9 = .int (-1) ∧ c0 10 = .int 0 ∧ c0 11 = .int 0 ∧ c0 12 = .int 0 ∧ c0 14 = .int 0 ∧ c0 15 = .int 0 ∧ c0 16 = .long 0 ∧ c0 17 = .ref a13 ∧ c1 5 = .int 0 ∧ c2 0 = .ref a4 ∧ c2 1 = .int 0 ∧ c2 2 = .ref a5 ∧ c2 3 = .int 0 ∧ c2 4 = .int 0 ∧ c2 5 = .ref a6 ∧ c2 6 = .ref a7 ∧ c2 7 = .ref a8 ∧ c2 8 = .ref a9 ∧ c2 9 = .ref a10 ∧ c2 10 = .ref a3 ∧ c2 11 = .long 0 ∧ c2 12 = .null ∧ c2 13 = .int 0 ∧ c2 14 = .int 0 ∧ c2 15 = .int 0 ∧ c2 16 = .int 0 ∧ c2 17 = .int 0 ∧ c12 1 = .int 0 ∧ c12 2 = .int 0) (fun u t => match u with | (c0, a1, c1, a2, c2, a3, a4, a5, a6, a7, a8, a9, a10, a11, a12, c12, a13) => zB D vwCl (va_A [(h0, .inr (0, zf 18 f0))] sz) [(h0, .inr (0, zf 18 c0)), (a1, .inr (9, zf 8 c1)), (a2, .inr (8, zf 18 c2)), (a3, .inl (x 0, 20, .inl (fun _ => 0))), (a4, .inl (x 1, 3000, .inl (fun _ => 0))), (a5, .inl (x 0, 6216, .inl (fun _ => 0))), (a6, .inl (x 0, 100, .inl (fun _ => 0))), (a7, .inl (x 0, 100, .inl (fun _ => 0))), (a8, .inl (x 0, 100, .inl (fun _ => 0))), (a9, .inl (x 2, 100, .inr (.inl (fun _ => 0)))), (a10, .inl (x 0, 100, .inl (fun _ => 0))), (a11, .inl (x 1, 102400, .inl (fun _ => 0))), (a12, .inr (6, zf 3 c12)), (a13, .inl (x 0, 5, .inl (fun _ => 0)))] t) (va_A [(h0, .inr (0, zf 18 f0))] sz)) (3485) (670546) (va_A [(h0, .inr (0, zf 18 f0))] sz) := by
  refine Met.ofW (cc := cX0_init) (maxL := 1) (ret := none) (by decide) rfl ?_
  intro p e s m args below meth c s₁ B hml hv
  obtain ⟨rfl, hsz, hP, hZ, hD0⟩ := hv
  have hK := hZ.1
  have hx := B.exec
  have hb := B.bytes
  have hr := B.returns
  have hts := atoms_spec (ws := .code yX0_init cX0_init 1 none :: zW) B.pre
  have hown : s.vm.findClass RX0 = some m.cls := findClass_of_methodNamed B.named
  have hlocks := B.notSynchronized
  have hin : meth.name = "<init>" := (name_of_methodNamed B.named B.method).1
  subst hsz
  have hD := hD0.self (sz := s.heap.size)
  generalize hAe : va_A [(h0, .inr (0, zf 18 f0))] s.heap.size = A at hD ⊢
  have hA : ∀ q : Nat, s.heap.size ≤ q → A q := fun q h => by rw [← hAe]; exact Or.inr h
  have hS : va_S A s.heap s.heap [] := va_S.rf
  have hP : va_P D vwCl [(h0, .inr (0, zf 18 f0))] s.heap := hP
  have hl := lv_entry ([.ref h0]) (n := 1) (Nat.le_of_ble_eq_true rfl)
  rw [lg_entry_eq]
  generalize (lg_sl ([.ref h0]) ++ List.replicate (1 - (lg_sl ([.ref h0])).length) Slot.unset).toArray = ls at hl ⊢
  have hl : lv_has ls 1 [(0, .ref h0)] := hl
  refine lv_aload_n hx hb dX0_init_0 rfl (lv_at hl 0 rfl) ?_
  refine W.objInit hx hb hown (hts _ (zm_130 _)) (hts _ (zm_0 _)) (hts _ (zm_1 _)) rfl (by rw [hml]; exact hl.1) rfl dX0_init_1 (Nat.le_of_ble_eq_true rfl) (Nat.le_of_ble_eq_true rfl) ?_
  refine W.eq (g2 := F0 m 4 ls []) rfl ?_
  refine lv_aload_n hx hb dX0_init_4 rfl (lv_at hl 0 rfl) ?_
  have h_4 : 0 + 1 ≤ 3485 := by omega
  have h_5 : 0 + 8 ≤ 670546 := by omega
  refine z_new (T := TX9) (N := 8) (ci := 9) hx hb hts (zi_9 _) hown (hts _ (zm_131 _)) (hts _ (zm_899 _)) (hts _ (zm_114 _)) hK hP hD hS hA rfl h_4 h_5 dX0_init_5 (fun q_1 H f_2 ed_3 hP hD hS => ?_)
  have hP : va_P D vwCl [(h0, .inr (0, zf 18 f0)), (q_1, .inr (9, zf 8 f_2))] H := hP
  have hD : va_D A [(h0, .inr (0, zf 18 f0)), (q_1, .inr (9, zf 8 f_2))] := hD
  refine W.widen (k := 1) (n := 8) (by omega) (by omega) ?_
  refine lv_dup hx hb dX0_init_8 rfl ?_
  refine lv_sipush (v := 800) hx hb dX0_init_9 (by decide) ?_
  refine lv_iconst (v := 1) hx hb dX0_init_12 (by decide) ?_
  have hPc := hP.sub (ws' := [(q_1, .inr (9, zf 8 f_2))]) [1] rfl
  have hDc := hD.sub (ws' := [(q_1, .inr (9, zf 8 f_2))]) [1] (by decide) rfl
  have hFc := va_free (wc := [(q_1, .inr (9, zf 8 f_2))]) hD hS hA [1] rfl
  have h_7 : 1 + 3204 ≤ 3485 ∧ 8 + 296000 ≤ 670546 := by omega
  refine va_callv (va_runIN (As := [.int 800, .int 1]) (rest := [.ref q_1, .ref h0]) ⟨hx, hb, hml, hown, hts⟩ (c_Tree_initG l D x q_1 f_2 H.size (ed_3 5) (ed_3 6) (ed_3 7)) ⟨va_cnB 2 hts (zgood (zm_113 _) rfl) rfl rfl rfl (hZ.2.1 _ zn_13) (hts _ (zm_114 _)) ⟨by decide, by decide, by decide +kernel⟩ ⟨Nat.le_of_ble_eq_true rfl, Nat.le_of_ble_eq_true rfl⟩, rfl, hts _ (zm_115 _)⟩ ⟨fun a U g mk q => by obtain ⟨q0, q1, qP, qK, qD⟩ := q; exact ⟨q0, q1, qP, ZK.calling (u := U) zN_ok rfl qK, qD⟩, fun U hU hW => ⟨rfl, by rw [hU], by rw [hU]; exact hPc, ZK.warm zN_ok hW hZ, hDc.weaken (fun _ _ _ _ => trivial)⟩⟩ rfl rfl hl.1 rfl (lv_room (Nat.le_of_ble_eq_true rfl)) dX0_init_13 h_7) hS (fun q _ h => hFc q h) hFc (fun c0_6 t H1 locs ht hvm hw_6 hB hz1 hk1 hS => ?_)
  obtain ⟨hP1, hD1⟩ := hB
  rw [ht] at hP1
  try dsimp only at hw_6
  obtain ⟨hP, hD⟩ := va_join (wr := [(h0, .inr (0, zf 18 f0))]) (w1 := [(q_1, .inr (9, zf 8 c0_6))]) hP hD [1] [0] rfl rfl (by decide) (by decide) hk1 hFc hP1 hD1
  generalize H1 = H at hP hS ⊢
  have hP : va_P D vwCl [(h0, .inr (0, zf 18 f0)), (q_1, .inr (9, zf 8 c0_6))] H := hP
  have hD : va_D A [(h0, .inr (0, zf 18 f0)), (q_1, .inr (9, zf 8 c0_6))] := hD
  refine W.widen (k := 3205) (n := 296008) (by omega) (by omega) ?_
  refine z_putF (T := TX0) (N := 18) (ci := 0) hx hb hts (zi_0 _) hown hK hP hD hS 0 rfl rfl 0 (by decide) (hts _ (zm_132 _)) rfl rfl hin rfl rfl rfl dX0_init_16 (fun H locs f_8 ek_9 ok_10 hP hD hS => ?_)
  have hP : va_P D vwCl [(h0, .inr (0, zf 18 f_8)), (q_1, .inr (9, zf 8 c0_6))] H := hP
  have hD : va_D A [(h0, .inr (0, zf 18 f_8)), (q_1, .inr (9, zf 8 c0_6))] := hD
  refine lv_aload_n hx hb dX0_init_19 rfl (lv_at hl 0 rfl) ?_
  refine lv_bipush (v := 16) hx hb dX0_init_20 (by decide) ?_
  refine lv_sipush (v := 3000) hx hb dX0_init_22 (by decide) ?_
  refine lv_bipush (v := 100) hx hb dX0_init_25 (by decide) ?_
  have hPc := hP.sub (ws' := []) [] rfl
  have hDc := hD.sub (ws' := []) [] (by decide) rfl
  have hFc := va_free (wc := []) hD hS hA [] rfl
  have h_12 : 3205 + 145 ≤ 3485 ∧ 296008 + 156080 ≤ 670546 := by omega
  refine va_callr (va_runSN (As := [.int 16, .int 3000, .int 100]) (rest := [.ref h0]) ⟨hx, hb, hml, hown, hts⟩ (c_Text_manyR l D x 16 H.size (by decide)) ⟨va_cnB 3 hts (zgood (zm_48 _) rfl) rfl rfl rfl (hZ.2.1 _ zn_14) (hts _ (zm_37 _)) ⟨by decide, by decide, by decide +kernel⟩ ⟨Nat.le_of_ble_eq_true rfl, Nat.le_of_ble_eq_true rfl⟩, hts _ (zm_49 _), trivial⟩ ⟨fun a U g mk q => by obtain ⟨q0, q1, qP, qK, qD⟩ := q; exact ⟨q0, q1, qP, ZK.calling (u := U) zN_ok rfl qK, qD⟩, fun U hU hW => ⟨rfl, by rw [hU], by rw [hU]; exact hPc, ZK.warm zN_ok hW hZ, hDc.weaken (fun _ _ _ _ => trivial)⟩⟩ rfl rfl hl.1 rfl (lv_room (Nat.le_of_ble_eq_true rfl)) dX0_init_27 h_12) hS (fun q _ h => hFc q h) hFc (fun u ra_11 t H1 locs ht hvm hw_11 hB hz1 hk1 hS => ?_)
  obtain ⟨hP1, hD1⟩ := hB
  rw [ht] at hP1
  try dsimp only at hw_11
  obtain ⟨hP, hD⟩ := va_join (wr := [(h0, .inr (0, zf 18 f_8)), (q_1, .inr (9, zf 8 c0_6))]) (w1 := []) hP hD [] [0, 1] rfl rfl (by decide) (by decide) hk1 hFc hP1 hD1
  generalize H1 = H at hP hS ⊢
  have hP : va_P D vwCl [(h0, .inr (0, zf 18 f_8)), (q_1, .inr (9, zf 8 c0_6))] H := hP
  have hD : va_D A [(h0, .inr (0, zf 18 f_8)), (q_1, .inr (9, zf 8 c0_6))] := hD
  refine W.widen (k := 3350) (n := 452088) (by omega) (by omega) ?_
  refine z_putF (T := TX0) (N := 18) (ci := 0) hx hb hts (zi_0 _) hown hK hP hD hS 0 rfl rfl 1 (by decide) (hts _ (zm_133 _)) rfl rfl hin rfl rfl rfl dX0_init_30 (fun H locs f_13 ek_14 ok_15 hP hD hS => ?_)
  have hP : va_P D vwCl [(h0, .inr (0, zf 18 f_13)), (q_1, .inr (9, zf 8 c0_6))] H := hP
  have hD : va_D A [(h0, .inr (0, zf 18 f_13)), (q_1, .inr (9, zf 8 c0_6))] := hD
  refine lv_aload_n hx hb dX0_init_33 rfl (lv_at hl 0 rfl) ?_
  have h_19 : 3350 + 1 ≤ 3485 := by omega
  have h_20 : 452088 + 18 ≤ 670546 := by omega
  refine z_new (T := TX8) (N := 18) (ci := 8) hx hb hts (zi_8 _) hown (hts _ (zm_134 _)) (hts _ (zm_898 _)) (hts _ (zm_37 _)) hK hP hD hS hA rfl h_19 h_20 dX0_init_34 (fun q_16 H f_17 ed_18 hP hD hS => ?_)
  have hP : va_P D vwCl [(h0, .inr (0, zf 18 f_13)), (q_1, .inr (9, zf 8 c0_6)), (q_16, .inr (8, zf 18 f_17))] H := hP
  have hD : va_D A [(h0, .inr (0, zf 18 f_13)), (q_1, .inr (9, zf 8 c0_6)), (q_16, .inr (8, zf 18 f_17))] := hD
  refine W.widen (k := 3351) (n := 452106) (by omega) (by omega) ?_
  refine lv_dup hx hb dX0_init_37 rfl ?_
  refine lv_sipush (v := 3000) hx hb dX0_init_38 (by decide) ?_
  refine lv_bipush (v := 100) hx hb dX0_init_41 (by decide) ?_
  have hPc := hP.sub (ws' := [(q_16, .inr (8, zf 18 f_17))]) [2] rfl
  have hDc := hD.sub (ws' := [(q_16, .inr (8, zf 18 f_17))]) [2] (by decide) rfl
  have hFc := va_free (wc := [(q_16, .inr (8, zf 18 f_17))]) hD hS hA [2] rfl
  have h_30 : 3351 + 8 ≤ 3485 ∧ 452106 + 9736 ≤ 670546 := by omega
  refine va_callv (va_runIN (As := [.int 3000, .int 100]) (rest := [.ref q_16, .ref h0]) ⟨hx, hb, hml, hown, hts⟩ (c_Text_initR l D x q_16 f_17 H.size (ed_18 1) (ed_18 3) (ed_18 4) (ed_18 11) (ed_18 12) (ed_18 13) (ed_18 14) (ed_18 15) (ed_18 16) (ed_18 17)) ⟨va_cnB 2 hts (zgood (zm_36 _) rfl) rfl rfl rfl (hZ.2.1 _ zn_15) (hts _ (zm_37 _)) ⟨by decide, by decide, by decide +kernel⟩ ⟨Nat.le_of_ble_eq_true rfl, Nat.le_of_ble_eq_true rfl⟩, rfl, hts _ (zm_38 _)⟩ ⟨fun a U g mk q => by obtain ⟨q0, q1, qP, qK, qD⟩ := q; exact ⟨q0, q1, qP, ZK.calling (u := U) zN_ok rfl qK, qD⟩, fun U hU hW => ⟨rfl, by rw [hU], by rw [hU]; exact hPc, ZK.warm zN_ok hW hZ, hDc.weaken (fun _ _ _ _ => trivial)⟩⟩ rfl rfl hl.1 rfl (lv_room (Nat.le_of_ble_eq_true rfl)) dX0_init_43 h_30) hS (fun q _ h => hFc q h) hFc (fun u t H1 locs ht hvm hw_29 hB hz1 hk1 hS => ?_)
  obtain ⟨c0_21, a1_22, a2_23, a3_24, a4_25, a5_26, a6_27, a7_28, a8_29⟩ := u
  obtain ⟨hP1, hD1⟩ := hB
  rw [ht] at hP1
  try dsimp only at hw_29
  obtain ⟨hP, hD⟩ := va_join (wr := [(h0, .inr (0, zf 18 f_13)), (q_1, .inr (9, zf 8 c0_6))]) (w1 := [(q_16, .inr (8, zf 18 c0_21)), (a1_22, .inl (x 0, 20, .inl (fun _ => 0))), (a2_23, .inl (x 1, 3000, .inl (fun _ => 0))), (a3_24, .inl (x 0, 6216, .inl (fun _ => 0))), (a4_25, .inl (x 0, 100, .inl (fun _ => 0))), (a5_26, .inl (x 0, 100, .inl (fun _ => 0))), (a6_27, .inl (x 0, 100, .inl (fun _ => 0))), (a7_28, .inl (x 2, 100, .inr (.inl (fun _ => 0)))), (a8_29, .inl (x 0, 100, .inl (fun _ => 0)))]) hP hD [2] [0, 1] rfl rfl (by decide) (by decide) hk1 hFc hP1 hD1
  generalize H1 = H at hP hS ⊢
  have hP : va_P D vwCl [(h0, .inr (0, zf 18 f_13)), (q_1, .inr (9, zf 8 c0_6)), (q_16, .inr (8, zf 18 c0_21)), (a1_22, .inl (x 0, 20, .inl (fun _ => 0))), (a2_23, .inl (x 1, 3000, .inl (fun _ => 0))), (a3_24, .inl (x 0, 6216, .inl (fun _ => 0))), (a4_25, .inl (x 0, 100, .inl (fun _ => 0))), (a5_26, .inl (x 0, 100, .inl (fun _ => 0))), (a6_27, .inl (x 0, 100, .inl (fun _ => 0))), (a7_28, .inl (x 2, 100, .inr (.inl (fun _ => 0)))), (a8_29, .inl (x 0, 100, .inl (fun _ => 0)))] H := hP
  have hD : va_D A [(h0, .inr (0, zf 18 f_13)), (q_1, .inr (9, zf 8 c0_6)), (q_16, .inr (8, zf 18 c0_21)), (a1_22, .inl (x 0, 20, .inl (fun _ => 0))), (a2_23, .inl (x 1, 3000, .inl (fun _ => 0))), (a3_24, .inl (x 0, 6216, .inl (fun _ => 0))), (a4_25, .inl (x 0, 100, .inl (fun _ => 0))), (a5_26, .inl (x 0, 100, .inl (fun _ => 0))), (a6_27, .inl (x 0, 100, .inl (fun _ => 0))), (a7_28, .inl (x 2, 100, .inr (.inl (fun _ => 0)))), (a8_29, .inl (x 0, 100, .inl (fun _ => 0)))] := hD
  refine W.widen (k := 3359) (n := 461842) (by omega) (by omega) ?_
  refine z_put (T := TX0) (N := 18) (ci := 0) hx hb hts (zi_0 _) hown hK hP hD hS 0 rfl rfl 3 (by decide) (hts _ (zm_135 _)) rfl rfl rfl rfl dX0_init_46 (fun H locs f_31 ek_32 ok_33 hP hD hS => ?_)
  have hP : va_P D vwCl [(h0, .inr (0, zf 18 f_31)), (q_1, .inr (9, zf 8 c0_6)), (q_16, .inr (8, zf 18 c0_21)), (a1_22, .inl (x 0, 20, .inl (fun _ => 0))), (a2_23, .inl (x 1, 3000, .inl (fun _ => 0))), (a3_24, .inl (x 0, 6216, .inl (fun _ => 0))), (a4_25, .inl (x 0, 100, .inl (fun _ => 0))), (a5_26, .inl (x 0, 100, .inl (fun _ => 0))), (a6_27, .inl (x 0, 100, .inl (fun _ => 0))), (a7_28, .inl (x 2, 100, .inr (.inl (fun _ => 0)))), (a8_29, .inl (x 0, 100, .inl (fun _ => 0)))] H := hP
  have hD : va_D A [(h0, .inr (0, zf 18 f_31)), (q_1, .inr (9, zf 8 c0_6)), (q_16, .inr (8, zf 18 c0_21)), (a1_22, .inl (x 0, 20, .inl (fun _ => 0))), (a2_23, .inl (x 1, 3000, .inl (fun _ => 0))), (a3_24, .inl (x 0, 6216, .inl (fun _ => 0))), (a4_25, .inl (x 0, 100, .inl (fun _ => 0))), (a5_26, .inl (x 0, 100, .inl (fun _ => 0))), (a6_27, .inl (x 0, 100, .inl (fun _ => 0))), (a7_28, .inl (x 2, 100, .inr (.inl (fun _ => 0)))), (a8_29, .inl (x 0, 100, .inl (fun _ => 0)))] := hD
  refine lv_aload_n hx hb dX0_init_49 rfl (lv_at hl 0 rfl) ?_
  refine lv_ldc hx hb hown (hts _ (zm_136 _)) dX0_init_50 ?_
  have h_36 : 3359 + 1 ≤ 3485 := by omega
  have h_37 : 461842 + 102400 ≤ 670546 := by omega
  refine z_newa (atype := .byte) (ty := .byte) (a0 := (102400, .inl (fun _ => 0))) hx hb (hts _ (zm_3 _)) rfl hK 1 rfl hP hD hS hA (fun cA => rfl) (by decide) (by decide) (by decide) h_36 h_37 dX0_init_52 (fun q_34 H hP hD hS => ?_)
  have hP : va_P D vwCl [(h0, .inr (0, zf 18 f_31)), (q_1, .inr (9, zf 8 c0_6)), (q_16, .inr (8, zf 18 c0_21)), (a1_22, .inl (x 0, 20, .inl (fun _ => 0))), (a2_23, .inl (x 1, 3000, .inl (fun _ => 0))), (a3_24, .inl (x 0, 6216, .inl (fun _ => 0))), (a4_25, .inl (x 0, 100, .inl (fun _ => 0))), (a5_26, .inl (x 0, 100, .inl (fun _ => 0))), (a6_27, .inl (x 0, 100, .inl (fun _ => 0))), (a7_28, .inl (x 2, 100, .inr (.inl (fun _ => 0)))), (a8_29, .inl (x 0, 100, .inl (fun _ => 0))), (q_34, .inl (x 1, 102400, .inl (fun _ => 0)))] H := hP
  have hD : va_D A [(h0, .inr (0, zf 18 f_31)), (q_1, .inr (9, zf 8 c0_6)), (q_16, .inr (8, zf 18 c0_21)), (a1_22, .inl (x 0, 20, .inl (fun _ => 0))), (a2_23, .inl (x 1, 3000, .inl (fun _ => 0))), (a3_24, .inl (x 0, 6216, .inl (fun _ => 0))), (a4_25, .inl (x 0, 100, .inl (fun _ => 0))), (a5_26, .inl (x 0, 100, .inl (fun _ => 0))), (a6_27, .inl (x 0, 100, .inl (fun _ => 0))), (a7_28, .inl (x 2, 100, .inr (.inl (fun _ => 0)))), (a8_29, .inl (x 0, 100, .inl (fun _ => 0))), (q_34, .inl (x 1, 102400, .inl (fun _ => 0)))] := hD
  refine W.widen (k := 3360) (n := 564242) (by omega) (by omega) ?_
  refine z_putF (T := TX0) (N := 18) (ci := 0) hx hb hts (zi_0 _) hown hK hP hD hS 0 rfl rfl 4 (by decide) (hts _ (zm_137 _)) rfl rfl hin rfl rfl rfl dX0_init_54 (fun H locs f_38 ek_39 ok_40 hP hD hS => ?_)
  have hP : va_P D vwCl [(h0, .inr (0, zf 18 f_38)), (q_1, .inr (9, zf 8 c0_6)), (q_16, .inr (8, zf 18 c0_21)), (a1_22, .inl (x 0, 20, .inl (fun _ => 0))), (a2_23, .inl (x 1, 3000, .inl (fun _ => 0))), (a3_24, .inl (x 0, 6216, .inl (fun _ => 0))), (a4_25, .inl (x 0, 100, .inl (fun _ => 0))), (a5_26, .inl (x 0, 100, .inl (fun _ => 0))), (a6_27, .inl (x 0, 100, .inl (fun _ => 0))), (a7_28, .inl (x 2, 100, .inr (.inl (fun _ => 0)))), (a8_29, .inl (x 0, 100, .inl (fun _ => 0))), (q_34, .inl (x 1, 102400, .inl (fun _ => 0)))] H := hP
  have hD : va_D A [(h0, .inr (0, zf 18 f_38)), (q_1, .inr (9, zf 8 c0_6)), (q_16, .inr (8, zf 18 c0_21)), (a1_22, .inl (x 0, 20, .inl (fun _ => 0))), (a2_23, .inl (x 1, 3000, .inl (fun _ => 0))), (a3_24, .inl (x 0, 6216, .inl (fun _ => 0))), (a4_25, .inl (x 0, 100, .inl (fun _ => 0))), (a5_26, .inl (x 0, 100, .inl (fun _ => 0))), (a6_27, .inl (x 0, 100, .inl (fun _ => 0))), (a7_28, .inl (x 2, 100, .inr (.inl (fun _ => 0)))), (a8_29, .inl (x 0, 100, .inl (fun _ => 0))), (q_34, .inl (x 1, 102400, .inl (fun _ => 0)))] := hD
  refine lv_aload_n hx hb dX0_init_57 rfl (lv_at hl 0 rfl) ?_
  refine lv_sipush (v := 256) hx hb dX0_init_58 (by decide) ?_
  have h_43 : 3360 + 1 ≤ 3485 := by omega
  have h_44 : 564242 + 256 ≤ 670546 := by omega
  refine z_newa (atype := .byte) (ty := .byte) (a0 := (256, .inl (fun _ => 0))) hx hb (hts _ (zm_3 _)) rfl hK 1 rfl hP hD hS hA (fun cA => rfl) (by decide) (by decide) (by decide) h_43 h_44 dX0_init_61 (fun q_41 H hP hD hS => ?_)
  have hP : va_P D vwCl [(h0, .inr (0, zf 18 f_38)), (q_1, .inr (9, zf 8 c0_6)), (q_16, .inr (8, zf 18 c0_21)), (a1_22, .inl (x 0, 20, .inl (fun _ => 0))), (a2_23, .inl (x 1, 3000, .inl (fun _ => 0))), (a3_24, .inl (x 0, 6216, .inl (fun _ => 0))), (a4_25, .inl (x 0, 100, .inl (fun _ => 0))), (a5_26, .inl (x 0, 100, .inl (fun _ => 0))), (a6_27, .inl (x 0, 100, .inl (fun _ => 0))), (a7_28, .inl (x 2, 100, .inr (.inl (fun _ => 0)))), (a8_29, .inl (x 0, 100, .inl (fun _ => 0))), (q_34, .inl (x 1, 102400, .inl (fun _ => 0))), (q_41, .inl (x 1, 256, .inl (fun _ => 0)))] H := hP
  have hD : va_D A [(h0, .inr (0, zf 18 f_38)), (q_1, .inr (9, zf 8 c0_6)), (q_16, .inr (8, zf 18 c0_21)), (a1_22, .inl (x 0, 20, .inl (fun _ => 0))), (a2_23, .inl (x 1, 3000, .inl (fun _ => 0))), (a3_24, .inl (x 0, 6216, .inl (fun _ => 0))), (a4_25, .inl (x 0, 100, .inl (fun _ => 0))), (a5_26, .inl (x 0, 100, .inl (fun _ => 0))), (a6_27, .inl (x 0, 100, .inl (fun _ => 0))), (a7_28, .inl (x 2, 100, .inr (.inl (fun _ => 0)))), (a8_29, .inl (x 0, 100, .inl (fun _ => 0))), (q_34, .inl (x 1, 102400, .inl (fun _ => 0))), (q_41, .inl (x 1, 256, .inl (fun _ => 0)))] := hD
  refine W.widen (k := 3361) (n := 564498) (by omega) (by omega) ?_
  refine z_putF (T := TX0) (N := 18) (ci := 0) hx hb hts (zi_0 _) hown hK hP hD hS 0 rfl rfl 5 (by decide) (hts _ (zm_138 _)) rfl rfl hin rfl rfl rfl dX0_init_63 (fun H locs f_45 ek_46 ok_47 hP hD hS => ?_)
  have hP : va_P D vwCl [(h0, .inr (0, zf 18 f_45)), (q_1, .inr (9, zf 8 c0_6)), (q_16, .inr (8, zf 18 c0_21)), (a1_22, .inl (x 0, 20, .inl (fun _ => 0))), (a2_23, .inl (x 1, 3000, .inl (fun _ => 0))), (a3_24, .inl (x 0, 6216, .inl (fun _ => 0))), (a4_25, .inl (x 0, 100, .inl (fun _ => 0))), (a5_26, .inl (x 0, 100, .inl (fun _ => 0))), (a6_27, .inl (x 0, 100, .inl (fun _ => 0))), (a7_28, .inl (x 2, 100, .inr (.inl (fun _ => 0)))), (a8_29, .inl (x 0, 100, .inl (fun _ => 0))), (q_34, .inl (x 1, 102400, .inl (fun _ => 0))), (q_41, .inl (x 1, 256, .inl (fun _ => 0)))] H := hP
  have hD : va_D A [(h0, .inr (0, zf 18 f_45)), (q_1, .inr (9, zf 8 c0_6)), (q_16, .inr (8, zf 18 c0_21)), (a1_22, .inl (x 0, 20, .inl (fun _ => 0))), (a2_23, .inl (x 1, 3000, .inl (fun _ => 0))), (a3_24, .inl (x 0, 6216, .inl (fun _ => 0))), (a4_25, .inl (x 0, 100, .inl (fun _ => 0))), (a5_26, .inl (x 0, 100, .inl (fun _ => 0))), (a6_27, .inl (x 0, 100, .inl (fun _ => 0))), (a7_28, .inl (x 2, 100, .inr (.inl (fun _ => 0)))), (a8_29, .inl (x 0, 100, .inl (fun _ => 0))), (q_34, .inl (x 1, 102400, .inl (fun _ => 0))), (q_41, .inl (x 1, 256, .inl (fun _ => 0)))] := hD
  refine lv_aload_n hx hb dX0_init_66 rfl (lv_at hl 0 rfl) ?_
  have h_51 : 3361 + 1 ≤ 3485 := by omega
  have h_52 : 564498 + 3 ≤ 670546 := by omega
  refine z_new (T := TX6) (N := 3) (ci := 6) hx hb hts (zi_6 _) hown (hts _ (zm_139 _)) (hts _ (zm_10 _)) (hts _ (zm_7 _)) hK hP hD hS hA rfl h_51 h_52 dX0_init_67 (fun q_48 H f_49 ed_50 hP hD hS => ?_)
  have hP : va_P D vwCl [(h0, .inr (0, zf 18 f_45)), (q_1, .inr (9, zf 8 c0_6)), (q_16, .inr (8, zf 18 c0_21)), (a1_22, .inl (x 0, 20, .inl (fun _ => 0))), (a2_23, .inl (x 1, 3000, .inl (fun _ => 0))), (a3_24, .inl (x 0, 6216, .inl (fun _ => 0))), (a4_25, .inl (x 0, 100, .inl (fun _ => 0))), (a5_26, .inl (x 0, 100, .inl (fun _ => 0))), (a6_27, .inl (x 0, 100, .inl (fun _ => 0))), (a7_28, .inl (x 2, 100, .inr (.inl (fun _ => 0)))), (a8_29, .inl (x 0, 100, .inl (fun _ => 0))), (q_34, .inl (x 1, 102400, .inl (fun _ => 0))), (q_41, .inl (x 1, 256, .inl (fun _ => 0))), (q_48, .inr (6, zf 3 f_49))] H := hP
  have hD : va_D A [(h0, .inr (0, zf 18 f_45)), (q_1, .inr (9, zf 8 c0_6)), (q_16, .inr (8, zf 18 c0_21)), (a1_22, .inl (x 0, 20, .inl (fun _ => 0))), (a2_23, .inl (x 1, 3000, .inl (fun _ => 0))), (a3_24, .inl (x 0, 6216, .inl (fun _ => 0))), (a4_25, .inl (x 0, 100, .inl (fun _ => 0))), (a5_26, .inl (x 0, 100, .inl (fun _ => 0))), (a6_27, .inl (x 0, 100, .inl (fun _ => 0))), (a7_28, .inl (x 2, 100, .inr (.inl (fun _ => 0)))), (a8_29, .inl (x 0, 100, .inl (fun _ => 0))), (q_34, .inl (x 1, 102400, .inl (fun _ => 0))), (q_41, .inl (x 1, 256, .inl (fun _ => 0))), (q_48, .inr (6, zf 3 f_49))] := hD
  refine W.widen (k := 3362) (n := 564501) (by omega) (by omega) ?_
  refine lv_dup hx hb dX0_init_70 rfl ?_
  refine lv_ldc hx hb hown (hts _ (zm_140 _)) dX0_init_71 ?_
  have hPc := hP.sub (ws' := [(q_48, .inr (6, zf 3 f_49))]) [13] rfl
  have hDc := hD.sub (ws' := [(q_48, .inr (6, zf 3 f_49))]) [13] (by decide) rfl
  have hFc := va_free (wc := [(q_48, .inr (6, zf 3 f_49))]) hD hS hA [13] rfl
  have h_55 : 3362 + 1 ≤ 3485 ∧ 564501 + 99200 ≤ 670546 := by omega
  refine va_callv (va_runIN (As := [.int 99200]) (rest := [.ref q_48, .ref h0]) ⟨hx, hb, hml, hown, hts⟩ (c_Row_init l D x 99200 q_48 f_49 H.size (ed_50 1) (ed_50 2) (by decide)) ⟨va_cnB 1 hts (zgood (zm_6 _) rfl) rfl rfl rfl (hZ.2.1 _ zn_16) (hts _ (zm_7 _)) ⟨by decide, by decide, by decide +kernel⟩ ⟨Nat.le_of_ble_eq_true rfl, Nat.le_of_ble_eq_true rfl⟩, rfl, hts _ (zm_8 _)⟩ ⟨fun a U g mk q => by obtain ⟨q0, q1, qP, qK, qD⟩ := q; exact ⟨q0, q1, qP, ZK.calling (u := U) zN_ok rfl qK, qD⟩, fun U hU hW => ⟨rfl, by rw [hU], by rw [hU]; exact hPc, ZK.warm zN_ok hW hZ, hDc.weaken (fun _ _ _ _ => trivial)⟩⟩ rfl rfl hl.1 rfl (lv_room (Nat.le_of_ble_eq_true rfl)) dX0_init_73 h_55) hS (fun q _ h => hFc q h) hFc (fun u t H1 locs ht hvm hw_54 hB hz1 hk1 hS => ?_)
  obtain ⟨c0_53, a1_54⟩ := u
  obtain ⟨hP1, hD1⟩ := hB
  rw [ht] at hP1
  try dsimp only at hw_54
  obtain ⟨hP, hD⟩ := va_join (wr := [(h0, .inr (0, zf 18 f_45)), (q_1, .inr (9, zf 8 c0_6)), (q_16, .inr (8, zf 18 c0_21)), (a1_22, .inl (x 0, 20, .inl (fun _ => 0))), (a2_23, .inl (x 1, 3000, .inl (fun _ => 0))), (a3_24, .inl (x 0, 6216, .inl (fun _ => 0))), (a4_25, .inl (x 0, 100, .inl (fun _ => 0))), (a5_26, .inl (x 0, 100, .inl (fun _ => 0))), (a6_27, .inl (x 0, 100, .inl (fun _ => 0))), (a7_28, .inl (x 2, 100, .inr (.inl (fun _ => 0)))), (a8_29, .inl (x 0, 100, .inl (fun _ => 0))), (q_34, .inl (x 1, 102400, .inl (fun _ => 0))), (q_41, .inl (x 1, 256, .inl (fun _ => 0)))]) (w1 := [(q_48, .inr (6, zf 3 c0_53)), (a1_54, .inl (x 1, 99200, .inl (fun _ => 0)))]) hP hD [13] [0, 1, 2, 3, 4, 5, 6, 7, 8, 9, 10, 11, 12] rfl rfl (by decide) (by decide) hk1 hFc hP1 hD1
  generalize H1 = H at hP hS ⊢
  have hP : va_P D vwCl [(h0, .inr (0, zf 18 f_45)), (q_1, .inr (9, zf 8 c0_6)), (q_16, .inr (8, zf 18 c0_21)), (a1_22, .inl (x 0, 20, .inl (fun _ => 0))), (a2_23, .inl (x 1, 3000, .inl (fun _ => 0))), (a3_24, .inl (x 0, 6216, .inl (fun _ => 0))), (a4_25, .inl (x 0, 100, .inl (fun _ => 0))), (a5_26, .inl (x 0, 100, .inl (fun _ => 0))), (a6_27, .inl (x 0, 100, .inl (fun _ => 0))), (a7_28, .inl (x 2, 100, .inr (.inl (fun _ => 0)))), (a8_29, .inl (x 0, 100, .inl (fun _ => 0))), (q_34, .inl (x 1, 102400, .inl (fun _ => 0))), (q_41, .inl (x 1, 256, .inl (fun _ => 0))), (q_48, .inr (6, zf 3 c0_53)), (a1_54, .inl (x 1, 99200, .inl (fun _ => 0)))] H := hP
  have hD : va_D A [(h0, .inr (0, zf 18 f_45)), (q_1, .inr (9, zf 8 c0_6)), (q_16, .inr (8, zf 18 c0_21)), (a1_22, .inl (x 0, 20, .inl (fun _ => 0))), (a2_23, .inl (x 1, 3000, .inl (fun _ => 0))), (a3_24, .inl (x 0, 6216, .inl (fun _ => 0))), (a4_25, .inl (x 0, 100, .inl (fun _ => 0))), (a5_26, .inl (x 0, 100, .inl (fun _ => 0))), (a6_27, .inl (x 0, 100, .inl (fun _ => 0))), (a7_28, .inl (x 2, 100, .inr (.inl (fun _ => 0)))), (a8_29, .inl (x 0, 100, .inl (fun _ => 0))), (q_34, .inl (x 1, 102400, .inl (fun _ => 0))), (q_41, .inl (x 1, 256, .inl (fun _ => 0))), (q_48, .inr (6, zf 3 c0_53)), (a1_54, .inl (x 1, 99200, .inl (fun _ => 0)))] := hD
  refine W.widen (k := 3363) (n := 663701) (by omega) (by omega) ?_
  refine z_putF (T := TX0) (N := 18) (ci := 0) hx hb hts (zi_0 _) hown hK hP hD hS 0 rfl rfl 7 (by decide) (hts _ (zm_141 _)) rfl rfl hin rfl rfl rfl dX0_init_76 (fun H locs f_56 ek_57 ok_58 hP hD hS => ?_)
  have hP : va_P D vwCl [(h0, .inr (0, zf 18 f_56)), (q_1, .inr (9, zf 8 c0_6)), (q_16, .inr (8, zf 18 c0_21)), (a1_22, .inl (x 0, 20, .inl (fun _ => 0))), (a2_23, .inl (x 1, 3000, .inl (fun _ => 0))), (a3_24, .inl (x 0, 6216, .inl (fun _ => 0))), (a4_25, .inl (x 0, 100, .inl (fun _ => 0))), (a5_26, .inl (x 0, 100, .inl (fun _ => 0))), (a6_27, .inl (x 0, 100, .inl (fun _ => 0))), (a7_28, .inl (x 2, 100, .inr (.inl (fun _ => 0)))), (a8_29, .inl (x 0, 100, .inl (fun _ => 0))), (q_34, .inl (x 1, 102400, .inl (fun _ => 0))), (q_41, .inl (x 1, 256, .inl (fun _ => 0))), (q_48, .inr (6, zf 3 c0_53)), (a1_54, .inl (x 1, 99200, .inl (fun _ => 0)))] H := hP
  have hD : va_D A [(h0, .inr (0, zf 18 f_56)), (q_1, .inr (9, zf 8 c0_6)), (q_16, .inr (8, zf 18 c0_21)), (a1_22, .inl (x 0, 20, .inl (fun _ => 0))), (a2_23, .inl (x 1, 3000, .inl (fun _ => 0))), (a3_24, .inl (x 0, 6216, .inl (fun _ => 0))), (a4_25, .inl (x 0, 100, .inl (fun _ => 0))), (a5_26, .inl (x 0, 100, .inl (fun _ => 0))), (a6_27, .inl (x 0, 100, .inl (fun _ => 0))), (a7_28, .inl (x 2, 100, .inr (.inl (fun _ => 0)))), (a8_29, .inl (x 0, 100, .inl (fun _ => 0))), (q_34, .inl (x 1, 102400, .inl (fun _ => 0))), (q_41, .inl (x 1, 256, .inl (fun _ => 0))), (q_48, .inr (6, zf 3 c0_53)), (a1_54, .inl (x 1, 99200, .inl (fun _ => 0)))] := hD
  refine lv_aload_n hx hb dX0_init_79 rfl (lv_at hl 0 rfl) ?_
  refine lv_iconst (v := (-1)) hx hb dX0_init_80 (by decide) ?_
  refine z_put (T := TX0) (N := 18) (ci := 0) hx hb hts (zi_0 _) hown hK hP hD hS 0 rfl rfl 9 (by decide) (hts _ (zm_142 _)) rfl rfl rfl rfl dX0_init_81 (fun H locs f_59 ek_60 ok_61 hP hD hS => ?_)
  have hP : va_P D vwCl [(h0, .inr (0, zf 18 f_59)), (q_1, .inr (9, zf 8 c0_6)), (q_16, .inr (8, zf 18 c0_21)), (a1_22, .inl (x 0, 20, .inl (fun _ => 0))), (a2_23, .inl (x 1, 3000, .inl (fun _ => 0))), (a3_24, .inl (x 0, 6216, .inl (fun _ => 0))), (a4_25, .inl (x 0, 100, .inl (fun _ => 0))), (a5_26, .inl (x 0, 100, .inl (fun _ => 0))), (a6_27, .inl (x 0, 100, .inl (fun _ => 0))), (a7_28, .inl (x 2, 100, .inr (.inl (fun _ => 0)))), (a8_29, .inl (x 0, 100, .inl (fun _ => 0))), (q_34, .inl (x 1, 102400, .inl (fun _ => 0))), (q_41, .inl (x 1, 256, .inl (fun _ => 0))), (q_48, .inr (6, zf 3 c0_53)), (a1_54, .inl (x 1, 99200, .inl (fun _ => 0)))] H := hP
  have hD : va_D A [(h0, .inr (0, zf 18 f_59)), (q_1, .inr (9, zf 8 c0_6)), (q_16, .inr (8, zf 18 c0_21)), (a1_22, .inl (x 0, 20, .inl (fun _ => 0))), (a2_23, .inl (x 1, 3000, .inl (fun _ => 0))), (a3_24, .inl (x 0, 6216, .inl (fun _ => 0))), (a4_25, .inl (x 0, 100, .inl (fun _ => 0))), (a5_26, .inl (x 0, 100, .inl (fun _ => 0))), (a6_27, .inl (x 0, 100, .inl (fun _ => 0))), (a7_28, .inl (x 2, 100, .inr (.inl (fun _ => 0)))), (a8_29, .inl (x 0, 100, .inl (fun _ => 0))), (q_34, .inl (x 1, 102400, .inl (fun _ => 0))), (q_41, .inl (x 1, 256, .inl (fun _ => 0))), (q_48, .inr (6, zf 3 c0_53)), (a1_54, .inl (x 1, 99200, .inl (fun _ => 0)))] := hD
  refine lv_aload_n hx hb dX0_init_84 rfl (lv_at hl 0 rfl) ?_
  refine lv_bipush (v := 60) hx hb dX0_init_85 (by decide) ?_
  have hPc := hP.sub (ws' := []) [] rfl
  have hDc := hD.sub (ws' := []) [] (by decide) rfl
  have hFc := va_free (wc := []) hD hS hA [] rfl
  have h_63 : 3363 + 121 ≤ 3485 ∧ 663701 + 6840 ≤ 670546 := by omega
  refine va_callr (va_runSN (As := [.int 60]) (rest := [.ref h0]) ⟨hx, hb, hml, hown, hts⟩ (c_Node_many l D x 60 H.size (by decide)) ⟨va_cnB 1 hts (zgood (zm_22 _) rfl) rfl rfl rfl (hZ.2.1 _ zn_17) (hts _ (zm_17 _)) ⟨by decide, by decide, by decide +kernel⟩ ⟨Nat.le_of_ble_eq_true rfl, Nat.le_of_ble_eq_true rfl⟩, hts _ (zm_23 _), trivial⟩ ⟨fun a U g mk q => by obtain ⟨q0, q1, qP, qK, qD⟩ := q; exact ⟨q0, q1, qP, ZK.calling (u := U) zN_ok rfl qK, qD⟩, fun U hU hW => ⟨rfl, by rw [hU], by rw [hU]; exact hPc, ZK.warm zN_ok hW hZ, hDc.weaken (fun _ _ _ _ => trivial)⟩⟩ rfl rfl hl.1 rfl (lv_room (Nat.le_of_ble_eq_true rfl)) dX0_init_87 h_63) hS (fun q _ h => hFc q h) hFc (fun u ra_62 t H1 locs ht hvm hw_62 hB hz1 hk1 hS => ?_)
  obtain ⟨hP1, hD1⟩ := hB
  rw [ht] at hP1
  try dsimp only at hw_62
  obtain ⟨hP, hD⟩ := va_join (wr := [(h0, .inr (0, zf 18 f_59)), (q_1, .inr (9, zf 8 c0_6)), (q_16, .inr (8, zf 18 c0_21)), (a1_22, .inl (x 0, 20, .inl (fun _ => 0))), (a2_23, .inl (x 1, 3000, .inl (fun _ => 0))), (a3_24, .inl (x 0, 6216, .inl (fun _ => 0))), (a4_25, .inl (x 0, 100, .inl (fun _ => 0))), (a5_26, .inl (x 0, 100, .inl (fun _ => 0))), (a6_27, .inl (x 0, 100, .inl (fun _ => 0))), (a7_28, .inl (x 2, 100, .inr (.inl (fun _ => 0)))), (a8_29, .inl (x 0, 100, .inl (fun _ => 0))), (q_34, .inl (x 1, 102400, .inl (fun _ => 0))), (q_41, .inl (x 1, 256, .inl (fun _ => 0))), (q_48, .inr (6, zf 3 c0_53)), (a1_54, .inl (x 1, 99200, .inl (fun _ => 0)))]) (w1 := []) hP hD [] [0, 1, 2, 3, 4, 5, 6, 7, 8, 9, 10, 11, 12, 13, 14] rfl rfl (by decide) (by decide) hk1 hFc hP1 hD1
  generalize H1 = H at hP hS ⊢
  have hP : va_P D vwCl [(h0, .inr (0, zf 18 f_59)), (q_1, .inr (9, zf 8 c0_6)), (q_16, .inr (8, zf 18 c0_21)), (a1_22, .inl (x 0, 20, .inl (fun _ => 0))), (a2_23, .inl (x 1, 3000, .inl (fun _ => 0))), (a3_24, .inl (x 0, 6216, .inl (fun _ => 0))), (a4_25, .inl (x 0, 100, .inl (fun _ => 0))), (a5_26, .inl (x 0, 100, .inl (fun _ => 0))), (a6_27, .inl (x 0, 100, .inl (fun _ => 0))), (a7_28, .inl (x 2, 100, .inr (.inl (fun _ => 0)))), (a8_29, .inl (x 0, 100, .inl (fun _ => 0))), (q_34, .inl (x 1, 102400, .inl (fun _ => 0))), (q_41, .inl (x 1, 256, .inl (fun _ => 0))), (q_48, .inr (6, zf 3 c0_53)), (a1_54, .inl (x 1, 99200, .inl (fun _ => 0)))] H := hP
  have hD : va_D A [(h0, .inr (0, zf 18 f_59)), (q_1, .inr (9, zf 8 c0_6)), (q_16, .inr (8, zf 18 c0_21)), (a1_22, .inl (x 0, 20, .inl (fun _ => 0))), (a2_23, .inl (x 1, 3000, .inl (fun _ => 0))), (a3_24, .inl (x 0, 6216, .inl (fun _ => 0))), (a4_25, .inl (x 0, 100, .inl (fun _ => 0))), (a5_26, .inl (x 0, 100, .inl (fun _ => 0))), (a6_27, .inl (x 0, 100, .inl (fun _ => 0))), (a7_28, .inl (x 2, 100, .inr (.inl (fun _ => 0)))), (a8_29, .inl (x 0, 100, .inl (fun _ => 0))), (q_34, .inl (x 1, 102400, .inl (fun _ => 0))), (q_41, .inl (x 1, 256, .inl (fun _ => 0))), (q_48, .inr (6, zf 3 c0_53)), (a1_54, .inl (x 1, 99200, .inl (fun _ => 0)))] := hD
  refine W.widen (k := 3484) (n := 670541) (by omega) (by omega) ?_
  refine z_putF (T := TX0) (N := 18) (ci := 0) hx hb hts (zi_0 _) hown hK hP hD hS 0 rfl rfl 13 (by decide) (hts _ (zm_143 _)) rfl rfl hin rfl rfl rfl dX0_init_90 (fun H locs f_64 ek_65 ok_66 hP hD hS => ?_)
  have hP : va_P D vwCl [(h0, .inr (0, zf 18 f_64)), (q_1, .inr (9, zf 8 c0_6)), (q_16, .inr (8, zf 18 c0_21)), (a1_22, .inl (x 0, 20, .inl (fun _ => 0))), (a2_23, .inl (x 1, 3000, .inl (fun _ => 0))), (a3_24, .inl (x 0, 6216, .inl (fun _ => 0))), (a4_25, .inl (x 0, 100, .inl (fun _ => 0))), (a5_26, .inl (x 0, 100, .inl (fun _ => 0))), (a6_27, .inl (x 0, 100, .inl (fun _ => 0))), (a7_28, .inl (x 2, 100, .inr (.inl (fun _ => 0)))), (a8_29, .inl (x 0, 100, .inl (fun _ => 0))), (q_34, .inl (x 1, 102400, .inl (fun _ => 0))), (q_41, .inl (x 1, 256, .inl (fun _ => 0))), (q_48, .inr (6, zf 3 c0_53)), (a1_54, .inl (x 1, 99200, .inl (fun _ => 0)))] H := hP
  have hD : va_D A [(h0, .inr (0, zf 18 f_64)), (q_1, .inr (9, zf 8 c0_6)), (q_16, .inr (8, zf 18 c0_21)), (a1_22, .inl (x 0, 20, .inl (fun _ => 0))), (a2_23, .inl (x 1, 3000, .inl (fun _ => 0))), (a3_24, .inl (x 0, 6216, .inl (fun _ => 0))), (a4_25, .inl (x 0, 100, .inl (fun _ => 0))), (a5_26, .inl (x 0, 100, .inl (fun _ => 0))), (a6_27, .inl (x 0, 100, .inl (fun _ => 0))), (a7_28, .inl (x 2, 100, .inr (.inl (fun _ => 0)))), (a8_29, .inl (x 0, 100, .inl (fun _ => 0))), (q_34, .inl (x 1, 102400, .inl (fun _ => 0))), (q_41, .inl (x 1, 256, .inl (fun _ => 0))), (q_48, .inr (6, zf 3 c0_53)), (a1_54, .inl (x 1, 99200, .inl (fun _ => 0)))] := hD
  refine lv_aload_n hx hb dX0_init_93 rfl (lv_at hl 0 rfl) ?_
  refine lv_iconst (v := 5) hx hb dX0_init_94 (by decide) ?_
  have h_69 : 3484 + 1 ≤ 3485 := by omega
  have h_70 : 670541 + 5 ≤ 670546 := by omega
  refine z_newa (atype := .int) (ty := .int) (a0 := (5, .inl (fun _ => 0))) hx hb (hts _ (zm_2 _)) rfl hK 0 rfl hP hD hS hA (fun cA => rfl) (by decide) (by decide) (by decide) h_69 h_70 dX0_init_95 (fun q_67 H hP hD hS => ?_)
  have hP : va_P D vwCl [(h0, .inr (0, zf 18 f_64)), (q_1, .inr (9, zf 8 c0_6)), (q_16, .inr (8, zf 18 c0_21)), (a1_22, .inl (x 0, 20, .inl (fun _ => 0))), (a2_23, .inl (x 1, 3000, .inl (fun _ => 0))), (a3_24, .inl (x 0, 6216, .inl (fun _ => 0))), (a4_25, .inl (x 0, 100, .inl (fun _ => 0))), (a5_26, .inl (x 0, 100, .inl (fun _ => 0))), (a6_27, .inl (x 0, 100, .inl (fun _ => 0))), (a7_28, .inl (x 2, 100, .inr (.inl (fun _ => 0)))), (a8_29, .inl (x 0, 100, .inl (fun _ => 0))), (q_34, .inl (x 1, 102400, .inl (fun _ => 0))), (q_41, .inl (x 1, 256, .inl (fun _ => 0))), (q_48, .inr (6, zf 3 c0_53)), (a1_54, .inl (x 1, 99200, .inl (fun _ => 0))), (q_67, .inl (x 0, 5, .inl (fun _ => 0)))] H := hP
  have hD : va_D A [(h0, .inr (0, zf 18 f_64)), (q_1, .inr (9, zf 8 c0_6)), (q_16, .inr (8, zf 18 c0_21)), (a1_22, .inl (x 0, 20, .inl (fun _ => 0))), (a2_23, .inl (x 1, 3000, .inl (fun _ => 0))), (a3_24, .inl (x 0, 6216, .inl (fun _ => 0))), (a4_25, .inl (x 0, 100, .inl (fun _ => 0))), (a5_26, .inl (x 0, 100, .inl (fun _ => 0))), (a6_27, .inl (x 0, 100, .inl (fun _ => 0))), (a7_28, .inl (x 2, 100, .inr (.inl (fun _ => 0)))), (a8_29, .inl (x 0, 100, .inl (fun _ => 0))), (q_34, .inl (x 1, 102400, .inl (fun _ => 0))), (q_41, .inl (x 1, 256, .inl (fun _ => 0))), (q_48, .inr (6, zf 3 c0_53)), (a1_54, .inl (x 1, 99200, .inl (fun _ => 0))), (q_67, .inl (x 0, 5, .inl (fun _ => 0)))] := hD
  refine W.widen (k := 3485) (n := 670546) (by omega) (by omega) ?_
  refine z_putF (T := TX0) (N := 18) (ci := 0) hx hb hts (zi_0 _) hown hK hP hD hS 0 rfl rfl 17 (by decide) (hts _ (zm_144 _)) rfl rfl hin rfl rfl rfl dX0_init_97 (fun H locs f_71 ek_72 ok_73 hP hD hS => ?_)
  have hP : va_P D vwCl [(h0, .inr (0, zf 18 f_71)), (q_1, .inr (9, zf 8 c0_6)), (q_16, .inr (8, zf 18 c0_21)), (a1_22, .inl (x 0, 20, .inl (fun _ => 0))), (a2_23, .inl (x 1, 3000, .inl (fun _ => 0))), (a3_24, .inl (x 0, 6216, .inl (fun _ => 0))), (a4_25, .inl (x 0, 100, .inl (fun _ => 0))), (a5_26, .inl (x 0, 100, .inl (fun _ => 0))), (a6_27, .inl (x 0, 100, .inl (fun _ => 0))), (a7_28, .inl (x 2, 100, .inr (.inl (fun _ => 0)))), (a8_29, .inl (x 0, 100, .inl (fun _ => 0))), (q_34, .inl (x 1, 102400, .inl (fun _ => 0))), (q_41, .inl (x 1, 256, .inl (fun _ => 0))), (q_48, .inr (6, zf 3 c0_53)), (a1_54, .inl (x 1, 99200, .inl (fun _ => 0))), (q_67, .inl (x 0, 5, .inl (fun _ => 0)))] H := hP
  have hD : va_D A [(h0, .inr (0, zf 18 f_71)), (q_1, .inr (9, zf 8 c0_6)), (q_16, .inr (8, zf 18 c0_21)), (a1_22, .inl (x 0, 20, .inl (fun _ => 0))), (a2_23, .inl (x 1, 3000, .inl (fun _ => 0))), (a3_24, .inl (x 0, 6216, .inl (fun _ => 0))), (a4_25, .inl (x 0, 100, .inl (fun _ => 0))), (a5_26, .inl (x 0, 100, .inl (fun _ => 0))), (a6_27, .inl (x 0, 100, .inl (fun _ => 0))), (a7_28, .inl (x 2, 100, .inr (.inl (fun _ => 0)))), (a8_29, .inl (x 0, 100, .inl (fun _ => 0))), (q_34, .inl (x 1, 102400, .inl (fun _ => 0))), (q_41, .inl (x 1, 256, .inl (fun _ => 0))), (q_48, .inr (6, zf 3 c0_53)), (a1_54, .inl (x 1, 99200, .inl (fun _ => 0))), (q_67, .inl (x 0, 5, .inl (fun _ => 0)))] := hD
  have e_74 : f_71 0 = .ref q_1 := ((ok_73 0 (by decide)).trans ((ok_66 0 (by decide)).trans ((ok_61 0 (by decide)).trans ((ok_58 0 (by decide)).trans ((ok_47 0 (by decide)).trans ((ok_40 0 (by decide)).trans ((ok_33 0 (by decide)).trans ((ok_15 0 (by decide)).trans ek_9))))))))
  have e_75 : f_71 3 = .ref q_16 := ((ok_73 3 (by decide)).trans ((ok_66 3 (by decide)).trans ((ok_61 3 (by decide)).trans ((ok_58 3 (by decide)).trans ((ok_47 3 (by decide)).trans ((ok_40 3 (by decide)).trans ek_32))))))
  have e_76 : f_71 2 = .int 0 := ((ok_73 2 (by decide)).trans ((ok_66 2 (by decide)).trans ((ok_61 2 (by decide)).trans ((ok_58 2 (by decide)).trans ((ok_47 2 (by decide)).trans ((ok_40 2 (by decide)).trans ((ok_33 2 (by decide)).trans ((ok_15 2 (by decide)).trans ((ok_10 2 (by decide)).trans h0_2)))))))))
  have e_77 : f_71 6 = .int 0 := ((ok_73 6 (by decide)).trans ((ok_66 6 (by decide)).trans ((ok_61 6 (by decide)).trans ((ok_58 6 (by decide)).trans ((ok_47 6 (by decide)).trans ((ok_40 6 (by decide)).trans ((ok_33 6 (by decide)).trans ((ok_15 6 (by decide)).trans ((ok_10 6 (by decide)).trans h0_6)))))))))
  have e_78 : f_71 8 = .int 0 := ((ok_73 8 (by decide)).trans ((ok_66 8 (by decide)).trans ((ok_61 8 (by decide)).trans ((ok_58 8 (by decide)).trans ((ok_47 8 (by decide)).trans ((ok_40 8 (by decide)).trans ((ok_33 8 (by decide)).trans ((ok_15 8 (by decide)).trans ((ok_10 8 (by decide)).trans h0_8)))))))))
  have e_79 : f_71 10 = .int 0 := ((ok_73 10 (by decide)).trans ((ok_66 10 (by decide)).trans ((ok_61 10 (by decide)).trans ((ok_58 10 (by decide)).trans ((ok_47 10 (by decide)).trans ((ok_40 10 (by decide)).trans ((ok_33 10 (by decide)).trans ((ok_15 10 (by decide)).trans ((ok_10 10 (by decide)).trans h0_10)))))))))
  have e_80 : f_71 11 = .int 0 := ((ok_73 11 (by decide)).trans ((ok_66 11 (by decide)).trans ((ok_61 11 (by decide)).trans ((ok_58 11 (by decide)).trans ((ok_47 11 (by decide)).trans ((ok_40 11 (by decide)).trans ((ok_33 11 (by decide)).trans ((ok_15 11 (by decide)).trans ((ok_10 11 (by decide)).trans h0_11)))))))))
  have e_81 : f_71 12 = .int 0 := ((ok_73 12 (by decide)).trans ((ok_66 12 (by decide)).trans ((ok_61 12 (by decide)).trans ((ok_58 12 (by decide)).trans ((ok_47 12 (by decide)).trans ((ok_40 12 (by decide)).trans ((ok_33 12 (by decide)).trans ((ok_15 12 (by decide)).trans ((ok_10 12 (by decide)).trans h0_12)))))))))
  have e_82 : f_71 14 = .int 0 := ((ok_73 14 (by decide)).trans ((ok_66 14 (by decide)).trans ((ok_61 14 (by decide)).trans ((ok_58 14 (by decide)).trans ((ok_47 14 (by decide)).trans ((ok_40 14 (by decide)).trans ((ok_33 14 (by decide)).trans ((ok_15 14 (by decide)).trans ((ok_10 14 (by decide)).trans h0_14)))))))))
  have e_83 : f_71 15 = .int 0 := ((ok_73 15 (by decide)).trans ((ok_66 15 (by decide)).trans ((ok_61 15 (by decide)).trans ((ok_58 15 (by decide)).trans ((ok_47 15 (by decide)).trans ((ok_40 15 (by decide)).trans ((ok_33 15 (by decide)).trans ((ok_15 15 (by decide)).trans ((ok_10 15 (by decide)).trans h0_15)))))))))
  have e_84 : f_71 16 = .long 0 := ((ok_73 16 (by decide)).trans ((ok_66 16 (by decide)).trans ((ok_61 16 (by decide)).trans ((ok_58 16 (by decide)).trans ((ok_47 16 (by decide)).trans ((ok_40 16 (by decide)).trans ((ok_33 16 (by decide)).trans ((ok_15 16 (by decide)).trans ((ok_10 16 (by decide)).trans h0_16)))))))))
  have hP9 := hP.sub (ws' := [(h0, .inr (0, zf 18 f_71)), (q_1, .inr (9, zf 8 c0_6)), (q_16, .inr (8, zf 18 c0_21)), (a1_22, .inl (x 0, 20, .inl (fun _ => 0))), (a2_23, .inl (x 1, 3000, .inl (fun _ => 0))), (a3_24, .inl (x 0, 6216, .inl (fun _ => 0))), (a4_25, .inl (x 0, 100, .inl (fun _ => 0))), (a5_26, .inl (x 0, 100, .inl (fun _ => 0))), (a6_27, .inl (x 0, 100, .inl (fun _ => 0))), (a7_28, .inl (x 2, 100, .inr (.inl (fun _ => 0)))), (a8_29, .inl (x 0, 100, .inl (fun _ => 0))), (q_34, .inl (x 1, 102400, .inl (fun _ => 0))), (q_48, .inr (6, zf 3 c0_53)), (q_67, .inl (x 0, 5, .inl (fun _ => 0)))]) [0, 1, 2, 3, 4, 5, 6, 7, 8, 9, 10, 11, 13, 15] rfl
  have hD9 := hD.sub (ws' := [(h0, .inr (0, zf 18 f_71)), (q_1, .inr (9, zf 8 c0_6)), (q_16, .inr (8, zf 18 c0_21)), (a1_22, .inl (x 0, 20, .inl (fun _ => 0))), (a2_23, .inl (x 1, 3000, .inl (fun _ => 0))), (a3_24, .inl (x 0, 6216, .inl (fun _ => 0))), (a4_25, .inl (x 0, 100, .inl (fun _ => 0))), (a5_26, .inl (x 0, 100, .inl (fun _ => 0))), (a6_27, .inl (x 0, 100, .inl (fun _ => 0))), (a7_28, .inl (x 2, 100, .inr (.inl (fun _ => 0)))), (a8_29, .inl (x 0, 100, .inl (fun _ => 0))), (q_34, .inl (x 1, 102400, .inl (fun _ => 0))), (q_48, .inr (6, zf 3 c0_53)), (q_67, .inl (x 0, 5, .inl (fun _ => 0)))]) [0, 1, 2, 3, 4, 5, 6, 7, 8, 9, 10, 11, 13, 15] (by decide) rfl
  exact W.vret hx hb hr (fun t ht hW => ⟨⟨(f_71, q_1, c0_6, q_16, c0_21, a1_22, a2_23, a3_24, a4_25, a5_26, a6_27, a7_28, a8_29, q_34, q_48, c0_53, q_67), rfl, ⟨e_74, e_76, e_75, ((ok_73 4 (by decide)).trans ((ok_66 4 (by decide)).trans ((ok_61 4 (by decide)).trans ((ok_58 4 (by decide)).trans ((ok_47 4 (by decide)).trans ek_39))))), e_77, ((ok_73 7 (by decide)).trans ((ok_66 7 (by decide)).trans ((ok_61 7 (by decide)).trans ek_57))), e_78, ((ok_73 9 (by decide)).trans ((ok_66 9 (by decide)).trans ek_60)), e_79, e_80, e_81, e_82, e_83, e_84, ek_72, hw_6, hw_29.1, hw_29.2.1, hw_29.2.2.1, hw_29.2.2.2.1, hw_29.2.2.2.2.1, hw_29.2.2.2.2.2.1, hw_29.2.2.2.2.2.2.1, hw_29.2.2.2.2.2.2.2.1, hw_29.2.2.2.2.2.2.2.2.1, hw_29.2.2.2.2.2.2.2.2.2.1, hw_29.2.2.2.2.2.2.2.2.2.2.1, hw_29.2.2.2.2.2.2.2.2.2.2.2.1, hw_29.2.2.2.2.2.2.2.2.2.2.2.2.1, hw_29.2.2.2.2.2.2.2.2.2.2.2.2.2.1, hw_29.2.2.2.2.2.2.2.2.2.2.2.2.2.2.1, hw_29.2.2.2.2.2.2.2.2.2.2.2.2.2.2.2.1, hw_29.2.2.2.2.2.2.2.2.2.2.2.2.2.2.2.2.1, hw_29.2.2.2.2.2.2.2.2.2.2.2.2.2.2.2.2.2, hw_54.2.1, hw_54.2.2⟩, ⟨by rw [ht]; exact hP9, hD9⟩⟩, hS.F ht⟩) hS.2.2 dX0_init_100
