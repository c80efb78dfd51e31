theorem dX8_init_0 : decode cX8_init 0 = .ok (.aload_n 0, 1) := by decide +kernel
theorem dX8_init_1 : decode cX8_init 1 = .ok (.invokespecial 3, 3) := by decide +kernel
theorem dX8_init_4 : decode cX8_init 4 = .ok (.aload_n 0, 1) := by decide +kernel
theorem dX8_init_5 : decode cX8_init 5 = .ok (.bipush 20, 2) := by decide +kernel
theorem dX8_init_7 : decode cX8_init 7 = .ok (.newarray .int, 2) := by decide +kernel
theorem dX8_init_9 : decode cX8_init 9 = .ok (.putfield 9, 3) := by decide +kernel
theorem dX8_init_12 : decode cX8_init 12 = .ok (.aload_n 0, 1) := by decide +kernel
theorem dX8_init_13 : decode cX8_init 13 = .ok (.iload_n 1, 1) := by decide +kernel
theorem dX8_init_14 : decode cX8_init 14 = .ok (.newarray .byte, 2) := by decide +kernel
theorem dX8_init_16 : decode cX8_init 16 = .ok (.putfield 15, 3) := by decide +kernel
theorem dX8_init_19 : decode cX8_init 19 = .ok (.aload_n 0, 1) := by decide +kernel
theorem dX8_init_20 : decode cX8_init 20 = .ok (.iconst 2, 1) := by decide +kernel
theorem dX8_init_21 : decode cX8_init 21 = .ok (.iload_n 1, 1) := by decide +kernel
theorem dX8_init_22 : decode cX8_init 22 = .ok (.imul, 1) := by decide +kernel
theorem dX8_init_23 : decode cX8_init 23 = .ok (.iconst 2, 1) := by decide +kernel
theorem dX8_init_24 : decode cX8_init 24 = .ok (.iload_n 2, 1) := by decide +kernel
theorem dX8_init_25 : decode cX8_init 25 = .ok (.imul, 1) := by decide +kernel
theorem dX8_init_26 : decode cX8_init 26 = .ok (.iadd, 1) := by decide +kernel
theorem dX8_init_27 : decode cX8_init 27 = .ok (.bipush 16, 2) := by decide +kernel
theorem dX8_init_29 : decode cX8_init 29 = .ok (.iadd, 1) := by decide +kernel
theorem dX8_init_30 : decode cX8_init 30 = .ok (.newarray .int, 2) := by decide +kernel
theorem dX8_init_32 : decode cX8_init 32 = .ok (.putfield 19, 3) := by decide +kernel
theorem dX8_init_35 : decode cX8_init 35 = .ok (.aload_n 0, 1) := by decide +kernel
theorem dX8_init_36 : decode cX8_init 36 = .ok (.iload_n 2, 1) := by decide +kernel
theorem dX8_init_37 : decode cX8_init 37 = .ok (.newarray .int, 2) := by decide +kernel
theorem dX8_init_39 : decode cX8_init 39 = .ok (.putfield 22, 3) := by decide +kernel
theorem dX8_init_42 : decode cX8_init 42 = .ok (.aload_n 0, 1) := by decide +kernel
theorem dX8_init_43 : decode cX8_init 43 = .ok (.iload_n 2, 1) := by decide +kernel
theorem dX8_init_44 : decode cX8_init 44 = .ok (.newarray .int, 2) := by decide +kernel
theorem dX8_init_46 : decode cX8_init 46 = .ok (.putfield 25, 3) := by decide +kernel
theorem dX8_init_49 : decode cX8_init 49 = .ok (.aload_n 0, 1) := by decide +kernel
theorem dX8_init_50 : decode cX8_init 50 = .ok (.iload_n 2, 1) := by decide +kernel
theorem dX8_init_51 : decode cX8_init 51 = .ok (.newarray .int, 2) := by decide +kernel
theorem dX8_init_53 : decode cX8_init 53 = .ok (.putfield 28, 3) := by decide +kernel
theorem dX8_init_56 : decode cX8_init 56 = .ok (.aload_n 0, 1) := by decide +kernel
theorem dX8_init_57 : decode cX8_init 57 = .ok (.iload_n 2, 1) := by decide +kernel
theorem dX8_init_58 : decode cX8_init 58 = .ok (.newarray .long, 2) := by decide +kernel
theorem dX8_init_60 : decode cX8_init 60 = .ok (.putfield 31, 3) := by decide +kernel
theorem dX8_init_63 : decode cX8_init 63 = .ok (.aload_n 0, 1) := by decide +kernel
theorem dX8_init_64 : decode cX8_init 64 = .ok (.iload_n 2, 1) := by decide +kernel
theorem dX8_init_65 : decode cX8_init 65 = .ok (.newarray .int, 2) := by decide +kernel
theorem dX8_init_67 : decode cX8_init 67 = .ok (.putfield 35, 3) := by decide +kernel
theorem dX8_init_70 : decode cX8_init 70 = .ok (.return_, 1) := by decide +kernel
theorem dX8_many_8 : decode cX8_many 8 = .ok (.iload 4, 2) := by decide +kernel
theorem dX8_many_10 : decode cX8_many 10 = .ok (.aload_n 3, 1) := by decide +kernel
theorem dX8_many_11 : decode cX8_many 11 = .ok (.arraylength, 1) := by decide +kernel
theorem dX8_many_12 : decode cX8_many 12 = .ok (.if_icmp .ge 22, 3) := by decide +kernel
theorem dX8_many_15 : decode cX8_many 15 = .ok (.aload_n 3, 1) := by decide +kernel
theorem dX8_many_16 : decode cX8_many 16 = .ok (.iload 4, 2) := by decide +kernel
theorem dX8_many_18 : decode cX8_many 18 = .ok (.new 10, 3) := by decide +kernel
theorem dX8_many_21 : decode cX8_many 21 = .ok (.dup, 1) := by decide +kernel
theorem dX8_many_22 : decode cX8_many 22 = .ok (.iload_n 1, 1) := by decide +kernel
theorem dX8_many_23 : decode cX8_many 23 = .ok (.iload_n 2, 1) := by decide +kernel
theorem dX8_many_24 : decode cX8_many 24 = .ok (.invokespecial 38, 3) := by decide +kernel
theorem dX8_many_27 : decode cX8_many 27 = .ok (.aastore, 1) := by decide +kernel
theorem dX8_many_28 : decode cX8_many 28 = .ok (.iinc 4 1, 3) := by decide +kernel
theorem dX8_many_31 : decode cX8_many 31 = .ok (.goto (-23), 3) := by decide +kernel
theorem dX8_many_0 : decode cX8_many 0 = .ok (.iload_n 0, 1) := by decide +kernel
theorem dX8_many_1 : decode cX8_many 1 = .ok (.anewarray 10, 3) := by decide +kernel
theorem dX8_many_4 : decode cX8_many 4 = .ok (.astore_n 3, 1) := by decide +kernel
theorem dX8_many_5 : decode cX8_many 5 = .ok (.iconst 0, 1) := by decide +kernel
theorem dX8_many_6 : decode cX8_many 6 = .ok (.istore 4, 2) := by decide +kernel
theorem dX8_many_34 : decode cX8_many 34 = .ok (.aload_n 3, 1) := by decide +kernel
theorem dX8_many_35 : decode cX8_many 35 = .ok (.areturn, 1) := by decide +kernel
set_option maxHeartbeats 8000000 in
set_option maxRecDepth 100000 in
/-- Text(3000, 100) -/
theorem c_Text_initR (l : Launch) (D : va_G) (x : Nat → ClassId) (h0 : Nat) (f0 : Nat → Value) (sz : Nat) (h0_1 : f0 1 = .int 0) (h0_3 : f0 3 = .int 0) (h0_4 : f0 4 = .int 0) (h0_11 : f0 11 = .long 0) (h0_12 : f0 12 = .null) (h0_13 : f0 13 = .int 0) (h0_14 : f0 14 = .int 0) (h0_15 : f0 15 = .int 0) (h0_16 : f0 16 = .int 0) (h0_17 : f0 17 = .int 0) : Met l yX8_init (.code yX8_init cX8_init 3 none :: zW) ({ frames := 1, cells := (8), slots := (9736), locals := 12 }) (va_Pc [.ref h0, .int 3000, .int 100] (fun U => U.heap.size = sz ∧ va_P D vwCl [(h0, .inr (8, zf 18 f0))] U.heap ∧ zK x D U ∧ va_D (fun _ => True) [(h0, .inr (8, zf 18 f0))])) (va_Qv (fun u : (Nat → Value) × (Nat) × (Nat) × (Nat) × (Nat) × (Nat) × (Nat) × (Nat) × (Nat) => match u with | (c0, a1, a2, a3, a4, a5, a6, a7, a8) => c0 0 = .ref a2 ∧ c0 1 = .int 0 ∧ c0 2 = .ref a3 ∧ c0 3 = .int 0 ∧ c0 4 = .int 0 ∧ c0 5 = .ref a4 ∧ c0 6 = .ref a5 ∧ c0 7 = .ref a6 ∧ c0 8 = .ref a7 ∧ c0 9 = .ref a8 ∧ c0 10 = .ref a1 ∧ c0 11 = .long 0 ∧ c0 12 = .null ∧ c0 13 = .int 0 ∧ c0 14 = .int 0 ∧ c0 15 = .int 0 ∧ c0 16 = .int 0 ∧ c0 17 = .int 0) (fun u t => match u with | (c0, a1, a2, a3, a4, a5, a6, a7, a8) => zB D vwCl (va_A [(h0, .inr (8, zf 18 f0))] sz) [(h0, .inr (8, zf 18 c0)), (a1, .inl (x 0, 20, .inl (fun _ => 0))), (a2, .inl (x 1, 3000, .inl (fun _ => 0))), (a3, .inl (x 0, 6216, .inl (fun _ => 0))), (a4, .inl (x 0, 100, .inl (fun _ => 0))), (a5, .inl (x 0, 100, .inl (fun _ => 0))), (a6, .inl (x 0, 100, .inl (fun _ => 0))), (a7, .inl (x 2, 100, .inr (.inl (fun _ => 0)))), (a8, .inl (x 0, 100, .inl (fun _ => 0)))] t) (va_A [(h0, .inr (8, zf 18 f0))] sz)) (8) (9736) (va_A [(h0, .inr (8, zf 18 f0))] sz) := by
  refine Met.ofW (cc := cX8_init) (maxL := 3) (ret := none) (by decide) rfl ?_
  intro p e s m args below meth c s₁ B hml hv
  obtain ⟨rfl, hsz, hP, hZ, hD0⟩ := hv
  have hK := hZ.1
  have hx := B.exec
  have hb := B.bytes
  have hr := B.returns
  have hts := atoms_spec (ws := .code yX8_init cX8_init 3 none :: zW) B.pre
  have hown : s.vm.findClass RX8 = some m.cls := findClass_of_methodNamed B.named
  have hlocks := B.notSynchronized
  have hin : meth.name = "<init>" := (name_of_methodNamed B.named B.method).1
  subst hsz
  have hD := hD0.self (sz := s.heap.size)
  generalize hAe : va_A [(h0, .inr (8, zf 18 f0))] s.heap.size = A at hD ⊢
  have hA : ∀ q : Nat, s.heap.size ≤ q → A q := fun q h => by rw [← hAe]; exact Or.inr h
  have hS : va_S A s.heap s.heap [] := va_S.rf
  have hP : va_P D vwCl [(h0, .inr (8, zf 18 f0))] s.heap := hP
  have hl := lv_entry ([.ref h0, .int 3000, .int 100]) (n := 3) (Nat.le_of_ble_eq_true rfl)
  rw [lg_entry_eq]
  generalize (lg_sl ([.ref h0, .int 3000, .int 100]) ++ List.replicate (3 - (lg_sl ([.ref h0, .int 3000, .int 100])).length) Slot.unset).toArray = ls at hl ⊢
  have hl : lv_has ls 3 [(0, .ref h0), (1, .int 3000), (2, .int 100)] := hl
  refine lv_aload_n hx hb dX8_init_0 rfl (lv_at hl 0 rfl) ?_
  refine W.objInit hx hb hown (hts _ (zm_39 _)) (hts _ (zm_0 _)) (hts _ (zm_1 _)) rfl (by rw [hml]; exact hl.1) rfl dX8_init_1 (Nat.le_of_ble_eq_true rfl) (Nat.le_of_ble_eq_true rfl) ?_
  refine W.eq (g2 := F0 m 4 ls []) rfl ?_
  refine lv_aload_n hx hb dX8_init_4 rfl (lv_at hl 0 rfl) ?_
  refine lv_bipush (v := 20) hx hb dX8_init_5 (by decide) ?_
  have h_3 : 0 + 1 ≤ 8 := by omega
  have h_4 : 0 + 20 ≤ 9736 := by omega
  refine z_newa (atype := .int) (ty := .int) (a0 := (20, .inl (fun _ => 0))) hx hb (hts _ (zm_2 _)) rfl hK 0 rfl hP hD hS hA (fun cA => rfl) (by decide) (by decide) (by decide) h_3 h_4 dX8_init_7 (fun q_1 H hP hD hS => ?_)
  have hP : va_P D vwCl [(h0, .inr (8, zf 18 f0)), (q_1, .inl (x 0, 20, .inl (fun _ => 0)))] H := hP
  have hD : va_D A [(h0, .inr (8, zf 18 f0)), (q_1, .inl (x 0, 20, .inl (fun _ => 0)))] := hD
  refine W.widen (k := 1) (n := 20) (by omega) (by omega) ?_
  refine z_putF (T := TX8) (N := 18) (ci := 8) hx hb hts (zi_8 _) hown hK hP hD hS 0 rfl rfl 10 (by decide) (hts _ (zm_40 _)) rfl rfl hin rfl rfl rfl dX8_init_9 (fun H locs f_5 ek_6 ok_7 hP hD hS => ?_)
  have hP : va_P D vwCl [(h0, .inr (8, zf 18 f_5)), (q_1, .inl (x 0, 20, .inl (fun _ => 0)))] H := hP
  have hD : va_D A [(h0, .inr (8, zf 18 f_5)), (q_1, .inl (x 0, 20, .inl (fun _ => 0)))] := hD
  refine lv_aload_n hx hb dX8_init_12 rfl (lv_at hl 0 rfl) ?_
  refine lv_iload_n hx hb dX8_init_13 rfl (lv_at hl 1 rfl) ?_
  have h_10 : 1 + 1 ≤ 8 := by omega
  have h_11 : 20 + 3000 ≤ 9736 := by omega
  refine z_newa (atype := .byte) (ty := .byte) (a0 := (3000, .inl (fun _ => 0))) hx hb (hts _ (zm_3 _)) rfl hK 1 rfl hP hD hS hA (fun cA => rfl) (by decide) (by decide) (by decide) h_10 h_11 dX8_init_14 (fun q_8 H hP hD hS => ?_)
  have hP : va_P D vwCl [(h0, .inr (8, zf 18 f_5)), (q_1, .inl (x 0, 20, .inl (fun _ => 0))), (q_8, .inl (x 1, 3000, .inl (fun _ => 0)))] H := hP
  have hD : va_D A [(h0, .inr (8, zf 18 f_5)), (q_1, .inl (x 0, 20, .inl (fun _ => 0))), (q_8, .inl (x 1, 3000, .inl (fun _ => 0)))] := hD
  refine W.widen (k := 2) (n := 3020) (by omega) (by omega) ?_
  refine z_putF (T := TX8) (N := 18) (ci := 8) hx hb hts (zi_8 _) hown hK hP hD hS 0 rfl rfl 0 (by decide) (hts _ (zm_41 _)) rfl rfl hin rfl rfl rfl dX8_init_16 (fun H locs f_12 ek_13 ok_14 hP hD hS => ?_)
  have hP : va_P D vwCl [(h0, .inr (8, zf 18 f_12)), (q_1, .inl (x 0, 20, .inl (fun _ => 0))), (q_8, .inl (x 1, 3000, .inl (fun _ => 0)))] H := hP
  have hD : va_D A [(h0, .inr (8, zf 18 f_12)), (q_1, .inl (x 0, 20, .inl (fun _ => 0))), (q_8, .inl (x 1, 3000, .inl (fun _ => 0)))] := hD
  refine lv_aload_n hx hb dX8_init_19 rfl (lv_at hl 0 rfl) ?_
  refine lv_iconst (v := 2) hx hb dX8_init_20 (by decide) ?_
  refine lv_iload_n hx hb dX8_init_21 rfl (lv_at hl 1 rfl) ?_
  refine lv_imul hx hb dX8_init_22 ?_
  refine lv_topi (fun y_16 ex_15 => ?_)
  obtain rfl : y_16 = 6000 := ex_15.trans (by decide)
  refine lv_iconst (v := 2) hx hb dX8_init_23 (by decide) ?_
  refine lv_iload_n hx hb dX8_init_24 rfl (lv_at hl 2 rfl) ?_
  refine lv_imul hx hb dX8_init_25 ?_
  refine lv_topi (fun y_18 ex_17 => ?_)
  obtain rfl : y_18 = 200 := ex_17.trans (by decide)
  refine lv_iadd hx hb dX8_init_26 ?_
  refine lv_topi (fun y_20 ex_19 => ?_)
  obtain rfl : y_20 = 6200 := ex_19.trans (by decide)
  refine lv_bipush (v := 16) hx hb dX8_init_27 (by decide) ?_
  refine lv_iadd hx hb dX8_init_29 ?_
  refine lv_topi (fun y_22 ex_21 => ?_)
  obtain rfl : y_22 = 6216 := ex_21.trans (by decide)
  have h_25 : 2 + 1 ≤ 8 := by omega
  have h_26 : 3020 + 6216 ≤ 9736 := by omega
  refine z_newa (atype := .int) (ty := .int) (a0 := (6216, .inl (fun _ => 0))) hx hb (hts _ (zm_2 _)) rfl hK 0 rfl hP hD hS hA (fun cA => rfl) (by decide) (by decide) (by decide) h_25 h_26 dX8_init_30 (fun q_23 H hP hD hS => ?_)
  have hP : va_P D vwCl [(h0, .inr (8, zf 18 f_12)), (q_1, .inl (x 0, 20, .inl (fun _ => 0))), (q_8, .inl (x 1, 3000, .inl (fun _ => 0))), (q_23, .inl (x 0, 6216, .inl (fun _ => 0)))] H := hP
  have hD : va_D A [(h0, .inr (8, zf 18 f_12)), (q_1, .inl (x 0, 20, .inl (fun _ => 0))), (q_8, .inl (x 1, 3000, .inl (fun _ => 0))), (q_23, .inl (x 0, 6216, .inl (fun _ => 0)))] := hD
  refine W.widen (k := 3) (n := 9236) (by omega) (by omega) ?_
  refine z_putF (T := TX8) (N := 18) (ci := 8) hx hb hts (zi_8 _) hown hK hP hD hS 0 rfl rfl 2 (by decide) (hts _ (zm_42 _)) rfl rfl hin rfl rfl rfl dX8_init_32 (fun H locs f_27 ek_28 ok_29 hP hD hS => ?_)
  have hP : va_P D vwCl [(h0, .inr (8, zf 18 f_27)), (q_1, .inl (x 0, 20, .inl (fun _ => 0))), (q_8, .inl (x 1, 3000, .inl (fun _ => 0))), (q_23, .inl (x 0, 6216, .inl (fun _ => 0)))] H := hP
  have hD : va_D A [(h0, .inr (8, zf 18 f_27)), (q_1, .inl (x 0, 20, .inl (fun _ => 0))), (q_8, .inl (x 1, 3000, .inl (fun _ => 0))), (q_23, .inl (x 0, 6216, .inl (fun _ => 0)))] := hD
  refine lv_aload_n hx hb dX8_init_35 rfl (lv_at hl 0 rfl) ?_
  refine lv_iload_n hx hb dX8_init_36 rfl (lv_at hl 2 rfl) ?_
  have h_32 : 3 + 1 ≤ 8 := by omega
  have h_33 : 9236 + 100 ≤ 9736 := by omega
  refine z_newa (atype := .int) (ty := .int) (a0 := (100, .inl (fun _ => 0))) hx hb (hts _ (zm_2 _)) rfl hK 0 rfl hP hD hS hA (fun cA => rfl) (by decide) (by decide) (by decide) h_32 h_33 dX8_init_37 (fun q_30 H hP hD hS => ?_)
  have hP : va_P D vwCl [(h0, .inr (8, zf 18 f_27)), (q_1, .inl (x 0, 20, .inl (fun _ => 0))), (q_8, .inl (x 1, 3000, .inl (fun _ => 0))), (q_23, .inl (x 0, 6216, .inl (fun _ => 0))), (q_30, .inl (x 0, 100, .inl (fun _ => 0)))] H := hP
  have hD : va_D A [(h0, .inr (8, zf 18 f_27)), (q_1, .inl (x 0, 20, .inl (fun _ => 0))), (q_8, .inl (x 1, 3000, .inl (fun _ => 0))), (q_23, .inl (x 0, 6216, .inl (fun _ => 0))), (q_30, .inl (x 0, 100, .inl (fun _ => 0)))] := hD
  refine W.widen (k := 4) (n := 9336) (by omega) (by omega) ?_
  refine z_putF (T := TX8) (N := 18) (ci := 8) hx hb hts (zi_8 _) hown hK hP hD hS 0 rfl rfl 5 (by decide) (hts _ (zm_43 _)) rfl rfl hin rfl rfl rfl dX8_init_39 (fun H locs f_34 ek_35 ok_36 hP hD hS => ?_)
  have hP : va_P D vwCl [(h0, .inr (8, zf 18 f_34)), (q_1, .inl (x 0, 20, .inl (fun _ => 0))), (q_8, .inl (x 1, 3000, .inl (fun _ => 0))), (q_23, .inl (x 0, 6216, .inl (fun _ => 0))), (q_30, .inl (x 0, 100, .inl (fun _ => 0)))] H := hP
  have hD : va_D A [(h0, .inr (8, zf 18 f_34)), (q_1, .inl (x 0, 20, .inl (fun _ => 0))), (q_8, .inl (x 1, 3000, .inl (fun _ => 0))), (q_23, .inl (x 0, 6216, .inl (fun _ => 0))), (q_30, .inl (x 0, 100, .inl (fun _ => 0)))] := hD
  refine lv_aload_n hx hb dX8_init_42 rfl (lv_at hl 0 rfl) ?_
  refine lv_iload_n hx hb dX8_init_43 rfl (lv_at hl 2 rfl) ?_
  have h_39 : 4 + 1 ≤ 8 := by omega
  have h_40 : 9336 + 100 ≤ 9736 := by omega
  refine z_newa (atype := .int) (ty := .int) (a0 := (100, .inl (fun _ => 0))) hx hb (hts _ (zm_2 _)) rfl hK 0 rfl hP hD hS hA (fun cA => rfl) (by decide) (by decide) (by decide) h_39 h_40 dX8_init_44 (fun q_37 H hP hD hS => ?_)
  have hP : va_P D vwCl [(h0, .inr (8, zf 18 f_34)), (q_1, .inl (x 0, 20, .inl (fun _ => 0))), (q_8, .inl (x 1, 3000, .inl (fun _ => 0))), (q_23, .inl (x 0, 6216, .inl (fun _ => 0))), (q_30, .inl (x 0, 100, .inl (fun _ => 0))), (q_37, .inl (x 0, 100, .inl (fun _ => 0)))] H := hP
  have hD : va_D A [(h0, .inr (8, zf 18 f_34)), (q_1, .inl (x 0, 20, .inl (fun _ => 0))), (q_8, .inl (x 1, 3000, .inl (fun _ => 0))), (q_23, .inl (x 0, 6216, .inl (fun _ => 0))), (q_30, .inl (x 0, 100, .inl (fun _ => 0))), (q_37, .inl (x 0, 100, .inl (fun _ => 0)))] := hD
  refine W.widen (k := 5) (n := 9436) (by omega) (by omega) ?_
  refine z_putF (T := TX8) (N := 18) (ci := 8) hx hb hts (zi_8 _) hown hK hP hD hS 0 rfl rfl 6 (by decide) (hts _ (zm_44 _)) rfl rfl hin rfl rfl rfl dX8_init_46 (fun H locs f_41 ek_42 ok_43 hP hD hS => ?_)
  have hP : va_P D vwCl [(h0, .inr (8, zf 18 f_41)), (q_1, .inl (x 0, 20, .inl (fun _ => 0))), (q_8, .inl (x 1, 3000, .inl (fun _ => 0))), (q_23, .inl (x 0, 6216, .inl (fun _ => 0))), (q_30, .inl (x 0, 100, .inl (fun _ => 0))), (q_37, .inl (x 0, 100, .inl (fun _ => 0)))] H := hP
  have hD : va_D A [(h0, .inr (8, zf 18 f_41)), (q_1, .inl (x 0, 20, .inl (fun _ => 0))), (q_8, .inl (x 1, 3000, .inl (fun _ => 0))), (q_23, .inl (x 0, 6216, .inl (fun _ => 0))), (q_30, .inl (x 0, 100, .inl (fun _ => 0))), (q_37, .inl (x 0, 100, .inl (fun _ => 0)))] := hD
  refine lv_aload_n hx hb dX8_init_49 rfl (lv_at hl 0 rfl) ?_
  refine lv_iload_n hx hb dX8_init_50 rfl (lv_at hl 2 rfl) ?_
  have h_46 : 5 + 1 ≤ 8 := by omega
  have h_47 : 9436 + 100 ≤ 9736 := by omega
  refine z_newa (atype := .int) (ty := .int) (a0 := (100, .inl (fun _ => 0))) hx hb (hts _ (zm_2 _)) rfl hK 0 rfl hP hD hS hA (fun cA => rfl) (by decide) (by decide) (by decide) h_46 h_47 dX8_init_51 (fun q_44 H hP hD hS => ?_)
  have hP : va_P D vwCl [(h0, .inr (8, zf 18 f_41)), (q_1, .inl (x 0, 20, .inl (fun _ => 0))), (q_8, .inl (x 1, 3000, .inl (fun _ => 0))), (q_23, .inl (x 0, 6216, .inl (fun _ => 0))), (q_30, .inl (x 0, 100, .inl (fun _ => 0))), (q_37, .inl (x 0, 100, .inl (fun _ => 0))), (q_44, .inl (x 0, 100, .inl (fun _ => 0)))] H := hP
  have hD : va_D A [(h0, .inr (8, zf 18 f_41)), (q_1, .inl (x 0, 20, .inl (fun _ => 0))), (q_8, .inl (x 1, 3000, .inl (fun _ => 0))), (q_23, .inl (x 0, 6216, .inl (fun _ => 0))), (q_30, .inl (x 0, 100, .inl (fun _ => 0))), (q_37, .inl (x 0, 100, .inl (fun _ => 0))), (q_44, .inl (x 0, 100, .inl (fun _ => 0)))] := hD
  refine W.widen (k := 6) (n := 9536) (by omega) (by omega) ?_
  refine z_putF (T := TX8) (N := 18) (ci := 8) hx hb hts (zi_8 _) hown hK hP hD hS 0 rfl rfl 7 (by decide) (hts _ (zm_45 _)) rfl rfl hin rfl rfl rfl dX8_init_53 (fun H locs f_48 ek_49 ok_50 hP hD hS => ?_)
  have hP : va_P D vwCl [(h0, .inr (8, zf 18 f_48)), (q_1, .inl (x 0, 20, .inl (fun _ => 0))), (q_8, .inl (x 1, 3000, .inl (fun _ => 0))), (q_23, .inl (x 0, 6216, .inl (fun _ => 0))), (q_30, .inl (x 0, 100, .inl (fun _ => 0))), (q_37, .inl (x 0, 100, .inl (fun _ => 0))), (q_44, .inl (x 0, 100, .inl (fun _ => 0)))] H := hP
  have hD : va_D A [(h0, .inr (8, zf 18 f_48)), (q_1, .inl (x 0, 20, .inl (fun _ => 0))), (q_8, .inl (x 1, 3000, .inl (fun _ => 0))), (q_23, .inl (x 0, 6216, .inl (fun _ => 0))), (q_30, .inl (x 0, 100, .inl (fun _ => 0))), (q_37, .inl (x 0, 100, .inl (fun _ => 0))), (q_44, .inl (x 0, 100, .inl (fun _ => 0)))] := hD
  refine lv_aload_n hx hb dX8_init_56 rfl (lv_at hl 0 rfl) ?_
  refine lv_iload_n hx hb dX8_init_57 rfl (lv_at hl 2 rfl) ?_
  have h_53 : 6 + 1 ≤ 8 := by omega
  have h_54 : 9536 + 100 ≤ 9736 := by omega
  refine z_newa (atype := .long) (ty := .long) (a0 := (100, .inr (.inl (fun _ => 0)))) hx hb (hts _ (zm_4 _)) rfl hK 2 rfl hP hD hS hA (fun cA => rfl) (by decide) (by decide) (by decide) h_53 h_54 dX8_init_58 (fun q_51 H hP hD hS => ?_)
  have hP : va_P D vwCl [(h0, .inr (8, zf 18 f_48)), (q_1, .inl (x 0, 20, .inl (fun _ => 0))), (q_8, .inl (x 1, 3000, .inl (fun _ => 0))), (q_23, .inl (x 0, 6216, .inl (fun _ => 0))), (q_30, .inl (x 0, 100, .inl (fun _ => 0))), (q_37, .inl (x 0, 100, .inl (fun _ => 0))), (q_44, .inl (x 0, 100, .inl (fun _ => 0))), (q_51, .inl (x 2, 100, .inr (.inl (fun _ => 0))))] H := hP
  have hD : va_D A [(h0, .inr (8, zf 18 f_48)), (q_1, .inl (x 0, 20, .inl (fun _ => 0))), (q_8, .inl (x 1, 3000, .inl (fun _ => 0))), (q_23, .inl (x 0, 6216, .inl (fun _ => 0))), (q_30, .inl (x 0, 100, .inl (fun _ => 0))), (q_37, .inl (x 0, 100, .inl (fun _ => 0))), (q_44, .inl (x 0, 100, .inl (fun _ => 0))), (q_51, .inl (x 2, 100, .inr (.inl (fun _ => 0))))] := hD
  refine W.widen (k := 7) (n := 9636) (by omega) (by omega) ?_
  refine z_putF (T := TX8) (N := 18) (ci := 8) hx hb hts (zi_8 _) hown hK hP hD hS 0 rfl rfl 8 (by decide) (hts _ (zm_46 _)) rfl rfl hin rfl rfl rfl dX8_init_60 (fun H locs f_55 ek_56 ok_57 hP hD hS => ?_)
  have hP : va_P D vwCl [(h0, .inr (8, zf 18 f_55)), (q_1, .inl (x 0, 20, .inl (fun _ => 0))), (q_8, .inl (x 1, 3000, .inl (fun _ => 0))), (q_23, .inl (x 0, 6216, .inl (fun _ => 0))), (q_30, .inl (x 0, 100, .inl (fun _ => 0))), (q_37, .inl (x 0, 100, .inl (fun _ => 0))), (q_44, .inl (x 0, 100, .inl (fun _ => 0))), (q_51, .inl (x 2, 100, .inr (.inl (fun _ => 0))))] H := hP
  have hD : va_D A [(h0, .inr (8, zf 18 f_55)), (q_1, .inl (x 0, 20, .inl (fun _ => 0))), (q_8, .inl (x 1, 3000, .inl (fun _ => 0))), (q_23, .inl (x 0, 6216, .inl (fun _ => 0))), (q_30, .inl (x 0, 100, .inl (fun _ => 0))), (q_37, .inl (x 0, 100, .inl (fun _ => 0))), (q_44, .inl (x 0, 100, .inl (fun _ => 0))), (q_51, .inl (x 2, 100, .inr (.inl (fun _ => 0))))] := hD
  refine lv_aload_n hx hb dX8_init_63 rfl (lv_at hl 0 rfl) ?_
  refine lv_iload_n hx hb dX8_init_64 rfl (lv_at hl 2 rfl) ?_
  have h_60 : 7 + 1 ≤ 8 := by omega
  have h_61 : 9636 + 100 ≤ 9736 := by omega
  refine z_newa (atype := .int) (ty := .int) (a0 := (100, .inl (fun _ => 0))) hx hb (hts _ (zm_2 _)) rfl hK 0 rfl hP hD hS hA (fun cA => rfl) (by decide) (by decide) (by decide) h_60 h_61 dX8_init_65 (fun q_58 H hP hD hS => ?_)
  have hP : va_P D vwCl [(h0, .inr (8, zf 18 f_55)), (q_1, .inl (x 0, 20, .inl (fun _ => 0))), (q_8, .inl (x 1, 3000, .inl (fun _ => 0))), (q_23, .inl (x 0, 6216, .inl (fun _ => 0))), (q_30, .inl (x 0, 100, .inl (fun _ => 0))), (q_37, .inl (x 0, 100, .inl (fun _ => 0))), (q_44, .inl (x 0, 100, .inl (fun _ => 0))), (q_51, .inl (x 2, 100, .inr (.inl (fun _ => 0)))), (q_58, .inl (x 0, 100, .inl (fun _ => 0)))] H := hP
  have hD : va_D A [(h0, .inr (8, zf 18 f_55)), (q_1, .inl (x 0, 20, .inl (fun _ => 0))), (q_8, .inl (x 1, 3000, .inl (fun _ => 0))), (q_23, .inl (x 0, 6216, .inl (fun _ => 0))), (q_30, .inl (x 0, 100, .inl (fun _ => 0))), (q_37, .inl (x 0, 100, .inl (fun _ => 0))), (q_44, .inl (x 0, 100, .inl (fun _ => 0))), (q_51, .inl (x 2, 100, .inr (.inl (fun _ => 0)))), (q_58, .inl (x 0, 100, .inl (fun _ => 0)))] := hD
  refine W.widen (k := 8) (n := 9736) (by omega) (by omega) ?_
  refine z_putF (T := TX8) (N := 18) (ci := 8) hx hb hts (zi_8 _) hown hK hP hD hS 0 rfl rfl 9 (by decide) (hts _ (zm_47 _)) rfl rfl hin rfl rfl rfl dX8_init_67 (fun H locs f_62 ek_63 ok_64 hP hD hS => ?_)
  have hP : va_P D vwCl [(h0, .inr (8, zf 18 f_62)), (q_1, .inl (x 0, 20, .inl (fun _ => 0))), (q_8, .inl (x 1, 3000, .inl (fun _ => 0))), (q_23, .inl (x 0, 6216, .inl (fun _ => 0))), (q_30, .inl (x 0, 100, .inl (fun _ => 0))), (q_37, .inl (x 0, 100, .inl (fun _ => 0))), (q_44, .inl (x 0, 100, .inl (fun _ => 0))), (q_51, .inl (x 2, 100, .inr (.inl (fun _ => 0)))), (q_58, .inl (x 0, 100, .inl (fun _ => 0)))] H := hP
  have hD : va_D A [(h0, .inr (8, zf 18 f_62)), (q_1, .inl (x 0, 20, .inl (fun _ => 0))), (q_8, .inl (x 1, 3000, .inl (fun _ => 0))), (q_23, .inl (x 0, 6216, .inl (fun _ => 0))), (q_30, .inl (x 0, 100, .inl (fun _ => 0))), (q_37, .inl (x 0, 100, .inl (fun _ => 0))), (q_44, .inl (x 0, 100, .inl (fun _ => 0))), (q_51, .inl (x 2, 100, .inr (.inl (fun _ => 0)))), (q_58, .inl (x 0, 100, .inl (fun _ => 0)))] := hD
  have e_65 : f_62 0 = .ref q_8 := ((ok_64 0 (by decide)).trans ((ok_57 0 (by decide)).trans ((ok_50 0 (by decide)).trans ((ok_43 0 (by decide)).trans ((ok_36 0 (by decide)).trans ((ok_29 0 (by decide)).trans ek_13))))))
  have e_66 : f_62 1 = .int 0 := ((ok_64 1 (by decide)).trans ((ok_57 1 (by decide)).trans ((ok_50 1 (by decide)).trans ((ok_43 1 (by decide)).trans ((ok_36 1 (by decide)).trans ((ok_29 1 (by decide)).trans ((ok_14 1 (by decide)).trans ((ok_7 1 (by decide)).trans h0_1))))))))
  have e_67 : f_62 3 = .int 0 := ((ok_64 3 (by decide)).trans ((ok_57 3 (by decide)).trans ((ok_50 3 (by decide)).trans ((ok_43 3 (by decide)).trans ((ok_36 3 (by decide)).trans ((ok_29 3 (by decide)).trans ((ok_14 3 (by decide)).trans ((ok_7 3 (by decide)).trans h0_3))))))))
  have e_68 : f_62 4 = .int 0 := ((ok_64 4 (by decide)).trans ((ok_57 4 (by decide)).trans ((ok_50 4 (by decide)).trans ((ok_43 4 (by decide)).trans ((ok_36 4 (by decide)).trans ((ok_29 4 (by decide)).trans ((ok_14 4 (by decide)).trans ((ok_7 4 (by decide)).trans h0_4))))))))
  have e_69 : f_62 10 = .ref q_1 := ((ok_64 10 (by decide)).trans ((ok_57 10 (by decide)).trans ((ok_50 10 (by decide)).trans ((ok_43 10 (by decide)).trans ((ok_36 10 (by decide)).trans ((ok_29 10 (by decide)).trans ((ok_14 10 (by decide)).trans ek_6)))))))
  have e_70 : f_62 11 = .long 0 := ((ok_64 11 (by decide)).trans ((ok_57 11 (by decide)).trans ((ok_50 11 (by decide)).trans ((ok_43 11 (by decide)).trans ((ok_36 11 (by decide)).trans ((ok_29 11 (by decide)).trans ((ok_14 11 (by decide)).trans ((ok_7 11 (by decide)).trans h0_11))))))))
  have e_71 : f_62 12 = .null := ((ok_64 12 (by decide)).trans ((ok_57 12 (by decide)).trans ((ok_50 12 (by decide)).trans ((ok_43 12 (by decide)).trans ((ok_36 12 (by decide)).trans ((ok_29 12 (by decide)).trans ((ok_14 12 (by decide)).trans ((ok_7 12 (by decide)).trans h0_12))))))))
  have e_72 : f_62 13 = .int 0 := ((ok_64 13 (by decide)).trans ((ok_57 13 (by decide)).trans ((ok_50 13 (by decide)).trans ((ok_43 13 (by decide)).trans ((ok_36 13 (by decide)).trans ((ok_29 13 (by decide)).trans ((ok_14 13 (by decide)).trans ((ok_7 13 (by decide)).trans h0_13))))))))
  have e_73 : f_62 14 = .int 0 := ((ok_64 14 (by decide)).trans ((ok_57 14 (by decide)).trans ((ok_50 14 (by decide)).trans ((ok_43 14 (by decide)).trans ((ok_36 14 (by decide)).trans ((ok_29 14 (by decide)).trans ((ok_14 14 (by decide)).trans ((ok_7 14 (by decide)).trans h0_14))))))))
  have e_74 : f_62 15 = .int 0 := ((ok_64 15 (by decide)).trans ((ok_57 15 (by decide)).trans ((ok_50 15 (by decide)).trans ((ok_43 15 (by decide)).trans ((ok_36 15 (by decide)).trans ((ok_29 15 (by decide)).trans ((ok_14 15 (by decide)).trans ((ok_7 15 (by decide)).trans h0_15))))))))
  have e_75 : f_62 16 = .int 0 := ((ok_64 16 (by decide)).trans ((ok_57 16 (by decide)).trans ((ok_50 16 (by decide)).trans ((ok_43 16 (by decide)).trans ((ok_36 16 (by decide)).trans ((ok_29 16 (by decide)).trans ((ok_14 16 (by decide)).trans ((ok_7 16 (by decide)).trans h0_16))))))))
  have e_76 : f_62 17 = .int 0 := ((ok_64 17 (by decide)).trans ((ok_57 17 (by decide)).trans ((ok_50 17 (by decide)).trans ((ok_43 17 (by decide)).trans ((ok_36 17 (by decide)).trans ((ok_29 17 (by decide)).trans ((ok_14 17 (by decide)).trans ((ok_7 17 (by decide)).trans h0_17))))))))
  have hP9 := hP.sub (ws' := [(h0, .inr (8, zf 18 f_62)), (q_1, .inl (x 0, 20, .inl (fun _ => 0))), (q_8, .inl (x 1, 3000, .inl (fun _ => 0))), (q_23, .inl (x 0, 6216, .inl (fun _ => 0))), (q_30, .inl (x 0, 100, .inl (fun _ => 0))), (q_37, .inl (x 0, 100, .inl (fun _ => 0))), (q_44, .inl (x 0, 100, .inl (fun _ => 0))), (q_51, .inl (x 2, 100, .inr (.inl (fun _ => 0)))), (q_58, .inl (x 0, 100, .inl (fun _ => 0)))]) [0, 1, 2, 3, 4, 5, 6, 7, 8] rfl
  have hD9 := hD.sub (ws' := [(h0, .inr (8, zf 18 f_62)), (q_1, .inl (x 0, 20, .inl (fun _ => 0))), (q_8, .inl (x 1, 3000, .inl (fun _ => 0))), (q_23, .inl (x 0, 6216, .inl (fun _ => 0))), (q_30, .inl (x 0, 100, .inl (fun _ => 0))), (q_37, .inl (x 0, 100, .inl (fun _ => 0))), (q_44, .inl (x 0, 100, .inl (fun _ => 0))), (q_51, .inl (x 2, 100, .inr (.inl (fun _ => 0)))), (q_58, .inl (x 0, 100, .inl (fun _ => 0)))]) [0, 1, 2, 3, 4, 5, 6, 7, 8] (by decide) rfl
  exact W.vret hx hb hr (fun t ht hW => ⟨⟨(f_62, q_1, q_8, q_23, q_30, q_37, q_44, q_51, q_58), rfl, ⟨e_65, e_66, ((ok_64 2 (by decide)).trans ((ok_57 2 (by decide)).trans ((ok_50 2 (by decide)).trans ((ok_43 2 (by decide)).trans ((ok_36 2 (by decide)).trans ek_28))))), e_67, e_68, ((ok_64 5 (by decide)).trans ((ok_57 5 (by decide)).trans ((ok_50 5 (by decide)).trans ((ok_43 5 (by decide)).trans ek_35)))), ((ok_64 6 (by decide)).trans ((ok_57 6 (by decide)).trans ((ok_50 6 (by decide)).trans ek_42))), ((ok_64 7 (by decide)).trans ((ok_57 7 (by decide)).trans ek_49)), ((ok_64 8 (by decide)).trans ek_56), ek_63, e_69, e_70, e_71, e_72, e_73, e_74, e_75, e_76⟩, ⟨by rw [ht]; exact hP9, hD9⟩⟩, hS.F ht⟩) hS.2.2 dX8_init_70

set_option maxHeartbeats 8000000 in
set_option maxRecDepth 100000 in
/-- Text(250, 1) -/
theorem c_Text_initL (l : Launch) (D : va_G) (x : Nat → ClassId) (h0 : Nat) (f0 : Nat → Value) (sz : Nat) (h0_1 : f0 1 = .int 0) (h0_3 : f0 3 = .int 0) (h0_4 : f0 4 = .int 0) (h0_11 : f0 11 = .long 0) (h0_12 : f0 12 = .null) (h0_13 : f0 13 = .int 0) (h0_14 : f0 14 = .int 0) (h0_15 : f0 15 = .int 0) (h0_16 : f0 16 = .int 0) (h0_17 : f0 17 = .int 0) : Met l yX8_init (.code yX8_init cX8_init 3 none :: zW) ({ frames := 1, cells := (8), slots := (793), locals := 12 }) (va_Pc [.ref h0, .int 250, .int 1] (fun U => U.heap.size = sz ∧ va_P D vwCl [(h0, .inr (8, zf 18 f0))] U.heap ∧ zK x D U ∧ va_D (fun _ => True) [(h0, .inr (8, zf 18 f0))])) (va_Qv (fun u : (Nat → Value) × (Nat) × (Nat) × (Nat) × (Nat) × (Nat) × (Nat) × (Nat) × (Nat) => match u with | (c0, a1, a2, a3, a4, a5, a6, a7, a8) => c0 0 = .ref a2 ∧ c0 1 = .int 0 ∧ c0 2 = .ref a3 ∧ c0 3 = .int 0 ∧ c0 4 = .int 0 ∧ c0 5 = .ref a4 ∧ c0 6 = .ref a5 ∧ c0 7 = .ref a6 ∧ c0 8 = .ref a7 ∧ c0 9 = .ref a8 ∧ c0 10 = .ref a1 ∧ c0 11 = .long 0 ∧ c0 12 = .null ∧ c0 13 = .int 0 ∧ c0 14 = .int 0 ∧ c0 15 = .int 0 ∧ c0 16 = .int 0 ∧ c0 17 = .int 0) (fun u t => match u with | (c0, a1, a2, a3, a4, a5, a6, a7, a8) => zB D vwCl (va_A [(h0, .inr (8, zf 18 f0))] sz) [(h0, .inr (8, zf 18 c0)), (a1, .inl (x 0, 20, .inl (fun _ => 0))), (a2, .inl (x 1, 250, .inl (fun _ => 0))), (a3, .inl (x 0, 518, .inl (fun _ => 0))), (a4, .inl (x 0, 1, .inl (fun _ => 0))), (a5, .inl (x 0, 1, .inl (fun _ => 0))), (a6, .inl (x 0, 1, .inl (fun _ => 0))), (a7, .inl (x 2, 1, .inr (.inl (fun _ => 0)))), (a8, .inl (x 0, 1, .inl (fun _ => 0)))] t) (va_A [(h0, .inr (8, zf 18 f0))] sz)) (8) (793) (va_A [(h0, .inr (8, zf 18 f0))] sz) := by
  refine Met.ofW (cc := cX8_init) (maxL := 3) (ret := none) (by decide) rfl ?_
  intro p e s m args below meth c s₁ B hml hv
  obtain ⟨rfl, hsz, hP, hZ, hD0⟩ := hv
  have hK := hZ.1
  have hx := B.exec
  have hb := B.bytes
  have hr := B.returns
  have hts := atoms_spec (ws := .code yX8_init cX8_init 3 none :: zW) B.pre
  have hown : s.vm.findClass RX8 = some m.cls := findClass_of_methodNamed B.named
  have hlocks := B.notSynchronized
  have hin : meth.name = "<init>" := (name_of_methodNamed B.named B.method).1
  subst hsz
  have hD := hD0.self (sz := s.heap.size)
  generalize hAe : va_A [(h0, .inr (8, zf 18 f0))] s.heap.size = A at hD ⊢
  have hA : ∀ q : Nat, s.heap.size ≤ q → A q := fun q h => by rw [← hAe]; exact Or.inr h
  have hS : va_S A s.heap s.heap [] := va_S.rf
  have hP : va_P D vwCl [(h0, .inr (8, zf 18 f0))] s.heap := hP
  have hl := lv_entry ([.ref h0, .int 250, .int 1]) (n := 3) (Nat.le_of_ble_eq_true rfl)
  rw [lg_entry_eq]
  generalize (lg_sl ([.ref h0, .int 250, .int 1]) ++ List.replicate (3 - (lg_sl ([.ref h0, .int 250, .int 1])).length) Slot.unset).toArray = ls at hl ⊢
  have hl : lv_has ls 3 [(0, .ref h0), (1, .int 250), (2, .int 1)] := hl
  refine lv_aload_n hx hb dX8_init_0 rfl (lv_at hl 0 rfl) ?_
  refine W.objInit hx hb hown (hts _ (zm_39 _)) (hts _ (zm_0 _)) (hts _ (zm_1 _)) rfl (by rw [hml]; exact hl.1) rfl dX8_init_1 (Nat.le_of_ble_eq_true rfl) (Nat.le_of_ble_eq_true rfl) ?_
  refine W.eq (g2 := F0 m 4 ls []) rfl ?_
  refine lv_aload_n hx hb dX8_init_4 rfl (lv_at hl 0 rfl) ?_
  refine lv_bipush (v := 20) hx hb dX8_init_5 (by decide) ?_
  have h_3 : 0 + 1 ≤ 8 := by omega
  have h_4 : 0 + 20 ≤ 793 := by omega
  refine z_newa (atype := .int) (ty := .int) (a0 := (20, .inl (fun _ => 0))) hx hb (hts _ (zm_2 _)) rfl hK 0 rfl hP hD hS hA (fun cA => rfl) (by decide) (by decide) (by decide) h_3 h_4 dX8_init_7 (fun q_1 H hP hD hS => ?_)
  have hP : va_P D vwCl [(h0, .inr (8, zf 18 f0)), (q_1, .inl (x 0, 20, .inl (fun _ => 0)))] H := hP
  have hD : va_D A [(h0, .inr (8, zf 18 f0)), (q_1, .inl (x 0, 20, .inl (fun _ => 0)))] := hD
  refine W.widen (k := 1) (n := 20) (by omega) (by omega) ?_
  refine z_putF (T := TX8) (N := 18) (ci := 8) hx hb hts (zi_8 _) hown hK hP hD hS 0 rfl rfl 10 (by decide) (hts _ (zm_40 _)) rfl rfl hin rfl rfl rfl dX8_init_9 (fun H locs f_5 ek_6 ok_7 hP hD hS => ?_)
  have hP : va_P D vwCl [(h0, .inr (8, zf 18 f_5)), (q_1, .inl (x 0, 20, .inl (fun _ => 0)))] H := hP
  have hD : va_D A [(h0, .inr (8, zf 18 f_5)), (q_1, .inl (x 0, 20, .inl (fun _ => 0)))] := hD
  refine lv_aload_n hx hb dX8_init_12 rfl (lv_at hl 0 rfl) ?_
  refine lv_iload_n hx hb dX8_init_13 rfl (lv_at hl 1 rfl) ?_
  have h_10 : 1 + 1 ≤ 8 := by omega
  have h_11 : 20 + 250 ≤ 793 := by omega
  refine z_newa (atype := .byte) (ty := .byte) (a0 := (250, .inl (fun _ => 0))) hx hb (hts _ (zm_3 _)) rfl hK 1 rfl hP hD hS hA (fun cA => rfl) (by decide) (by decide) (by decide) h_10 h_11 dX8_init_14 (fun q_8 H hP hD hS => ?_)
  have hP : va_P D vwCl [(h0, .inr (8, zf 18 f_5)), (q_1, .inl (x 0, 20, .inl (fun _ => 0))), (q_8, .inl (x 1, 250, .inl (fun _ => 0)))] H := hP
  have hD : va_D A [(h0, .inr (8, zf 18 f_5)), (q_1, .inl (x 0, 20, .inl (fun _ => 0))), (q_8, .inl (x 1, 250, .inl (fun _ => 0)))] := hD
  refine W.widen (k := 2) (n := 270) (by omega) (by omega) ?_
  refine z_putF (T := TX8) (N := 18) (ci := 8) hx hb hts (zi_8 _) hown hK hP hD hS 0 rfl rfl 0 (by decide) (hts _ (zm_41 _)) rfl rfl hin rfl rfl rfl dX8_init_16 (fun H locs f_12 ek_13 ok_14 hP hD hS => ?_)
  have hP : va_P D vwCl [(h0, .inr (8, zf 18 f_12)), (q_1, .inl (x 0, 20, .inl (fun _ => 0))), (q_8, .inl (x 1, 250, .inl (fun _ => 0)))] H := hP
  have hD : va_D A [(h0, .inr (8, zf 18 f_12)), (q_1, .inl (x 0, 20, .inl (fun _ => 0))), (q_8, .inl (x 1, 250, .inl (fun _ => 0)))] := hD
  refine lv_aload_n hx hb dX8_init_19 rfl (lv_at hl 0 rfl) ?_
  refine lv_iconst (v := 2) hx hb dX8_init_20 (by decide) ?_
  refine lv_iload_n hx hb dX8_init_21 rfl (lv_at hl 1 rfl) ?_
  refine lv_imul hx hb dX8_init_22 ?_
  refine lv_topi (fun y_16 ex_15 => ?_)
  obtain rfl : y_16 = 500 := ex_15.trans (by decide)
  refine lv_iconst (v := 2) hx hb dX8_init_23 (by decide) ?_
  refine lv_iload_n hx hb dX8_init_24 rfl (lv_at hl 2 rfl) ?_
  refine lv_imul hx hb dX8_init_25 ?_
  refine lv_topi (fun y_18 ex_17 => ?_)
  obtain rfl : y_18 = 2 := ex_17.trans (by decide)
  refine lv_iadd hx hb dX8_init_26 ?_
  refine lv_topi (fun y_20 ex_19 => ?_)
  obtain rfl : y_20 = 502 := ex_19.trans (by decide)
  refine lv_bipush (v := 16) hx hb dX8_init_27 (by decide) ?_
  refine lv_iadd hx hb dX8_init_29 ?_
  refine lv_topi (fun y_22 ex_21 => ?_)
  obtain rfl : y_22 = 518 := ex_21.trans (by decide)
  have h_25 : 2 + 1 ≤ 8 := by omega
  have h_26 : 270 + 518 ≤ 793 := by omega
  refine z_newa (atype := .int) (ty := .int) (a0 := (518, .inl (fun _ => 0))) hx hb (hts _ (zm_2 _)) rfl hK 0 rfl hP hD hS hA (fun cA => rfl) (by decide) (by decide) (by decide) h_25 h_26 dX8_init_30 (fun q_23 H hP hD hS => ?_)
  have hP : va_P D vwCl [(h0, .inr (8, zf 18 f_12)), (q_1, .inl (x 0, 20, .inl (fun _ => 0))), (q_8, .inl (x 1, 250, .inl (fun _ => 0))), (q_23, .inl (x 0, 518, .inl (fun _ => 0)))] H := hP
  have hD : va_D A [(h0, .inr (8, zf 18 f_12)), (q_1, .inl (x 0, 20, .inl (fun _ => 0))), (q_8, .inl (x 1, 250, .inl (fun _ => 0))), (q_23, .inl (x 0, 518, .inl (fun _ => 0)))] := hD
  refine W.widen (k := 3) (n := 788) (by omega) (by omega) ?_
  refine z_putF (T := TX8) (N := 18) (ci := 8) hx hb hts (zi_8 _) hown hK hP hD hS 0 rfl rfl 2 (by decide) (hts _ (zm_42 _)) rfl rfl hin rfl rfl rfl dX8_init_32 (fun H locs f_27 ek_28 ok_29 hP hD hS => ?_)
  have hP : va_P D vwCl [(h0, .inr (8, zf 18 f_27)), (q_1, .inl (x 0, 20, .inl (fun _ => 0))), (q_8, .inl (x 1, 250, .inl (fun _ => 0))), (q_23, .inl (x 0, 518, .inl (fun _ => 0)))] H := hP
  have hD : va_D A [(h0, .inr (8, zf 18 f_27)), (q_1, .inl (x 0, 20, .inl (fun _ => 0))), (q_8, .inl (x 1, 250, .inl (fun _ => 0))), (q_23, .inl (x 0, 518, .inl (fun _ => 0)))] := hD
  refine lv_aload_n hx hb dX8_init_35 rfl (lv_at hl 0 rfl) ?_
  refine lv_iload_n hx hb dX8_init_36 rfl (lv_at hl 2 rfl) ?_
  have h_32 : 3 + 1 ≤ 8 := by omega
  have h_33 : 788 + 1 ≤ 793 := by omega
  refine z_newa (atype := .int) (ty := .int) (a0 := (1, .inl (fun _ => 0))) hx hb (hts _ (zm_2 _)) rfl hK 0 rfl hP hD hS hA (fun cA => rfl) (by decide) (by decide) (by decide) h_32 h_33 dX8_init_37 (fun q_30 H hP hD hS => ?_)
  have hP : va_P D vwCl [(h0, .inr (8, zf 18 f_27)), (q_1, .inl (x 0, 20, .inl (fun _ => 0))), (q_8, .inl (x 1, 250, .inl (fun _ => 0))), (q_23, .inl (x 0, 518, .inl (fun _ => 0))), (q_30, .inl (x 0, 1, .inl (fun _ => 0)))] H := hP
  have hD : va_D A [(h0, .inr (8, zf 18 f_27)), (q_1, .inl (x 0, 20, .inl (fun _ => 0))), (q_8, .inl (x 1, 250, .inl (fun _ => 0))), (q_23, .inl (x 0, 518, .inl (fun _ => 0))), (q_30, .inl (x 0, 1, .inl (fun _ => 0)))] := hD
  refine W.widen (k := 4) (n := 789) (by omega) (by omega) ?_
  refine z_putF (T := TX8) (N := 18) (ci := 8) hx hb hts (zi_8 _) hown hK hP hD hS 0 rfl rfl 5 (by decide) (hts _ (zm_43 _)) rfl rfl hin rfl rfl rfl dX8_init_39 (fun H locs f_34 ek_35 ok_36 hP hD hS => ?_)
  have hP : va_P D vwCl [(h0, .inr (8, zf 18 f_34)), (q_1, .inl (x 0, 20, .inl (fun _ => 0))), (q_8, .inl (x 1, 250, .inl (fun _ => 0))), (q_23, .inl (x 0, 518, .inl (fun _ => 0))), (q_30, .inl (x 0, 1, .inl (fun _ => 0)))] H := hP
  have hD : va_D A [(h0, .inr (8, zf 18 f_34)), (q_1, .inl (x 0, 20, .inl (fun _ => 0))), (q_8, .inl (x 1, 250, .inl (fun _ => 0))), (q_23, .inl (x 0, 518, .inl (fun _ => 0))), (q_30, .inl (x 0, 1, .inl (fun _ => 0)))] := hD
  refine lv_aload_n hx hb dX8_init_42 rfl (lv_at hl 0 rfl) ?_
  refine lv_iload_n hx hb dX8_init_43 rfl (lv_at hl 2 rfl) ?_
  have h_39 : 4 + 1 ≤ 8 := by omega
  have h_40 : 789 + 1 ≤ 793 := by omega
  refine z_newa (atype := .int) (ty := .int) (a0 := (1, .inl (fun _ => 0))) hx hb (hts _ (zm_2 _)) rfl hK 0 rfl hP hD hS hA (fun cA => rfl) (by decide) (by decide) (by decide) h_39 h_40 dX8_init_44 (fun q_37 H hP hD hS => ?_)
  have hP : va_P D vwCl [(h0, .inr (8, zf 18 f_34)), (q_1, .inl (x 0, 20, .inl (fun _ => 0))), (q_8, .inl (x 1, 250, .inl (fun _ => 0))), (q_23, .inl (x 0, 518, .inl (fun _ => 0))), (q_30, .inl (x 0, 1, .inl (fun _ => 0))), (q_37, .inl (x 0, 1, .inl (fun _ => 0)))] H := hP
  have hD : va_D A [(h0, .inr (8, zf 18 f_34)), (q_1, .inl (x 0, 20, .inl (fun _ => 0))), (q_8, .inl (x 1, 250, .inl (fun _ => 0))), (q_23, .inl (x 0, 518, .inl (fun _ => 0))), (q_30, .inl (x 0, 1, .inl (fun _ => 0))), (q_37, .inl (x 0, 1, .inl (fun _ => 0)))] := hD
  refine W.widen (k := 5) (n := 790) (by omega) (by omega) ?_
  refine z_putF (T := TX8) (N := 18) (ci := 8) hx hb hts (zi_8 _) hown hK hP hD hS 0 rfl rfl 6 (by decide) (hts _ (zm_44 _)) rfl rfl hin rfl rfl rfl dX8_init_46 (fun H locs f_41 ek_42 ok_43 hP hD hS => ?_)
  have hP : va_P D vwCl [(h0, .inr (8, zf 18 f_41)), (q_1, .inl (x 0, 20, .inl (fun _ => 0))), (q_8, .inl (x 1, 250, .inl (fun _ => 0))), (q_23, .inl (x 0, 518, .inl (fun _ => 0))), (q_30, .inl (x 0, 1, .inl (fun _ => 0))), (q_37, .inl (x 0, 1, .inl (fun _ => 0)))] H := hP
  have hD : va_D A [(h0, .inr (8, zf 18 f_41)), (q_1, .inl (x 0, 20, .inl (fun _ => 0))), (q_8, .inl (x 1, 250, .inl (fun _ => 0))), (q_23, .inl (x 0, 518, .inl (fun _ => 0))), (q_30, .inl (x 0, 1, .inl (fun _ => 0))), (q_37, .inl (x 0, 1, .inl (fun _ => 0)))] := hD
  refine lv_aload_n hx hb dX8_init_49 rfl (lv_at hl 0 rfl) ?_
  refine lv_iload_n hx hb dX8_init_50 rfl (lv_at hl 2 rfl) ?_
  have h_46 : 5 + 1 ≤ 8 := by omega
  have h_47 : 790 + 1 ≤ 793 := by omega
  refine z_newa (atype := .int) (ty := .int) (a0 := (1, .inl (fun _ => 0))) hx hb (hts _ (zm_2 _)) rfl hK 0 rfl hP hD hS hA (fun cA => rfl) (by decide) (by decide) (by decide) h_46 h_47 dX8_init_51 (fun q_44 H hP hD hS => ?_)
  have hP : va_P D vwCl [(h0, .inr (8, zf 18 f_41)), (q_1, .inl (x 0, 20, .inl (fun _ => 0))), (q_8, .inl (x 1, 250, .inl (fun _ => 0))), (q_23, .inl (x 0, 518, .inl (fun _ => 0))), (q_30, .inl (x 0, 1, .inl (fun _ => 0))), (q_37, .inl (x 0, 1, .inl (fun _ => 0))), (q_44, .inl (x 0, 1, .inl (fun _ => 0)))] H := hP
  have hD : va_D A [(h0, .inr (8, zf 18 f_41)), (q_1, .inl (x 0, 20, .inl (fun _ => 0))), (q_8, .inl (x 1, 250, .inl (fun _ => 0))), (q_23, .inl (x 0, 518, .inl (fun _ => 0))), (q_30, .inl (x 0, 1, .inl (fun _ => 0))), (q_37, .inl (x 0, 1, .inl (fun _ => 0))), (q_44, .inl (x 0, 1, .inl (fun _ => 0)))] := hD
  refine W.widen (k := 6) (n := 791) (by omega) (by omega) ?_
  refine z_putF (T := TX8) (N := 18) (ci := 8) hx hb hts (zi_8 _) hown hK hP hD hS 0 rfl rfl 7 (by decide) (hts _ (zm_45 _)) rfl rfl hin rfl rfl rfl dX8_init_53 (fun H locs f_48 ek_49 ok_50 hP hD hS => ?_)
  have hP : va_P D vwCl [(h0, .inr (8, zf 18 f_48)), (q_1, .inl (x 0, 20, .inl (fun _ => 0))), (q_8, .inl (x 1, 250, .inl (fun _ => 0))), (q_23, .inl (x 0, 518, .inl (fun _ => 0))), (q_30, .inl (x 0, 1, .inl (fun _ => 0))), (q_37, .inl (x 0, 1, .inl (fun _ => 0))), (q_44, .inl (x 0, 1, .inl (fun _ => 0)))] H := hP
  have hD : va_D A [(h0, .inr (8, zf 18 f_48)), (q_1, .inl (x 0, 20, .inl (fun _ => 0))), (q_8, .inl (x 1, 250, .inl (fun _ => 0))), (q_23, .inl (x 0, 518, .inl (fun _ => 0))), (q_30, .inl (x 0, 1, .inl (fun _ => 0))), (q_37, .inl (x 0, 1, .inl (fun _ => 0))), (q_44, .inl (x 0, 1, .inl (fun _ => 0)))] := hD
  refine lv_aload_n hx hb dX8_init_56 rfl (lv_at hl 0 rfl) ?_
  refine lv_iload_n hx hb dX8_init_57 rfl (lv_at hl 2 rfl) ?_
  have h_53 : 6 + 1 ≤ 8 := by omega
  have h_54 : 791 + 1 ≤ 793 := by omega
  refine z_newa (atype := .long) (ty := .long) (a0 := (1, .inr (.inl (fun _ => 0)))) hx hb (hts _ (zm_4 _)) rfl hK 2 rfl hP hD hS hA (fun cA => rfl) (by decide) (by decide) (by decide) h_53 h_54 dX8_init_58 (fun q_51 H hP hD hS => ?_)
  have hP : va_P D vwCl [(h0, .inr (8, zf 18 f_48)), (q_1, .inl (x 0, 20, .inl (fun _ => 0))), (q_8, .inl (x 1, 250, .inl (fun _ => 0))), (q_23, .inl (x 0, 518, .inl (fun _ => 0))), (q_30, .inl (x 0, 1, .inl (fun _ => 0))), (q_37, .inl (x 0, 1, .inl (fun _ => 0))), (q_44, .inl (x 0, 1, .inl (fun _ => 0))), (q_51, .inl (x 2, 1, .inr (.inl (fun _ => 0))))] H := hP
  have hD : va_D A [(h0, .inr (8, zf 18 f_48)), (q_1, .inl (x 0, 20, .inl (fun _ => 0))), (q_8, .inl (x 1, 250, .inl (fun _ => 0))), (q_23, .inl (x 0, 518, .inl (fun _ => 0))), (q_30, .inl (x 0, 1, .inl (fun _ => 0))), (q_37, .inl (x 0, 1, .inl (fun _ => 0))), (q_44, .inl (x 0, 1, .inl (fun _ => 0))), (q_51, .inl (x 2, 1, .inr (.inl (fun _ => 0))))] := hD
  refine W.widen (k := 7) (n := 792) (by omega) (by omega) ?_
  refine z_putF (T := TX8) (N := 18) (ci := 8) hx hb hts (zi_8 _) hown hK hP hD hS 0 rfl rfl 8 (by decide) (hts _ (zm_46 _)) rfl rfl hin rfl rfl rfl dX8_init_60 (fun H locs f_55 ek_56 ok_57 hP hD hS => ?_)
  have hP : va_P D vwCl [(h0, .inr (8, zf 18 f_55)), (q_1, .inl (x 0, 20, .inl (fun _ => 0))), (q_8, .inl (x 1, 250, .inl (fun _ => 0))), (q_23, .inl (x 0, 518, .inl (fun _ => 0))), (q_30, .inl (x 0, 1, .inl (fun _ => 0))), (q_37, .inl (x 0, 1, .inl (fun _ => 0))), (q_44, .inl (x 0, 1, .inl (fun _ => 0))), (q_51, .inl (x 2, 1, .inr (.inl (fun _ => 0))))] H := hP
  have hD : va_D A [(h0, .inr (8, zf 18 f_55)), (q_1, .inl (x 0, 20, .inl (fun _ => 0))), (q_8, .inl (x 1, 250, .inl (fun _ => 0))), (q_23, .inl (x 0, 518, .inl (fun _ => 0))), (q_30, .inl (x 0, 1, .inl (fun _ => 0))), (q_37, .inl (x 0, 1, .inl (fun _ => 0))), (q_44, .inl (x 0, 1, .inl (fun _ => 0))), (q_51, .inl (x 2, 1, .inr (.inl (fun _ => 0))))] := hD
  refine lv_aload_n hx hb dX8_init_63 rfl (lv_at hl 0 rfl) ?_
  refine lv_iload_n hx hb dX8_init_64 rfl (lv_at hl 2 rfl) ?_
  have h_60 : 7 + 1 ≤ 8 := by omega
  have h_61 : 792 + 1 ≤ 793 := by omega
  refine z_newa (atype := .int) (ty := .int) (a0 := (1, .inl (fun _ => 0))) hx hb (hts _ (zm_2 _)) rfl hK 0 rfl hP hD hS hA (fun cA => rfl) (by decide) (by decide) (by decide) h_60 h_61 dX8_init_65 (fun q_58 H hP hD hS => ?_)
  have hP : va_P D vwCl [(h0, .inr (8, zf 18 f_55)), (q_1, .inl (x 0, 20, .inl (fun _ => 0))), (q_8, .inl (x 1, 250, .inl (fun _ => 0))), (q_23, .inl (x 0, 518, .inl (fun _ => 0))), (q_30, .inl (x 0, 1, .inl (fun _ => 0))), (q_37, .inl (x 0, 1, .inl (fun _ => 0))), (q_44, .inl (x 0, 1, .inl (fun _ => 0))), (q_51, .inl (x 2, 1, .inr (.inl (fun _ => 0)))), (q_58, .inl (x 0, 1, .inl (fun _ => 0)))] H := hP
  have hD : va_D A [(h0, .inr (8, zf 18 f_55)), (q_1, .inl (x 0, 20, .inl (fun _ => 0))), (q_8, .inl (x 1, 250, .inl (fun _ => 0))), (q_23, .inl (x 0, 518, .inl (fun _ => 0))), (q_30, .inl (x 0, 1, .inl (fun _ => 0))), (q_37, .inl (x 0, 1, .inl (fun _ => 0))), (q_44, .inl (x 0, 1, .inl (fun _ => 0))), (q_51, .inl (x 2, 1, .inr (.inl (fun _ => 0)))), (q_58, .inl (x 0, 1, .inl (fun _ => 0)))] := hD
  refine W.widen (k := 8) (n := 793) (by omega) (by omega) ?_
  refine z_putF (T := TX8) (N := 18) (ci := 8) hx hb hts (zi_8 _) hown hK hP hD hS 0 rfl rfl 9 (by decide) (hts _ (zm_47 _)) rfl rfl hin rfl rfl rfl dX8_init_67 (fun H locs f_62 ek_63 ok_64 hP hD hS => ?_)
  have hP : va_P D vwCl [(h0, .inr (8, zf 18 f_62)), (q_1, .inl (x 0, 20, .inl (fun _ => 0))), (q_8, .inl (x 1, 250, .inl (fun _ => 0))), (q_23, .inl (x 0, 518, .inl (fun _ => 0))), (q_30, .inl (x 0, 1, .inl (fun _ => 0))), (q_37, .inl (x 0, 1, .inl (fun _ => 0))), (q_44, .inl (x 0, 1, .inl (fun _ => 0))), (q_51, .inl (x 2, 1, .inr (.inl (fun _ => 0)))), (q_58, .inl (x 0, 1, .inl (fun _ => 0)))] H := hP
  have hD : va_D A [(h0, .inr (8, zf 18 f_62)), (q_1, .inl (x 0, 20, .inl (fun _ => 0))), (q_8, .inl (x 1, 250, .inl (fun _ => 0))), (q_23, .inl (x 0, 518, .inl (fun _ => 0))), (q_30, .inl (x 0, 1, .inl (fun _ => 0))), (q_37, .inl (x 0, 1, .inl (fun _ => 0))), (q_44, .inl (x 0, 1, .inl (fun _ => 0))), (q_51, .inl (x 2, 1, .inr (.inl (fun _ => 0)))), (q_58, .inl (x 0, 1, .inl (fun _ => 0)))] := hD
  have e_65 : f_62 0 = .ref q_8 := ((ok_64 0 (by decide)).trans ((ok_57 0 (by decide)).trans ((ok_50 0 (by decide)).trans ((ok_43 0 (by decide)).trans ((ok_36 0 (by decide)).trans ((ok_29 0 (by decide)).trans ek_13))))))
  have e_66 : f_62 1 = .int 0 := ((ok_64 1 (by decide)).trans ((ok_57 1 (by decide)).trans ((ok_50 1 (by decide)).trans ((ok_43 1 (by decide)).trans ((ok_36 1 (by decide)).trans ((ok_29 1 (by decide)).trans ((ok_14 1 (by decide)).trans ((ok_7 1 (by decide)).trans h0_1))))))))
  have e_67 : f_62 3 = .int 0 := ((ok_64 3 (by decide)).trans ((ok_57 3 (by decide)).trans ((ok_50 3 (by decide)).trans ((ok_43 3 (by decide)).trans ((ok_36 3 (by decide)).trans ((ok_29 3 (by decide)).trans ((ok_14 3 (by decide)).trans ((ok_7 3 (by decide)).trans h0_3))))))))
  have e_68 : f_62 4 = .int 0 := ((ok_64 4 (by decide)).trans ((ok_57 4 (by decide)).trans ((ok_50 4 (by decide)).trans ((ok_43 4 (by decide)).trans ((ok_36 4 (by decide)).trans ((ok_29 4 (by decide)).trans ((ok_14 4 (by decide)).trans ((ok_7 4 (by decide)).trans h0_4))))))))
  have e_69 : f_62 10 = .ref q_1 := ((ok_64 10 (by decide)).trans ((ok_57 10 (by decide)).trans ((ok_50 10 (by decide)).trans ((ok_43 10 (by decide)).trans ((ok_36 10 (by decide)).trans ((ok_29 10 (by decide)).trans ((ok_14 10 (by decide)).trans ek_6)))))))
  have e_70 : f_62 11 = .long 0 := ((ok_64 11 (by decide)).trans ((ok_57 11 (by decide)).trans ((ok_50 11 (by decide)).trans ((ok_43 11 (by decide)).trans ((ok_36 11 (by decide)).trans ((ok_29 11 (by decide)).trans ((ok_14 11 (by decide)).trans ((ok_7 11 (by decide)).trans h0_11))))))))
  have e_71 : f_62 12 = .null := ((ok_64 12 (by decide)).trans ((ok_57 12 (by decide)).trans ((ok_50 12 (by decide)).trans ((ok_43 12 (by decide)).trans ((ok_36 12 (by decide)).trans ((ok_29 12 (by decide)).trans ((ok_14 12 (by decide)).trans ((ok_7 12 (by decide)).trans h0_12))))))))
  have e_72 : f_62 13 = .int 0 := ((ok_64 13 (by decide)).trans ((ok_57 13 (by decide)).trans ((ok_50 13 (by decide)).trans ((ok_43 13 (by decide)).trans ((ok_36 13 (by decide)).trans ((ok_29 13 (by decide)).trans ((ok_14 13 (by decide)).trans ((ok_7 13 (by decide)).trans h0_13))))))))
  have e_73 : f_62 14 = .int 0 := ((ok_64 14 (by decide)).trans ((ok_57 14 (by decide)).trans ((ok_50 14 (by decide)).trans ((ok_43 14 (by decide)).trans ((ok_36 14 (by decide)).trans ((ok_29 14 (by decide)).trans ((ok_14 14 (by decide)).trans ((ok_7 14 (by decide)).trans h0_14))))))))
  have e_74 : f_62 15 = .int 0 := ((ok_64 15 (by decide)).trans ((ok_57 15 (by decide)).trans ((ok_50 15 (by decide)).trans ((ok_43 15 (by decide)).trans ((ok_36 15 (by decide)).trans ((ok_29 15 (by decide)).trans ((ok_14 15 (by decide)).trans ((ok_7 15 (by decide)).trans h0_15))))))))
  have e_75 : f_62 16 = .int 0 := ((ok_64 16 (by decide)).trans ((ok_57 16 (by decide)).trans ((ok_50 16 (by decide)).trans ((ok_43 16 (by decide)).trans ((ok_36 16 (by decide)).trans ((ok_29 16 (by decide)).trans ((ok_14 16 (by decide)).trans ((ok_7 16 (by decide)).trans h0_16))))))))
  have e_76 : f_62 17 = .int 0 := ((ok_64 17 (by decide)).trans ((ok_57 17 (by decide)).trans ((ok_50 17 (by decide)).trans ((ok_43 17 (by decide)).trans ((ok_36 17 (by decide)).trans ((ok_29 17 (by decide)).trans ((ok_14 17 (by decide)).trans ((ok_7 17 (by decide)).trans h0_17))))))))
  have hP9 := hP.sub (ws' := [(h0, .inr (8, zf 18 f_62)), (q_1, .inl (x 0, 20, .inl (fun _ => 0))), (q_8, .inl (x 1, 250, .inl (fun _ => 0))), (q_23, .inl (x 0, 518, .inl (fun _ => 0))), (q_30, .inl (x 0, 1, .inl (fun _ => 0))), (q_37, .inl (x 0, 1, .inl (fun _ => 0))), (q_44, .inl (x 0, 1, .inl (fun _ => 0))), (q_51, .inl (x 2, 1, .inr (.inl (fun _ => 0)))), (q_58, .inl (x 0, 1, .inl (fun _ => 0)))]) [0, 1, 2, 3, 4, 5, 6, 7, 8] rfl
  have hD9 := hD.sub (ws' := [(h0, .inr (8, zf 18 f_62)), (q_1, .inl (x 0, 20, .inl (fun _ => 0))), (q_8, .inl (x 1, 250, .inl (fun _ => 0))), (q_23, .inl (x 0, 518, .inl (fun _ => 0))), (q_30, .inl (x 0, 1, .inl (fun _ => 0))), (q_37, .inl (x 0, 1, .inl (fun _ => 0))), (q_44, .inl (x 0, 1, .inl (fun _ => 0))), (q_51, .inl (x 2, 1, .inr (.inl (fun _ => 0)))), (q_58, .inl (x 0, 1, .inl (fun _ => 0)))]) [0, 1, 2, 3, 4, 5, 6, 7, 8] (by decide) rfl
  exact W.vret hx hb hr (fun t ht hW => ⟨⟨(f_62, q_1, q_8, q_23, q_30, q_37, q_44, q_51, q_58), rfl, ⟨e_65, e_66, ((ok_64 2 (by decide)).trans ((ok_57 2 (by decide)).trans ((ok_50 2 (by decide)).trans ((ok_43 2 (by decide)).trans ((ok_36 2 (by decide)).trans ek_28))))), e_67, e_68, ((ok_64 5 (by decide)).trans ((ok_57 5 (by decide)).trans ((ok_50 5 (by decide)).trans ((ok_43 5 (by decide)).trans ek_35)))), ((ok_64 6 (by decide)).trans ((ok_57 6 (by decide)).trans ((ok_50 6 (by decide)).trans ek_42))), ((ok_64 7 (by decide)).trans ((ok_57 7 (by decide)).trans ek_49)), ((ok_64 8 (by decide)).trans ek_56), ek_63, e_69, e_70, e_71, e_72, e_73, e_74, e_75, e_76⟩, ⟨by rw [ht]; exact hP9, hD9⟩⟩, hS.F ht⟩) hS.2.2 dX8_init_70

set_option maxHeartbeats 8000000 in
set_option maxRecDepth 100000 in
/-- the loop of Text.many(texts, 3000, 100) -/
theorem lp_Text_manyR {p : Program} {l : Launch} {e : Env} {R : Room} {s : State} {m : MethodId} {args : Array Value} {below : List Frame} {meth : Method} {c : Code} {Q : State → Prop} {A : Nat → Prop} {D : va_G} {x : Nat → ClassId} (r q : Nat) (hx : p.tables.exec = Jvm.exec) (hb : c.code = cX8_many) (hml : c.maxLocals = 5) (hts : ∀ w ∈ (.code yX8_many cX8_many 5 (some (.array (.object "MumpsHouse$Text"))) :: zW : List Cond), w.before args s = true) (hown : s.vm.findClass RX8 = some m.cls) (hZ : zK x D s) (hA : ∀ q, s.heap.size ≤ q → A q) (hrw : r ≤ 100000) (hc : 1 + r * 9 ≤ R.cells) (hsl : r + r * 9754 ≤ R.slots) (hR_c_Text_initR : 1 + 1 ≤ R.frames ∧ 8 + (3 + 11) + 12 ≤ R.locals)
    (kk : ∀ (g : Nat → Option Nat) (H : Heap) (locs : List Loc) (ls : Array Slot), va_P D vwCl [(q, .inl (x 6, r, .inr (.inr (.inr (.inr g)))))] H → va_D A [(q, .inl (x 6, r, .inr (.inr (.inr (.inr g)))))] → va_S A s.heap H locs → lv_has ls 5 [(4, .int (nI r)), (3, .ref q), (0, .int (nI r)), (1, .int 3000), (2, .int 100)] → W p l e R s m args below meth c H locs (1 + r * 9) (r + r * 9754) Q (F0 m 34 ls [])) :
    ∀ (k i : Nat), i + k = r → ∀ (g : Nat → Option Nat) (H : Heap) (locs : List Loc) (ls : Array Slot), va_P D vwCl [(q, .inl (x 6, r, .inr (.inr (.inr (.inr g)))))] H → va_D A [(q, .inl (x 6, r, .inr (.inr (.inr (.inr g)))))] → va_S A s.heap H locs → lv_has ls 5 [(4, .int (nI i)), (3, .ref q), (0, .int (nI r)), (1, .int 3000), (2, .int 100)] → W p l e R s m args below meth c H locs (1 + i * 9) (r + i * 9754) Q (F0 m 8 ls []) := by
  intro k
  induction k with
  | zero =>
    intro i hi g H locs ls hP hD hS hl
    have hi : i = r := by omega
    subst hi
    have hK := hZ.1
    refine lv_iload hx hb dX8_many_8 (lv_at hl 0 rfl) ?_
    refine lv_aload_n hx hb dX8_many_10 rfl (lv_at hl 1 rfl) ?_
    refine va_alen (v := nI i) hx hb hK hP 0 6 rfl rfl rfl dX8_many_11 ?_
    refine lv_icmp_ge (tgt := 34) hx hb dX8_many_12 (by decide) (fun _ => ?_) (fun c9 => absurd (nI_le (Nat.le_refl i) (by omega)) c9)
    exact kk g H locs ls hP hD hS hl
  | succ k ih =>
    intro i hi g H locs ls hP hD hS hl
    have hK := hZ.1
    have hlt : i < r := by omega
    have hm : (i + 1) * 9754 = i * 9754 + 9754 := Nat.succ_mul _ _
    have hle : (i + 1) * 9754 ≤ r * 9754 := Nat.mul_le_mul_right _ hlt
    refine lv_iload hx hb dX8_many_8 (lv_at hl 0 rfl) ?_
    refine lv_aload_n hx hb dX8_many_10 rfl (lv_at hl 1 rfl) ?_
    refine va_alen (v := nI r) hx hb hK hP 0 6 rfl rfl rfl dX8_many_11 ?_
    refine lv_icmp_ge (tgt := 34) hx hb dX8_many_12 (by decide) (fun c9 => absurd c9 (nI_ge hlt (by omega))) (fun _ => ?_)
    refine lv_aload_n hx hb dX8_many_15 rfl (lv_at hl 1 rfl) ?_
    refine lv_iload hx hb dX8_many_16 (lv_at hl 0 rfl) ?_
    have h_4 : 1 + i * 9 + 1 ≤ R.cells := by omega
    have h_5 : r + i * 9754 + 18 ≤ R.slots := by omega
    refine z_new (T := TX8) (N := 18) (ci := 8) hx hb hts (zi_8 _) hown (hts _ (zm_50 _)) (hts _ (zm_898 _)) (hts _ (zm_37 _)) hK hP hD hS hA rfl h_4 h_5 dX8_many_18 (fun q_1 H f_2 ed_3 hP hD hS => ?_)
    have hP : va_P D vwCl [(q, .inl (x 6, r, .inr (.inr (.inr (.inr g))))), (q_1, .inr (8, zf 18 f_2))] H := hP
    have hD : va_D A [(q, .inl (x 6, r, .inr (.inr (.inr (.inr g))))), (q_1, .inr (8, zf 18 f_2))] := hD
    refine W.widen (k := 1 + i * 9 + 1) (n := 18 + r + i * 9754) (by omega) (by omega) ?_
    refine lv_dup hx hb dX8_many_21 rfl ?_
    refine lv_iload_n hx hb dX8_many_22 rfl (lv_at hl 3 rfl) ?_
    refine lv_iload_n hx hb dX8_many_23 rfl (lv_at hl 4 rfl) ?_
    have hPc := hP.sub (ws' := [(q_1, .inr (8, zf 18 f_2))]) [1] rfl
    have hDc := hD.sub (ws' := [(q_1, .inr (8, zf 18 f_2))]) [1] (by decide) rfl
    have hFc := va_free (wc := [(q_1, .inr (8, zf 18 f_2))]) hD hS hA [1] rfl
    have h_15 : 1 + i * 9 + 1 + 8 ≤ R.cells ∧ 18 + r + i * 9754 + 9736 ≤ R.slots := by omega
    refine va_callv (va_runI (As := [.int 3000, .int 100]) (rest := [.ref q_1, .int (nI i), .ref q]) ⟨hx, hb, hml, hown, hts⟩ (c_Text_initR l D x q_1 f_2 H.size (ed_3 1) (ed_3 3) (ed_3 4) (ed_3 11) (ed_3 12) (ed_3 13) (ed_3 14) (ed_3 15) (ed_3 16) (ed_3 17)) ⟨callB_of 2 hts (zgood (zm_36 _) rfl) rfl rfl rfl (hts _ (zm_37 _)) (hts _ (zm_51 _)) ⟨by decide, by decide, by decide +kernel⟩ hR_c_Text_initR, rfl, hts _ (zm_38 _)⟩ ⟨fun a U g mk q => by obtain ⟨q0, q1, qP, qK, qD⟩ := q; exact ⟨q0, q1, qP, ZK.calling (u := U) zN_ok rfl qK, qD⟩, fun U hU hW => ⟨rfl, by rw [hU], by rw [hU]; exact hPc, ZK.warm zN_ok hW hZ, hDc.weaken (fun _ _ _ _ => trivial)⟩⟩ rfl rfl hl.1 rfl (lv_room (Nat.le_of_ble_eq_true rfl)) dX8_many_24 h_15) hS (fun q _ h => hFc q h) hFc (fun u t H1 locs ht hvm hw_14 hB hz1 hk1 hS => ?_)
    obtain ⟨c0_6, a1_7, a2_8, a3_9, a4_10, a5_11, a6_12, a7_13, a8_14⟩ := u
    obtain ⟨hP1, hD1⟩ := hB
    rw [ht] at hP1
    try dsimp only at hw_14
    obtain ⟨hP, hD⟩ := va_join (wr := [(q, .inl (x 6, r, .inr (.inr (.inr (.inr g)))))]) (w1 := [(q_1, .inr (8, zf 18 c0_6)), (a1_7, .inl (x 0, 20, .inl (fun _ => 0))), (a2_8, .inl (x 1, 3000, .inl (fun _ => 0))), (a3_9, .inl (x 0, 6216, .inl (fun _ => 0))), (a4_10, .inl (x 0, 100, .inl (fun _ => 0))), (a5_11, .inl (x 0, 100, .inl (fun _ => 0))), (a6_12, .inl (x 0, 100, .inl (fun _ => 0))), (a7_13, .inl (x 2, 100, .inr (.inl (fun _ => 0)))), (a8_14, .inl (x 0, 100, .inl (fun _ => 0)))]) hP hD [1] [0] rfl rfl (by decide) (by decide) hk1 hFc hP1 hD1
    generalize H1 = H at hP hS ⊢
    have hP : va_P D vwCl [(q, .inl (x 6, r, .inr (.inr (.inr (.inr g))))), (q_1, .inr (8, zf 18 c0_6)), (a1_7, .inl (x 0, 20, .inl (fun _ => 0))), (a2_8, .inl (x 1, 3000, .inl (fun _ => 0))), (a3_9, .inl (x 0, 6216, .inl (fun _ => 0))), (a4_10, .inl (x 0, 100, .inl (fun _ => 0))), (a5_11, .inl (x 0, 100, .inl (fun _ => 0))), (a6_12, .inl (x 0, 100, .inl (fun _ => 0))), (a7_13, .inl (x 2, 100, .inr (.inl (fun _ => 0)))), (a8_14, .inl (x 0, 100, .inl (fun _ => 0)))] H := hP
    have hD : va_D A [(q, .inl (x 6, r, .inr (.inr (.inr (.inr g))))), (q_1, .inr (8, zf 18 c0_6)), (a1_7, .inl (x 0, 20, .inl (fun _ => 0))), (a2_8, .inl (x 1, 3000, .inl (fun _ => 0))), (a3_9, .inl (x 0, 6216, .inl (fun _ => 0))), (a4_10, .inl (x 0, 100, .inl (fun _ => 0))), (a5_11, .inl (x 0, 100, .inl (fun _ => 0))), (a6_12, .inl (x 0, 100, .inl (fun _ => 0))), (a7_13, .inl (x 2, 100, .inr (.inl (fun _ => 0)))), (a8_14, .inl (x 0, 100, .inl (fun _ => 0)))] := hD
    refine W.widen (k := 1 + i * 9 + 9) (n := 9754 + r + i * 9754) (by omega) (by omega) ?_
    refine z_astq hx hb hK hP hD hS 0 6 1 8 rfl rfl rfl rfl (vp_in_nI hlt (by omega)) dX8_many_27 (fun H locs g_16 ek_17 ok_18 hP hD hS => ?_)
    have hP : va_P D vwCl [(q, .inl (x 6, r, .inr (.inr (.inr (.inr g_16))))), (q_1, .inr (8, zf 18 c0_6)), (a1_7, .inl (x 0, 20, .inl (fun _ => 0))), (a2_8, .inl (x 1, 3000, .inl (fun _ => 0))), (a3_9, .inl (x 0, 6216, .inl (fun _ => 0))), (a4_10, .inl (x 0, 100, .inl (fun _ => 0))), (a5_11, .inl (x 0, 100, .inl (fun _ => 0))), (a6_12, .inl (x 0, 100, .inl (fun _ => 0))), (a7_13, .inl (x 2, 100, .inr (.inl (fun _ => 0)))), (a8_14, .inl (x 0, 100, .inl (fun _ => 0)))] H := hP
    have hD : va_D A [(q, .inl (x 6, r, .inr (.inr (.inr (.inr g_16))))), (q_1, .inr (8, zf 18 c0_6)), (a1_7, .inl (x 0, 20, .inl (fun _ => 0))), (a2_8, .inl (x 1, 3000, .inl (fun _ => 0))), (a3_9, .inl (x 0, 6216, .inl (fun _ => 0))), (a4_10, .inl (x 0, 100, .inl (fun _ => 0))), (a5_11, .inl (x 0, 100, .inl (fun _ => 0))), (a6_12, .inl (x 0, 100, .inl (fun _ => 0))), (a7_13, .inl (x 2, 100, .inr (.inl (fun _ => 0)))), (a8_14, .inl (x 0, 100, .inl (fun _ => 0)))] := hD
    refine lv_iinc (v := nI (i + 1)) (lv' := [(4, .int (nI (i + 1))), (3, .ref q), (0, .int (nI r)), (1, .int 3000), (2, .int 100)]) hx hb dX8_many_28 hl (k := 0) rfl (nI_1 i) (by decide) rfl (fun ls hl => ?_)
    refine lv_goto (tgt := 8) hx hb dX8_many_31 (by decide) ?_
    have hP := hP.sub (ws' := [(q, .inl (x 6, r, .inr (.inr (.inr (.inr g_16)))))]) [0] rfl
    have hD := hD.sub (ws' := [(q, .inl (x 6, r, .inr (.inr (.inr (.inr g_16)))))]) [0] (by decide) rfl
    refine W.widen (k := 1 + (i + 1) * 9) (n := r + (i + 1) * 9754) (by omega) (by omega) ?_
    exact ih (i + 1) (by omega) _ H locs ls hP hD hS (lv_sub hl [0, 1, 2, 3, 4] rfl)

set_option maxHeartbeats 8000000 in
set_option maxRecDepth 100000 in
/-- Text.many(texts, 3000, 100) -/
theorem c_Text_manyR (l : Launch) (D : va_G) (x : Nat → ClassId) (r : Nat) (sz : Nat) (hrw : r ≤ 100000) : Met l yX8_many (.code yX8_many cX8_many 5 (some (.array (.object "MumpsHouse$Text"))) :: zW) ({ frames := 2, cells := ((1 + r * 9)), slots := ((r + r * 9754)), locals := 34 }) (va_Pc [.int (nI r), .int 3000, .int 100] (fun U => U.heap.size = sz ∧ va_P D vwCl [] U.heap ∧ zK x D U ∧ va_D (fun _ => True) [])) (va_Qr (fun u : Unit => True) (fun u ra t => zB D vwCl (va_A [] sz) [] t) (va_A [] sz)) ((1 + r * 9)) ((r + r * 9754)) (va_A [] sz) := by
  refine Met.ofW (cc := cX8_many) (maxL := 5) (ret := (some (.array (.object "MumpsHouse$Text")))) (by decide) rfl ?_
  intro p e s m args below meth c s₁ B hml hv
  obtain ⟨rfl, hsz, hP, hZ, hD0⟩ := hv
  have hK := hZ.1
  have hx := B.exec
  have hb := B.bytes
  have hr := B.returns
  have hts := atoms_spec (ws := .code yX8_many cX8_many 5 (some (.array (.object "MumpsHouse$Text"))) :: zW) B.pre
  have hown : s.vm.findClass RX8 = some m.cls := findClass_of_methodNamed B.named
  have hlocks := B.notSynchronized
  subst hsz
  have hD := hD0.self (sz := s.heap.size)
  generalize hAe : va_A [] s.heap.size = A at hD ⊢
  have hA : ∀ q : Nat, s.heap.size ≤ q → A q := fun q h => by rw [← hAe]; exact Or.inr h
  have hS : va_S A s.heap s.heap [] := va_S.rf
  have hP : va_P D vwCl [] s.heap := hP
  have hl := lv_entry ([.int (nI r), .int 3000, .int 100]) (n := 5) (Nat.le_of_ble_eq_true rfl)
  rw [lg_entry_eq]
  generalize (lg_sl ([.int (nI r), .int 3000, .int 100]) ++ List.replicate (5 - (lg_sl ([.int (nI r), .int 3000, .int 100])).length) Slot.unset).toArray = ls at hl ⊢
  have hl : lv_has ls 5 [(0, .int (nI r)), (1, .int 3000), (2, .int 100)] := hl
  refine lv_iload_n hx hb dX8_many_0 rfl (lv_at hl 0 rfl) ?_
  have h_2 : 0 + 1 ≤ (1 + r * 9) := by omega
  have h_3 : 0 + r ≤ (r + r * 9754) := by omega
  refine z_newq (C := RX8) hx hb hown (hts _ (zm_50 _)) (hZ.2.2 _ (List.mem_of_getElem? (i := 2) rfl)) hK 6 rfl hP hD hS hA (nI_pos (by omega)) (nI_clamp (by omega)) (by omega) h_2 h_3 dX8_many_1 (fun q_1 H hP hD hS => ?_)
  have hP : va_P D vwCl [(q_1, .inl (x 6, r, .inr (.inr (.inr (.inr (fun _ => none))))))] H := hP
  have hD : va_D A [(q_1, .inl (x 6, r, .inr (.inr (.inr (.inr (fun _ => none))))))] := hD
  refine W.widen (k := 1) (n := r) (by omega) (by omega) ?_
  refine lv_astore_n (lv' := [(3, .ref q_1), (0, .int (nI r)), (1, .int 3000), (2, .int 100)]) hx hb dX8_many_4 rfl hl (by decide) rfl (fun ls hl => ?_)
  refine lv_iconst (v := 0) hx hb dX8_many_5 (by decide) ?_
  refine lv_istore (lv' := [(4, .int 0), (3, .ref q_1), (0, .int (nI r)), (1, .int 3000), (2, .int 100)]) hx hb dX8_many_6 hl (by decide) rfl (fun ls hl => ?_)
  refine W.widen (k := 1 + 0 * 9) (n := r + 0 * 9754) (by omega) (by omega) ?_
  refine lp_Text_manyR (Q := MQ below _ _ s _ _ _) r q_1  hx hb hml hts hown hZ hA  hrw (by exact Nat.le_refl _) (by exact Nat.le_refl _) (by exact ⟨Nat.le_of_ble_eq_true rfl, Nat.le_of_ble_eq_true rfl⟩) ?_ r 0 (by omega) _ H _ ls hP hD hS (by rw [nI_0]; exact lv_sub hl [0, 1, 2, 3, 4] rfl)
  intro g H locs ls hP hD hS hl
  refine lv_aload_n hx hb dX8_many_34 rfl (lv_at hl 1 rfl) ?_
  have hP9 := hP.sub (ws' := []) [] rfl
  have hD9 := hD.sub (ws' := []) [] (by decide) rfl
  exact W.aret (v := .ref q_1) hx hb hr (Or.inr ⟨_, rfl⟩) (Or.inr ⟨_, rfl⟩) (fun t ht hW => ⟨⟨(), _, rfl, trivial, ⟨by rw [ht]; exact hP9, hD9⟩⟩, hS.F ht⟩) hS.2.2 dX8_many_35

set_option maxHeartbeats 8000000 in
set_option maxRecDepth 100000 in
/-- the loop of Text.many(texts, 250, 1) -/
theorem lp_Text_manyL {p : Program} {l : Launch} {e : Env} {R : Room} {s : State} {m : MethodId} {args : Array Value} {below : List Frame} {meth : Method} {c : Code} {Q : State → Prop} {A : Nat → Prop} {D : va_G} {x : Nat → ClassId} (r q : Nat) (hx : p.tables.exec = Jvm.exec) (hb : c.code = cX8_many) (hml : c.maxLocals = 5) (hts : ∀ w ∈ (.code yX8_many cX8_many 5 (some (.array (.object "MumpsHouse$Text"))) :: zW : List Cond), w.before args s = true) (hown : s.vm.findClass RX8 = some m.cls) (hZ : zK x D s) (hA : ∀ q, s.heap.size ≤ q → A q) (hrw : r ≤ 100000) (hc : 1 + r * 9 ≤ R.cells) (hsl : r + r * 811 ≤ R.slots) (hR_c_Text_initL : 1 + 1 ≤ R.frames ∧ 8 + (3 + 11) + 12 ≤ R.locals)
    (kk : ∀ (g : Nat → Option Nat) (H : Heap) (locs : List Loc) (ls : Array Slot), va_P D vwCl [(q, .inl (x 6, r, .inr (.inr (.inr (.inr g)))))] H → va_D A [(q, .inl (x 6, r, .inr (.inr (.inr (.inr g)))))] → va_S A s.heap H locs → lv_has ls 5 [(4, .int (nI r)), (3, .ref q), (0, .int (nI r)), (1, .int 250), (2, .int 1)] → W p l e R s m args below meth c H locs (1 + r * 9) (r + r * 811) Q (F0 m 34 ls [])) :
    ∀ (k i : Nat), i + k = r → ∀ (g : Nat → Option Nat) (H : Heap) (locs : List Loc) (ls : Array Slot), va_P D vwCl [(q, .inl (x 6, r, .inr (.inr (.inr (.inr g)))))] H → va_D A [(q, .inl (x 6, r, .inr (.inr (.inr (.inr g)))))] → va_S A s.heap H locs → lv_has ls 5 [(4, .int (nI i)), (3, .ref q), (0, .int (nI r)), (1, .int 250), (2, .int 1)] → W p l e R s m args below meth c H locs (1 + i * 9) (r + i * 811) Q (F0 m 8 ls []) := by
  intro k
  induction k with
  | zero =>
    intro i hi g H locs ls hP hD hS hl
    have hi : i = r := by omega
    subst hi
    have hK := hZ.1
    refine lv_iload hx hb dX8_many_8 (lv_at hl 0 rfl) ?_
    refine lv_aload_n hx hb dX8_many_10 rfl (lv_at hl 1 rfl) ?_
    refine va_alen (v := nI i) hx hb hK hP 0 6 rfl rfl rfl dX8_many_11 ?_
    refine lv_icmp_ge (tgt := 34) hx hb dX8_many_12 (by decide) (fun _ => ?_) (fun c9 => absurd (nI_le (Nat.le_refl i) (by omega)) c9)
    exact kk g H locs ls hP hD hS hl
  | succ k ih =>
    intro i hi g H locs ls hP hD hS hl
    have hK := hZ.1
    have hlt : i < r := by omega
    have hm : (i + 1) * 811 = i * 811 + 811 := Nat.succ_mul _ _
    have hle : (i + 1) * 811 ≤ r * 811 := Nat.mul_le_mul_right _ hlt
    refine lv_iload hx hb dX8_many_8 (lv_at hl 0 rfl) ?_
    refine lv_aload_n hx hb dX8_many_10 rfl (lv_at hl 1 rfl) ?_
    refine va_alen (v := nI r) hx hb hK hP 0 6 rfl rfl rfl dX8_many_11 ?_
    refine lv_icmp_ge (tgt := 34) hx hb dX8_many_12 (by decide) (fun c9 => absurd c9 (nI_ge hlt (by omega))) (fun _ => ?_)
    refine lv_aload_n hx hb dX8_many_15 rfl (lv_at hl 1 rfl) ?_
    refine lv_iload hx hb dX8_many_16 (lv_at hl 0 rfl) ?_
    have h_4 : 1 + i * 9 + 1 ≤ R.cells := by omega
    have h_5 : r + i * 811 + 18 ≤ R.slots := by omega
    refine z_new (T := TX8) (N := 18) (ci := 8) hx hb hts (zi_8 _) hown (hts _ (zm_50 _)) (hts _ (zm_898 _)) (hts _ (zm_37 _)) hK hP hD hS hA rfl h_4 h_5 dX8_many_18 (fun q_1 H f_2 ed_3 hP hD hS => ?_)
    have hP : va_P D vwCl [(q, .inl (x 6, r, .inr (.inr (.inr (.inr g))))), (q_1, .inr (8, zf 18 f_2))] H := hP
    have hD : va_D A [(q, .inl (x 6, r, .inr (.inr (.inr (.inr g))))), (q_1, .inr (8, zf 18 f_2))] := hD
    refine W.widen (k := 1 + i * 9 + 1) (n := 18 + r + i * 811) (by omega) (by omega) ?_
    refine lv_dup hx hb dX8_many_21 rfl ?_
    refine lv_iload_n hx hb dX8_many_22 rfl (lv_at hl 3 rfl) ?_
    refine lv_iload_n hx hb dX8_many_23 rfl (lv_at hl 4 rfl) ?_
    have hPc := hP.sub (ws' := [(q_1, .inr (8, zf 18 f_2))]) [1] rfl
    have hDc := hD.sub (ws' := [(q_1, .inr (8, zf 18 f_2))]) [1] (by decide) rfl
    have hFc := va_free (wc := [(q_1, .inr (8, zf 18 f_2))]) hD hS hA [1] rfl
    have h_15 : 1 + i * 9 + 1 + 8 ≤ R.cells ∧ 18 + r + i * 811 + 793 ≤ R.slots := by omega
    refine va_callv (va_runI (As := [.int 250, .int 1]) (rest := [.ref q_1, .int (nI i), .ref q]) ⟨hx, hb, hml, hown, hts⟩ (c_Text_initL l D x q_1 f_2 H.size (ed_3 1) (ed_3 3) (ed_3 4) (ed_3 11) (ed_3 12) (ed_3 13) (ed_3 14) (ed_3 15) (ed_3 16) (ed_3 17)) ⟨callB_of 2 hts (zgood (zm_36 _) rfl) rfl rfl rfl (hts _ (zm_37 _)) (hts _ (zm_51 _)) ⟨by decide, by decide, by decide +kernel⟩ hR_c_Text_initL, rfl, hts _ (zm_38 _)⟩ ⟨fun a U g mk q => by obtain ⟨q0, q1, qP, qK, qD⟩ := q; exact ⟨q0, q1, qP, ZK.calling (u := U) zN_ok rfl qK, qD⟩, fun U hU hW => ⟨rfl, by rw [hU], by rw [hU]; exact hPc, ZK.warm zN_ok hW hZ, hDc.weaken (fun _ _ _ _ => trivial)⟩⟩ rfl rfl hl.1 rfl (lv_room (Nat.le_of_ble_eq_true rfl)) dX8_many_24 h_15) hS (fun q _ h => hFc q h) hFc (fun u t H1 locs ht hvm hw_14 hB hz1 hk1 hS => ?_)
    obtain ⟨c0_6, a1_7, a2_8, a3_9, a4_10, a5_11, a6_12, a7_13, a8_14⟩ := u
    obtain ⟨hP1, hD1⟩ := hB
    rw [ht] at hP1
    try dsimp only at hw_14
    obtain ⟨hP, hD⟩ := va_join (wr := [(q, .inl (x 6, r, .inr (.inr (.inr (.inr g)))))]) (w1 := [(q_1, .inr (8, zf 18 c0_6)), (a1_7, .inl (x 0, 20, .inl (fun _ => 0))), (a2_8, .inl (x 1, 250, .inl (fun _ => 0))), (a3_9, .inl (x 0, 518, .inl (fun _ => 0))), (a4_10, .inl (x 0, 1, .inl (fun _ => 0))), (a5_11, .inl (x 0, 1, .inl (fun _ => 0))), (a6_12, .inl (x 0, 1, .inl (fun _ => 0))), (a7_13, .inl (x 2, 1, .inr (.inl (fun _ => 0)))), (a8_14, .inl (x 0, 1, .inl (fun _ => 0)))]) hP hD [1] [0] rfl rfl (by decide) (by decide) hk1 hFc hP1 hD1
    generalize H1 = H at hP hS ⊢
    have hP : va_P D vwCl [(q, .inl (x 6, r, .inr (.inr (.inr (.inr g))))), (q_1, .inr (8, zf 18 c0_6)), (a1_7, .inl (x 0, 20, .inl (fun _ => 0))), (a2_8, .inl (x 1, 250, .inl (fun _ => 0))), (a3_9, .inl (x 0, 518, .inl (fun _ => 0))), (a4_10, .inl (x 0, 1, .inl (fun _ => 0))), (a5_11, .inl (x 0, 1, .inl (fun _ => 0))), (a6_12, .inl (x 0, 1, .inl (fun _ => 0))), (a7_13, .inl (x 2, 1, .inr (.inl (fun _ => 0)))), (a8_14, .inl (x 0, 1, .inl (fun _ => 0)))] H := hP
    have hD : va_D A [(q, .inl (x 6, r, .inr (.inr (.inr (.inr g))))), (q_1, .inr (8, zf 18 c0_6)), (a1_7, .inl (x 0, 20, .inl (fun _ => 0))), (a2_8, .inl (x 1, 250, .inl (fun _ => 0))), (a3_9, .inl (x 0, 518, .inl (fun _ => 0))), (a4_10, .inl (x 0, 1, .inl (fun _ => 0))), (a5_11, .inl (x 0, 1, .inl (fun _ => 0))), (a6_12, .inl (x 0, 1, .inl (fun _ => 0))), (a7_13, .inl (x 2, 1, .inr (.inl (fun _ => 0)))), (a8_14, .inl (x 0, 1, .inl (fun _ => 0)))] := hD
    refine W.widen (k := 1 + i * 9 + 9) (n := 811 + r + i * 811) (by omega) (by omega) ?_
    refine z_astq hx hb hK hP hD hS 0 6 1 8 rfl rfl rfl rfl (vp_in_nI hlt (by omega)) dX8_many_27 (fun H locs g_16 ek_17 ok_18 hP hD hS => ?_)
    have hP : va_P D vwCl [(q, .inl (x 6, r, .inr (.inr (.inr (.inr g_16))))), (q_1, .inr (8, zf 18 c0_6)), (a1_7, .inl (x 0, 20, .inl (fun _ => 0))), (a2_8, .inl (x 1, 250, .inl (fun _ => 0))), (a3_9, .inl (x 0, 518, .inl (fun _ => 0))), (a4_10, .inl (x 0, 1, .inl (fun _ => 0))), (a5_11, .inl (x 0, 1, .inl (fun _ => 0))), (a6_12, .inl (x 0, 1, .inl (fun _ => 0))), (a7_13, .inl (x 2, 1, .inr (.inl (fun _ => 0)))), (a8_14, .inl (x 0, 1, .inl (fun _ => 0)))] H := hP
    have hD : va_D A [(q, .inl (x 6, r, .inr (.inr (.inr (.inr g_16))))), (q_1, .inr (8, zf 18 c0_6)), (a1_7, .inl (x 0, 20, .inl (fun _ => 0))), (a2_8, .inl (x 1, 250, .inl (fun _ => 0))), (a3_9, .inl (x 0, 518, .inl (fun _ => 0))), (a4_10, .inl (x 0, 1, .inl (fun _ => 0))), (a5_11, .inl (x 0, 1, .inl (fun _ => 0))), (a6_12, .inl (x 0, 1, .inl (fun _ => 0))), (a7_13, .inl (x 2, 1, .inr (.inl (fun _ => 0)))), (a8_14, .inl (x 0, 1, .inl (fun _ => 0)))] := hD
    refine lv_iinc (v := nI (i + 1)) (lv' := [(4, .int (nI (i + 1))), (3, .ref q), (0, .int (nI r)), (1, .int 250), (2, .int 1)]) hx hb dX8_many_28 hl (k := 0) rfl (nI_1 i) (by decide) rfl (fun ls hl => ?_)
    refine lv_goto (tgt := 8) hx hb dX8_many_31 (by decide) ?_
    have hP := hP.sub (ws' := [(q, .inl (x 6, r, .inr (.inr (.inr (.inr g_16)))))]) [0] rfl
    have hD := hD.sub (ws' := [(q, .inl (x 6, r, .inr (.inr (.inr (.inr g_16)))))]) [0] (by decide) rfl
    refine W.widen (k := 1 + (i + 1) * 9) (n := r + (i + 1) * 811) (by omega) (by omega) ?_
    exact ih (i + 1) (by omega) _ H locs ls hP hD hS (lv_sub hl [0, 1, 2, 3, 4] rfl)

set_option maxHeartbeats 8000000 in
set_option maxRecDepth 100000 in
/-- Text.many(texts, 250, 1) -/
theorem c_Text_manyL (l : Launch) (D : va_G) (x : Nat → ClassId) (r : Nat) (sz : Nat) (hrw : r ≤ 100000) : Met l yX8_many (.code yX8_many cX8_many 5 (some (.array (.object "MumpsHouse$Text"))) :: zW) ({ frames := 2, cells := ((1 + r * 9)), slots := ((r + r * 811)), locals := 34 }) (va_Pc [.int (nI r), .int 250, .int 1] (fun U => U.heap.size = sz ∧ va_P D vwCl [] U.heap ∧ zK x D U ∧ va_D (fun _ => True) [])) (va_Qr (fun u : Unit => True) (fun u ra t => zB D vwCl (va_A [] sz) [] t) (va_A [] sz)) ((1 + r * 9)) ((r + r * 811)) (va_A [] sz) := by
  refine Met.ofW (cc := cX8_many) (maxL := 5) (ret := (some (.array (.object "MumpsHouse$Text")))) (by decide) rfl ?_
  intro p e s m args below meth c s₁ B hml hv
  obtain ⟨rfl, hsz, hP, hZ, hD0⟩ := hv
  have hK := hZ.1
  have hx := B.exec
  have hb := B.bytes
  have hr := B.returns
  have hts := atoms_spec (ws := .code yX8_many cX8_many 5 (some (.array (.object "MumpsHouse$Text"))) :: zW) B.pre
  have hown : s.vm.findClass RX8 = some m.cls := findClass_of_methodNamed B.named
  have hlocks := B.notSynchronized
  subst hsz
  have hD := hD0.self (sz := s.heap.size)
  generalize hAe : va_A [] s.heap.size = A at hD ⊢
  have hA : ∀ q : Nat, s.heap.size ≤ q → A q := fun q h => by rw [← hAe]; exact Or.inr h
  have hS : va_S A s.heap s.heap [] := va_S.rf
  have hP : va_P D vwCl [] s.heap := hP
  have hl := lv_entry ([.int (nI r), .int 250, .int 1]) (n := 5) (Nat.le_of_ble_eq_true rfl)
  rw [lg_entry_eq]
  generalize (lg_sl ([.int (nI r), .int 250, .int 1]) ++ List.replicate (5 - (lg_sl ([.int (nI r), .int 250, .int 1])).length) Slot.unset).toArray = ls at hl ⊢
  have hl : lv_has ls 5 [(0, .int (nI r)), (1, .int 250), (2, .int 1)] := hl
  refine lv_iload_n hx hb dX8_many_0 rfl (lv_at hl 0 rfl) ?_
  have h_2 : 0 + 1 ≤ (1 + r * 9) := by omega
  have h_3 : 0 + r ≤ (r + r * 811) := by omega
  refine z_newq (C := RX8) hx hb hown (hts _ (zm_50 _)) (hZ.2.2 _ (List.mem_of_getElem? (i := 2) rfl)) hK 6 rfl hP hD hS hA (nI_pos (by omega)) (nI_clamp (by omega)) (by omega) h_2 h_3 dX8_many_1 (fun q_1 H hP hD hS => ?_)
  have hP : va_P D vwCl [(q_1, .inl (x 6, r, .inr (.inr (.inr (.inr (fun _ => none))))))] H := hP
  have hD : va_D A [(q_1, .inl (x 6, r, .inr (.inr (.inr (.inr (fun _ => none))))))] := hD
  refine W.widen (k := 1) (n := r) (by omega) (by omega) ?_
  refine lv_astore_n (lv' := [(3, .ref q_1), (0, .int (nI r)), (1, .int 250), (2, .int 1)]) hx hb dX8_many_4 rfl hl (by decide) rfl (fun ls hl => ?_)
  refine lv_iconst (v := 0) hx hb dX8_many_5 (by decide) ?_
  refine lv_istore (lv' := [(4, .int 0), (3, .ref q_1), (0, .int (nI r)), (1, .int 250), (2, .int 1)]) hx hb dX8_many_6 hl (by decide) rfl (fun ls hl => ?_)
  refine W.widen (k := 1 + 0 * 9) (n := r + 0 * 811) (by omega) (by omega) ?_
  refine lp_Text_manyL (Q := MQ below _ _ s _ _ _) r q_1  hx hb hml hts hown hZ hA  hrw (by exact Nat.le_refl _) (by exact Nat.le_refl _) (by exact ⟨Nat.le_of_ble_eq_true rfl, Nat.le_of_ble_eq_true rfl⟩) ?_ r 0 (by omega) _ H _ ls hP hD hS (by rw [nI_0]; exact lv_sub hl [0, 1, 2, 3, 4] rfl)
  intro g H locs ls hP hD hS hl
  refine lv_aload_n hx hb dX8_many_34 rfl (lv_at hl 1 rfl) ?_
  have hP9 := hP.sub (ws' := []) [] rfl
  have hD9 := hD.sub (ws' := []) [] (by decide) rfl
  exact W.aret (v := .ref q_1) hx hb hr (Or.inr ⟨_, rfl⟩) (Or.inr ⟨_, rfl⟩) (fun t ht hW => ⟨⟨(), _, rfl, trivial, ⟨by rw [ht]; exact hP9, hD9⟩⟩, hS.F ht⟩) hS.2.2 dX8_many_35
