theorem dX5_init_0 : decode cX5_init 0 = .ok (.aload_n 0, 1) := by decide +kernel
theorem dX5_init_1 : decode cX5_init 1 = .ok (.invokespecial 3, 3) := by decide +kernel
theorem dX5_init_4 : decode cX5_init 4 = .ok (.aload_n 0, 1) := by decide +kernel
theorem dX5_init_5 : decode cX5_init 5 = .ok (.new 9, 3) := by decide +kernel
theorem dX5_init_8 : decode cX5_init 8 = .ok (.dup, 1) := by decide +kernel
theorem dX5_init_9 : decode cX5_init 9 = .ok (.sipush 250, 3) := by decide +kernel
theorem dX5_init_12 : decode cX5_init 12 = .ok (.invokespecial 11, 3) := by decide +kernel
theorem dX5_init_15 : decode cX5_init 15 = .ok (.putfield 14, 3) := by decide +kernel
theorem dX5_init_18 : decode cX5_init 18 = .ok (.aload_n 0, 1) := by decide +kernel
theorem dX5_init_19 : decode cX5_init 19 = .ok (.new 9, 3) := by decide +kernel
theorem dX5_init_22 : decode cX5_init 22 = .ok (.dup, 1) := by decide +kernel
theorem dX5_init_23 : decode cX5_init 23 = .ok (.sipush 2000, 3) := by decide +kernel
theorem dX5_init_26 : decode cX5_init 26 = .ok (.invokespecial 11, 3) := by decide +kernel
theorem dX5_init_29 : decode cX5_init 29 = .ok (.putfield 20, 3) := by decide +kernel
theorem dX5_init_32 : decode cX5_init 32 = .ok (.return_, 1) := by decide +kernel
theorem dX5_many_7 : decode cX5_many 7 = .ok (.iload_n 2, 1) := by decide +kernel
theorem dX5_many_8 : decode cX5_many 8 = .ok (.aload_n 1, 1) := by decide +kernel
theorem dX5_many_9 : decode cX5_many 9 = .ok (.arraylength, 1) := by decide +kernel
theorem dX5_many_10 : decode cX5_many 10 = .ok (.if_icmp .ge 19, 3) := by decide +kernel
theorem dX5_many_13 : decode cX5_many 13 = .ok (.aload_n 1, 1) := by decide +kernel
theorem dX5_many_14 : decode cX5_many 14 = .ok (.iload_n 2, 1) := by decide +kernel
theorem dX5_many_15 : decode cX5_many 15 = .ok (.new 15, 3) := by decide +kernel
theorem dX5_many_18 : decode cX5_many 18 = .ok (.dup, 1) := by decide +kernel
theorem dX5_many_19 : decode cX5_many 19 = .ok (.invokespecial 23, 3) := by decide +kernel
theorem dX5_many_22 : decode cX5_many 22 = .ok (.aastore, 1) := by decide +kernel
theorem dX5_many_23 : decode cX5_many 23 = .ok (.iinc 2 1, 3) := by decide +kernel
theorem dX5_many_26 : decode cX5_many 26 = .ok (.goto (-19), 3) := by decide +kernel
theorem dX5_many_0 : decode cX5_many 0 = .ok (.iload_n 0, 1) := by decide +kernel
theorem dX5_many_1 : decode cX5_many 1 = .ok (.anewarray 15, 3) := by decide +kernel
theorem dX5_many_4 : decode cX5_many 4 = .ok (.astore_n 1, 1) := by decide +kernel
theorem dX5_many_5 : decode cX5_many 5 = .ok (.iconst 0, 1) := by decide +kernel
theorem dX5_many_6 : decode cX5_many 6 = .ok (.istore_n 2, 1) := by decide +kernel
theorem dX5_many_29 : decode cX5_many 29 = .ok (.aload_n 1, 1) := by decide +kernel
theorem dX5_many_30 : decode cX5_many 30 = .ok (.areturn, 1) := by decide +kernel
theorem dX7_init_0 : decode cX7_init 0 = .ok (.aload_n 0, 1) := by decide +kernel
theorem dX7_init_1 : decode cX7_init 1 = .ok (.invokespecial 3, 3) := by decide +kernel
theorem dX7_init_4 : decode cX7_init 4 = .ok (.aload_n 0, 1) := by decide +kernel
theorem dX7_init_5 : decode cX7_init 5 = .ok (.sipush 1500, 3) := by decide +kernel
theorem dX7_init_8 : decode cX7_init 8 = .ok (.newarray .long, 2) := by decide +kernel
theorem dX7_init_10 : decode cX7_init 10 = .ok (.putfield 9, 3) := by decide +kernel
theorem dX7_init_13 : decode cX7_init 13 = .ok (.aload_n 0, 1) := by decide +kernel
theorem dX7_init_14 : decode cX7_init 14 = .ok (.sipush 1500, 3) := by decide +kernel
theorem dX7_init_17 : decode cX7_init 17 = .ok (.newarray .int, 2) := by decide +kernel
theorem dX7_init_19 : decode cX7_init 19 = .ok (.putfield 15, 3) := by decide +kernel
theorem dX7_init_22 : decode cX7_init 22 = .ok (.aload_n 0, 1) := by decide +kernel
theorem dX7_init_23 : decode cX7_init 23 = .ok (.sipush 300, 3) := by decide +kernel
theorem dX7_init_26 : decode cX7_init 26 = .ok (.newarray .long, 2) := by decide +kernel
theorem dX7_init_28 : decode cX7_init 28 = .ok (.putfield 19, 3) := by decide +kernel
theorem dX7_init_31 : decode cX7_init 31 = .ok (.aload_n 0, 1) := by decide +kernel
theorem dX7_init_32 : decode cX7_init 32 = .ok (.sipush 300, 3) := by decide +kernel
theorem dX7_init_35 : decode cX7_init 35 = .ok (.newarray .int, 2) := by decide +kernel
theorem dX7_init_37 : decode cX7_init 37 = .ok (.putfield 22, 3) := by decide +kernel
theorem dX7_init_40 : decode cX7_init 40 = .ok (.aload_n 0, 1) := by decide +kernel
theorem dX7_init_41 : decode cX7_init 41 = .ok (.sipush 520, 3) := by decide +kernel
theorem dX7_init_44 : decode cX7_init 44 = .ok (.newarray .long, 2) := by decide +kernel
theorem dX7_init_46 : decode cX7_init 46 = .ok (.putfield 25, 3) := by decide +kernel
theorem dX7_init_49 : decode cX7_init 49 = .ok (.aload_n 0, 1) := by decide +kernel
theorem dX7_init_50 : decode cX7_init 50 = .ok (.sipush 520, 3) := by decide +kernel
theorem dX7_init_53 : decode cX7_init 53 = .ok (.newarray .int, 2) := by decide +kernel
theorem dX7_init_55 : decode cX7_init 55 = .ok (.putfield 28, 3) := by decide +kernel
theorem dX7_init_58 : decode cX7_init 58 = .ok (.aload_n 0, 1) := by decide +kernel
theorem dX7_init_59 : decode cX7_init 59 = .ok (.bipush 20, 2) := by decide +kernel
theorem dX7_init_61 : decode cX7_init 61 = .ok (.newarray .long, 2) := by decide +kernel
theorem dX7_init_63 : decode cX7_init 63 = .ok (.putfield 31, 3) := by decide +kernel
theorem dX7_init_66 : decode cX7_init 66 = .ok (.aload_n 0, 1) := by decide +kernel
theorem dX7_init_67 : decode cX7_init 67 = .ok (.bipush 20, 2) := by decide +kernel
theorem dX7_init_69 : decode cX7_init 69 = .ok (.newarray .int, 2) := by decide +kernel
theorem dX7_init_71 : decode cX7_init 71 = .ok (.putfield 34, 3) := by decide +kernel
theorem dX7_init_74 : decode cX7_init 74 = .ok (.aload_n 0, 1) := by decide +kernel
theorem dX7_init_75 : decode cX7_init 75 = .ok (.new 37, 3) := by decide +kernel
theorem dX7_init_78 : decode cX7_init 78 = .ok (.dup, 1) := by decide +kernel
theorem dX7_init_79 : decode cX7_init 79 = .ok (.sipush 8000, 3) := by decide +kernel
theorem dX7_init_82 : decode cX7_init 82 = .ok (.invokespecial 39, 3) := by decide +kernel
theorem dX7_init_85 : decode cX7_init 85 = .ok (.putfield 42, 3) := by decide +kernel
theorem dX7_init_88 : decode cX7_init 88 = .ok (.return_, 1) := by decide +kernel
set_option maxHeartbeats 8000000 in
set_option maxRecDepth 100000 in
/-- Proc() -/
theorem c_Proc_init (l : Launch) (D : va_G) (x : Nat → ClassId) (h0 : Nat) (f0 : Nat → Value) (sz : Nat) (h0_0 : f0 0 = .int 0) (h0_1 : f0 1 = .null) (h0_2 : f0 2 = .int 0) (h0_3 : f0 3 = .int 0) (h0_4 : f0 4 = .long 0) (h0_5 : f0 5 = .int 0) (h0_6 : f0 6 = .int 0) (h0_7 : f0 7 = .int 0) (h0_8 : f0 8 = .int 0) (h0_9 : f0 9 = .int 0) (h0_10 : f0 10 = .int 0) (h0_11 : f0 11 = .long 0) : Met l yX5_init (.code yX5_init cX5_init 1 none :: zW) ({ frames := 2, cells := (4), slots := (2256), locals := 33 }) (va_Pc [.ref h0] (fun U => U.heap.size = sz ∧ va_P D vwCl [(h0, .inr (5, zf 14 f0))] U.heap ∧ zK x D U ∧ va_D (fun _ => True) [(h0, .inr (5, zf 14 f0))])) (va_Qv (fun u : (Nat → Value) × (Nat) × (Nat → Value) × (Nat) × (Nat → Value) => match u with | (c0, a1, c1, a2, c2) => c0 0 = .int 0 ∧ c0 1 = .null ∧ c0 2 = .int 0 ∧ c0 3 = .int 0 ∧ c0 4 = .long 0 ∧ c0 5 = .int 0 ∧ c0 6 = .int 0 ∧ c0 7 = .int 0 ∧ c0 8 = .int 0 ∧ c0 9 = .int 0 ∧ c0 10 = .int 0 ∧ c0 11 = .long 0 ∧ c0 12 = .ref a1 ∧ c0 13 = .ref a2 ∧ c1 1 = .int 0 ∧ c1 2 = .int 0 ∧ c2 1 = .int 0 ∧ c2 2 = .int 0) (fun u t => match u with | (c0, a1, c1, a2, c2) => zB D vwCl (va_A [(h0, .inr (5, zf 14 f0))] sz) [(h0, .inr (5, zf 14 c0)), (a1, .inr (6, zf 3 c1)), (a2, .inr (6, zf 3 c2))] t) (va_A [(h0, .inr (5, zf 14 f0))] sz)) (4) (2256) (va_A [(h0, .inr (5, zf 14 f0))] sz) := by
  refine Met.ofW (cc := cX5_init) (maxL := 1) (ret := none) (by decide) rfl ?_
  intro p e s m args below meth c s₁ B hml hv
  obtain ⟨rfl, hsz, hP, hZ, hD0⟩ := hv
  have hK := hZ.1
  have hx := B.exec
  have hb := B.bytes
  have hr := B.returns
  have hts := atoms_spec (ws := .code yX5_init cX5_init 1 none :: zW) B.pre
  have hown : s.vm.findClass RX5 = some m.cls := findClass_of_methodNamed B.named
  have hlocks := B.notSynchronized
  have hin : meth.name = "<init>" := (name_of_methodNamed B.named B.method).1
  subst hsz
  have hD := hD0.self (sz := s.heap.size)
  generalize hAe : va_A [(h0, .inr (5, zf 14 f0))] s.heap.size = A at hD ⊢
  have hA : ∀ q : Nat, s.heap.size ≤ q → A q := fun q h => by rw [← hAe]; exact Or.inr h
  have hS : va_S A s.heap s.heap [] := va_S.rf
  have hP : va_P D vwCl [(h0, .inr (5, zf 14 f0))] s.heap := hP
  have hl := lv_entry ([.ref h0]) (n := 1) (Nat.le_of_ble_eq_true rfl)
  rw [lg_entry_eq]
  generalize (lg_sl ([.ref h0]) ++ List.replicate (1 - (lg_sl ([.ref h0])).length) Slot.unset).toArray = ls at hl ⊢
  have hl : lv_has ls 1 [(0, .ref h0)] := hl
  refine lv_aload_n hx hb dX5_init_0 rfl (lv_at hl 0 rfl) ?_
  refine W.objInit hx hb hown (hts _ (zm_68 _)) (hts _ (zm_0 _)) (hts _ (zm_1 _)) rfl (by rw [hml]; exact hl.1) rfl dX5_init_1 (Nat.le_of_ble_eq_true rfl) (Nat.le_of_ble_eq_true rfl) ?_
  refine W.eq (g2 := F0 m 4 ls []) rfl ?_
  refine lv_aload_n hx hb dX5_init_4 rfl (lv_at hl 0 rfl) ?_
  have h_4 : 0 + 1 ≤ 4 := by omega
  have h_5 : 0 + 3 ≤ 2256 := by omega
  refine z_new (T := TX6) (N := 3) (ci := 6) hx hb hts (zi_6 _) hown (hts _ (zm_69 _)) (hts _ (zm_10 _)) (hts _ (zm_7 _)) hK hP hD hS hA rfl h_4 h_5 dX5_init_5 (fun q_1 H f_2 ed_3 hP hD hS => ?_)
  have hP : va_P D vwCl [(h0, .inr (5, zf 14 f0)), (q_1, .inr (6, zf 3 f_2))] H := hP
  have hD : va_D A [(h0, .inr (5, zf 14 f0)), (q_1, .inr (6, zf 3 f_2))] := hD
  refine W.widen (k := 1) (n := 3) (by omega) (by omega) ?_
  refine lv_dup hx hb dX5_init_8 rfl ?_
  refine lv_sipush (v := 250) hx hb dX5_init_9 (by decide) ?_
  have hPc := hP.sub (ws' := [(q_1, .inr (6, zf 3 f_2))]) [1] rfl
  have hDc := hD.sub (ws' := [(q_1, .inr (6, zf 3 f_2))]) [1] (by decide) rfl
  have hFc := va_free (wc := [(q_1, .inr (6, zf 3 f_2))]) hD hS hA [1] rfl
  have h_8 : 1 + 1 ≤ 4 ∧ 3 + 250 ≤ 2256 := by omega
  refine va_callv (va_runIN (As := [.int 250]) (rest := [.ref q_1, .ref h0]) ⟨hx, hb, hml, hown, hts⟩ (c_Row_init l D x 250 q_1 f_2 H.size (ed_3 1) (ed_3 2) (by decide)) ⟨va_cnB 1 hts (zgood (zm_6 _) rfl) rfl rfl rfl (hZ.2.1 _ zn_2) (hts _ (zm_7 _)) ⟨by decide, by decide, by decide +kernel⟩ ⟨Nat.le_of_ble_eq_true rfl, Nat.le_of_ble_eq_true rfl⟩, rfl, hts _ (zm_8 _)⟩ ⟨fun a U g mk q => by obtain ⟨q0, q1, qP, qK, qD⟩ := q; exact ⟨q0, q1, qP, ZK.calling (u := U) zN_ok rfl qK, qD⟩, fun U hU hW => ⟨rfl, by rw [hU], by rw [hU]; exact hPc, ZK.warm zN_ok hW hZ, hDc.weaken (fun _ _ _ _ => trivial)⟩⟩ rfl rfl hl.1 rfl (lv_room (Nat.le_of_ble_eq_true rfl)) dX5_init_12 h_8) hS (fun q _ h => hFc q h) hFc (fun u t H1 locs ht hvm hw_7 hB hz1 hk1 hS => ?_)
  obtain ⟨c0_6, a1_7⟩ := u
  obtain ⟨hP1, hD1⟩ := hB
  rw [ht] at hP1
  try dsimp only at hw_7
  obtain ⟨hP, hD⟩ := va_join (wr := [(h0, .inr (5, zf 14 f0))]) (w1 := [(q_1, .inr (6, zf 3 c0_6)), (a1_7, .inl (x 1, 250, .inl (fun _ => 0)))]) hP hD [1] [0] rfl rfl (by decide) (by decide) hk1 hFc hP1 hD1
  generalize H1 = H at hP hS ⊢
  have hP : va_P D vwCl [(h0, .inr (5, zf 14 f0)), (q_1, .inr (6, zf 3 c0_6)), (a1_7, .inl (x 1, 250, .inl (fun _ => 0)))] H := hP
  have hD : va_D A [(h0, .inr (5, zf 14 f0)), (q_1, .inr (6, zf 3 c0_6)), (a1_7, .inl (x 1, 250, .inl (fun _ => 0)))] := hD
  refine W.widen (k := 2) (n := 253) (by omega) (by omega) ?_
  refine z_putF (T := TX5) (N := 14) (ci := 5) hx hb hts (zi_5 _) hown hK hP hD hS 0 rfl rfl 12 (by decide) (hts _ (zm_70 _)) rfl rfl hin rfl rfl rfl dX5_init_15 (fun H locs f_9 ek_10 ok_11 hP hD hS => ?_)
  have hP : va_P D vwCl [(h0, .inr (5, zf 14 f_9)), (q_1, .inr (6, zf 3 c0_6)), (a1_7, .inl (x 1, 250, .inl (fun _ => 0)))] H := hP
  have hD : va_D A [(h0, .inr (5, zf 14 f_9)), (q_1, .inr (6, zf 3 c0_6)), (a1_7, .inl (x 1, 250, .inl (fun _ => 0)))] := hD
  refine lv_aload_n hx hb dX5_init_18 rfl (lv_at hl 0 rfl) ?_
  have h_15 : 2 + 1 ≤ 4 := by omega
  have h_16 : 253 + 3 ≤ 2256 := by omega
  refine z_new (T := TX6) (N := 3) (ci := 6) hx hb hts (zi_6 _) hown (hts _ (zm_69 _)) (hts _ (zm_10 _)) (hts _ (zm_7 _)) hK hP hD hS hA rfl h_15 h_16 dX5_init_19 (fun q_12 H f_13 ed_14 hP hD hS => ?_)
  have hP : va_P D vwCl [(h0, .inr (5, zf 14 f_9)), (q_1, .inr (6, zf 3 c0_6)), (a1_7, .inl (x 1, 250, .inl (fun _ => 0))), (q_12, .inr (6, zf 3 f_13))] H := hP
  have hD : va_D A [(h0, .inr (5, zf 14 f_9)), (q_1, .inr (6, zf 3 c0_6)), (a1_7, .inl (x 1, 250, .inl (fun _ => 0))), (q_12, .inr (6, zf 3 f_13))] := hD
  refine W.widen (k := 3) (n := 256) (by omega) (by omega) ?_
  refine lv_dup hx hb dX5_init_22 rfl ?_
  refine lv_sipush (v := 2000) hx hb dX5_init_23 (by decide) ?_
  have hPc := hP.sub (ws' := [(q_12, .inr (6, zf 3 f_13))]) [3] rfl
  have hDc := hD.sub (ws' := [(q_12, .inr (6, zf 3 f_13))]) [3] (by decide) rfl
  have hFc := va_free (wc := [(q_12, .inr (6, zf 3 f_13))]) hD hS hA [3] rfl
  have h_19 : 3 + 1 ≤ 4 ∧ 256 + 2000 ≤ 2256 := by omega
  refine va_callv (va_runIN (As := [.int 2000]) (rest := [.ref q_12, .ref h0]) ⟨hx, hb, hml, hown, hts⟩ (c_Row_init l D x 2000 q_12 f_13 H.size (ed_14 1) (ed_14 2) (by decide)) ⟨va_cnB 1 hts (zgood (zm_6 _) rfl) rfl rfl rfl (hZ.2.1 _ zn_2) (hts _ (zm_7 _)) ⟨by decide, by decide, by decide +kernel⟩ ⟨Nat.le_of_ble_eq_true rfl, Nat.le_of_ble_eq_true rfl⟩, rfl, hts _ (zm_8 _)⟩ ⟨fun a U g mk q => by obtain ⟨q0, q1, qP, qK, qD⟩ := q; exact ⟨q0, q1, qP, ZK.calling (u := U) zN_ok rfl qK, qD⟩, fun U hU hW => ⟨rfl, by rw [hU], by rw [hU]; exact hPc, ZK.warm zN_ok hW hZ, hDc.weaken (fun _ _ _ _ => trivial)⟩⟩ rfl rfl hl.1 rfl (lv_room (Nat.le_of_ble_eq_true rfl)) dX5_init_26 h_19) hS (fun q _ h => hFc q h) hFc (fun u t H1 locs ht hvm hw_18 hB hz1 hk1 hS => ?_)
  obtain ⟨c0_17, a1_18⟩ := u
  obtain ⟨hP1, hD1⟩ := hB
  rw [ht] at hP1
  try dsimp only at hw_18
  obtain ⟨hP, hD⟩ := va_join (wr := [(h0, .inr (5, zf 14 f_9)), (q_1, .inr (6, zf 3 c0_6)), (a1_7, .inl (x 1, 250, .inl (fun _ => 0)))]) (w1 := [(q_12, .inr (6, zf 3 c0_17)), (a1_18, .inl (x 1, 2000, .inl (fun _ => 0)))]) hP hD [3] [0, 1, 2] rfl rfl (by decide) (by decide) hk1 hFc hP1 hD1
  generalize H1 = H at hP hS ⊢
  have hP : va_P D vwCl [(h0, .inr (5, zf 14 f_9)), (q_1, .inr (6, zf 3 c0_6)), (a1_7, .inl (x 1, 250, .inl (fun _ => 0))), (q_12, .inr (6, zf 3 c0_17)), (a1_18, .inl (x 1, 2000, .inl (fun _ => 0)))] H := hP
  have hD : va_D A [(h0, .inr (5, zf 14 f_9)), (q_1, .inr (6, zf 3 c0_6)), (a1_7, .inl (x 1, 250, .inl (fun _ => 0))), (q_12, .inr (6, zf 3 c0_17)), (a1_18, .inl (x 1, 2000, .inl (fun _ => 0)))] := hD
  refine W.widen (k := 4) (n := 2256) (by omega) (by omega) ?_
  refine z_putF (T := TX5) (N := 14) (ci := 5) hx hb hts (zi_5 _) hown hK hP hD hS 0 rfl rfl 13 (by decide) (hts _ (zm_72 _)) rfl rfl hin rfl rfl rfl dX5_init_29 (fun H locs f_20 ek_21 ok_22 hP hD hS => ?_)
  have hP : va_P D vwCl [(h0, .inr (5, zf 14 f_20)), (q_1, .inr (6, zf 3 c0_6)), (a1_7, .inl (x 1, 250, .inl (fun _ => 0))), (q_12, .inr (6, zf 3 c0_17)), (a1_18, .inl (x 1, 2000, .inl (fun _ => 0)))] H := hP
  have hD : va_D A [(h0, .inr (5, zf 14 f_20)), (q_1, .inr (6, zf 3 c0_6)), (a1_7, .inl (x 1, 250, .inl (fun _ => 0))), (q_12, .inr (6, zf 3 c0_17)), (a1_18, .inl (x 1, 2000, .inl (fun _ => 0)))] := hD
  have hP9 := hP.sub (ws' := [(h0, .inr (5, zf 14 f_20)), (q_1, .inr (6, zf 3 c0_6)), (q_12, .inr (6, zf 3 c0_17))]) [0, 1, 3] rfl
  have hD9 := hD.sub (ws' := [(h0, .inr (5, zf 14 f_20)), (q_1, .inr (6, zf 3 c0_6)), (q_12, .inr (6, zf 3 c0_17))]) [0, 1, 3] (by decide) rfl
  exact W.vret hx hb hr (fun t ht hW => ⟨⟨(f_20, q_1, c0_6, q_12, c0_17), rfl, ⟨((ok_22 0 (by decide)).trans ((ok_11 0 (by decide)).trans h0_0)), ((ok_22 1 (by decide)).trans ((ok_11 1 (by decide)).trans h0_1)), ((ok_22 2 (by decide)).trans ((ok_11 2 (by decide)).trans h0_2)), ((ok_22 3 (by decide)).trans ((ok_11 3 (by decide)).trans h0_3)), ((ok_22 4 (by decide)).trans ((ok_11 4 (by decide)).trans h0_4)), ((ok_22 5 (by decide)).trans ((ok_11 5 (by decide)).trans h0_5)), ((ok_22 6 (by decide)).trans ((ok_11 6 (by decide)).trans h0_6)), ((ok_22 7 (by decide)).trans ((ok_11 7 (by decide)).trans h0_7)), ((ok_22 8 (by decide)).trans ((ok_11 8 (by decide)).trans h0_8)), ((ok_22 9 (by decide)).trans ((ok_11 9 (by decide)).trans h0_9)), ((ok_22 10 (by decide)).trans ((ok_11 10 (by decide)).trans h0_10)), ((ok_22 11 (by decide)).trans ((ok_11 11 (by decide)).trans h0_11)), ((ok_22 12 (by decide)).trans ek_10), ek_21, hw_7.2.1, hw_7.2.2, hw_18.2.1, hw_18.2.2⟩, ⟨by rw [ht]; exact hP9, hD9⟩⟩, hS.F ht⟩) hS.2.2 dX5_init_32

set_option maxHeartbeats 8000000 in
set_option maxRecDepth 100000 in
/-- the loop of Proc.many(24) -/
theorem lp_Proc_many {p : Program} {l : Launch} {e : Env} {R : Room} {s : State} {m : MethodId} {args : Array Value} {below : List Frame} {meth : Method} {c : Code} {Q : State → Prop} {A : Nat → Prop} {D : va_G} {x : Nat → ClassId} (q : Nat) (k0 : Nat) (k1 : Nat) (k2 : Nat) (z0 : Nat → Value) (z1 : Nat → Value) (z2 : Nat → Value) (hx : p.tables.exec = Jvm.exec) (hb : c.code = cX5_many) (hml : c.maxLocals = 3) (hts : ∀ w ∈ (.code yX5_many cX5_many 3 (some (.array (.object "MumpsHouse$Proc"))) :: zW : List Cond), w.before args s = true) (hown : s.vm.findClass RX5 = some m.cls) (hZ : zK x D s) (hA : ∀ q, s.heap.size ≤ q → A q) (hc : 1 + 24 * 5 ≤ R.cells) (hsl : 24 + 24 * 2270 ≤ R.slots) (hR_c_Proc_init : 2 + 1 ≤ R.frames ∧ 8 + (1 + 11) + 33 ≤ R.locals)
    (kk : ∀ (g : Nat → Option Nat) (H : Heap) (locs : List Loc) (ls : Array Slot), g 0 = some k0 → va_P D vwCl [(q, .inl (x 9, 24, .inr (.inr (.inr (.inr g))))), (k0, .inr (5, zf 14 z0)), (k1, .inr (6, zf 3 z1)), (k2, .inr (6, zf 3 z2))] H → va_D A [(q, .inl (x 9, 24, .inr (.inr (.inr (.inr g))))), (k0, .inr (5, zf 14 z0)), (k1, .inr (6, zf 3 z1)), (k2, .inr (6, zf 3 z2))] → va_S A s.heap H locs → lv_has ls 3 [(2, .int (nI 24)), (1, .ref q), (0, .int 24)] → W p l e R s m args below meth c H locs (1 + 24 * 5) (24 + 24 * 2270) Q (F0 m 29 ls [])) :
    ∀ (k i : Nat), i + k = 24 → ∀ (g : Nat → Option Nat) (H : Heap) (locs : List Loc) (ls : Array Slot), 1 ≤ i → g 0 = some k0 → va_P D vwCl [(q, .inl (x 9, 24, .inr (.inr (.inr (.inr g))))), (k0, .inr (5, zf 14 z0)), (k1, .inr (6, zf 3 z1)), (k2, .inr (6, zf 3 z2))] H → va_D A [(q, .inl (x 9, 24, .inr (.inr (.inr (.inr g))))), (k0, .inr (5, zf 14 z0)), (k1, .inr (6, zf 3 z1)), (k2, .inr (6, zf 3 z2))] → va_S A s.heap H locs → lv_has ls 3 [(2, .int (nI i)), (1, .ref q), (0, .int 24)] → W p l e R s m args below meth c H locs (1 + i * 5) (24 + i * 2270) Q (F0 m 7 ls []) := by
  intro k
  induction k with
  | zero =>
    intro i hi g H locs ls h1 hg hP hD hS hl
    obtain rfl : i = 24 := by omega
    have hK := hZ.1
    refine lv_iload_n hx hb dX5_many_7 rfl (lv_at hl 0 rfl) ?_
    refine lv_aload_n hx hb dX5_many_8 rfl (lv_at hl 1 rfl) ?_
    refine va_alen (v := 24) hx hb hK hP 0 9 rfl rfl rfl dX5_many_9 ?_
    refine lv_icmp_ge (tgt := 29) hx hb dX5_many_10 (by decide) (fun _ => ?_) (fun c9 => absurd ((by decide : (24 : Int32) ≤ nI 24)) c9)
    exact kk g H locs ls hg hP hD hS hl
  | succ k ih =>
    intro i hi g H locs ls h1 hg hP hD hS hl
    have hK := hZ.1
    have hlt : i < 24 := by omega
    refine lv_iload_n hx hb dX5_many_7 rfl (lv_at hl 0 rfl) ?_
    refine lv_aload_n hx hb dX5_many_8 rfl (lv_at hl 1 rfl) ?_
    refine va_alen (v := 24) hx hb hK hP 0 9 rfl rfl rfl dX5_many_9 ?_
    refine lv_icmp_ge (tgt := 29) hx hb dX5_many_10 (by decide) (fun c9 => absurd c9 ((show ¬ nI 24 ≤ nI i from nI_ge hlt (by decide)))) (fun _ => ?_)
    refine lv_aload_n hx hb dX5_many_13 rfl (lv_at hl 1 rfl) ?_
    refine lv_iload_n hx hb dX5_many_14 rfl (lv_at hl 0 rfl) ?_
    have h_4 : 1 + i * 5 + 1 ≤ R.cells := by omega
    have h_5 : 24 + i * 2270 + 14 ≤ R.slots := by omega
    refine z_new (T := TX5) (N := 14) (ci := 5) hx hb hts (zi_5 _) hown (hts _ (zm_75 _)) (hts _ (zm_71 _)) (hts _ (zm_66 _)) hK hP hD hS hA rfl h_4 h_5 dX5_many_15 (fun q_1 H f_2 ed_3 hP hD hS => ?_)
    have hP : va_P D vwCl [(q, .inl (x 9, 24, .inr (.inr (.inr (.inr g))))), (k0, .inr (5, zf 14 z0)), (k1, .inr (6, zf 3 z1)), (k2, .inr (6, zf 3 z2)), (q_1, .inr (5, zf 14 f_2))] H := hP
    have hD : va_D A [(q, .inl (x 9, 24, .inr (.inr (.inr (.inr g))))), (k0, .inr (5, zf 14 z0)), (k1, .inr (6, zf 3 z1)), (k2, .inr (6, zf 3 z2)), (q_1, .inr (5, zf 14 f_2))] := hD
    refine W.widen (k := 1 + i * 5 + 1) (n := 14 + 24 + i * 2270) (by omega) (by omega) ?_
    refine lv_dup hx hb dX5_many_18 rfl ?_
    have hPc := hP.sub (ws' := [(q_1, .inr (5, zf 14 f_2))]) [4] rfl
    have hDc := hD.sub (ws' := [(q_1, .inr (5, zf 14 f_2))]) [4] (by decide) rfl
    have hFc := va_free (wc := [(q_1, .inr (5, zf 14 f_2))]) hD hS hA [4] rfl
    have h_11 : 1 + i * 5 + 1 + 4 ≤ R.cells ∧ 14 + 24 + i * 2270 + 2256 ≤ R.slots := by omega
    refine va_callv (va_runI (As := []) (rest := [.ref q_1, .int (nI i), .ref q]) ⟨hx, hb, hml, hown, hts⟩ (c_Proc_init l D x q_1 f_2 H.size (ed_3 0) (ed_3 1) (ed_3 2) (ed_3 3) (ed_3 4) (ed_3 5) (ed_3 6) (ed_3 7) (ed_3 8) (ed_3 9) (ed_3 10) (ed_3 11)) ⟨callB_of 0 hts (zgood (zm_65 _) rfl) rfl rfl rfl (hts _ (zm_66 _)) (hts _ (zm_76 _)) ⟨by decide, by decide, by decide +kernel⟩ hR_c_Proc_init, rfl, hts _ (zm_67 _)⟩ ⟨fun a U g mk q => by obtain ⟨q0, q1, qP, qK, qD⟩ := q; exact ⟨q0, q1, qP, ZK.calling (u := U) zN_ok rfl qK, qD⟩, fun U hU hW => ⟨rfl, by rw [hU], by rw [hU]; exact hPc, ZK.warm zN_ok hW hZ, hDc.weaken (fun _ _ _ _ => trivial)⟩⟩ rfl rfl hl.1 rfl (lv_room (Nat.le_of_ble_eq_true rfl)) dX5_many_19 h_11) hS (fun q _ h => hFc q h) hFc (fun u t H1 locs ht hvm hw_10 hB hz1 hk1 hS => ?_)
    obtain ⟨c0_6, a1_7, c1_8, a2_9, c2_10⟩ := u
    obtain ⟨hP1, hD1⟩ := hB
    rw [ht] at hP1
    try dsimp only at hw_10
    obtain ⟨hP, hD⟩ := va_join (wr := [(q, .inl (x 9, 24, .inr (.inr (.inr (.inr g))))), (k0, .inr (5, zf 14 z0)), (k1, .inr (6, zf 3 z1)), (k2, .inr (6, zf 3 z2))]) (w1 := [(q_1, .inr (5, zf 14 c0_6)), (a1_7, .inr (6, zf 3 c1_8)), (a2_9, .inr (6, zf 3 c2_10))]) hP hD [4] [0, 1, 2, 3] rfl rfl (by decide) (by decide) hk1 hFc hP1 hD1
    generalize H1 = H at hP hS ⊢
    have hP : va_P D vwCl [(q, .inl (x 9, 24, .inr (.inr (.inr (.inr g))))), (k0, .inr (5, zf 14 z0)), (k1, .inr (6, zf 3 z1)), (k2, .inr (6, zf 3 z2)), (q_1, .inr (5, zf 14 c0_6)), (a1_7, .inr (6, zf 3 c1_8)), (a2_9, .inr (6, zf 3 c2_10))] H := hP
    have hD : va_D A [(q, .inl (x 9, 24, .inr (.inr (.inr (.inr g))))), (k0, .inr (5, zf 14 z0)), (k1, .inr (6, zf 3 z1)), (k2, .inr (6, zf 3 z2)), (q_1, .inr (5, zf 14 c0_6)), (a1_7, .inr (6, zf 3 c1_8)), (a2_9, .inr (6, zf 3 c2_10))] := hD
    refine W.widen (k := 1 + i * 5 + 5) (n := 2270 + 24 + i * 2270) (by omega) (by omega) ?_
    refine z_astq hx hb hK hP hD hS 0 9 4 5 rfl rfl rfl rfl (vp_in_nI hlt (by decide)) dX5_many_22 (fun H locs g_12 ek_13 ok_14 hP hD hS => ?_)
    have hP : va_P D vwCl [(q, .inl (x 9, 24, .inr (.inr (.inr (.inr g_12))))), (k0, .inr (5, zf 14 z0)), (k1, .inr (6, zf 3 z1)), (k2, .inr (6, zf 3 z2)), (q_1, .inr (5, zf 14 c0_6)), (a1_7, .inr (6, zf 3 c1_8)), (a2_9, .inr (6, zf 3 c2_10))] H := hP
    have hD : va_D A [(q, .inl (x 9, 24, .inr (.inr (.inr (.inr g_12))))), (k0, .inr (5, zf 14 z0)), (k1, .inr (6, zf 3 z1)), (k2, .inr (6, zf 3 z2)), (q_1, .inr (5, zf 14 c0_6)), (a1_7, .inr (6, zf 3 c1_8)), (a2_9, .inr (6, zf 3 c2_10))] := hD
    refine lv_iinc (v := nI (i + 1)) (lv' := [(2, .int (nI (i + 1))), (1, .ref q), (0, .int 24)]) hx hb dX5_many_23 hl (k := 0) rfl (nI_1 i) (by decide) rfl (fun ls hl => ?_)
    refine lv_goto (tgt := 7) hx hb dX5_many_26 (by decide) ?_
    have hP := hP.sub (ws' := [(q, .inl (x 9, 24, .inr (.inr (.inr (.inr g_12))))), (k0, .inr (5, zf 14 z0)), (k1, .inr (6, zf 3 z1)), (k2, .inr (6, zf 3 z2))]) [0, 1, 2, 3] rfl
    have hD := hD.sub (ws' := [(q, .inl (x 9, 24, .inr (.inr (.inr (.inr g_12))))), (k0, .inr (5, zf 14 z0)), (k1, .inr (6, zf 3 z1)), (k2, .inr (6, zf 3 z2))]) [0, 1, 2, 3] (by decide) rfl
    refine W.widen (k := 1 + (i + 1) * 5) (n := 24 + (i + 1) * 2270) (by omega) (by omega) ?_
    exact ih (i + 1) (by omega) _ H locs ls (by omega) ((ok_14 0 (by rw [nI_clamp (by omega)]; omega)).trans hg) hP hD hS (lv_sub hl [0, 1, 2] rfl)

set_option maxHeartbeats 8000000 in
set_option maxRecDepth 100000 in
/-- Proc.many(24) -/
theorem c_Proc_many (l : Launch) (D : va_G) (x : Nat → ClassId)  (sz : Nat)  : Met l yX5_many (.code yX5_many cX5_many 3 (some (.array (.object "MumpsHouse$Proc"))) :: zW) ({ frames := 3, cells := (121), slots := (54504), locals := 53 }) (va_Pc [.int 24] (fun U => U.heap.size = sz ∧ va_P D vwCl [] U.heap ∧ zK x D U ∧ va_D (fun _ => True) [])) (va_Qr (fun u : (Nat → Option Nat) × (Nat) × (Nat → Value) × (Nat) × (Nat → Value) × (Nat) × (Nat → Value) => match u with | (c0, a1, c1, a2, c2, a3, c3) => c0 0 = some a1 ∧ c1 0 = .int 0 ∧ c1 1 = .null ∧ c1 2 = .int 0 ∧ c1 3 = .int 0 ∧ c1 4 = .long 0 ∧ c1 5 = .int 0 ∧ c1 6 = .int 0 ∧ c1 7 = .int 0 ∧ c1 8 = .int 0 ∧ c1 9 = .int 0 ∧ c1 10 = .int 0 ∧ c1 11 = .long 0 ∧ c1 12 = .ref a2 ∧ c1 13 = .ref a3 ∧ c2 1 = .int 0 ∧ c2 2 = .int 0 ∧ c3 1 = .int 0 ∧ c3 2 = .int 0) (fun u ra t => match u with | (c0, a1, c1, a2, c2, a3, c3) => zB D vwCl (va_A [] sz) [(ra, .inl (x 9, 24, .inr (.inr (.inr (.inr c0))))), (a1, .inr (5, zf 14 c1)), (a2, .inr (6, zf 3 c2)), (a3, .inr (6, zf 3 c3))] t) (va_A [] sz)) (121) (54504) (va_A [] sz) := by
  refine Met.ofW (cc := cX5_many) (maxL := 3) (ret := (some (.array (.object "MumpsHouse$Proc")))) (by decide) rfl ?_
  intro p e s m args below meth c s₁ B hml hv
  obtain ⟨rfl, hsz, hP, hZ, hD0⟩ := hv
  have hK := hZ.1
  have hx := B.exec
  have hb := B.bytes
  have hr := B.returns
  have hts := atoms_spec (ws := .code yX5_many cX5_many 3 (some (.array (.object "MumpsHouse$Proc"))) :: zW) B.pre
  have hown : s.vm.findClass RX5 = some m.cls := findClass_of_methodNamed B.named
  have hlocks := B.notSynchronized
  subst hsz
  have hD := hD0.self (sz := s.heap.size)
  generalize hAe : va_A [] s.heap.size = A at hD ⊢
  have hA : ∀ q : Nat, s.heap.size ≤ q → A q := fun q h => by rw [← hAe]; exact Or.inr h
  have hS : va_S A s.heap s.heap [] := va_S.rf
  have hP : va_P D vwCl [] s.heap := hP
  have hl := lv_entry ([.int 24]) (n := 3) (Nat.le_of_ble_eq_true rfl)
  rw [lg_entry_eq]
  generalize (lg_sl ([.int 24]) ++ List.replicate (3 - (lg_sl ([.int 24])).length) Slot.unset).toArray = ls at hl ⊢
  have hl : lv_has ls 3 [(0, .int 24)] := hl
  refine lv_iload_n hx hb dX5_many_0 rfl (lv_at hl 0 rfl) ?_
  have h_2 : 0 + 1 ≤ 121 := by omega
  have h_3 : 0 + 24 ≤ 54504 := by omega
  refine z_newq (C := RX5) hx hb hown (hts _ (zm_75 _)) (hZ.2.2 _ (List.mem_of_getElem? (i := 5) rfl)) hK 9 rfl hP hD hS hA (by decide) (by decide) (by decide) h_2 h_3 dX5_many_1 (fun q_1 H hP hD hS => ?_)
  have hP : va_P D vwCl [(q_1, .inl (x 9, 24, .inr (.inr (.inr (.inr (fun _ => none))))))] H := hP
  have hD : va_D A [(q_1, .inl (x 9, 24, .inr (.inr (.inr (.inr (fun _ => none))))))] := hD
  refine W.widen (k := 1) (n := 24) (by omega) (by omega) ?_
  refine lv_astore_n (lv' := [(1, .ref q_1), (0, .int 24)]) hx hb dX5_many_4 rfl hl (by decide) rfl (fun ls hl => ?_)
  refine lv_iconst (v := 0) hx hb dX5_many_5 (by decide) ?_
  refine lv_istore_n (lv' := [(2, .int 0), (1, .ref q_1), (0, .int 24)]) hx hb dX5_many_6 rfl hl (by decide) rfl (fun ls hl => ?_)
  refine lv_iload_n hx hb dX5_many_7 rfl (lv_at hl 0 rfl) ?_
  refine lv_aload_n hx hb dX5_many_8 rfl (lv_at hl 1 rfl) ?_
  refine va_alen (v := 24) hx hb hK hP 0 9 rfl rfl rfl dX5_many_9 ?_
  refine lv_icmp_ge (tgt := 29) hx hb dX5_many_10 (by decide) (fun c9 => absurd c9 (by decide)) (fun _ => ?_)
  refine lv_aload_n hx hb dX5_many_13 rfl (lv_at hl 1 rfl) ?_
  refine lv_iload_n hx hb dX5_many_14 rfl (lv_at hl 0 rfl) ?_
  have h_7 : 1 + 1 ≤ 121 := by omega
  have h_8 : 24 + 14 ≤ 54504 := by omega
  refine z_new (T := TX5) (N := 14) (ci := 5) hx hb hts (zi_5 _) hown (hts _ (zm_75 _)) (hts _ (zm_71 _)) (hts _ (zm_66 _)) hK hP hD hS hA rfl h_7 h_8 dX5_many_15 (fun q_4 H f_5 ed_6 hP hD hS => ?_)
  have hP : va_P D vwCl [(q_1, .inl (x 9, 24, .inr (.inr (.inr (.inr (fun _ => none)))))), (q_4, .inr (5, zf 14 f_5))] H := hP
  have hD : va_D A [(q_1, .inl (x 9, 24, .inr (.inr (.inr (.inr (fun _ => none)))))), (q_4, .inr (5, zf 14 f_5))] := hD
  refine W.widen (k := 2) (n := 38) (by omega) (by omega) ?_
  refine lv_dup hx hb dX5_many_18 rfl ?_
  have hPc := hP.sub (ws' := [(q_4, .inr (5, zf 14 f_5))]) [1] rfl
  have hDc := hD.sub (ws' := [(q_4, .inr (5, zf 14 f_5))]) [1] (by decide) rfl
  have hFc := va_free (wc := [(q_4, .inr (5, zf 14 f_5))]) hD hS hA [1] rfl
  have h_14 : 2 + 4 ≤ 121 ∧ 38 + 2256 ≤ 54504 := by omega
  refine va_callv (va_runI (As := []) (rest := [.ref q_4, .int 0, .ref q_1]) ⟨hx, hb, hml, hown, hts⟩ (c_Proc_init l D x q_4 f_5 H.size (ed_6 0) (ed_6 1) (ed_6 2) (ed_6 3) (ed_6 4) (ed_6 5) (ed_6 6) (ed_6 7) (ed_6 8) (ed_6 9) (ed_6 10) (ed_6 11)) ⟨callB_of 0 hts (zgood (zm_65 _) rfl) rfl rfl rfl (hts _ (zm_66 _)) (hts _ (zm_76 _)) ⟨by decide, by decide, by decide +kernel⟩ ⟨Nat.le_of_ble_eq_true rfl, Nat.le_of_ble_eq_true rfl⟩, rfl, hts _ (zm_67 _)⟩ ⟨fun a U g mk q => by obtain ⟨q0, q1, qP, qK, qD⟩ := q; exact ⟨q0, q1, qP, ZK.calling (u := U) zN_ok rfl qK, qD⟩, fun U hU hW => ⟨rfl, by rw [hU], by rw [hU]; exact hPc, ZK.warm zN_ok hW hZ, hDc.weaken (fun _ _ _ _ => trivial)⟩⟩ rfl rfl hl.1 rfl (lv_room (Nat.le_of_ble_eq_true rfl)) dX5_many_19 h_14) hS (fun q _ h => hFc q h) hFc (fun u t H1 locs ht hvm hw_13 hB hz1 hk1 hS => ?_)
  obtain ⟨c0_9, a1_10, c1_11, a2_12, c2_13⟩ := u
  obtain ⟨hP1, hD1⟩ := hB
  rw [ht] at hP1
  try dsimp only at hw_13
  obtain ⟨hP, hD⟩ := va_join (wr := [(q_1, .inl (x 9, 24, .inr (.inr (.inr (.inr (fun _ => none))))))]) (w1 := [(q_4, .inr (5, zf 14 c0_9)), (a1_10, .inr (6, zf 3 c1_11)), (a2_12, .inr (6, zf 3 c2_13))]) hP hD [1] [0] rfl rfl (by decide) (by decide) hk1 hFc hP1 hD1
  generalize H1 = H at hP hS ⊢
  have hP : va_P D vwCl [(q_1, .inl (x 9, 24, .inr (.inr (.inr (.inr (fun _ => none)))))), (q_4, .inr (5, zf 14 c0_9)), (a1_10, .inr (6, zf 3 c1_11)), (a2_12, .inr (6, zf 3 c2_13))] H := hP
  have hD : va_D A [(q_1, .inl (x 9, 24, .inr (.inr (.inr (.inr (fun _ => none)))))), (q_4, .inr (5, zf 14 c0_9)), (a1_10, .inr (6, zf 3 c1_11)), (a2_12, .inr (6, zf 3 c2_13))] := hD
  refine W.widen (k := 6) (n := 2294) (by omega) (by omega) ?_
  refine z_astq hx hb hK hP hD hS 0 9 1 5 rfl rfl rfl rfl (z_in (by decide)) dX5_many_22 (fun H locs g_15 ek_16 ok_17 hP hD hS => ?_)
  have hP : va_P D vwCl [(q_1, .inl (x 9, 24, .inr (.inr (.inr (.inr g_15))))), (q_4, .inr (5, zf 14 c0_9)), (a1_10, .inr (6, zf 3 c1_11)), (a2_12, .inr (6, zf 3 c2_13))] H := hP
  have hD : va_D A [(q_1, .inl (x 9, 24, .inr (.inr (.inr (.inr g_15))))), (q_4, .inr (5, zf 14 c0_9)), (a1_10, .inr (6, zf 3 c1_11)), (a2_12, .inr (6, zf 3 c2_13))] := hD
  refine lv_iinc (v := 1) (lv' := [(2, .int 1), (1, .ref q_1), (0, .int 24)]) hx hb dX5_many_23 hl (k := 0) rfl (by decide) (by decide) rfl (fun ls hl => ?_)
  refine lv_goto (tgt := 7) hx hb dX5_many_26 (by decide) ?_
  have hP := hP.sub (ws' := [(q_1, .inl (x 9, 24, .inr (.inr (.inr (.inr g_15))))), (q_4, .inr (5, zf 14 c0_9)), (a1_10, .inr (6, zf 3 c1_11)), (a2_12, .inr (6, zf 3 c2_13))]) [0, 1, 2, 3] rfl
  have hD := hD.sub (ws' := [(q_1, .inl (x 9, 24, .inr (.inr (.inr (.inr g_15))))), (q_4, .inr (5, zf 14 c0_9)), (a1_10, .inr (6, zf 3 c1_11)), (a2_12, .inr (6, zf 3 c2_13))]) [0, 1, 2, 3] (by decide) rfl
  refine W.widen (k := 1 + 1 * 5) (n := 24 + 1 * 2270) (by omega) (by omega) ?_
  refine lp_Proc_many (Q := MQ below _ _ s _ _ _) q_1 q_4 a1_10 a2_12 c0_9 c1_11 c2_13 hx hb hml hts hown hZ hA (by exact Nat.le_refl _) (by exact Nat.le_refl _) (by exact ⟨Nat.le_of_ble_eq_true rfl, Nat.le_of_ble_eq_true rfl⟩) ?_ 23 1 (by omega) _ H _ ls (by omega) ek_16 hP hD hS (lv_sub hl [0, 1, 2] rfl)
  intro g H locs ls hg hP hD hS hl
  refine lv_aload_n hx hb dX5_many_29 rfl (lv_at hl 1 rfl) ?_
  have hP9 := hP.sub (ws' := [(q_1, .inl (x 9, 24, .inr (.inr (.inr (.inr g))))), (q_4, .inr (5, zf 14 c0_9)), (a1_10, .inr (6, zf 3 c1_11)), (a2_12, .inr (6, zf 3 c2_13))]) [0, 1, 2, 3] rfl
  have hD9 := hD.sub (ws' := [(q_1, .inl (x 9, 24, .inr (.inr (.inr (.inr g))))), (q_4, .inr (5, zf 14 c0_9)), (a1_10, .inr (6, zf 3 c1_11)), (a2_12, .inr (6, zf 3 c2_13))]) [0, 1, 2, 3] (by decide) rfl
  exact W.aret (v := .ref q_1) hx hb hr (Or.inr ⟨_, rfl⟩) (Or.inr ⟨_, rfl⟩) (fun t ht hW => ⟨⟨(g, q_4, c0_9, a1_10, c1_11, a2_12, c2_13), _, rfl, ⟨hg, hw_13.1, hw_13.2.1, hw_13.2.2.1, hw_13.2.2.2.1, hw_13.2.2.2.2.1, hw_13.2.2.2.2.2.1, hw_13.2.2.2.2.2.2.1, hw_13.2.2.2.2.2.2.2.1, hw_13.2.2.2.2.2.2.2.2.1, hw_13.2.2.2.2.2.2.2.2.2.1, hw_13.2.2.2.2.2.2.2.2.2.2.1, hw_13.2.2.2.2.2.2.2.2.2.2.2.1, hw_13.2.2.2.2.2.2.2.2.2.2.2.2.1, hw_13.2.2.2.2.2.2.2.2.2.2.2.2.2.1, hw_13.2.2.2.2.2.2.2.2.2.2.2.2.2.2.1, hw_13.2.2.2.2.2.2.2.2.2.2.2.2.2.2.2.1, hw_13.2.2.2.2.2.2.2.2.2.2.2.2.2.2.2.2.1, hw_13.2.2.2.2.2.2.2.2.2.2.2.2.2.2.2.2.2⟩, ⟨by rw [ht]; exact hP9, hD9⟩⟩, hS.F ht⟩) hS.2.2 dX5_many_30

set_option maxHeartbeats 8000000 in
set_option maxRecDepth 100000 in
/-- Scope() -/
theorem c_Scope_init (l : Launch) (D : va_G) (x : Nat → ClassId) (h0 : Nat) (f0 : Nat → Value) (sz : Nat) (h0_2 : f0 2 = .int 0) (h0_5 : f0 5 = .int 0) (h0_8 : f0 8 = .int 0) (h0_11 : f0 11 = .int 0) (h0_13 : f0 13 = .int 0) (h0_14 : f0 14 = .int 0) (h0_15 : f0 15 = .int 0) (h0_16 : f0 16 = .int 0) (h0_17 : f0 17 = .null) (h0_18 : f0 18 = .int 0) (h0_19 : f0 19 = .int 0) : Met l yX7_init (.code yX7_init cX7_init 1 none :: zW) ({ frames := 2, cells := (10), slots := (12683), locals := 33 }) (va_Pc [.ref h0] (fun U => U.heap.size = sz ∧ va_P D vwCl [(h0, .inr (7, zf 20 f0))] U.heap ∧ zK x D U ∧ va_D (fun _ => True) [(h0, .inr (7, zf 20 f0))])) (va_Qv (fun u : (Nat → Value) × (Nat) × (Nat → Value) => match u with | (c0, a1, c1) => c0 2 = .int 0 ∧ c0 5 = .int 0 ∧ c0 8 = .int 0 ∧ c0 11 = .int 0 ∧ c0 12 = .ref a1 ∧ c0 13 = .int 0 ∧ c0 14 = .int 0 ∧ c0 15 = .int 0 ∧ c0 16 = .int 0 ∧ c0 17 = .null ∧ c0 18 = .int 0 ∧ c0 19 = .int 0 ∧ c1 1 = .int 0 ∧ c1 2 = .int 0) (fun u t => match u with | (c0, a1, c1) => zB D vwCl (va_A [(h0, .inr (7, zf 20 f0))] sz) [(h0, .inr (7, zf 20 c0)), (a1, .inr (6, zf 3 c1))] t) (va_A [(h0, .inr (7, zf 20 f0))] sz)) (10) (12683) (va_A [(h0, .inr (7, zf 20 f0))] sz) := by
  refine Met.ofW (cc := cX7_init) (maxL := 1) (ret := none) (by decide) rfl ?_
  intro p e s m args below meth c s₁ B hml hv
  obtain ⟨rfl, hsz, hP, hZ, hD0⟩ := hv
  have hK := hZ.1
  have hx := B.exec
  have hb := B.bytes
  have hr := B.returns
  have hts := atoms_spec (ws := .code yX7_init cX7_init 1 none :: zW) B.pre
  have hown : s.vm.findClass RX7 = some m.cls := findClass_of_methodNamed B.named
  have hlocks := B.notSynchronized
  have hin : meth.name = "<init>" := (name_of_methodNamed B.named B.method).1
  subst hsz
  have hD := hD0.self (sz := s.heap.size)
  generalize hAe : va_A [(h0, .inr (7, zf 20 f0))] s.heap.size = A at hD ⊢
  have hA : ∀ q : Nat, s.heap.size ≤ q → A q := fun q h => by rw [← hAe]; exact Or.inr h
  have hS : va_S A s.heap s.heap [] := va_S.rf
  have hP : va_P D vwCl [(h0, .inr (7, zf 20 f0))] s.heap := hP
  have hl := lv_entry ([.ref h0]) (n := 1) (Nat.le_of_ble_eq_true rfl)
  rw [lg_entry_eq]
  generalize (lg_sl ([.ref h0]) ++ List.replicate (1 - (lg_sl ([.ref h0])).length) Slot.unset).toArray = ls at hl ⊢
  have hl : lv_has ls 1 [(0, .ref h0)] := hl
  refine lv_aload_n hx hb dX7_init_0 rfl (lv_at hl 0 rfl) ?_
  refine W.objInit hx hb hown (hts _ (zm_80 _)) (hts _ (zm_0 _)) (hts _ (zm_1 _)) rfl (by rw [hml]; exact hl.1) rfl dX7_init_1 (Nat.le_of_ble_eq_true rfl) (Nat.le_of_ble_eq_true rfl) ?_
  refine W.eq (g2 := F0 m 4 ls []) rfl ?_
  refine lv_aload_n hx hb dX7_init_4 rfl (lv_at hl 0 rfl) ?_
  refine lv_sipush (v := 1500) hx hb dX7_init_5 (by decide) ?_
  have h_3 : 0 + 1 ≤ 10 := by omega
  have h_4 : 0 + 1500 ≤ 12683 := by omega
  refine z_newa (atype := .long) (ty := .long) (a0 := (1500, .inr (.inl (fun _ => 0)))) hx hb (hts _ (zm_4 _)) rfl hK 2 rfl hP hD hS hA (fun cA => rfl) (by decide) (by decide) (by decide) h_3 h_4 dX7_init_8 (fun q_1 H hP hD hS => ?_)
  have hP : va_P D vwCl [(h0, .inr (7, zf 20 f0)), (q_1, .inl (x 2, 1500, .inr (.inl (fun _ => 0))))] H := hP
  have hD : va_D A [(h0, .inr (7, zf 20 f0)), (q_1, .inl (x 2, 1500, .inr (.inl (fun _ => 0))))] := hD
  refine W.widen (k := 1) (n := 1500) (by omega) (by omega) ?_
  refine z_putF (T := TX7) (N := 20) (ci := 7) hx hb hts (zi_7 _) hown hK hP hD hS 0 rfl rfl 0 (by decide) (hts _ (zm_81 _)) rfl rfl hin rfl rfl rfl dX7_init_10 (fun H locs f_5 ek_6 ok_7 hP hD hS => ?_)
  have hP : va_P D vwCl [(h0, .inr (7, zf 20 f_5)), (q_1, .inl (x 2, 1500, .inr (.inl (fun _ => 0))))] H := hP
  have hD : va_D A [(h0, .inr (7, zf 20 f_5)), (q_1, .inl (x 2, 1500, .inr (.inl (fun _ => 0))))] := hD
  refine lv_aload_n hx hb dX7_init_13 rfl (lv_at hl 0 rfl) ?_
  refine lv_sipush (v := 1500) hx hb dX7_init_14 (by decide) ?_
  have h_10 : 1 + 1 ≤ 10 := by omega
  have h_11 : 1500 + 1500 ≤ 12683 := by omega
  refine z_newa (atype := .int) (ty := .int) (a0 := (1500, .inl (fun _ => 0))) hx hb (hts _ (zm_2 _)) rfl hK 0 rfl hP hD hS hA (fun cA => rfl) (by decide) (by decide) (by decide) h_10 h_11 dX7_init_17 (fun q_8 H hP hD hS => ?_)
  have hP : va_P D vwCl [(h0, .inr (7, zf 20 f_5)), (q_1, .inl (x 2, 1500, .inr (.inl (fun _ => 0)))), (q_8, .inl (x 0, 1500, .inl (fun _ => 0)))] H := hP
  have hD : va_D A [(h0, .inr (7, zf 20 f_5)), (q_1, .inl (x 2, 1500, .inr (.inl (fun _ => 0)))), (q_8, .inl (x 0, 1500, .inl (fun _ => 0)))] := hD
  refine W.widen (k := 2) (n := 3000) (by omega) (by omega) ?_
  refine z_putF (T := TX7) (N := 20) (ci := 7) hx hb hts (zi_7 _) hown hK hP hD hS 0 rfl rfl 1 (by decide) (hts _ (zm_82 _)) rfl rfl hin rfl rfl rfl dX7_init_19 (fun H locs f_12 ek_13 ok_14 hP hD hS => ?_)
  have hP : va_P D vwCl [(h0, .inr (7, zf 20 f_12)), (q_1, .inl (x 2, 1500, .inr (.inl (fun _ => 0)))), (q_8, .inl (x 0, 1500, .inl (fun _ => 0)))] H := hP
  have hD : va_D A [(h0, .inr (7, zf 20 f_12)), (q_1, .inl (x 2, 1500, .inr (.inl (fun _ => 0)))), (q_8, .inl (x 0, 1500, .inl (fun _ => 0)))] := hD
  refine lv_aload_n hx hb dX7_init_22 rfl (lv_at hl 0 rfl) ?_
  refine lv_sipush (v := 300) hx hb dX7_init_23 (by decide) ?_
  have h_17 : 2 + 1 ≤ 10 := by omega
  have h_18 : 3000 + 300 ≤ 12683 := by omega
  refine z_newa (atype := .long) (ty := .long) (a0 := (300, .inr (.inl (fun _ => 0)))) hx hb (hts _ (zm_4 _)) rfl hK 2 rfl hP hD hS hA (fun cA => rfl) (by decide) (by decide) (by decide) h_17 h_18 dX7_init_26 (fun q_15 H hP hD hS => ?_)
  have hP : va_P D vwCl [(h0, .inr (7, zf 20 f_12)), (q_1, .inl (x 2, 1500, .inr (.inl (fun _ => 0)))), (q_8, .inl (x 0, 1500, .inl (fun _ => 0))), (q_15, .inl (x 2, 300, .inr (.inl (fun _ => 0))))] H := hP
  have hD : va_D A [(h0, .inr (7, zf 20 f_12)), (q_1, .inl (x 2, 1500, .inr (.inl (fun _ => 0)))), (q_8, .inl (x 0, 1500, .inl (fun _ => 0))), (q_15, .inl (x 2, 300, .inr (.inl (fun _ => 0))))] := hD
  refine W.widen (k := 3) (n := 3300) (by omega) (by omega) ?_
  refine z_putF (T := TX7) (N := 20) (ci := 7) hx hb hts (zi_7 _) hown hK hP hD hS 0 rfl rfl 3 (by decide) (hts _ (zm_83 _)) rfl rfl hin rfl rfl rfl dX7_init_28 (fun H locs f_19 ek_20 ok_21 hP hD hS => ?_)
  have hP : va_P D vwCl [(h0, .inr (7, zf 20 f_19)), (q_1, .inl (x 2, 1500, .inr (.inl (fun _ => 0)))), (q_8, .inl (x 0, 1500, .inl (fun _ => 0))), (q_15, .inl (x 2, 300, .inr (.inl (fun _ => 0))))] H := hP
  have hD : va_D A [(h0, .inr (7, zf 20 f_19)), (q_1, .inl (x 2, 1500, .inr (.inl (fun _ => 0)))), (q_8, .inl (x 0, 1500, .inl (fun _ => 0))), (q_15, .inl (x 2, 300, .inr (.inl (fun _ => 0))))] := hD
  refine lv_aload_n hx hb dX7_init_31 rfl (lv_at hl 0 rfl) ?_
  refine lv_sipush (v := 300) hx hb dX7_init_32 (by decide) ?_
  have h_24 : 3 + 1 ≤ 10 := by omega
  have h_25 : 3300 + 300 ≤ 12683 := by omega
  refine z_newa (atype := .int) (ty := .int) (a0 := (300, .inl (fun _ => 0))) hx hb (hts _ (zm_2 _)) rfl hK 0 rfl hP hD hS hA (fun cA => rfl) (by decide) (by decide) (by decide) h_24 h_25 dX7_init_35 (fun q_22 H hP hD hS => ?_)
  have hP : va_P D vwCl [(h0, .inr (7, zf 20 f_19)), (q_1, .inl (x 2, 1500, .inr (.inl (fun _ => 0)))), (q_8, .inl (x 0, 1500, .inl (fun _ => 0))), (q_15, .inl (x 2, 300, .inr (.inl (fun _ => 0)))), (q_22, .inl (x 0, 300, .inl (fun _ => 0)))] H := hP
  have hD : va_D A [(h0, .inr (7, zf 20 f_19)), (q_1, .inl (x 2, 1500, .inr (.inl (fun _ => 0)))), (q_8, .inl (x 0, 1500, .inl (fun _ => 0))), (q_15, .inl (x 2, 300, .inr (.inl (fun _ => 0)))), (q_22, .inl (x 0, 300, .inl (fun _ => 0)))] := hD
  refine W.widen (k := 4) (n := 3600) (by omega) (by omega) ?_
  refine z_putF (T := TX7) (N := 20) (ci := 7) hx hb hts (zi_7 _) hown hK hP hD hS 0 rfl rfl 4 (by decide) (hts _ (zm_84 _)) rfl rfl hin rfl rfl rfl dX7_init_37 (fun H locs f_26 ek_27 ok_28 hP hD hS => ?_)
  have hP : va_P D vwCl [(h0, .inr (7, zf 20 f_26)), (q_1, .inl (x 2, 1500, .inr (.inl (fun _ => 0)))), (q_8, .inl (x 0, 1500, .inl (fun _ => 0))), (q_15, .inl (x 2, 300, .inr (.inl (fun _ => 0)))), (q_22, .inl (x 0, 300, .inl (fun _ => 0)))] H := hP
  have hD : va_D A [(h0, .inr (7, zf 20 f_26)), (q_1, .inl (x 2, 1500, .inr (.inl (fun _ => 0)))), (q_8, .inl (x 0, 1500, .inl (fun _ => 0))), (q_15, .inl (x 2, 300, .inr (.inl (fun _ => 0)))), (q_22, .inl (x 0, 300, .inl (fun _ => 0)))] := hD
  refine lv_aload_n hx hb dX7_init_40 rfl (lv_at hl 0 rfl) ?_
  refine lv_sipush (v := 520) hx hb dX7_init_41 (by decide) ?_
  have h_31 : 4 + 1 ≤ 10 := by omega
  have h_32 : 3600 + 520 ≤ 12683 := by omega
  refine z_newa (atype := .long) (ty := .long) (a0 := (520, .inr (.inl (fun _ => 0)))) hx hb (hts _ (zm_4 _)) rfl hK 2 rfl hP hD hS hA (fun cA => rfl) (by decide) (by decide) (by decide) h_31 h_32 dX7_init_44 (fun q_29 H hP hD hS => ?_)
  have hP : va_P D vwCl [(h0, .inr (7, zf 20 f_26)), (q_1, .inl (x 2, 1500, .inr (.inl (fun _ => 0)))), (q_8, .inl (x 0, 1500, .inl (fun _ => 0))), (q_15, .inl (x 2, 300, .inr (.inl (fun _ => 0)))), (q_22, .inl (x 0, 300, .inl (fun _ => 0))), (q_29, .inl (x 2, 520, .inr (.inl (fun _ => 0))))] H := hP
  have hD : va_D A [(h0, .inr (7, zf 20 f_26)), (q_1, .inl (x 2, 1500, .inr (.inl (fun _ => 0)))), (q_8, .inl (x 0, 1500, .inl (fun _ => 0))), (q_15, .inl (x 2, 300, .inr (.inl (fun _ => 0)))), (q_22, .inl (x 0, 300, .inl (fun _ => 0))), (q_29, .inl (x 2, 520, .inr (.inl (fun _ => 0))))] := hD
  refine W.widen (k := 5) (n := 4120) (by omega) (by omega) ?_
  refine z_putF (T := TX7) (N := 20) (ci := 7) hx hb hts (zi_7 _) hown hK hP hD hS 0 rfl rfl 6 (by decide) (hts _ (zm_85 _)) rfl rfl hin rfl rfl rfl dX7_init_46 (fun H locs f_33 ek_34 ok_35 hP hD hS => ?_)
  have hP : va_P D vwCl [(h0, .inr (7, zf 20 f_33)), (q_1, .inl (x 2, 1500, .inr (.inl (fun _ => 0)))), (q_8, .inl (x 0, 1500, .inl (fun _ => 0))), (q_15, .inl (x 2, 300, .inr (.inl (fun _ => 0)))), (q_22, .inl (x 0, 300, .inl (fun _ => 0))), (q_29, .inl (x 2, 520, .inr (.inl (fun _ => 0))))] H := hP
  have hD : va_D A [(h0, .inr (7, zf 20 f_33)), (q_1, .inl (x 2, 1500, .inr (.inl (fun _ => 0)))), (q_8, .inl (x 0, 1500, .inl (fun _ => 0))), (q_15, .inl (x 2, 300, .inr (.inl (fun _ => 0)))), (q_22, .inl (x 0, 300, .inl (fun _ => 0))), (q_29, .inl (x 2, 520, .inr (.inl (fun _ => 0))))] := hD
  refine lv_aload_n hx hb dX7_init_49 rfl (lv_at hl 0 rfl) ?_
  refine lv_sipush (v := 520) hx hb dX7_init_50 (by decide) ?_
  have h_38 : 5 + 1 ≤ 10 := by omega
  have h_39 : 4120 + 520 ≤ 12683 := by omega
  refine z_newa (atype := .int) (ty := .int) (a0 := (520, .inl (fun _ => 0))) hx hb (hts _ (zm_2 _)) rfl hK 0 rfl hP hD hS hA (fun cA => rfl) (by decide) (by decide) (by decide) h_38 h_39 dX7_init_53 (fun q_36 H hP hD hS => ?_)
  have hP : va_P D vwCl [(h0, .inr (7, zf 20 f_33)), (q_1, .inl (x 2, 1500, .inr (.inl (fun _ => 0)))), (q_8, .inl (x 0, 1500, .inl (fun _ => 0))), (q_15, .inl (x 2, 300, .inr (.inl (fun _ => 0)))), (q_22, .inl (x 0, 300, .inl (fun _ => 0))), (q_29, .inl (x 2, 520, .inr (.inl (fun _ => 0)))), (q_36, .inl (x 0, 520, .inl (fun _ => 0)))] H := hP
  have hD : va_D A [(h0, .inr (7, zf 20 f_33)), (q_1, .inl (x 2, 1500, .inr (.inl (fun _ => 0)))), (q_8, .inl (x 0, 1500, .inl (fun _ => 0))), (q_15, .inl (x 2, 300, .inr (.inl (fun _ => 0)))), (q_22, .inl (x 0, 300, .inl (fun _ => 0))), (q_29, .inl (x 2, 520, .inr (.inl (fun _ => 0)))), (q_36, .inl (x 0, 520, .inl (fun _ => 0)))] := hD
  refine W.widen (k := 6) (n := 4640) (by omega) (by omega) ?_
  refine z_putF (T := TX7) (N := 20) (ci := 7) hx hb hts (zi_7 _) hown hK hP hD hS 0 rfl rfl 7 (by decide) (hts _ (zm_86 _)) rfl rfl hin rfl rfl rfl dX7_init_55 (fun H locs f_40 ek_41 ok_42 hP hD hS => ?_)
  have hP : va_P D vwCl [(h0, .inr (7, zf 20 f_40)), (q_1, .inl (x 2, 1500, .inr (.inl (fun _ => 0)))), (q_8, .inl (x 0, 1500, .inl (fun _ => 0))), (q_15, .inl (x 2, 300, .inr (.inl (fun _ => 0)))), (q_22, .inl (x 0, 300, .inl (fun _ => 0))), (q_29, .inl (x 2, 520, .inr (.inl (fun _ => 0)))), (q_36, .inl (x 0, 520, .inl (fun _ => 0)))] H := hP
  have hD : va_D A [(h0, .inr (7, zf 20 f_40)), (q_1, .inl (x 2, 1500, .inr (.inl (fun _ => 0)))), (q_8, .inl (x 0, 1500, .inl (fun _ => 0))), (q_15, .inl (x 2, 300, .inr (.inl (fun _ => 0)))), (q_22, .inl (x 0, 300, .inl (fun _ => 0))), (q_29, .inl (x 2, 520, .inr (.inl (fun _ => 0)))), (q_36, .inl (x 0, 520, .inl (fun _ => 0)))] := hD
  refine lv_aload_n hx hb dX7_init_58 rfl (lv_at hl 0 rfl) ?_
  refine lv_bipush (v := 20) hx hb dX7_init_59 (by decide) ?_
  have h_45 : 6 + 1 ≤ 10 := by omega
  have h_46 : 4640 + 20 ≤ 12683 := by omega
  refine z_newa (atype := .long) (ty := .long) (a0 := (20, .inr (.inl (fun _ => 0)))) hx hb (hts _ (zm_4 _)) rfl hK 2 rfl hP hD hS hA (fun cA => rfl) (by decide) (by decide) (by decide) h_45 h_46 dX7_init_61 (fun q_43 H hP hD hS => ?_)
  have hP : va_P D vwCl [(h0, .inr (7, zf 20 f_40)), (q_1, .inl (x 2, 1500, .inr (.inl (fun _ => 0)))), (q_8, .inl (x 0, 1500, .inl (fun _ => 0))), (q_15, .inl (x 2, 300, .inr (.inl (fun _ => 0)))), (q_22, .inl (x 0, 300, .inl (fun _ => 0))), (q_29, .inl (x 2, 520, .inr (.inl (fun _ => 0)))), (q_36, .inl (x 0, 520, .inl (fun _ => 0))), (q_43, .inl (x 2, 20, .inr (.inl (fun _ => 0))))] H := hP
  have hD : va_D A [(h0, .inr (7, zf 20 f_40)), (q_1, .inl (x 2, 1500, .inr (.inl (fun _ => 0)))), (q_8, .inl (x 0, 1500, .inl (fun _ => 0))), (q_15, .inl (x 2, 300, .inr (.inl (fun _ => 0)))), (q_22, .inl (x 0, 300, .inl (fun _ => 0))), (q_29, .inl (x 2, 520, .inr (.inl (fun _ => 0)))), (q_36, .inl (x 0, 520, .inl (fun _ => 0))), (q_43, .inl (x 2, 20, .inr (.inl (fun _ => 0))))] := hD
  refine W.widen (k := 7) (n := 4660) (by omega) (by omega) ?_
  refine z_putF (T := TX7) (N := 20) (ci := 7) hx hb hts (zi_7 _) hown hK hP hD hS 0 rfl rfl 9 (by decide) (hts _ (zm_87 _)) rfl rfl hin rfl rfl rfl dX7_init_63 (fun H locs f_47 ek_48 ok_49 hP hD hS => ?_)
  have hP : va_P D vwCl [(h0, .inr (7, zf 20 f_47)), (q_1, .inl (x 2, 1500, .inr (.inl (fun _ => 0)))), (q_8, .inl (x 0, 1500, .inl (fun _ => 0))), (q_15, .inl (x 2, 300, .inr (.inl (fun _ => 0)))), (q_22, .inl (x 0, 300, .inl (fun _ => 0))), (q_29, .inl (x 2, 520, .inr (.inl (fun _ => 0)))), (q_36, .inl (x 0, 520, .inl (fun _ => 0))), (q_43, .inl (x 2, 20, .inr (.inl (fun _ => 0))))] H := hP
  have hD : va_D A [(h0, .inr (7, zf 20 f_47)), (q_1, .inl (x 2, 1500, .inr (.inl (fun _ => 0)))), (q_8, .inl (x 0, 1500, .inl (fun _ => 0))), (q_15, .inl (x 2, 300, .inr (.inl (fun _ => 0)))), (q_22, .inl (x 0, 300, .inl (fun _ => 0))), (q_29, .inl (x 2, 520, .inr (.inl (fun _ => 0)))), (q_36, .inl (x 0, 520, .inl (fun _ => 0))), (q_43, .inl (x 2, 20, .inr (.inl (fun _ => 0))))] := hD
  refine lv_aload_n hx hb dX7_init_66 rfl (lv_at hl 0 rfl) ?_
  refine lv_bipush (v := 20) hx hb dX7_init_67 (by decide) ?_
  have h_52 : 7 + 1 ≤ 10 := by omega
  have h_53 : 4660 + 20 ≤ 12683 := by omega
  refine z_newa (atype := .int) (ty := .int) (a0 := (20, .inl (fun _ => 0))) hx hb (hts _ (zm_2 _)) rfl hK 0 rfl hP hD hS hA (fun cA => rfl) (by decide) (by decide) (by decide) h_52 h_53 dX7_init_69 (fun q_50 H hP hD hS => ?_)
  have hP : va_P D vwCl [(h0, .inr (7, zf 20 f_47)), (q_1, .inl (x 2, 1500, .inr (.inl (fun _ => 0)))), (q_8, .inl (x 0, 1500, .inl (fun _ => 0))), (q_15, .inl (x 2, 300, .inr (.inl (fun _ => 0)))), (q_22, .inl (x 0, 300, .inl (fun _ => 0))), (q_29, .inl (x 2, 520, .inr (.inl (fun _ => 0)))), (q_36, .inl (x 0, 520, .inl (fun _ => 0))), (q_43, .inl (x 2, 20, .inr (.inl (fun _ => 0)))), (q_50, .inl (x 0, 20, .inl (fun _ => 0)))] H := hP
  have hD : va_D A [(h0, .inr (7, zf 20 f_47)), (q_1, .inl (x 2, 1500, .inr (.inl (fun _ => 0)))), (q_8, .inl (x 0, 1500, .inl (fun _ => 0))), (q_15, .inl (x 2, 300, .inr (.inl (fun _ => 0)))), (q_22, .inl (x 0, 300, .inl (fun _ => 0))), (q_29, .inl (x 2, 520, .inr (.inl (fun _ => 0)))), (q_36, .inl (x 0, 520, .inl (fun _ => 0))), (q_43, .inl (x 2, 20, .inr (.inl (fun _ => 0)))), (q_50, .inl (x 0, 20, .inl (fun _ => 0)))] := hD
  refine W.widen (k := 8) (n := 4680) (by omega) (by omega) ?_
  refine z_putF (T := TX7) (N := 20) (ci := 7) hx hb hts (zi_7 _) hown hK hP hD hS 0 rfl rfl 10 (by decide) (hts _ (zm_88 _)) rfl rfl hin rfl rfl rfl dX7_init_71 (fun H locs f_54 ek_55 ok_56 hP hD hS => ?_)
  have hP : va_P D vwCl [(h0, .inr (7, zf 20 f_54)), (q_1, .inl (x 2, 1500, .inr (.inl (fun _ => 0)))), (q_8, .inl (x 0, 1500, .inl (fun _ => 0))), (q_15, .inl (x 2, 300, .inr (.inl (fun _ => 0)))), (q_22, .inl (x 0, 300, .inl (fun _ => 0))), (q_29, .inl (x 2, 520, .inr (.inl (fun _ => 0)))), (q_36, .inl (x 0, 520, .inl (fun _ => 0))), (q_43, .inl (x 2, 20, .inr (.inl (fun _ => 0)))), (q_50, .inl (x 0, 20, .inl (fun _ => 0)))] H := hP
  have hD : va_D A [(h0, .inr (7, zf 20 f_54)), (q_1, .inl (x 2, 1500, .inr (.inl (fun _ => 0)))), (q_8, .inl (x 0, 1500, .inl (fun _ => 0))), (q_15, .inl (x 2, 300, .inr (.inl (fun _ => 0)))), (q_22, .inl (x 0, 300, .inl (fun _ => 0))), (q_29, .inl (x 2, 520, .inr (.inl (fun _ => 0)))), (q_36, .inl (x 0, 520, .inl (fun _ => 0))), (q_43, .inl (x 2, 20, .inr (.inl (fun _ => 0)))), (q_50, .inl (x 0, 20, .inl (fun _ => 0)))] := hD
  refine lv_aload_n hx hb dX7_init_74 rfl (lv_at hl 0 rfl) ?_
  have h_60 : 8 + 1 ≤ 10 := by omega
  have h_61 : 4680 + 3 ≤ 12683 := by omega
  refine z_new (T := TX6) (N := 3) (ci := 6) hx hb hts (zi_6 _) hown (hts _ (zm_89 _)) (hts _ (zm_10 _)) (hts _ (zm_7 _)) hK hP hD hS hA rfl h_60 h_61 dX7_init_75 (fun q_57 H f_58 ed_59 hP hD hS => ?_)
  have hP : va_P D vwCl [(h0, .inr (7, zf 20 f_54)), (q_1, .inl (x 2, 1500, .inr (.inl (fun _ => 0)))), (q_8, .inl (x 0, 1500, .inl (fun _ => 0))), (q_15, .inl (x 2, 300, .inr (.inl (fun _ => 0)))), (q_22, .inl (x 0, 300, .inl (fun _ => 0))), (q_29, .inl (x 2, 520, .inr (.inl (fun _ => 0)))), (q_36, .inl (x 0, 520, .inl (fun _ => 0))), (q_43, .inl (x 2, 20, .inr (.inl (fun _ => 0)))), (q_50, .inl (x 0, 20, .inl (fun _ => 0))), (q_57, .inr (6, zf 3 f_58))] H := hP
  have hD : va_D A [(h0, .inr (7, zf 20 f_54)), (q_1, .inl (x 2, 1500, .inr (.inl (fun _ => 0)))), (q_8, .inl (x 0, 1500, .inl (fun _ => 0))), (q_15, .inl (x 2, 300, .inr (.inl (fun _ => 0)))), (q_22, .inl (x 0, 300, .inl (fun _ => 0))), (q_29, .inl (x 2, 520, .inr (.inl (fun _ => 0)))), (q_36, .inl (x 0, 520, .inl (fun _ => 0))), (q_43, .inl (x 2, 20, .inr (.inl (fun _ => 0)))), (q_50, .inl (x 0, 20, .inl (fun _ => 0))), (q_57, .inr (6, zf 3 f_58))] := hD
  refine W.widen (k := 9) (n := 4683) (by omega) (by omega) ?_
  refine lv_dup hx hb dX7_init_78 rfl ?_
  refine lv_sipush (v := 8000) hx hb dX7_init_79 (by decide) ?_
  have hPc := hP.sub (ws' := [(q_57, .inr (6, zf 3 f_58))]) [9] rfl
  have hDc := hD.sub (ws' := [(q_57, .inr (6, zf 3 f_58))]) [9] (by decide) rfl
  have hFc := va_free (wc := [(q_57, .inr (6, zf 3 f_58))]) hD hS hA [9] rfl
  have h_64 : 9 + 1 ≤ 10 ∧ 4683 + 8000 ≤ 12683 := by omega
  refine va_callv (va_runIN (As := [.int 8000]) (rest := [.ref q_57, .ref h0]) ⟨hx, hb, hml, hown, hts⟩ (c_Row_init l D x 8000 q_57 f_58 H.size (ed_59 1) (ed_59 2) (by decide)) ⟨va_cnB 1 hts (zgood (zm_6 _) rfl) rfl rfl rfl (hZ.2.1 _ zn_3) (hts _ (zm_7 _)) ⟨by decide, by decide, by decide +kernel⟩ ⟨Nat.le_of_ble_eq_true rfl, Nat.le_of_ble_eq_true rfl⟩, rfl, hts _ (zm_8 _)⟩ ⟨fun a U g mk q => by obtain ⟨q0, q1, qP, qK, qD⟩ := q; exact ⟨q0, q1, qP, ZK.calling (u := U) zN_ok rfl qK, qD⟩, fun U hU hW => ⟨rfl, by rw [hU], by rw [hU]; exact hPc, ZK.warm zN_ok hW hZ, hDc.weaken (fun _ _ _ _ => trivial)⟩⟩ rfl rfl hl.1 rfl (lv_room (Nat.le_of_ble_eq_true rfl)) dX7_init_82 h_64) hS (fun q _ h => hFc q h) hFc (fun u t H1 locs ht hvm hw_63 hB hz1 hk1 hS => ?_)
  obtain ⟨c0_62, a1_63⟩ := u
  obtain ⟨hP1, hD1⟩ := hB
  rw [ht] at hP1
  try dsimp only at hw_63
  obtain ⟨hP, hD⟩ := va_join (wr := [(h0, .inr (7, zf 20 f_54)), (q_1, .inl (x 2, 1500, .inr (.inl (fun _ => 0)))), (q_8, .inl (x 0, 1500, .inl (fun _ => 0))), (q_15, .inl (x 2, 300, .inr (.inl (fun _ => 0)))), (q_22, .inl (x 0, 300, .inl (fun _ => 0))), (q_29, .inl (x 2, 520, .inr (.inl (fun _ => 0)))), (q_36, .inl (x 0, 520, .inl (fun _ => 0))), (q_43, .inl (x 2, 20, .inr (.inl (fun _ => 0)))), (q_50, .inl (x 0, 20, .inl (fun _ => 0)))]) (w1 := [(q_57, .inr (6, zf 3 c0_62)), (a1_63, .inl (x 1, 8000, .inl (fun _ => 0)))]) hP hD [9] [0, 1, 2, 3, 4, 5, 6, 7, 8] rfl rfl (by decide) (by decide) hk1 hFc hP1 hD1
  generalize H1 = H at hP hS ⊢
  have hP : va_P D vwCl [(h0, .inr (7, zf 20 f_54)), (q_1, .inl (x 2, 1500, .inr (.inl (fun _ => 0)))), (q_8, .inl (x 0, 1500, .inl (fun _ => 0))), (q_15, .inl (x 2, 300, .inr (.inl (fun _ => 0)))), (q_22, .inl (x 0, 300, .inl (fun _ => 0))), (q_29, .inl (x 2, 520, .inr (.inl (fun _ => 0)))), (q_36, .inl (x 0, 520, .inl (fun _ => 0))), (q_43, .inl (x 2, 20, .inr (.inl (fun _ => 0)))), (q_50, .inl (x 0, 20, .inl (fun _ => 0))), (q_57, .inr (6, zf 3 c0_62)), (a1_63, .inl (x 1, 8000, .inl (fun _ => 0)))] H := hP
  have hD : va_D A [(h0, .inr (7, zf 20 f_54)), (q_1, .inl (x 2, 1500, .inr (.inl (fun _ => 0)))), (q_8, .inl (x 0, 1500, .inl (fun _ => 0))), (q_15, .inl (x 2, 300, .inr (.inl (fun _ => 0)))), (q_22, .inl (x 0, 300, .inl (fun _ => 0))), (q_29, .inl (x 2, 520, .inr (.inl (fun _ => 0)))), (q_36, .inl (x 0, 520, .inl (fun _ => 0))), (q_43, .inl (x 2, 20, .inr (.inl (fun _ => 0)))), (q_50, .inl (x 0, 20, .inl (fun _ => 0))), (q_57, .inr (6, zf 3 c0_62)), (a1_63, .inl (x 1, 8000, .inl (fun _ => 0)))] := hD
  refine W.widen (k := 10) (n := 12683) (by omega) (by omega) ?_
  refine z_putF (T := TX7) (N := 20) (ci := 7) hx hb hts (zi_7 _) hown hK hP hD hS 0 rfl rfl 12 (by decide) (hts _ (zm_90 _)) rfl rfl hin rfl rfl rfl dX7_init_85 (fun H locs f_65 ek_66 ok_67 hP hD hS => ?_)
  have hP : va_P D vwCl [(h0, .inr (7, zf 20 f_65)), (q_1, .inl (x 2, 1500, .inr (.inl (fun _ => 0)))), (q_8, .inl (x 0, 1500, .inl (fun _ => 0))), (q_15, .inl (x 2, 300, .inr (.inl (fun _ => 0)))), (q_22, .inl (x 0, 300, .inl (fun _ => 0))), (q_29, .inl (x 2, 520, .inr (.inl (fun _ => 0)))), (q_36, .inl (x 0, 520, .inl (fun _ => 0))), (q_43, .inl (x 2, 20, .inr (.inl (fun _ => 0)))), (q_50, .inl (x 0, 20, .inl (fun _ => 0))), (q_57, .inr (6, zf 3 c0_62)), (a1_63, .inl (x 1, 8000, .inl (fun _ => 0)))] H := hP
  have hD : va_D A [(h0, .inr (7, zf 20 f_65)), (q_1, .inl (x 2, 1500, .inr (.inl (fun _ => 0)))), (q_8, .inl (x 0, 1500, .inl (fun _ => 0))), (q_15, .inl (x 2, 300, .inr (.inl (fun _ => 0)))), (q_22, .inl (x 0, 300, .inl (fun _ => 0))), (q_29, .inl (x 2, 520, .inr (.inl (fun _ => 0)))), (q_36, .inl (x 0, 520, .inl (fun _ => 0))), (q_43, .inl (x 2, 20, .inr (.inl (fun _ => 0)))), (q_50, .inl (x 0, 20, .inl (fun _ => 0))), (q_57, .inr (6, zf 3 c0_62)), (a1_63, .inl (x 1, 8000, .inl (fun _ => 0)))] := hD
  have e_68 : f_65 2 = .int 0 := ((ok_67 2 (by decide)).trans ((ok_56 2 (by decide)).trans ((ok_49 2 (by decide)).trans ((ok_42 2 (by decide)).trans ((ok_35 2 (by decide)).trans ((ok_28 2 (by decide)).trans ((ok_21 2 (by decide)).trans ((ok_14 2 (by decide)).trans ((ok_7 2 (by decide)).trans h0_2)))))))))
  have e_69 : f_65 5 = .int 0 := ((ok_67 5 (by decide)).trans ((ok_56 5 (by decide)).trans ((ok_49 5 (by decide)).trans ((ok_42 5 (by decide)).trans ((ok_35 5 (by decide)).trans ((ok_28 5 (by decide)).trans ((ok_21 5 (by decide)).trans ((ok_14 5 (by decide)).trans ((ok_7 5 (by decide)).trans h0_5)))))))))
  have e_70 : f_65 8 = .int 0 := ((ok_67 8 (by decide)).trans ((ok_56 8 (by decide)).trans ((ok_49 8 (by decide)).trans ((ok_42 8 (by decide)).trans ((ok_35 8 (by decide)).trans ((ok_28 8 (by decide)).trans ((ok_21 8 (by decide)).trans ((ok_14 8 (by decide)).trans ((ok_7 8 (by decide)).trans h0_8)))))))))
  have e_71 : f_65 11 = .int 0 := ((ok_67 11 (by decide)).trans ((ok_56 11 (by decide)).trans ((ok_49 11 (by decide)).trans ((ok_42 11 (by decide)).trans ((ok_35 11 (by decide)).trans ((ok_28 11 (by decide)).trans ((ok_21 11 (by decide)).trans ((ok_14 11 (by decide)).trans ((ok_7 11 (by decide)).trans h0_11)))))))))
  have e_72 : f_65 13 = .int 0 := ((ok_67 13 (by decide)).trans ((ok_56 13 (by decide)).trans ((ok_49 13 (by decide)).trans ((ok_42 13 (by decide)).trans ((ok_35 13 (by decide)).trans ((ok_28 13 (by decide)).trans ((ok_21 13 (by decide)).trans ((ok_14 13 (by decide)).trans ((ok_7 13 (by decide)).trans h0_13)))))))))
  have e_73 : f_65 14 = .int 0 := ((ok_67 14 (by decide)).trans ((ok_56 14 (by decide)).trans ((ok_49 14 (by decide)).trans ((ok_42 14 (by decide)).trans ((ok_35 14 (by decide)).trans ((ok_28 14 (by decide)).trans ((ok_21 14 (by decide)).trans ((ok_14 14 (by decide)).trans ((ok_7 14 (by decide)).trans h0_14)))))))))
  have e_74 : f_65 15 = .int 0 := ((ok_67 15 (by decide)).trans ((ok_56 15 (by decide)).trans ((ok_49 15 (by decide)).trans ((ok_42 15 (by decide)).trans ((ok_35 15 (by decide)).trans ((ok_28 15 (by decide)).trans ((ok_21 15 (by decide)).trans ((ok_14 15 (by decide)).trans ((ok_7 15 (by decide)).trans h0_15)))))))))
  have e_75 : f_65 16 = .int 0 := ((ok_67 16 (by decide)).trans ((ok_56 16 (by decide)).trans ((ok_49 16 (by decide)).trans ((ok_42 16 (by decide)).trans ((ok_35 16 (by decide)).trans ((ok_28 16 (by decide)).trans ((ok_21 16 (by decide)).trans ((ok_14 16 (by decide)).trans ((ok_7 16 (by decide)).trans h0_16)))))))))
  have e_76 : f_65 17 = .null := ((ok_67 17 (by decide)).trans ((ok_56 17 (by decide)).trans ((ok_49 17 (by decide)).trans ((ok_42 17 (by decide)).trans ((ok_35 17 (by decide)).trans ((ok_28 17 (by decide)).trans ((ok_21 17 (by decide)).trans ((ok_14 17 (by decide)).trans ((ok_7 17 (by decide)).trans h0_17)))))))))
  have e_77 : f_65 18 = .int 0 := ((ok_67 18 (by decide)).trans ((ok_56 18 (by decide)).trans ((ok_49 18 (by decide)).trans ((ok_42 18 (by decide)).trans ((ok_35 18 (by decide)).trans ((ok_28 18 (by decide)).trans ((ok_21 18 (by decide)).trans ((ok_14 18 (by decide)).trans ((ok_7 18 (by decide)).trans h0_18)))))))))
  have e_78 : f_65 19 = .int 0 := ((ok_67 19 (by decide)).trans ((ok_56 19 (by decide)).trans ((ok_49 19 (by decide)).trans ((ok_42 19 (by decide)).trans ((ok_35 19 (by decide)).trans ((ok_28 19 (by decide)).trans ((ok_21 19 (by decide)).trans ((ok_14 19 (by decide)).trans ((ok_7 19 (by decide)).trans h0_19)))))))))
  have hP9 := hP.sub (ws' := [(h0, .inr (7, zf 20 f_65)), (q_57, .inr (6, zf 3 c0_62))]) [0, 9] rfl
  have hD9 := hD.sub (ws' := [(h0, .inr (7, zf 20 f_65)), (q_57, .inr (6, zf 3 c0_62))]) [0, 9] (by decide) rfl
  exact W.vret hx hb hr (fun t ht hW => ⟨⟨(f_65, q_57, c0_62), rfl, ⟨e_68, e_69, e_70, e_71, ek_66, e_72, e_73, e_74, e_75, e_76, e_77, e_78, hw_63.2.1, hw_63.2.2⟩, ⟨by rw [ht]; exact hP9, hD9⟩⟩, hS.F ht⟩) hS.2.2 dX7_init_88
