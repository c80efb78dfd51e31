theorem dX1_init_0 : decode cX1_init 0 = .ok (.aload_n 0, 1) := by decide +kernel
theorem dX1_init_1 : decode cX1_init 1 = .ok (.invokespecial 3, 3) := by decide +kernel
theorem dX1_init_4 : decode cX1_init 4 = .ok (.aload_n 0, 1) := by decide +kernel
theorem dX1_init_5 : decode cX1_init 5 = .ok (.new 9, 3) := by decide +kernel
theorem dX1_init_8 : decode cX1_init 8 = .ok (.dup, 1) := by decide +kernel
theorem dX1_init_9 : decode cX1_init 9 = .ok (.sipush 250, 3) := by decide +kernel
theorem dX1_init_12 : decode cX1_init 12 = .ok (.invokespecial 11, 3) := by decide +kernel
theorem dX1_init_15 : decode cX1_init 15 = .ok (.putfield 14, 3) := by decide +kernel
theorem dX1_init_18 : decode cX1_init 18 = .ok (.aload_n 0, 1) := by decide +kernel
theorem dX1_init_19 : decode cX1_init 19 = .ok (.new 20, 3) := by decide +kernel
theorem dX1_init_22 : decode cX1_init 22 = .ok (.dup, 1) := by decide +kernel
theorem dX1_init_23 : decode cX1_init 23 = .ok (.sipush 250, 3) := by decide +kernel
theorem dX1_init_26 : decode cX1_init 26 = .ok (.iconst 1, 1) := by decide +kernel
theorem dX1_init_27 : decode cX1_init 27 = .ok (.invokespecial 22, 3) := by decide +kernel
theorem dX1_init_30 : decode cX1_init 30 = .ok (.putfield 25, 3) := by decide +kernel
theorem dX1_init_33 : decode cX1_init 33 = .ok (.aload_n 0, 1) := by decide +kernel
theorem dX1_init_34 : decode cX1_init 34 = .ok (.new 20, 3) := by decide +kernel
theorem dX1_init_37 : decode cX1_init 37 = .ok (.dup, 1) := by decide +kernel
theorem dX1_init_38 : decode cX1_init 38 = .ok (.sipush 250, 3) := by decide +kernel
theorem dX1_init_41 : decode cX1_init 41 = .ok (.iconst 1, 1) := by decide +kernel
theorem dX1_init_42 : decode cX1_init 42 = .ok (.invokespecial 22, 3) := by decide +kernel
theorem dX1_init_45 : decode cX1_init 45 = .ok (.putfield 29, 3) := by decide +kernel
theorem dX1_init_48 : decode cX1_init 48 = .ok (.return_, 1) := by decide +kernel
theorem dX1_many_7 : decode cX1_many 7 = .ok (.iload_n 2, 1) := by decide +kernel
theorem dX1_many_8 : decode cX1_many 8 = .ok (.aload_n 1, 1) := by decide +kernel
theorem dX1_many_9 : decode cX1_many 9 = .ok (.arraylength, 1) := by decide +kernel
theorem dX1_many_10 : decode cX1_many 10 = .ok (.if_icmp .ge 19, 3) := by decide +kernel
theorem dX1_many_13 : decode cX1_many 13 = .ok (.aload_n 1, 1) := by decide +kernel
theorem dX1_many_14 : decode cX1_many 14 = .ok (.iload_n 2, 1) := by decide +kernel
theorem dX1_many_15 : decode cX1_many 15 = .ok (.new 15, 3) := by decide +kernel
theorem dX1_many_18 : decode cX1_many 18 = .ok (.dup, 1) := by decide +kernel
theorem dX1_many_19 : decode cX1_many 19 = .ok (.invokespecial 32, 3) := by decide +kernel
theorem dX1_many_22 : decode cX1_many 22 = .ok (.aastore, 1) := by decide +kernel
theorem dX1_many_23 : decode cX1_many 23 = .ok (.iinc 2 1, 3) := by decide +kernel
theorem dX1_many_26 : decode cX1_many 26 = .ok (.goto (-19), 3) := by decide +kernel
theorem dX1_many_0 : decode cX1_many 0 = .ok (.iload_n 0, 1) := by decide +kernel
theorem dX1_many_1 : decode cX1_many 1 = .ok (.anewarray 15, 3) := by decide +kernel
theorem dX1_many_4 : decode cX1_many 4 = .ok (.astore_n 1, 1) := by decide +kernel
theorem dX1_many_5 : decode cX1_many 5 = .ok (.iconst 0, 1) := by decide +kernel
theorem dX1_many_6 : decode cX1_many 6 = .ok (.istore_n 2, 1) := by decide +kernel
theorem dX1_many_29 : decode cX1_many 29 = .ok (.aload_n 1, 1) := by decide +kernel
theorem dX1_many_30 : decode cX1_many 30 = .ok (.areturn, 1) := by decide +kernel
set_option maxHeartbeats 8000000 in
set_option maxRecDepth 100000 in
/-- Level() -/
theorem c_Level_init (l : Launch) (D : va_G) (x : Nat → ClassId) (h0 : Nat) (f0 : Nat → Value) (sz : Nat) (h0_0 : f0 0 = .int 0) (h0_1 : f0 1 = .null) (h0_2 : f0 2 = .int 0) (h0_3 : f0 3 = .int 0) (h0_4 : f0 4 = .int 0) (h0_5 : f0 5 = .int 0) (h0_6 : f0 6 = .int 0) (h0_7 : f0 7 = .int 0) (h0_8 : f0 8 = .int 0) (h0_9 : f0 9 = .int 0) (h0_10 : f0 10 = .null) (h0_11 : f0 11 = .int 0) (h0_13 : f0 13 = .int 0) : Met l yX1_init (.code yX1_init cX1_init 1 none :: zW) ({ frames := 2, cells := (20), slots := (1875), locals := 34 }) (va_Pc [.ref h0] (fun U => U.heap.size = sz ∧ va_P D vwCl [(h0, .inr (1, zf 16 f0))] U.heap ∧ zK x D U ∧ va_D (fun _ => True) [(h0, .inr (1, zf 16 f0))])) (va_Qv (fun u : (Nat → Value) × (Nat) × (Nat → Value) × (Nat) × (Nat → Value) × (Nat) × (Nat) × (Nat) × (Nat) × (Nat) × (Nat) × (Nat) × (Nat) => match u with | (c0, a1, c1, a2, c2, a3, a4, a5, a6, a7, a8, a9, a10) => c0 0 = .int 0 ∧ c0 1 = .null ∧ c0 2 = .int 0 ∧ c0 3 = .int 0 ∧ c0 4 = .int 0 ∧ c0 5 = .int 0 ∧ c0 6 = .int 0 ∧ c0 7 = .int 0 ∧ c0 8 = .int 0 ∧ c0 9 = .int 0 ∧ c0 10 = .null ∧ c0 11 = .int 0 ∧ c0 12 = .ref a1 ∧ c0 13 = .int 0 ∧ c0 14 = .ref a2 ∧ c1 1 = .int 0 ∧ c1 2 = .int 0 ∧ c2 0 = .ref a4 ∧ c2 1 = .int 0 ∧ c2 2 = .ref a5 ∧ c2 3 = .int 0 ∧ c2 4 = .int 0 ∧ c2 5 = .ref a6 ∧ c2 6 = .ref a7 ∧ c2 7 = .ref a8 ∧ c2 8 = .ref a9 ∧ c2 9 = .ref a10 ∧ c2 10 = .ref a3 ∧ c2 11 = .long 0 ∧ c2 12 = .null ∧ c2 13 = .int 0 ∧ c2 14 = .int 0 ∧ c2 15 = .int 0 ∧ c2 16 = .int 0 ∧ c2 17 = .int 0) (fun u t => match u with | (c0, a1, c1, a2, c2, a3, a4, a5, a6, a7, a8, a9, a10) => zB D vwCl (va_A [(h0, .inr (1, zf 16 f0))] sz) [(h0, .inr (1, zf 16 c0)), (a1, .inr (6, zf 3 c1)), (a2, .inr (8, zf 18 c2)), (a3, .inl (x 0, 20, .inl (fun _ => 0))), (a4, .inl (x 1, 250, .inl (fun _ => 0))), (a5, .inl (x 0, 518, .inl (fun _ => 0))), (a6, .inl (x 0, 1, .inl (fun _ => 0))), (a7, .inl (x 0, 1, .inl (fun _ => 0))), (a8, .inl (x 0, 1, .inl (fun _ => 0))), (a9, .inl (x 2, 1, .inr (.inl (fun _ => 0)))), (a10, .inl (x 0, 1, .inl (fun _ => 0)))] t) (va_A [(h0, .inr (1, zf 16 f0))] sz)) (20) (1875) (va_A [(h0, .inr (1, zf 16 f0))] sz) := by
  refine Met.ofW (cc := cX1_init) (maxL := 1) (ret := none) (by decide) rfl ?_
  intro p e s m args below meth c s₁ B hml hv
  obtain ⟨rfl, hsz, hP, hZ, hD0⟩ := hv
  have hK := hZ.1
  have hx := B.exec
  have hb := B.bytes
  have hr := B.returns
  have hts := atoms_spec (ws := .code yX1_init cX1_init 1 none :: zW) B.pre
  have hown : s.vm.findClass RX1 = some m.cls := findClass_of_methodNamed B.named
  have hlocks := B.notSynchronized
  have hin : meth.name = "<init>" := (name_of_methodNamed B.named B.method).1
  subst hsz
  have hD := hD0.self (sz := s.heap.size)
  generalize hAe : va_A [(h0, .inr (1, zf 16 f0))] s.heap.size = A at hD ⊢
  have hA : ∀ q : Nat, s.heap.size ≤ q → A q := fun q h => by rw [← hAe]; exact Or.inr h
  have hS : va_S A s.heap s.heap [] := va_S.rf
  have hP : va_P D vwCl [(h0, .inr (1, zf 16 f0))] s.heap := hP
  have hl := lv_entry ([.ref h0]) (n := 1) (Nat.le_of_ble_eq_true rfl)
  rw [lg_entry_eq]
  generalize (lg_sl ([.ref h0]) ++ List.replicate (1 - (lg_sl ([.ref h0])).length) Slot.unset).toArray = ls at hl ⊢
  have hl : lv_has ls 1 [(0, .ref h0)] := hl
  refine lv_aload_n hx hb dX1_init_0 rfl (lv_at hl 0 rfl) ?_
  refine W.objInit hx hb hown (hts _ (zm_55 _)) (hts _ (zm_0 _)) (hts _ (zm_1 _)) rfl (by rw [hml]; exact hl.1) rfl dX1_init_1 (Nat.le_of_ble_eq_true rfl) (Nat.le_of_ble_eq_true rfl) ?_
  refine W.eq (g2 := F0 m 4 ls []) rfl ?_
  refine lv_aload_n hx hb dX1_init_4 rfl (lv_at hl 0 rfl) ?_
  have h_4 : 0 + 1 ≤ 20 := by omega
  have h_5 : 0 + 3 ≤ 1875 := by omega
  refine z_new (T := TX6) (N := 3) (ci := 6) hx hb hts (zi_6 _) hown (hts _ (zm_56 _)) (hts _ (zm_10 _)) (hts _ (zm_7 _)) hK hP hD hS hA rfl h_4 h_5 dX1_init_5 (fun q_1 H f_2 ed_3 hP hD hS => ?_)
  have hP : va_P D vwCl [(h0, .inr (1, zf 16 f0)), (q_1, .inr (6, zf 3 f_2))] H := hP
  have hD : va_D A [(h0, .inr (1, zf 16 f0)), (q_1, .inr (6, zf 3 f_2))] := hD
  refine W.widen (k := 1) (n := 3) (by omega) (by omega) ?_
  refine lv_dup hx hb dX1_init_8 rfl ?_
  refine lv_sipush (v := 250) hx hb dX1_init_9 (by decide) ?_
  have hPc := hP.sub (ws' := [(q_1, .inr (6, zf 3 f_2))]) [1] rfl
  have hDc := hD.sub (ws' := [(q_1, .inr (6, zf 3 f_2))]) [1] (by decide) rfl
  have hFc := va_free (wc := [(q_1, .inr (6, zf 3 f_2))]) hD hS hA [1] rfl
  have h_8 : 1 + 1 ≤ 20 ∧ 3 + 250 ≤ 1875 := by omega
  refine va_callv (va_runIN (As := [.int 250]) (rest := [.ref q_1, .ref h0]) ⟨hx, hb, hml, hown, hts⟩ (c_Row_init l D x 250 q_1 f_2 H.size (ed_3 1) (ed_3 2) (by decide)) ⟨va_cnB 1 hts (zgood (zm_6 _) rfl) rfl rfl rfl (hZ.2.1 _ zn_0) (hts _ (zm_7 _)) ⟨by decide, by decide, by decide +kernel⟩ ⟨Nat.le_of_ble_eq_true rfl, Nat.le_of_ble_eq_true rfl⟩, rfl, hts _ (zm_8 _)⟩ ⟨fun a U g mk q => by obtain ⟨q0, q1, qP, qK, qD⟩ := q; exact ⟨q0, q1, qP, ZK.calling (u := U) zN_ok rfl qK, qD⟩, fun U hU hW => ⟨rfl, by rw [hU], by rw [hU]; exact hPc, ZK.warm zN_ok hW hZ, hDc.weaken (fun _ _ _ _ => trivial)⟩⟩ rfl rfl hl.1 rfl (lv_room (Nat.le_of_ble_eq_true rfl)) dX1_init_12 h_8) hS (fun q _ h => hFc q h) hFc (fun u t H1 locs ht hvm hw_7 hB hz1 hk1 hS => ?_)
  obtain ⟨c0_6, a1_7⟩ := u
  obtain ⟨hP1, hD1⟩ := hB
  rw [ht] at hP1
  try dsimp only at hw_7
  obtain ⟨hP, hD⟩ := va_join (wr := [(h0, .inr (1, zf 16 f0))]) (w1 := [(q_1, .inr (6, zf 3 c0_6)), (a1_7, .inl (x 1, 250, .inl (fun _ => 0)))]) hP hD [1] [0] rfl rfl (by decide) (by decide) hk1 hFc hP1 hD1
  generalize H1 = H at hP hS ⊢
  have hP : va_P D vwCl [(h0, .inr (1, zf 16 f0)), (q_1, .inr (6, zf 3 c0_6)), (a1_7, .inl (x 1, 250, .inl (fun _ => 0)))] H := hP
  have hD : va_D A [(h0, .inr (1, zf 16 f0)), (q_1, .inr (6, zf 3 c0_6)), (a1_7, .inl (x 1, 250, .inl (fun _ => 0)))] := hD
  refine W.widen (k := 2) (n := 253) (by omega) (by omega) ?_
  refine z_putF (T := TX1) (N := 16) (ci := 1) hx hb hts (zi_1 _) hown hK hP hD hS 0 rfl rfl 12 (by decide) (hts _ (zm_57 _)) rfl rfl hin rfl rfl rfl dX1_init_15 (fun H locs f_9 ek_10 ok_11 hP hD hS => ?_)
  have hP : va_P D vwCl [(h0, .inr (1, zf 16 f_9)), (q_1, .inr (6, zf 3 c0_6)), (a1_7, .inl (x 1, 250, .inl (fun _ => 0)))] H := hP
  have hD : va_D A [(h0, .inr (1, zf 16 f_9)), (q_1, .inr (6, zf 3 c0_6)), (a1_7, .inl (x 1, 250, .inl (fun _ => 0)))] := hD
  refine lv_aload_n hx hb dX1_init_18 rfl (lv_at hl 0 rfl) ?_
  have h_15 : 2 + 1 ≤ 20 := by omega
  have h_16 : 253 + 18 ≤ 1875 := by omega
  refine z_new (T := TX8) (N := 18) (ci := 8) hx hb hts (zi_8 _) hown (hts _ (zm_58 _)) (hts _ (zm_898 _)) (hts _ (zm_37 _)) hK hP hD hS hA rfl h_15 h_16 dX1_init_19 (fun q_12 H f_13 ed_14 hP hD hS => ?_)
  have hP : va_P D vwCl [(h0, .inr (1, zf 16 f_9)), (q_1, .inr (6, zf 3 c0_6)), (a1_7, .inl (x 1, 250, .inl (fun _ => 0))), (q_12, .inr (8, zf 18 f_13))] H := hP
  have hD : va_D A [(h0, .inr (1, zf 16 f_9)), (q_1, .inr (6, zf 3 c0_6)), (a1_7, .inl (x 1, 250, .inl (fun _ => 0))), (q_12, .inr (8, zf 18 f_13))] := hD
  refine W.widen (k := 3) (n := 271) (by omega) (by omega) ?_
  refine lv_dup hx hb dX1_init_22 rfl ?_
  refine lv_sipush (v := 250) hx hb dX1_init_23 (by decide) ?_
  refine lv_iconst (v := 1) hx hb dX1_init_26 (by decide) ?_
  have hPc := hP.sub (ws' := [(q_12, .inr (8, zf 18 f_13))]) [3] rfl
  have hDc := hD.sub (ws' := [(q_12, .inr (8, zf 18 f_13))]) [3] (by decide) rfl
  have hFc := va_free (wc := [(q_12, .inr (8, zf 18 f_13))]) hD hS hA [3] rfl
  have h_26 : 3 + 8 ≤ 20 ∧ 271 + 793 ≤ 1875 := by omega
  refine va_callv (va_runIN (As := [.int 250, .int 1]) (rest := [.ref q_12, .ref h0]) ⟨hx, hb, hml, hown, hts⟩ (c_Text_initL l D x q_12 f_13 H.size (ed_14 1) (ed_14 3) (ed_14 4) (ed_14 11) (ed_14 12) (ed_14 13) (ed_14 14) (ed_14 15) (ed_14 16) (ed_14 17)) ⟨va_cnB 2 hts (zgood (zm_36 _) rfl) rfl rfl rfl (hZ.2.1 _ zn_1) (hts _ (zm_37 _)) ⟨by decide, by decide, by decide +kernel⟩ ⟨Nat.le_of_ble_eq_true rfl, Nat.le_of_ble_eq_true rfl⟩, rfl, hts _ (zm_38 _)⟩ ⟨fun a U g mk q => by obtain ⟨q0, q1, qP, qK, qD⟩ := q; exact ⟨q0, q1, qP, ZK.calling (u := U) zN_ok rfl qK, qD⟩, fun U hU hW => ⟨rfl, by rw [hU], by rw [hU]; exact hPc, ZK.warm zN_ok hW hZ, hDc.weaken (fun _ _ _ _ => trivial)⟩⟩ rfl rfl hl.1 rfl (lv_room (Nat.le_of_ble_eq_true rfl)) dX1_init_27 h_26) hS (fun q _ h => hFc q h) hFc (fun u t H1 locs ht hvm hw_25 hB hz1 hk1 hS => ?_)
  obtain ⟨c0_17, a1_18, a2_19, a3_20, a4_21, a5_22, a6_23, a7_24, a8_25⟩ := u
  obtain ⟨hP1, hD1⟩ := hB
  rw [ht] at hP1
  try dsimp only at hw_25
  obtain ⟨hP, hD⟩ := va_join (wr := [(h0, .inr (1, zf 16 f_9)), (q_1, .inr (6, zf 3 c0_6)), (a1_7, .inl (x 1, 250, .inl (fun _ => 0)))]) (w1 := [(q_12, .inr (8, zf 18 c0_17)), (a1_18, .inl (x 0, 20, .inl (fun _ => 0))), (a2_19, .inl (x 1, 250, .inl (fun _ => 0))), (a3_20, .inl (x 0, 518, .inl (fun _ => 0))), (a4_21, .inl (x 0, 1, .inl (fun _ => 0))), (a5_22, .inl (x 0, 1, .inl (fun _ => 0))), (a6_23, .inl (x 0, 1, .inl (fun _ => 0))), (a7_24, .inl (x 2, 1, .inr (.inl (fun _ => 0)))), (a8_25, .inl (x 0, 1, .inl (fun _ => 0)))]) hP hD [3] [0, 1, 2] rfl rfl (by decide) (by decide) hk1 hFc hP1 hD1
  generalize H1 = H at hP hS ⊢
  have hP : va_P D vwCl [(h0, .inr (1, zf 16 f_9)), (q_1, .inr (6, zf 3 c0_6)), (a1_7, .inl (x 1, 250, .inl (fun _ => 0))), (q_12, .inr (8, zf 18 c0_17)), (a1_18, .inl (x 0, 20, .inl (fun _ => 0))), (a2_19, .inl (x 1, 250, .inl (fun _ => 0))), (a3_20, .inl (x 0, 518, .inl (fun _ => 0))), (a4_21, .inl (x 0, 1, .inl (fun _ => 0))), (a5_22, .inl (x 0, 1, .inl (fun _ => 0))), (a6_23, .inl (x 0, 1, .inl (fun _ => 0))), (a7_24, .inl (x 2, 1, .inr (.inl (fun _ => 0)))), (a8_25, .inl (x 0, 1, .inl (fun _ => 0)))] H := hP
  have hD : va_D A [(h0, .inr (1, zf 16 f_9)), (q_1, .inr (6, zf 3 c0_6)), (a1_7, .inl (x 1, 250, .inl (fun _ => 0))), (q_12, .inr (8, zf 18 c0_17)), (a1_18, .inl (x 0, 20, .inl (fun _ => 0))), (a2_19, .inl (x 1, 250, .inl (fun _ => 0))), (a3_20, .inl (x 0, 518, .inl (fun _ => 0))), (a4_21, .inl (x 0, 1, .inl (fun _ => 0))), (a5_22, .inl (x 0, 1, .inl (fun _ => 0))), (a6_23, .inl (x 0, 1, .inl (fun _ => 0))), (a7_24, .inl (x 2, 1, .inr (.inl (fun _ => 0)))), (a8_25, .inl (x 0, 1, .inl (fun _ => 0)))] := hD
  refine W.widen (k := 11) (n := 1064) (by omega) (by omega) ?_
  refine z_putF (T := TX1) (N := 16) (ci := 1) hx hb hts (zi_1 _) hown hK hP hD hS 0 rfl rfl 14 (by decide) (hts _ (zm_59 _)) rfl rfl hin rfl rfl rfl dX1_init_30 (fun H locs f_27 ek_28 ok_29 hP hD hS => ?_)
  have hP : va_P D vwCl [(h0, .inr (1, zf 16 f_27)), (q_1, .inr (6, zf 3 c0_6)), (a1_7, .inl (x 1, 250, .inl (fun _ => 0))), (q_12, .inr (8, zf 18 c0_17)), (a1_18, .inl (x 0, 20, .inl (fun _ => 0))), (a2_19, .inl (x 1, 250, .inl (fun _ => 0))), (a3_20, .inl (x 0, 518, .inl (fun _ => 0))), (a4_21, .inl (x 0, 1, .inl (fun _ => 0))), (a5_22, .inl (x 0, 1, .inl (fun _ => 0))), (a6_23, .inl (x 0, 1, .inl (fun _ => 0))), (a7_24, .inl (x 2, 1, .inr (.inl (fun _ => 0)))), (a8_25, .inl (x 0, 1, .inl (fun _ => 0)))] H := hP
  have hD : va_D A [(h0, .inr (1, zf 16 f_27)), (q_1, .inr (6, zf 3 c0_6)), (a1_7, .inl (x 1, 250, .inl (fun _ => 0))), (q_12, .inr (8, zf 18 c0_17)), (a1_18, .inl (x 0, 20, .inl (fun _ => 0))), (a2_19, .inl (x 1, 250, .inl (fun _ => 0))), (a3_20, .inl (x 0, 518, .inl (fun _ => 0))), (a4_21, .inl (x 0, 1, .inl (fun _ => 0))), (a5_22, .inl (x 0, 1, .inl (fun _ => 0))), (a6_23, .inl (x 0, 1, .inl (fun _ => 0))), (a7_24, .inl (x 2, 1, .inr (.inl (fun _ => 0)))), (a8_25, .inl (x 0, 1, .inl (fun _ => 0)))] := hD
  refine lv_aload_n hx hb dX1_init_33 rfl (lv_at hl 0 rfl) ?_
  have h_33 : 11 + 1 ≤ 20 := by omega
  have h_34 : 1064 + 18 ≤ 1875 := by omega
  refine z_new (T := TX8) (N := 18) (ci := 8) hx hb hts (zi_8 _) hown (hts _ (zm_58 _)) (hts _ (zm_898 _)) (hts _ (zm_37 _)) hK hP hD hS hA rfl h_33 h_34 dX1_init_34 (fun q_30 H f_31 ed_32 hP hD hS => ?_)
  have hP : va_P D vwCl [(h0, .inr (1, zf 16 f_27)), (q_1, .inr (6, zf 3 c0_6)), (a1_7, .inl (x 1, 250, .inl (fun _ => 0))), (q_12, .inr (8, zf 18 c0_17)), (a1_18, .inl (x 0, 20, .inl (fun _ => 0))), (a2_19, .inl (x 1, 250, .inl (fun _ => 0))), (a3_20, .inl (x 0, 518, .inl (fun _ => 0))), (a4_21, .inl (x 0, 1, .inl (fun _ => 0))), (a5_22, .inl (x 0, 1, .inl (fun _ => 0))), (a6_23, .inl (x 0, 1, .inl (fun _ => 0))), (a7_24, .inl (x 2, 1, .inr (.inl (fun _ => 0)))), (a8_25, .inl (x 0, 1, .inl (fun _ => 0))), (q_30, .inr (8, zf 18 f_31))] H := hP
  have hD : va_D A [(h0, .inr (1, zf 16 f_27)), (q_1, .inr (6, zf 3 c0_6)), (a1_7, .inl (x 1, 250, .inl (fun _ => 0))), (q_12, .inr (8, zf 18 c0_17)), (a1_18, .inl (x 0, 20, .inl (fun _ => 0))), (a2_19, .inl (x 1, 250, .inl (fun _ => 0))), (a3_20, .inl (x 0, 518, .inl (fun _ => 0))), (a4_21, .inl (x 0, 1, .inl (fun _ => 0))), (a5_22, .inl (x 0, 1, .inl (fun _ => 0))), (a6_23, .inl (x 0, 1, .inl (fun _ => 0))), (a7_24, .inl (x 2, 1, .inr (.inl (fun _ => 0)))), (a8_25, .inl (x 0, 1, .inl (fun _ => 0))), (q_30, .inr (8, zf 18 f_31))] := hD
  refine W.widen (k := 12) (n := 1082) (by omega) (by omega) ?_
  refine lv_dup hx hb dX1_init_37 rfl ?_
  refine lv_sipush (v := 250) hx hb dX1_init_38 (by decide) ?_
  refine lv_iconst (v := 1) hx hb dX1_init_41 (by decide) ?_
  have hPc := hP.sub (ws' := [(q_30, .inr (8, zf 18 f_31))]) [12] rfl
  have hDc := hD.sub (ws' := [(q_30, .inr (8, zf 18 f_31))]) [12] (by decide) rfl
  have hFc := va_free (wc := [(q_30, .inr (8, zf 18 f_31))]) hD hS hA [12] rfl
  have h_44 : 12 + 8 ≤ 20 ∧ 1082 + 793 ≤ 1875 := by omega
  refine va_callv (va_runIN (As := [.int 250, .int 1]) (rest := [.ref q_30, .ref h0]) ⟨hx, hb, hml, hown, hts⟩ (c_Text_initL l D x q_30 f_31 H.size (ed_32 1) (ed_32 3) (ed_32 4) (ed_32 11) (ed_32 12) (ed_32 13) (ed_32 14) (ed_32 15) (ed_32 16) (ed_32 17)) ⟨va_cnB 2 hts (zgood (zm_36 _) rfl) rfl rfl rfl (hZ.2.1 _ zn_1) (hts _ (zm_37 _)) ⟨by decide, by decide, by decide +kernel⟩ ⟨Nat.le_of_ble_eq_true rfl, Nat.le_of_ble_eq_true rfl⟩, rfl, hts _ (zm_38 _)⟩ ⟨fun a U g mk q => by obtain ⟨q0, q1, qP, qK, qD⟩ := q; exact ⟨q0, q1, qP, ZK.calling (u := U) zN_ok rfl qK, qD⟩, fun U hU hW => ⟨rfl, by rw [hU], by rw [hU]; exact hPc, ZK.warm zN_ok hW hZ, hDc.weaken (fun _ _ _ _ => trivial)⟩⟩ rfl rfl hl.1 rfl (lv_room (Nat.le_of_ble_eq_true rfl)) dX1_init_42 h_44) hS (fun q _ h => hFc q h) hFc (fun u t H1 locs ht hvm hw_43 hB hz1 hk1 hS => ?_)
  obtain ⟨c0_35, a1_36, a2_37, a3_38, a4_39, a5_40, a6_41, a7_42, a8_43⟩ := u
  obtain ⟨hP1, hD1⟩ := hB
  rw [ht] at hP1
  try dsimp only at hw_43
  obtain ⟨hP, hD⟩ := va_join (wr := [(h0, .inr (1, zf 16 f_27)), (q_1, .inr (6, zf 3 c0_6)), (a1_7, .inl (x 1, 250, .inl (fun _ => 0))), (q_12, .inr (8, zf 18 c0_17)), (a1_18, .inl (x 0, 20, .inl (fun _ => 0))), (a2_19, .inl (x 1, 250, .inl (fun _ => 0))), (a3_20, .inl (x 0, 518, .inl (fun _ => 0))), (a4_21, .inl (x 0, 1, .inl (fun _ => 0))), (a5_22, .inl (x 0, 1, .inl (fun _ => 0))), (a6_23, .inl (x 0, 1, .inl (fun _ => 0))), (a7_24, .inl (x 2, 1, .inr (.inl (fun _ => 0)))), (a8_25, .inl (x 0, 1, .inl (fun _ => 0)))]) (w1 := [(q_30, .inr (8, zf 18 c0_35)), (a1_36, .inl (x 0, 20, .inl (fun _ => 0))), (a2_37, .inl (x 1, 250, .inl (fun _ => 0))), (a3_38, .inl (x 0, 518, .inl (fun _ => 0))), (a4_39, .inl (x 0, 1, .inl (fun _ => 0))), (a5_40, .inl (x 0, 1, .inl (fun _ => 0))), (a6_41, .inl (x 0, 1, .inl (fun _ => 0))), (a7_42, .inl (x 2, 1, .inr (.inl (fun _ => 0)))), (a8_43, .inl (x 0, 1, .inl (fun _ => 0)))]) hP hD [12] [0, 1, 2, 3, 4, 5, 6, 7, 8, 9, 10, 11] rfl rfl (by decide) (by decide) hk1 hFc hP1 hD1
  generalize H1 = H at hP hS ⊢
  have hP : va_P D vwCl [(h0, .inr (1, zf 16 f_27)), (q_1, .inr (6, zf 3 c0_6)), (a1_7, .inl (x 1, 250, .inl (fun _ => 0))), (q_12, .inr (8, zf 18 c0_17)), (a1_18, .inl (x 0, 20, .inl (fun _ => 0))), (a2_19, .inl (x 1, 250, .inl (fun _ => 0))), (a3_20, .inl (x 0, 518, .inl (fun _ => 0))), (a4_21, .inl (x 0, 1, .inl (fun _ => 0))), (a5_22, .inl (x 0, 1, .inl (fun _ => 0))), (a6_23, .inl (x 0, 1, .inl (fun _ => 0))), (a7_24, .inl (x 2, 1, .inr (.inl (fun _ => 0)))), (a8_25, .inl (x 0, 1, .inl (fun _ => 0))), (q_30, .inr (8, zf 18 c0_35)), (a1_36, .inl (x 0, 20, .inl (fun _ => 0))), (a2_37, .inl (x 1, 250, .inl (fun _ => 0))), (a3_38, .inl (x 0, 518, .inl (fun _ => 0))), (a4_39, .inl (x 0, 1, .inl (fun _ => 0))), (a5_40, .inl (x 0, 1, .inl (fun _ => 0))), (a6_41, .inl (x 0, 1, .inl (fun _ => 0))), (a7_42, .inl (x 2, 1, .inr (.inl (fun _ => 0)))), (a8_43, .inl (x 0, 1, .inl (fun _ => 0)))] H := hP
  have hD : va_D A [(h0, .inr (1, zf 16 f_27)), (q_1, .inr (6, zf 3 c0_6)), (a1_7, .inl (x 1, 250, .inl (fun _ => 0))), (q_12, .inr (8, zf 18 c0_17)), (a1_18, .inl (x 0, 20, .inl (fun _ => 0))), (a2_19, .inl (x 1, 250, .inl (fun _ => 0))), (a3_20, .inl (x 0, 518, .inl (fun _ => 0))), (a4_21, .inl (x 0, 1, .inl (fun _ => 0))), (a5_22, .inl (x 0, 1, .inl (fun _ => 0))), (a6_23, .inl (x 0, 1, .inl (fun _ => 0))), (a7_24, .inl (x 2, 1, .inr (.inl (fun _ => 0)))), (a8_25, .inl (x 0, 1, .inl (fun _ => 0))), (q_30, .inr (8, zf 18 c0_35)), (a1_36, .inl (x 0, 20, .inl (fun _ => 0))), (a2_37, .inl (x 1, 250, .inl (fun _ => 0))), (a3_38, .inl (x 0, 518, .inl (fun _ => 0))), (a4_39, .inl (x 0, 1, .inl (fun _ => 0))), (a5_40, .inl (x 0, 1, .inl (fun _ => 0))), (a6_41, .inl (x 0, 1, .inl (fun _ => 0))), (a7_42, .inl (x 2, 1, .inr (.inl (fun _ => 0)))), (a8_43, .inl (x 0, 1, .inl (fun _ => 0)))] := hD
  refine W.widen (k := 20) (n := 1875) (by omega) (by omega) ?_
  refine z_putF (T := TX1) (N := 16) (ci := 1) hx hb hts (zi_1 _) hown hK hP hD hS 0 rfl rfl 15 (by decide) (hts _ (zm_60 _)) rfl rfl hin rfl rfl rfl dX1_init_45 (fun H locs f_45 ek_46 ok_47 hP hD hS => ?_)
  have hP : va_P D vwCl [(h0, .inr (1, zf 16 f_45)), (q_1, .inr (6, zf 3 c0_6)), (a1_7, .inl (x 1, 250, .inl (fun _ => 0))), (q_12, .inr (8, zf 18 c0_17)), (a1_18, .inl (x 0, 20, .inl (fun _ => 0))), (a2_19, .inl (x 1, 250, .inl (fun _ => 0))), (a3_20, .inl (x 0, 518, .inl (fun _ => 0))), (a4_21, .inl (x 0, 1, .inl (fun _ => 0))), (a5_22, .inl (x 0, 1, .inl (fun _ => 0))), (a6_23, .inl (x 0, 1, .inl (fun _ => 0))), (a7_24, .inl (x 2, 1, .inr (.inl (fun _ => 0)))), (a8_25, .inl (x 0, 1, .inl (fun _ => 0))), (q_30, .inr (8, zf 18 c0_35)), (a1_36, .inl (x 0, 20, .inl (fun _ => 0))), (a2_37, .inl (x 1, 250, .inl (fun _ => 0))), (a3_38, .inl (x 0, 518, .inl (fun _ => 0))), (a4_39, .inl (x 0, 1, .inl (fun _ => 0))), (a5_40, .inl (x 0, 1, .inl (fun _ => 0))), (a6_41, .inl (x 0, 1, .inl (fun _ => 0))), (a7_42, .inl (x 2, 1, .inr (.inl (fun _ => 0)))), (a8_43, .inl (x 0, 1, .inl (fun _ => 0)))] H := hP
  have hD : va_D A [(h0, .inr (1, zf 16 f_45)), (q_1, .inr (6, zf 3 c0_6)), (a1_7, .inl (x 1, 250, .inl (fun _ => 0))), (q_12, .inr (8, zf 18 c0_17)), (a1_18, .inl (x 0, 20, .inl (fun _ => 0))), (a2_19, .inl (x 1, 250, .inl (fun _ => 0))), (a3_20, .inl (x 0, 518, .inl (fun _ => 0))), (a4_21, .inl (x 0, 1, .inl (fun _ => 0))), (a5_22, .inl (x 0, 1, .inl (fun _ => 0))), (a6_23, .inl (x 0, 1, .inl (fun _ => 0))), (a7_24, .inl (x 2, 1, .inr (.inl (fun _ => 0)))), (a8_25, .inl (x 0, 1, .inl (fun _ => 0))), (q_30, .inr (8, zf 18 c0_35)), (a1_36, .inl (x 0, 20, .inl (fun _ => 0))), (a2_37, .inl (x 1, 250, .inl (fun _ => 0))), (a3_38, .inl (x 0, 518, .inl (fun _ => 0))), (a4_39, .inl (x 0, 1, .inl (fun _ => 0))), (a5_40, .inl (x 0, 1, .inl (fun _ => 0))), (a6_41, .inl (x 0, 1, .inl (fun _ => 0))), (a7_42, .inl (x 2, 1, .inr (.inl (fun _ => 0)))), (a8_43, .inl (x 0, 1, .inl (fun _ => 0)))] := hD
  have hP9 := hP.sub (ws' := [(h0, .inr (1, zf 16 f_45)), (q_1, .inr (6, zf 3 c0_6)), (q_12, .inr (8, zf 18 c0_17)), (a1_18, .inl (x 0, 20, .inl (fun _ => 0))), (a2_19, .inl (x 1, 250, .inl (fun _ => 0))), (a3_20, .inl (x 0, 518, .inl (fun _ => 0))), (a4_21, .inl (x 0, 1, .inl (fun _ => 0))), (a5_22, .inl (x 0, 1, .inl (fun _ => 0))), (a6_23, .inl (x 0, 1, .inl (fun _ => 0))), (a7_24, .inl (x 2, 1, .inr (.inl (fun _ => 0)))), (a8_25, .inl (x 0, 1, .inl (fun _ => 0)))]) [0, 1, 3, 4, 5, 6, 7, 8, 9, 10, 11] rfl
  have hD9 := hD.sub (ws' := [(h0, .inr (1, zf 16 f_45)), (q_1, .inr (6, zf 3 c0_6)), (q_12, .inr (8, zf 18 c0_17)), (a1_18, .inl (x 0, 20, .inl (fun _ => 0))), (a2_19, .inl (x 1, 250, .inl (fun _ => 0))), (a3_20, .inl (x 0, 518, .inl (fun _ => 0))), (a4_21, .inl (x 0, 1, .inl (fun _ => 0))), (a5_22, .inl (x 0, 1, .inl (fun _ => 0))), (a6_23, .inl (x 0, 1, .inl (fun _ => 0))), (a7_24, .inl (x 2, 1, .inr (.inl (fun _ => 0)))), (a8_25, .inl (x 0, 1, .inl (fun _ => 0)))]) [0, 1, 3, 4, 5, 6, 7, 8, 9, 10, 11] (by decide) rfl
  exact W.vret hx hb hr (fun t ht hW => ⟨⟨(f_45, q_1, c0_6, q_12, c0_17, a1_18, a2_19, a3_20, a4_21, a5_22, a6_23, a7_24, a8_25), rfl, ⟨((ok_47 0 (by decide)).trans ((ok_29 0 (by decide)).trans ((ok_11 0 (by decide)).trans h0_0))), ((ok_47 1 (by decide)).trans ((ok_29 1 (by decide)).trans ((ok_11 1 (by decide)).trans h0_1))), ((ok_47 2 (by decide)).trans ((ok_29 2 (by decide)).trans ((ok_11 2 (by decide)).trans h0_2))), ((ok_47 3 (by decide)).trans ((ok_29 3 (by decide)).trans ((ok_11 3 (by decide)).trans h0_3))), ((ok_47 4 (by decide)).trans ((ok_29 4 (by decide)).trans ((ok_11 4 (by decide)).trans h0_4))), ((ok_47 5 (by decide)).trans ((ok_29 5 (by decide)).trans ((ok_11 5 (by decide)).trans h0_5))), ((ok_47 6 (by decide)).trans ((ok_29 6 (by decide)).trans ((ok_11 6 (by decide)).trans h0_6))), ((ok_47 7 (by decide)).trans ((ok_29 7 (by decide)).trans ((ok_11 7 (by decide)).trans h0_7))), ((ok_47 8 (by decide)).trans ((ok_29 8 (by decide)).trans ((ok_11 8 (by decide)).trans h0_8))), ((ok_47 9 (by decide)).trans ((ok_29 9 (by decide)).trans ((ok_11 9 (by decide)).trans h0_9))), ((ok_47 10 (by decide)).trans ((ok_29 10 (by decide)).trans ((ok_11 10 (by decide)).trans h0_10))), ((ok_47 11 (by decide)).trans ((ok_29 11 (by decide)).trans ((ok_11 11 (by decide)).trans h0_11))), ((ok_47 12 (by decide)).trans ((ok_29 12 (by decide)).trans ek_10)), ((ok_47 13 (by decide)).trans ((ok_29 13 (by decide)).trans ((ok_11 13 (by decide)).trans h0_13))), ((ok_47 14 (by decide)).trans ek_28), hw_7.2.1, hw_7.2.2, hw_25.1, hw_25.2.1, hw_25.2.2.1, hw_25.2.2.2.1, hw_25.2.2.2.2.1, hw_25.2.2.2.2.2.1, hw_25.2.2.2.2.2.2.1, hw_25.2.2.2.2.2.2.2.1, hw_25.2.2.2.2.2.2.2.2.1, hw_25.2.2.2.2.2.2.2.2.2.1, hw_25.2.2.2.2.2.2.2.2.2.2.1, hw_25.2.2.2.2.2.2.2.2.2.2.2.1, hw_25.2.2.2.2.2.2.2.2.2.2.2.2.1, hw_25.2.2.2.2.2.2.2.2.2.2.2.2.2.1, hw_25.2.2.2.2.2.2.2.2.2.2.2.2.2.2.1, hw_25.2.2.2.2.2.2.2.2.2.2.2.2.2.2.2.1, hw_25.2.2.2.2.2.2.2.2.2.2.2.2.2.2.2.2.1, hw_25.2.2.2.2.2.2.2.2.2.2.2.2.2.2.2.2.2⟩, ⟨by rw [ht]; exact hP9, hD9⟩⟩, hS.F ht⟩) hS.2.2 dX1_init_48

set_option maxHeartbeats 8000000 in
set_option maxRecDepth 100000 in
/-- the loop of Level.many(30) -/
theorem lp_Level_many {p : Program} {l : Launch} {e : Env} {R : Room} {s : State} {m : MethodId} {args : Array Value} {below : List Frame} {meth : Method} {c : Code} {Q : State → Prop} {A : Nat → Prop} {D : va_G} {x : Nat → ClassId} (q : Nat) (k0 : Nat) (k1 : Nat) (k2 : Nat) (k3 : Nat) (k4 : Nat) (k5 : Nat) (k6 : Nat) (k7 : Nat) (k8 : Nat) (k9 : Nat) (k10 : Nat) (z0 : Nat → Value) (z1 : Nat → Value) (z2 : Nat → Value) (hx : p.tables.exec = Jvm.exec) (hb : c.code = cX1_many) (hml : c.maxLocals = 3) (hts : ∀ w ∈ (.code yX1_many cX1_many 3 (some (.array (.object "MumpsHouse$Level"))) :: zW : List Cond), w.before args s = true) (hown : s.vm.findClass RX1 = some m.cls) (hZ : zK x D s) (hA : ∀ q, s.heap.size ≤ q → A q) (hc : 1 + 30 * 21 ≤ R.cells) (hsl : 30 + 30 * 1891 ≤ R.slots) (hR_c_Level_init : 2 + 1 ≤ R.frames ∧ 8 + (1 + 11) + 34 ≤ R.locals)
    (kk : ∀ (g : Nat → Option Nat) (H : Heap) (locs : List Loc) (ls : Array Slot), g 0 = some k0 → va_P D vwCl [(q, .inl (x 7, 30, .inr (.inr (.inr (.inr g))))), (k0, .inr (1, zf 16 z0)), (k1, .inr (6, zf 3 z1)), (k2, .inr (8, zf 18 z2)), (k3, .inl (x 0, 20, .inl (fun _ => 0))), (k4, .inl (x 1, 250, .inl (fun _ => 0))), (k5, .inl (x 0, 518, .inl (fun _ => 0))), (k6, .inl (x 0, 1, .inl (fun _ => 0))), (k7, .inl (x 0, 1, .inl (fun _ => 0))), (k8, .inl (x 0, 1, .inl (fun _ => 0))), (k9, .inl (x 2, 1, .inr (.inl (fun _ => 0)))), (k10, .inl (x 0, 1, .inl (fun _ => 0)))] H → va_D A [(q, .inl (x 7, 30, .inr (.inr (.inr (.inr g))))), (k0, .inr (1, zf 16 z0)), (k1, .inr (6, zf 3 z1)), (k2, .inr (8, zf 18 z2)), (k3, .inl (x 0, 20, .inl (fun _ => 0))), (k4, .inl (x 1, 250, .inl (fun _ => 0))), (k5, .inl (x 0, 518, .inl (fun _ => 0))), (k6, .inl (x 0, 1, .inl (fun _ => 0))), (k7, .inl (x 0, 1, .inl (fun _ => 0))), (k8, .inl (x 0, 1, .inl (fun _ => 0))), (k9, .inl (x 2, 1, .inr (.inl (fun _ => 0)))), (k10, .inl (x 0, 1, .inl (fun _ => 0)))] → va_S A s.heap H locs → lv_has ls 3 [(2, .int (nI 30)), (1, .ref q), (0, .int 30)] → W p l e R s m args below meth c H locs (1 + 30 * 21) (30 + 30 * 1891) Q (F0 m 29 ls [])) :
    ∀ (k i : Nat), i + k = 30 → ∀ (g : Nat → Option Nat) (H : Heap) (locs : List Loc) (ls : Array Slot), 1 ≤ i → g 0 = some k0 → va_P D vwCl [(q, .inl (x 7, 30, .inr (.inr (.inr (.inr g))))), (k0, .inr (1, zf 16 z0)), (k1, .inr (6, zf 3 z1)), (k2, .inr (8, zf 18 z2)), (k3, .inl (x 0, 20, .inl (fun _ => 0))), (k4, .inl (x 1, 250, .inl (fun _ => 0))), (k5, .inl (x 0, 518, .inl (fun _ => 0))), (k6, .inl (x 0, 1, .inl (fun _ => 0))), (k7, .inl (x 0, 1, .inl (fun _ => 0))), (k8, .inl (x 0, 1, .inl (fun _ => 0))), (k9, .inl (x 2, 1, .inr (.inl (fun _ => 0)))), (k10, .inl (x 0, 1, .inl (fun _ => 0)))] H → va_D A [(q, .inl (x 7, 30, .inr (.inr (.inr (.inr g))))), (k0, .inr (1, zf 16 z0)), (k1, .inr (6, zf 3 z1)), (k2, .inr (8, zf 18 z2)), (k3, .inl (x 0, 20, .inl (fun _ => 0))), (k4, .inl (x 1, 250, .inl (fun _ => 0))), (k5, .inl (x 0, 518, .inl (fun _ => 0))), (k6, .inl (x 0, 1, .inl (fun _ => 0))), (k7, .inl (x 0, 1, .inl (fun _ => 0))), (k8, .inl (x 0, 1, .inl (fun _ => 0))), (k9, .inl (x 2, 1, .inr (.inl (fun _ => 0)))), (k10, .inl (x 0, 1, .inl (fun _ => 0)))] → va_S A s.heap H locs → lv_has ls 3 [(2, .int (nI i)), (1, .ref q), (0, .int 30)] → W p l e R s m args below meth c H locs (1 + i * 21) (30 + i * 1891) Q (F0 m 7 ls []) := by
  intro k
  induction k with
  | zero =>
    intro i hi g H locs ls h1 hg hP hD hS hl
    obtain rfl : i = 30 := by omega
    have hK := hZ.1
    refine lv_iload_n hx hb dX1_many_7 rfl (lv_at hl 0 rfl) ?_
    refine lv_aload_n hx hb dX1_many_8 rfl (lv_at hl 1 rfl) ?_
    refine va_alen (v := 30) hx hb hK hP 0 7 rfl rfl rfl dX1_many_9 ?_
    refine lv_icmp_ge (tgt := 29) hx hb dX1_many_10 (by decide) (fun _ => ?_) (fun c9 => absurd ((by decide : (30 : Int32) ≤ nI 30)) c9)
    exact kk g H locs ls hg hP hD hS hl
  | succ k ih =>
    intro i hi g H locs ls h1 hg hP hD hS hl
    have hK := hZ.1
    have hlt : i < 30 := by omega
    refine lv_iload_n hx hb dX1_many_7 rfl (lv_at hl 0 rfl) ?_
    refine lv_aload_n hx hb dX1_many_8 rfl (lv_at hl 1 rfl) ?_
    refine va_alen (v := 30) hx hb hK hP 0 7 rfl rfl rfl dX1_many_9 ?_
    refine lv_icmp_ge (tgt := 29) hx hb dX1_many_10 (by decide) (fun c9 => absurd c9 ((show ¬ nI 30 ≤ nI i from nI_ge hlt (by decide)))) (fun _ => ?_)
    refine lv_aload_n hx hb dX1_many_13 rfl (lv_at hl 1 rfl) ?_
    refine lv_iload_n hx hb dX1_many_14 rfl (lv_at hl 0 rfl) ?_
    have h_4 : 1 + i * 21 + 1 ≤ R.cells := by omega
    have h_5 : 30 + i * 1891 + 16 ≤ R.slots := by omega
    refine z_new (T := TX1) (N := 16) (ci := 1) hx hb hts (zi_1 _) hown (hts _ (zm_63 _)) (hts _ (zm_903 _)) (hts _ (zm_53 _)) hK hP hD hS hA rfl h_4 h_5 dX1_many_15 (fun q_1 H f_2 ed_3 hP hD hS => ?_)
    have hP : va_P D vwCl [(q, .inl (x 7, 30, .inr (.inr (.inr (.inr g))))), (k0, .inr (1, zf 16 z0)), (k1, .inr (6, zf 3 z1)), (k2, .inr (8, zf 18 z2)), (k3, .inl (x 0, 20, .inl (fun _ => 0))), (k4, .inl (x 1, 250, .inl (fun _ => 0))), (k5, .inl (x 0, 518, .inl (fun _ => 0))), (k6, .inl (x 0, 1, .inl (fun _ => 0))), (k7, .inl (x 0, 1, .inl (fun _ => 0))), (k8, .inl (x 0, 1, .inl (fun _ => 0))), (k9, .inl (x 2, 1, .inr (.inl (fun _ => 0)))), (k10, .inl (x 0, 1, .inl (fun _ => 0))), (q_1, .inr (1, zf 16 f_2))] H := hP
    have hD : va_D A [(q, .inl (x 7, 30, .inr (.inr (.inr (.inr g))))), (k0, .inr (1, zf 16 z0)), (k1, .inr (6, zf 3 z1)), (k2, .inr (8, zf 18 z2)), (k3, .inl (x 0, 20, .inl (fun _ => 0))), (k4, .inl (x 1, 250, .inl (fun _ => 0))), (k5, .inl (x 0, 518, .inl (fun _ => 0))), (k6, .inl (x 0, 1, .inl (fun _ => 0))), (k7, .inl (x 0, 1, .inl (fun _ => 0))), (k8, .inl (x 0, 1, .inl (fun _ => 0))), (k9, .inl (x 2, 1, .inr (.inl (fun _ => 0)))), (k10, .inl (x 0, 1, .inl (fun _ => 0))), (q_1, .inr (1, zf 16 f_2))] := hD
    refine W.widen (k := 1 + i * 21 + 1) (n := 16 + 30 + i * 1891) (by omega) (by omega) ?_
    refine lv_dup hx hb dX1_many_18 rfl ?_
    have hPc := hP.sub (ws' := [(q_1, .inr (1, zf 16 f_2))]) [12] rfl
    have hDc := hD.sub (ws' := [(q_1, .inr (1, zf 16 f_2))]) [12] (by decide) rfl
    have hFc := va_free (wc := [(q_1, .inr (1, zf 16 f_2))]) hD hS hA [12] rfl
    have h_19 : 1 + i * 21 + 1 + 20 ≤ R.cells ∧ 16 + 30 + i * 1891 + 1875 ≤ R.slots := by omega
    refine va_callv (va_runI (As := []) (rest := [.ref q_1, .int (nI i), .ref q]) ⟨hx, hb, hml, hown, hts⟩ (c_Level_init l D x q_1 f_2 H.size (ed_3 0) (ed_3 1) (ed_3 2) (ed_3 3) (ed_3 4) (ed_3 5) (ed_3 6) (ed_3 7) (ed_3 8) (ed_3 9) (ed_3 10) (ed_3 11) (ed_3 13)) ⟨callB_of 0 hts (zgood (zm_52 _) rfl) rfl rfl rfl (hts _ (zm_53 _)) (hts _ (zm_64 _)) ⟨by decide, by decide, by decide +kernel⟩ hR_c_Level_init, rfl, hts _ (zm_54 _)⟩ ⟨fun a U g mk q => by obtain ⟨q0, q1, qP, qK, qD⟩ := q; exact ⟨q0, q1, qP, ZK.calling (u := U) zN_ok rfl qK, qD⟩, fun U hU hW => ⟨rfl, by rw [hU], by rw [hU]; exact hPc, ZK.warm zN_ok hW hZ, hDc.weaken (fun _ _ _ _ => trivial)⟩⟩ rfl rfl hl.1 rfl (lv_room (Nat.le_of_ble_eq_true rfl)) dX1_many_19 h_19) hS (fun q _ h => hFc q h) hFc (fun u t H1 locs ht hvm hw_18 hB hz1 hk1 hS => ?_)
    obtain ⟨c0_6, a1_7, c1_8, a2_9, c2_10, a3_11, a4_12, a5_13, a6_14, a7_15, a8_16, a9_17, a10_18⟩ := u
    obtain ⟨hP1, hD1⟩ := hB
    rw [ht] at hP1
    try dsimp only at hw_18
    obtain ⟨hP, hD⟩ := va_join (wr := [(q, .inl (x 7, 30, .inr (.inr (.inr (.inr g))))), (k0, .inr (1, zf 16 z0)), (k1, .inr (6, zf 3 z1)), (k2, .inr (8, zf 18 z2)), (k3, .inl (x 0, 20, .inl (fun _ => 0))), (k4, .inl (x 1, 250, .inl (fun _ => 0))), (k5, .inl (x 0, 518, .inl (fun _ => 0))), (k6, .inl (x 0, 1, .inl (fun _ => 0))), (k7, .inl (x 0, 1, .inl (fun _ => 0))), (k8, .inl (x 0, 1, .inl (fun _ => 0))), (k9, .inl (x 2, 1, .inr (.inl (fun _ => 0)))), (k10, .inl (x 0, 1, .inl (fun _ => 0)))]) (w1 := [(q_1, .inr (1, zf 16 c0_6)), (a1_7, .inr (6, zf 3 c1_8)), (a2_9, .inr (8, zf 18 c2_10)), (a3_11, .inl (x 0, 20, .inl (fun _ => 0))), (a4_12, .inl (x 1, 250, .inl (fun _ => 0))), (a5_13, .inl (x 0, 518, .inl (fun _ => 0))), (a6_14, .inl (x 0, 1, .inl (fun _ => 0))), (a7_15, .inl (x 0, 1, .inl (fun _ => 0))), (a8_16, .inl (x 0, 1, .inl (fun _ => 0))), (a9_17, .inl (x 2, 1, .inr (.inl (fun _ => 0)))), (a10_18, .inl (x 0, 1, .inl (fun _ => 0)))]) hP hD [12] [0, 1, 2, 3, 4, 5, 6, 7, 8, 9, 10, 11] rfl rfl (by decide) (by decide) hk1 hFc hP1 hD1
    generalize H1 = H at hP hS ⊢
    have hP : va_P D vwCl [(q, .inl (x 7, 30, .inr (.inr (.inr (.inr g))))), (k0, .inr (1, zf 16 z0)), (k1, .inr (6, zf 3 z1)), (k2, .inr (8, zf 18 z2)), (k3, .inl (x 0, 20, .inl (fun _ => 0))), (k4, .inl (x 1, 250, .inl (fun _ => 0))), (k5, .inl (x 0, 518, .inl (fun _ => 0))), (k6, .inl (x 0, 1, .inl (fun _ => 0))), (k7, .inl (x 0, 1, .inl (fun _ => 0))), (k8, .inl (x 0, 1, .inl (fun _ => 0))), (k9, .inl (x 2, 1, .inr (.inl (fun _ => 0)))), (k10, .inl (x 0, 1, .inl (fun _ => 0))), (q_1, .inr (1, zf 16 c0_6)), (a1_7, .inr (6, zf 3 c1_8)), (a2_9, .inr (8, zf 18 c2_10)), (a3_11, .inl (x 0, 20, .inl (fun _ => 0))), (a4_12, .inl (x 1, 250, .inl (fun _ => 0))), (a5_13, .inl (x 0, 518, .inl (fun _ => 0))), (a6_14, .inl (x 0, 1, .inl (fun _ => 0))), (a7_15, .inl (x 0, 1, .inl (fun _ => 0))), (a8_16, .inl (x 0, 1, .inl (fun _ => 0))), (a9_17, .inl (x 2, 1, .inr (.inl (fun _ => 0)))), (a10_18, .inl (x 0, 1, .inl (fun _ => 0)))] H := hP
    have hD : va_D A [(q, .inl (x 7, 30, .inr (.inr (.inr (.inr g))))), (k0, .inr (1, zf 16 z0)), (k1, .inr (6, zf 3 z1)), (k2, .inr (8, zf 18 z2)), (k3, .inl (x 0, 20, .inl (fun _ => 0))), (k4, .inl (x 1, 250, .inl (fun _ => 0))), (k5, .inl (x 0, 518, .inl (fun _ => 0))), (k6, .inl (x 0, 1, .inl (fun _ => 0))), (k7, .inl (x 0, 1, .inl (fun _ => 0))), (k8, .inl (x 0, 1, .inl (fun _ => 0))), (k9, .inl (x 2, 1, .inr (.inl (fun _ => 0)))), (k10, .inl (x 0, 1, .inl (fun _ => 0))), (q_1, .inr (1, zf 16 c0_6)), (a1_7, .inr (6, zf 3 c1_8)), (a2_9, .inr (8, zf 18 c2_10)), (a3_11, .inl (x 0, 20, .inl (fun _ => 0))), (a4_12, .inl (x 1, 250, .inl (fun _ => 0))), (a5_13, .inl (x 0, 518, .inl (fun _ => 0))), (a6_14, .inl (x 0, 1, .inl (fun _ => 0))), (a7_15, .inl (x 0, 1, .inl (fun _ => 0))), (a8_16, .inl (x 0, 1, .inl (fun _ => 0))), (a9_17, .inl (x 2, 1, .inr (.inl (fun _ => 0)))), (a10_18, .inl (x 0, 1, .inl (fun _ => 0)))] := hD
    refine W.widen (k := 1 + i * 21 + 21) (n := 1891 + 30 + i * 1891) (by omega) (by omega) ?_
    refine z_astq hx hb hK hP hD hS 0 7 12 1 rfl rfl rfl rfl (vp_in_nI hlt (by decide)) dX1_many_22 (fun H locs g_20 ek_21 ok_22 hP hD hS => ?_)
    have hP : va_P D vwCl [(q, .inl (x 7, 30, .inr (.inr (.inr (.inr g_20))))), (k0, .inr (1, zf 16 z0)), (k1, .inr (6, zf 3 z1)), (k2, .inr (8, zf 18 z2)), (k3, .inl (x 0, 20, .inl (fun _ => 0))), (k4, .inl (x 1, 250, .inl (fun _ => 0))), (k5, .inl (x 0, 518, .inl (fun _ => 0))), (k6, .inl (x 0, 1, .inl (fun _ => 0))), (k7, .inl (x 0, 1, .inl (fun _ => 0))), (k8, .inl (x 0, 1, .inl (fun _ => 0))), (k9, .inl (x 2, 1, .inr (.inl (fun _ => 0)))), (k10, .inl (x 0, 1, .inl (fun _ => 0))), (q_1, .inr (1, zf 16 c0_6)), (a1_7, .inr (6, zf 3 c1_8)), (a2_9, .inr (8, zf 18 c2_10)), (a3_11, .inl (x 0, 20, .inl (fun _ => 0))), (a4_12, .inl (x 1, 250, .inl (fun _ => 0))), (a5_13, .inl (x 0, 518, .inl (fun _ => 0))), (a6_14, .inl (x 0, 1, .inl (fun _ => 0))), (a7_15, .inl (x 0, 1, .inl (fun _ => 0))), (a8_16, .inl (x 0, 1, .inl (fun _ => 0))), (a9_17, .inl (x 2, 1, .inr (.inl (fun _ => 0)))), (a10_18, .inl (x 0, 1, .inl (fun _ => 0)))] H := hP
    have hD : va_D A [(q, .inl (x 7, 30, .inr (.inr (.inr (.inr g_20))))), (k0, .inr (1, zf 16 z0)), (k1, .inr (6, zf 3 z1)), (k2, .inr (8, zf 18 z2)), (k3, .inl (x 0, 20, .inl (fun _ => 0))), (k4, .inl (x 1, 250, .inl (fun _ => 0))), (k5, .inl (x 0, 518, .inl (fun _ => 0))), (k6, .inl (x 0, 1, .inl (fun _ => 0))), (k7, .inl (x 0, 1, .inl (fun _ => 0))), (k8, .inl (x 0, 1, .inl (fun _ => 0))), (k9, .inl (x 2, 1, .inr (.inl (fun _ => 0)))), (k10, .inl (x 0, 1, .inl (fun _ => 0))), (q_1, .inr (1, zf 16 c0_6)), (a1_7, .inr (6, zf 3 c1_8)), (a2_9, .inr (8, zf 18 c2_10)), (a3_11, .inl (x 0, 20, .inl (fun _ => 0))), (a4_12, .inl (x 1, 250, .inl (fun _ => 0))), (a5_13, .inl (x 0, 518, .inl (fun _ => 0))), (a6_14, .inl (x 0, 1, .inl (fun _ => 0))), (a7_15, .inl (x 0, 1, .inl (fun _ => 0))), (a8_16, .inl (x 0, 1, .inl (fun _ => 0))), (a9_17, .inl (x 2, 1, .inr (.inl (fun _ => 0)))), (a10_18, .inl (x 0, 1, .inl (fun _ => 0)))] := hD
    refine lv_iinc (v := nI (i + 1)) (lv' := [(2, .int (nI (i + 1))), (1, .ref q), (0, .int 30)]) hx hb dX1_many_23 hl (k := 0) rfl (nI_1 i) (by decide) rfl (fun ls hl => ?_)
    refine lv_goto (tgt := 7) hx hb dX1_many_26 (by decide) ?_
    have hP := hP.sub (ws' := [(q, .inl (x 7, 30, .inr (.inr (.inr (.inr g_20))))), (k0, .inr (1, zf 16 z0)), (k1, .inr (6, zf 3 z1)), (k2, .inr (8, zf 18 z2)), (k3, .inl (x 0, 20, .inl (fun _ => 0))), (k4, .inl (x 1, 250, .inl (fun _ => 0))), (k5, .inl (x 0, 518, .inl (fun _ => 0))), (k6, .inl (x 0, 1, .inl (fun _ => 0))), (k7, .inl (x 0, 1, .inl (fun _ => 0))), (k8, .inl (x 0, 1, .inl (fun _ => 0))), (k9, .inl (x 2, 1, .inr (.inl (fun _ => 0)))), (k10, .inl (x 0, 1, .inl (fun _ => 0)))]) [0, 1, 2, 3, 4, 5, 6, 7, 8, 9, 10, 11] rfl
    have hD := hD.sub (ws' := [(q, .inl (x 7, 30, .inr (.inr (.inr (.inr g_20))))), (k0, .inr (1, zf 16 z0)), (k1, .inr (6, zf 3 z1)), (k2, .inr (8, zf 18 z2)), (k3, .inl (x 0, 20, .inl (fun _ => 0))), (k4, .inl (x 1, 250, .inl (fun _ => 0))), (k5, .inl (x 0, 518, .inl (fun _ => 0))), (k6, .inl (x 0, 1, .inl (fun _ => 0))), (k7, .inl (x 0, 1, .inl (fun _ => 0))), (k8, .inl (x 0, 1, .inl (fun _ => 0))), (k9, .inl (x 2, 1, .inr (.inl (fun _ => 0)))), (k10, .inl (x 0, 1, .inl (fun _ => 0)))]) [0, 1, 2, 3, 4, 5, 6, 7, 8, 9, 10, 11] (by decide) rfl
    refine W.widen (k := 1 + (i + 1) * 21) (n := 30 + (i + 1) * 1891) (by omega) (by omega) ?_
    exact ih (i + 1) (by omega) _ H locs ls (by omega) ((ok_22 0 (by rw [nI_clamp (by omega)]; omega)).trans hg) hP hD hS (lv_sub hl [0, 1, 2] rfl)

set_option maxHeartbeats 8000000 in
set_option maxRecDepth 100000 in
/-- Level.many(30) -/
theorem c_Level_many (l : Launch) (D : va_G) (x : Nat → ClassId)  (sz : Nat)  : Met l yX1_many (.code yX1_many cX1_many 3 (some (.array (.object "MumpsHouse$Level"))) :: zW) ({ frames := 3, cells := (631), slots := (56760), locals := 54 }) (va_Pc [.int 30] (fun U => U.heap.size = sz ∧ va_P D vwCl [] U.heap ∧ zK x D U ∧ va_D (fun _ => True) [])) (va_Qr (fun u : (Nat → Option Nat) × (Nat) × (Nat → Value) × (Nat) × (Nat → Value) × (Nat) × (Nat → Value) × (Nat) × (Nat) × (Nat) × (Nat) × (Nat) × (Nat) × (Nat) × (Nat) => match u with | (c0, a1, c1, a2, c2, a3, c3, a4, a5, a6, a7, a8, a9, a10, a11) => c0 0 = some a1 ∧ c1 0 = .int 0 ∧ c1 1 = .null ∧ c1 2 = .int 0 ∧ c1 3 = .int 0 ∧ c1 4 = .int 0 ∧ c1 5 = .int 0 ∧ c1 6 = .int 0 ∧ c1 7 = .int 0 ∧ c1 8 = .int 0 ∧ c1 9 = .int 0 ∧ c1 10 = .null ∧ c1 11 = .int 0 ∧ c1 12 = .ref a2 ∧ c1 13 = .int 0 ∧ c1 14 = .ref a3 ∧ c2 2 = .int 0 ∧ c3 0 = .ref a5 ∧ c3 1 = .int 0 ∧ c3 2 = .ref a6 ∧ c3 3 = .int 0 ∧ c3 4 = .int 0 ∧ c3 5 = .ref a7 ∧ c3 6 = .ref a8 ∧ c3 7 = .ref a9 ∧ c3 8 = .ref a10 ∧ c3 9 = .ref a11 ∧ c3 10 = .ref a4 ∧ c3 11 = .long 0 ∧ c3 12 = .null ∧ c3 13 = .int 0 ∧ c3 14 = .int 0 ∧ c3 15 = .int 0 ∧ c3 16 = .int 0 ∧ c3 17 = .int 0) (fun u ra t => match u with | (c0, a1, c1, a2, c2, a3, c3, a4, a5, a6, a7, a8, a9, a10, a11) => zB D vwCl (va_A [] sz) [(ra, .inl (x 7, 30, .inr (.inr (.inr (.inr c0))))), (a1, .inr (1, zf 16 c1)), (a2, .inr (6, zf 3 c2)), (a3, .inr (8, zf 18 c3)), (a4, .inl (x 0, 20, .inl (fun _ => 0))), (a5, .inl (x 1, 250, .inl (fun _ => 0))), (a6, .inl (x 0, 518, .inl (fun _ => 0))), (a7, .inl (x 0, 1, .inl (fun _ => 0))), (a8, .inl (x 0, 1, .inl (fun _ => 0))), (a9, .inl (x 0, 1, .inl (fun _ => 0))), (a10, .inl (x 2, 1, .inr (.inl (fun _ => 0)))), (a11, .inl (x 0, 1, .inl (fun _ => 0)))] t) (va_A [] sz)) (631) (56760) (va_A [] sz) := by
  refine Met.ofW (cc := cX1_many) (maxL := 3) (ret := (some (.array (.object "MumpsHouse$Level")))) (by decide) rfl ?_
  intro p e s m args below meth c s₁ B hml hv
  obtain ⟨rfl, hsz, hP, hZ, hD0⟩ := hv
  have hK := hZ.1
  have hx := B.exec
  have hb := B.bytes
  have hr := B.returns
  have hts := atoms_spec (ws := .code yX1_many cX1_many 3 (some (.array (.object "MumpsHouse$Level"))) :: zW) B.pre
  have hown : s.vm.findClass RX1 = some m.cls := findClass_of_methodNamed B.named
  have hlocks := B.notSynchronized
  subst hsz
  have hD := hD0.self (sz := s.heap.size)
  generalize hAe : va_A [] s.heap.size = A at hD ⊢
  have hA : ∀ q : Nat, s.heap.size ≤ q → A q := fun q h => by rw [← hAe]; exact Or.inr h
  have hS : va_S A s.heap s.heap [] := va_S.rf
  have hP : va_P D vwCl [] s.heap := hP
  have hl := lv_entry ([.int 30]) (n := 3) (Nat.le_of_ble_eq_true rfl)
  rw [lg_entry_eq]
  generalize (lg_sl ([.int 30]) ++ List.replicate (3 - (lg_sl ([.int 30])).length) Slot.unset).toArray = ls at hl ⊢
  have hl : lv_has ls 3 [(0, .int 30)] := hl
  refine lv_iload_n hx hb dX1_many_0 rfl (lv_at hl 0 rfl) ?_
  have h_2 : 0 + 1 ≤ 631 := by omega
  have h_3 : 0 + 30 ≤ 56760 := by omega
  refine z_newq (C := RX1) hx hb hown (hts _ (zm_63 _)) (hZ.2.2 _ (List.mem_of_getElem? (i := 3) rfl)) hK 7 rfl hP hD hS hA (by decide) (by decide) (by decide) h_2 h_3 dX1_many_1 (fun q_1 H hP hD hS => ?_)
  have hP : va_P D vwCl [(q_1, .inl (x 7, 30, .inr (.inr (.inr (.inr (fun _ => none))))))] H := hP
  have hD : va_D A [(q_1, .inl (x 7, 30, .inr (.inr (.inr (.inr (fun _ => none))))))] := hD
  refine W.widen (k := 1) (n := 30) (by omega) (by omega) ?_
  refine lv_astore_n (lv' := [(1, .ref q_1), (0, .int 30)]) hx hb dX1_many_4 rfl hl (by decide) rfl (fun ls hl => ?_)
  refine lv_iconst (v := 0) hx hb dX1_many_5 (by decide) ?_
  refine lv_istore_n (lv' := [(2, .int 0), (1, .ref q_1), (0, .int 30)]) hx hb dX1_many_6 rfl hl (by decide) rfl (fun ls hl => ?_)
  refine lv_iload_n hx hb dX1_many_7 rfl (lv_at hl 0 rfl) ?_
  refine lv_aload_n hx hb dX1_many_8 rfl (lv_at hl 1 rfl) ?_
  refine va_alen (v := 30) hx hb hK hP 0 7 rfl rfl rfl dX1_many_9 ?_
  refine lv_icmp_ge (tgt := 29) hx hb dX1_many_10 (by decide) (fun c9 => absurd c9 (by decide)) (fun _ => ?_)
  refine lv_aload_n hx hb dX1_many_13 rfl (lv_at hl 1 rfl) ?_
  refine lv_iload_n hx hb dX1_many_14 rfl (lv_at hl 0 rfl) ?_
  have h_7 : 1 + 1 ≤ 631 := by omega
  have h_8 : 30 + 16 ≤ 56760 := by omega
  refine z_new (T := TX1) (N := 16) (ci := 1) hx hb hts (zi_1 _) hown (hts _ (zm_63 _)) (hts _ (zm_903 _)) (hts _ (zm_53 _)) hK hP hD hS hA rfl h_7 h_8 dX1_many_15 (fun q_4 H f_5 ed_6 hP hD hS => ?_)
  have hP : va_P D vwCl [(q_1, .inl (x 7, 30, .inr (.inr (.inr (.inr (fun _ => none)))))), (q_4, .inr (1, zf 16 f_5))] H := hP
  have hD : va_D A [(q_1, .inl (x 7, 30, .inr (.inr (.inr (.inr (fun _ => none)))))), (q_4, .inr (1, zf 16 f_5))] := hD
  refine W.widen (k := 2) (n := 46) (by omega) (by omega) ?_
  refine lv_dup hx hb dX1_many_18 rfl ?_
  have hPc := hP.sub (ws' := [(q_4, .inr (1, zf 16 f_5))]) [1] rfl
  have hDc := hD.sub (ws' := [(q_4, .inr (1, zf 16 f_5))]) [1] (by decide) rfl
  have hFc := va_free (wc := [(q_4, .inr (1, zf 16 f_5))]) hD hS hA [1] rfl
  have h_22 : 2 + 20 ≤ 631 ∧ 46 + 1875 ≤ 56760 := by omega
  refine va_callv (va_runI (As := []) (rest := [.ref q_4, .int 0, .ref q_1]) ⟨hx, hb, hml, hown, hts⟩ (c_Level_init l D x q_4 f_5 H.size (ed_6 0) (ed_6 1) (ed_6 2) (ed_6 3) (ed_6 4) (ed_6 5) (ed_6 6) (ed_6 7) (ed_6 8) (ed_6 9) (ed_6 10) (ed_6 11) (ed_6 13)) ⟨callB_of 0 hts (zgood (zm_52 _) rfl) rfl rfl rfl (hts _ (zm_53 _)) (hts _ (zm_64 _)) ⟨by decide, by decide, by decide +kernel⟩ ⟨Nat.le_of_ble_eq_true rfl, Nat.le_of_ble_eq_true rfl⟩, rfl, hts _ (zm_54 _)⟩ ⟨fun a U g mk q => by obtain ⟨q0, q1, qP, qK, qD⟩ := q; exact ⟨q0, q1, qP, ZK.calling (u := U) zN_ok rfl qK, qD⟩, fun U hU hW => ⟨rfl, by rw [hU], by rw [hU]; exact hPc, ZK.warm zN_ok hW hZ, hDc.weaken (fun _ _ _ _ => trivial)⟩⟩ rfl rfl hl.1 rfl (lv_room (Nat.le_of_ble_eq_true rfl)) dX1_many_19 h_22) hS (fun q _ h => hFc q h) hFc (fun u t H1 locs ht hvm hw_21 hB hz1 hk1 hS => ?_)
  obtain ⟨c0_9, a1_10, c1_11, a2_12, c2_13, a3_14, a4_15, a5_16, a6_17, a7_18, a8_19, a9_20, a10_21⟩ := u
  obtain ⟨hP1, hD1⟩ := hB
  rw [ht] at hP1
  try dsimp only at hw_21
  obtain ⟨hP, hD⟩ := va_join (wr := [(q_1, .inl (x 7, 30, .inr (.inr (.inr (.inr (fun _ => none))))))]) (w1 := [(q_4, .inr (1, zf 16 c0_9)), (a1_10, .inr (6, zf 3 c1_11)), (a2_12, .inr (8, zf 18 c2_13)), (a3_14, .inl (x 0, 20, .inl (fun _ => 0))), (a4_15, .inl (x 1, 250, .inl (fun _ => 0))), (a5_16, .inl (x 0, 518, .inl (fun _ => 0))), (a6_17, .inl (x 0, 1, .inl (fun _ => 0))), (a7_18, .inl (x 0, 1, .inl (fun _ => 0))), (a8_19, .inl (x 0, 1, .inl (fun _ => 0))), (a9_20, .inl (x 2, 1, .inr (.inl (fun _ => 0)))), (a10_21, .inl (x 0, 1, .inl (fun _ => 0)))]) hP hD [1] [0] rfl rfl (by decide) (by decide) hk1 hFc hP1 hD1
  generalize H1 = H at hP hS ⊢
  have hP : va_P D vwCl [(q_1, .inl (x 7, 30, .inr (.inr (.inr (.inr (fun _ => none)))))), (q_4, .inr (1, zf 16 c0_9)), (a1_10, .inr (6, zf 3 c1_11)), (a2_12, .inr (8, zf 18 c2_13)), (a3_14, .inl (x 0, 20, .inl (fun _ => 0))), (a4_15, .inl (x 1, 250, .inl (fun _ => 0))), (a5_16, .inl (x 0, 518, .inl (fun _ => 0))), (a6_17, .inl (x 0, 1, .inl (fun _ => 0))), (a7_18, .inl (x 0, 1, .inl (fun _ => 0))), (a8_19, .inl (x 0, 1, .inl (fun _ => 0))), (a9_20, .inl (x 2, 1, .inr (.inl (fun _ => 0)))), (a10_21, .inl (x 0, 1, .inl (fun _ => 0)))] H := hP
  have hD : va_D A [(q_1, .inl (x 7, 30, .inr (.inr (.inr (.inr (fun _ => none)))))), (q_4, .inr (1, zf 16 c0_9)), (a1_10, .inr (6, zf 3 c1_11)), (a2_12, .inr (8, zf 18 c2_13)), (a3_14, .inl (x 0, 20, .inl (fun _ => 0))), (a4_15, .inl (x 1, 250, .inl (fun _ => 0))), (a5_16, .inl (x 0, 518, .inl (fun _ => 0))), (a6_17, .inl (x 0, 1, .inl (fun _ => 0))), (a7_18, .inl (x 0, 1, .inl (fun _ => 0))), (a8_19, .inl (x 0, 1, .inl (fun _ => 0))), (a9_20, .inl (x 2, 1, .inr (.inl (fun _ => 0)))), (a10_21, .inl (x 0, 1, .inl (fun _ => 0)))] := hD
  refine W.widen (k := 22) (n := 1921) (by omega) (by omega) ?_
  refine z_astq hx hb hK hP hD hS 0 7 1 1 rfl rfl rfl rfl (z_in (by decide)) dX1_many_22 (fun H locs g_23 ek_24 ok_25 hP hD hS => ?_)
  have hP : va_P D vwCl [(q_1, .inl (x 7, 30, .inr (.inr (.inr (.inr g_23))))), (q_4, .inr (1, zf 16 c0_9)), (a1_10, .inr (6, zf 3 c1_11)), (a2_12, .inr (8, zf 18 c2_13)), (a3_14, .inl (x 0, 20, .inl (fun _ => 0))), (a4_15, .inl (x 1, 250, .inl (fun _ => 0))), (a5_16, .inl (x 0, 518, .inl (fun _ => 0))), (a6_17, .inl (x 0, 1, .inl (fun _ => 0))), (a7_18, .inl (x 0, 1, .inl (fun _ => 0))), (a8_19, .inl (x 0, 1, .inl (fun _ => 0))), (a9_20, .inl (x 2, 1, .inr (.inl (fun _ => 0)))), (a10_21, .inl (x 0, 1, .inl (fun _ => 0)))] H := hP
  have hD : va_D A [(q_1, .inl (x 7, 30, .inr (.inr (.inr (.inr g_23))))), (q_4, .inr (1, zf 16 c0_9)), (a1_10, .inr (6, zf 3 c1_11)), (a2_12, .inr (8, zf 18 c2_13)), (a3_14, .inl (x 0, 20, .inl (fun _ => 0))), (a4_15, .inl (x 1, 250, .inl (fun _ => 0))), (a5_16, .inl (x 0, 518, .inl (fun _ => 0))), (a6_17, .inl (x 0, 1, .inl (fun _ => 0))), (a7_18, .inl (x 0, 1, .inl (fun _ => 0))), (a8_19, .inl (x 0, 1, .inl (fun _ => 0))), (a9_20, .inl (x 2, 1, .inr (.inl (fun _ => 0)))), (a10_21, .inl (x 0, 1, .inl (fun _ => 0)))] := hD
  refine lv_iinc (v := 1) (lv' := [(2, .int 1), (1, .ref q_1), (0, .int 30)]) hx hb dX1_many_23 hl (k := 0) rfl (by decide) (by decide) rfl (fun ls hl => ?_)
  refine lv_goto (tgt := 7) hx hb dX1_many_26 (by decide) ?_
  have hP := hP.sub (ws' := [(q_1, .inl (x 7, 30, .inr (.inr (.inr (.inr g_23))))), (q_4, .inr (1, zf 16 c0_9)), (a1_10, .inr (6, zf 3 c1_11)), (a2_12, .inr (8, zf 18 c2_13)), (a3_14, .inl (x 0, 20, .inl (fun _ => 0))), (a4_15, .inl (x 1, 250, .inl (fun _ => 0))), (a5_16, .inl (x 0, 518, .inl (fun _ => 0))), (a6_17, .inl (x 0, 1, .inl (fun _ => 0))), (a7_18, .inl (x 0, 1, .inl (fun _ => 0))), (a8_19, .inl (x 0, 1, .inl (fun _ => 0))), (a9_20, .inl (x 2, 1, .inr (.inl (fun _ => 0)))), (a10_21, .inl (x 0, 1, .inl (fun _ => 0)))]) [0, 1, 2, 3, 4, 5, 6, 7, 8, 9, 10, 11] rfl
  have hD := hD.sub (ws' := [(q_1, .inl (x 7, 30, .inr (.inr (.inr (.inr g_23))))), (q_4, .inr (1, zf 16 c0_9)), (a1_10, .inr (6, zf 3 c1_11)), (a2_12, .inr (8, zf 18 c2_13)), (a3_14, .inl (x 0, 20, .inl (fun _ => 0))), (a4_15, .inl (x 1, 250, .inl (fun _ => 0))), (a5_16, .inl (x 0, 518, .inl (fun _ => 0))), (a6_17, .inl (x 0, 1, .inl (fun _ => 0))), (a7_18, .inl (x 0, 1, .inl (fun _ => 0))), (a8_19, .inl (x 0, 1, .inl (fun _ => 0))), (a9_20, .inl (x 2, 1, .inr (.inl (fun _ => 0)))), (a10_21, .inl (x 0, 1, .inl (fun _ => 0)))]) [0, 1, 2, 3, 4, 5, 6, 7, 8, 9, 10, 11] (by decide) rfl
  refine W.widen (k := 1 + 1 * 21) (n := 30 + 1 * 1891) (by omega) (by omega) ?_
  refine lp_Level_many (Q := MQ below _ _ s _ _ _) q_1 q_4 a1_10 a2_12 a3_14 a4_15 a5_16 a6_17 a7_18 a8_19 a9_20 a10_21 c0_9 c1_11 c2_13 hx hb hml hts hown hZ hA (by exact Nat.le_refl _) (by exact Nat.le_refl _) (by exact ⟨Nat.le_of_ble_eq_true rfl, Nat.le_of_ble_eq_true rfl⟩) ?_ 29 1 (by omega) _ H _ ls (by omega) ek_24 hP hD hS (lv_sub hl [0, 1, 2] rfl)
  intro g H locs ls hg hP hD hS hl
  refine lv_aload_n hx hb dX1_many_29 rfl (lv_at hl 1 rfl) ?_
  have hP9 := hP.sub (ws' := [(q_1, .inl (x 7, 30, .inr (.inr (.inr (.inr g))))), (q_4, .inr (1, zf 16 c0_9)), (a1_10, .inr (6, zf 3 c1_11)), (a2_12, .inr (8, zf 18 c2_13)), (a3_14, .inl (x 0, 20, .inl (fun _ => 0))), (a4_15, .inl (x 1, 250, .inl (fun _ => 0))), (a5_16, .inl (x 0, 518, .inl (fun _ => 0))), (a6_17, .inl (x 0, 1, .inl (fun _ => 0))), (a7_18, .inl (x 0, 1, .inl (fun _ => 0))), (a8_19, .inl (x 0, 1, .inl (fun _ => 0))), (a9_20, .inl (x 2, 1, .inr (.inl (fun _ => 0)))), (a10_21, .inl (x 0, 1, .inl (fun _ => 0)))]) [0, 1, 2, 3, 4, 5, 6, 7, 8, 9, 10, 11] rfl
  have hD9 := hD.sub (ws' := [(q_1, .inl (x 7, 30, .inr (.inr (.inr (.inr g))))), (q_4, .inr (1, zf 16 c0_9)), (a1_10, .inr (6, zf 3 c1_11)), (a2_12, .inr (8, zf 18 c2_13)), (a3_14, .inl (x 0, 20, .inl (fun _ => 0))), (a4_15, .inl (x 1, 250, .inl (fun _ => 0))), (a5_16, .inl (x 0, 518, .inl (fun _ => 0))), (a6_17, .inl (x 0, 1, .inl (fun _ => 0))), (a7_18, .inl (x 0, 1, .inl (fun _ => 0))), (a8_19, .inl (x 0, 1, .inl (fun _ => 0))), (a9_20, .inl (x 2, 1, .inr (.inl (fun _ => 0)))), (a10_21, .inl (x 0, 1, .inl (fun _ => 0)))]) [0, 1, 2, 3, 4, 5, 6, 7, 8, 9, 10, 11] (by decide) rfl
  exact W.aret (v := .ref q_1) hx hb hr (Or.inr ⟨_, rfl⟩) (Or.inr ⟨_, rfl⟩) (fun t ht hW => ⟨⟨(g, q_4, c0_9, a1_10, c1_11, a2_12, c2_13, a3_14, a4_15, a5_16, a6_17, a7_18, a8_19, a9_20, a10_21), _, rfl, ⟨hg, hw_21.1, hw_21.2.1, hw_21.2.2.1, hw_21.2.2.2.1, hw_21.2.2.2.2.1, hw_21.2.2.2.2.2.1, hw_21.2.2.2.2.2.2.1, hw_21.2.2.2.2.2.2.2.1, hw_21.2.2.2.2.2.2.2.2.1, hw_21.2.2.2.2.2.2.2.2.2.1, hw_21.2.2.2.2.2.2.2.2.2.2.1, hw_21.2.2.2.2.2.2.2.2.2.2.2.1, hw_21.2.2.2.2.2.2.2.2.2.2.2.2.1, hw_21.2.2.2.2.2.2.2.2.2.2.2.2.2.1, hw_21.2.2.2.2.2.2.2.2.2.2.2.2.2.2.1, hw_21.2.2.2.2.2.2.2.2.2.2.2.2.2.2.2.2.1, hw_21.2.2.2.2.2.2.2.2.2.2.2.2.2.2.2.2.2.1, hw_21.2.2.2.2.2.2.2.2.2.2.2.2.2.2.2.2.2.2.1, hw_21.2.2.2.2.2.2.2.2.2.2.2.2.2.2.2.2.2.2.2.1, hw_21.2.2.2.2.2.2.2.2.2.2.2.2.2.2.2.2.2.2.2.2.1, hw_21.2.2.2.2.2.2.2.2.2.2.2.2.2.2.2.2.2.2.2.2.2.1, hw_21.2.2.2.2.2.2.2.2.2.2.2.2.2.2.2.2.2.2.2.2.2.2.1, hw_21.2.2.2.2.2.2.2.2.2.2.2.2.2.2.2.2.2.2.2.2.2.2.2.1, hw_21.2.2.2.2.2.2.2.2.2.2.2.2.2.2.2.2.2.2.2.2.2.2.2.2.1, hw_21.2.2.2.2.2.2.2.2.2.2.2.2.2.2.2.2.2.2.2.2.2.2.2.2.2.1, hw_21.2.2.2.2.2.2.2.2.2.2.2.2.2.2.2.2.2.2.2.2.2.2.2.2.2.2.1, hw_21.2.2.2.2.2.2.2.2.2.2.2.2.2.2.2.2.2.2.2.2.2.2.2.2.2.2.2.1, hw_21.2.2.2.2.2.2.2.2.2.2.2.2.2.2.2.2.2.2.2.2.2.2.2.2.2.2.2.2.1, hw_21.2.2.2.2.2.2.2.2.2.2.2.2.2.2.2.2.2.2.2.2.2.2.2.2.2.2.2.2.2.1, hw_21.2.2.2.2.2.2.2.2.2.2.2.2.2.2.2.2.2.2.2.2.2.2.2.2.2.2.2.2.2.2.1, hw_21.2.2.2.2.2.2.2.2.2.2.2.2.2.2.2.2.2.2.2.2.2.2.2.2.2.2.2.2.2.2.2.1, hw_21.2.2.2.2.2.2.2.2.2.2.2.2.2.2.2.2.2.2.2.2.2.2.2.2.2.2.2.2.2.2.2.2.1, hw_21.2.2.2.2.2.2.2.2.2.2.2.2.2.2.2.2.2.2.2.2.2.2.2.2.2.2.2.2.2.2.2.2.2.1, hw_21.2.2.2.2.2.2.2.2.2.2.2.2.2.2.2.2.2.2.2.2.2.2.2.2.2.2.2.2.2.2.2.2.2.2⟩, ⟨by rw [ht]; exact hP9, hD9⟩⟩, hS.F ht⟩) hS.2.2 dX1_many_30
