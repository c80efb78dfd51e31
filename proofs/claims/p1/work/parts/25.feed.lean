theorem dX6_add_0 : decode cX6_add 0 = .ok (.aload_n 0, 1) := by decide +kernel
theorem dX6_add_1 : decode cX6_add 1 = .ok (.getfield 18, 3) := by decide +kernel
theorem dX6_add_4 : decode cX6_add 4 = .ok (.ifCond .lt 36, 3) := by decide +kernel
theorem dX6_add_7 : decode cX6_add 7 = .ok (.aload_n 0, 1) := by decide +kernel
theorem dX6_add_8 : decode cX6_add 8 = .ok (.getfield 18, 3) := by decide +kernel
theorem dX6_add_11 : decode cX6_add 11 = .ok (.aload_n 0, 1) := by decide +kernel
theorem dX6_add_12 : decode cX6_add 12 = .ok (.getfield 9, 3) := by decide +kernel
theorem dX6_add_15 : decode cX6_add 15 = .ok (.arraylength, 1) := by decide +kernel
theorem dX6_add_16 : decode cX6_add 16 = .ok (.if_icmp .ge 24, 3) := by decide +kernel
theorem dX6_add_19 : decode cX6_add 19 = .ok (.aload_n 0, 1) := by decide +kernel
theorem dX6_add_20 : decode cX6_add 20 = .ok (.getfield 9, 3) := by decide +kernel
theorem dX6_add_23 : decode cX6_add 23 = .ok (.aload_n 0, 1) := by decide +kernel
theorem dX6_add_24 : decode cX6_add 24 = .ok (.getfield 18, 3) := by decide +kernel
theorem dX6_add_27 : decode cX6_add 27 = .ok (.iload_n 1, 1) := by decide +kernel
theorem dX6_add_28 : decode cX6_add 28 = .ok (.i2b, 1) := by decide +kernel
theorem dX6_add_29 : decode cX6_add 29 = .ok (.bastore, 1) := by decide +kernel
theorem dX6_add_30 : decode cX6_add 30 = .ok (.aload_n 0, 1) := by decide +kernel
theorem dX6_add_31 : decode cX6_add 31 = .ok (.dup, 1) := by decide +kernel
theorem dX6_add_32 : decode cX6_add 32 = .ok (.getfield 18, 3) := by decide +kernel
theorem dX6_add_35 : decode cX6_add 35 = .ok (.iconst 1, 1) := by decide +kernel
theorem dX6_add_36 : decode cX6_add 36 = .ok (.iadd, 1) := by decide +kernel
theorem dX6_add_37 : decode cX6_add 37 = .ok (.putfield 18, 3) := by decide +kernel
theorem dX6_add_40 : decode cX6_add 40 = .ok (.return_, 1) := by decide +kernel
theorem dX11_feedNumber_0 : decode cX11_feedNumber 0 = .ok (.bipush 24, 2) := by decide +kernel
theorem dX11_feedNumber_2 : decode cX11_feedNumber 2 = .ok (.istore_n 2, 1) := by decide +kernel
theorem dX11_feedNumber_3 : decode cX11_feedNumber 3 = .ok (.iload_n 2, 1) := by decide +kernel
theorem dX11_feedNumber_4 : decode cX11_feedNumber 4 = .ok (.ifCond .lt 19, 3) := by decide +kernel
theorem dX11_feedNumber_7 : decode cX11_feedNumber 7 = .ok (.aload_n 0, 1) := by decide +kernel
theorem dX11_feedNumber_8 : decode cX11_feedNumber 8 = .ok (.getfield 14, 3) := by decide +kernel
theorem dX11_feedNumber_11 : decode cX11_feedNumber 11 = .ok (.iload_n 1, 1) := by decide +kernel
theorem dX11_feedNumber_12 : decode cX11_feedNumber 12 = .ok (.iload_n 2, 1) := by decide +kernel
theorem dX11_feedNumber_13 : decode cX11_feedNumber 13 = .ok (.iushr, 1) := by decide +kernel
theorem dX11_feedNumber_14 : decode cX11_feedNumber 14 = .ok (.invokevirtual 54, 3) := by decide +kernel
theorem dX11_feedNumber_17 : decode cX11_feedNumber 17 = .ok (.iinc 2 (-8), 3) := by decide +kernel
theorem dX11_feedNumber_20 : decode cX11_feedNumber 20 = .ok (.goto (-17), 3) := by decide +kernel
theorem dX11_feedNumber_23 : decode cX11_feedNumber 23 = .ok (.return_, 1) := by decide +kernel
theorem dX11_feed_0 : decode cX11_feed 0 = .ok (.aload_n 0, 1) := by decide +kernel
theorem dX11_feed_1 : decode cX11_feed 1 = .ok (.getfield 14, 3) := by decide +kernel
theorem dX11_feed_4 : decode cX11_feed 4 = .ok (.getfield 47, 3) := by decide +kernel
theorem dX11_feed_7 : decode cX11_feed 7 = .ok (.bipush 20, 2) := by decide +kernel
theorem dX11_feed_9 : decode cX11_feed 9 = .ok (.iadd, 1) := by decide +kernel
theorem dX11_feed_10 : decode cX11_feed 10 = .ok (.sipush 4000, 3) := by decide +kernel
theorem dX11_feed_13 : decode cX11_feed 13 = .ok (.if_icmp .le 6, 3) := by decide +kernel
theorem dX11_feed_19 : decode cX11_feed 19 = .ok (.aload_n 0, 1) := by decide +kernel
theorem dX11_feed_20 : decode cX11_feed 20 = .ok (.iload_n 1, 1) := by decide +kernel
theorem dX11_feed_21 : decode cX11_feed 21 = .ok (.invokevirtual 51, 3) := by decide +kernel
theorem dX11_feed_24 : decode cX11_feed 24 = .ok (.aload_n 0, 1) := by decide +kernel
theorem dX11_feed_25 : decode cX11_feed 25 = .ok (.iload_n 2, 1) := by decide +kernel
theorem dX11_feed_26 : decode cX11_feed 26 = .ok (.invokevirtual 51, 3) := by decide +kernel
theorem dX11_feed_29 : decode cX11_feed 29 = .ok (.aload_n 0, 1) := by decide +kernel
theorem dX11_feed_30 : decode cX11_feed 30 = .ok (.iload_n 3, 1) := by decide +kernel
theorem dX11_feed_31 : decode cX11_feed 31 = .ok (.invokevirtual 51, 3) := by decide +kernel
theorem dX11_feed_34 : decode cX11_feed 34 = .ok (.aload_n 0, 1) := by decide +kernel
theorem dX11_feed_35 : decode cX11_feed 35 = .ok (.iload 4, 2) := by decide +kernel
theorem dX11_feed_37 : decode cX11_feed 37 = .ok (.invokevirtual 51, 3) := by decide +kernel
theorem dX11_feed_40 : decode cX11_feed 40 = .ok (.aload_n 0, 1) := by decide +kernel
theorem dX11_feed_41 : decode cX11_feed 41 = .ok (.iload 5, 2) := by decide +kernel
theorem dX11_feed_43 : decode cX11_feed 43 = .ok (.invokevirtual 51, 3) := by decide +kernel
theorem dX11_feed_46 : decode cX11_feed 46 = .ok (.aload_n 0, 1) := by decide +kernel
theorem dX11_feed_47 : decode cX11_feed 47 = .ok (.getfield 14, 3) := by decide +kernel
theorem dX11_feed_50 : decode cX11_feed 50 = .ok (.getfield 47, 3) := by decide +kernel
theorem dX11_feed_53 : decode cX11_feed 53 = .ok (.ireturn, 1) := by decide +kernel
set_option maxHeartbeats 8000000 in
set_option maxRecDepth 100000 in
/-- Row.add -/
theorem c_add (l : Launch) (D : va_G) (x : Nat → ClassId) (n0 : Int32) (k : Nat) (h0 : Nat) (f0 : Nat → Value) (b0 : Nat) (g0 : Nat → Int32) (sz : Nat) (h0_0 : f0 0 = .ref b0) (h0_1 : f0 1 = .int (nI k)) (hk : k < 4000) : Met l yX6_add (.code yX6_add cX6_add 2 none :: zW) ({ frames := 0, cells := (0), slots := (0), locals := 0 }) (va_Pc [.ref h0, .int n0] (fun U => U.heap.size = sz ∧ va_P D vwCl [(h0, .inr (6, zf 3 f0)), (b0, .inl (x 1, 4000, .inl g0))] U.heap ∧ zK x D U ∧ va_D (fun _ => True) [(h0, .inr (6, zf 3 f0)), (b0, .inl (x 1, 4000, .inl g0))])) (va_Qv (fun u : (Nat → Value) × (Nat → Int32) => match u with | (c0, c1) => c0 0 = .ref b0 ∧ c0 1 = .int (nI (k + 1))) (fun u t => match u with | (c0, c1) => zB D vwCl (va_A [(h0, .inr (6, zf 3 f0)), (b0, .inl (x 1, 4000, .inl g0))] sz) [(h0, .inr (6, zf 3 c0)), (b0, .inl (x 1, 4000, .inl c1))] t) (va_A [(h0, .inr (6, zf 3 f0)), (b0, .inl (x 1, 4000, .inl g0))] sz)) (0) (0) (va_A [(h0, .inr (6, zf 3 f0)), (b0, .inl (x 1, 4000, .inl g0))] sz) := by
  refine Met.ofW (cc := cX6_add) (maxL := 2) (ret := none) (by decide) rfl ?_
  intro p e s m args below meth c s₁ B hml hv
  obtain ⟨rfl, hsz, hP, hZ, hD0⟩ := hv
  have hK := hZ.1
  have hx := B.exec
  have hb := B.bytes
  have hr := B.returns
  have hts := atoms_spec (ws := .code yX6_add cX6_add 2 none :: zW) B.pre
  have hown : s.vm.findClass RX6 = some m.cls := findClass_of_methodNamed B.named
  have hlocks := B.notSynchronized
  subst hsz
  have hD := hD0.self (sz := s.heap.size)
  generalize hAe : va_A [(h0, .inr (6, zf 3 f0)), (b0, .inl (x 1, 4000, .inl g0))] s.heap.size = A at hD ⊢
  have hA : ∀ q : Nat, s.heap.size ≤ q → A q := fun q h => by rw [← hAe]; exact Or.inr h
  have hS : va_S A s.heap s.heap [] := va_S.rf
  have hP : va_P D vwCl [(h0, .inr (6, zf 3 f0)), (b0, .inl (x 1, 4000, .inl g0))] s.heap := hP
  have hl := lv_entry ([.ref h0, .int n0]) (n := 2) (Nat.le_of_ble_eq_true rfl)
  rw [lg_entry_eq]
  generalize (lg_sl ([.ref h0, .int n0]) ++ List.replicate (2 - (lg_sl ([.ref h0, .int n0])).length) Slot.unset).toArray = ls at hl ⊢
  have hl : lv_has ls 2 [(0, .ref h0), (1, .int n0)] := hl
  refine lv_aload_n hx hb dX6_add_0 rfl (lv_at hl 0 rfl) ?_
  refine z_get (T := TX6) (N := 3) (ci := 6) hx hb hts (zi_6 _) hown hK hP 0 rfl rfl 1 (by decide) (hts _ (zm_184 _)) rfl h0_1 dX6_add_1 ?_
  refine lv_if_lt (tgt := 40) hx hb dX6_add_4 (by decide) (fun c9 => absurd c9 ((nI_pos (by omega)))) (fun _ => ?_)
  refine lv_aload_n hx hb dX6_add_7 rfl (lv_at hl 0 rfl) ?_
  refine z_get (T := TX6) (N := 3) (ci := 6) hx hb hts (zi_6 _) hown hK hP 0 rfl rfl 1 (by decide) (hts _ (zm_184 _)) rfl h0_1 dX6_add_8 ?_
  refine lv_aload_n hx hb dX6_add_11 rfl (lv_at hl 0 rfl) ?_
  refine z_get (T := TX6) (N := 3) (ci := 6) hx hb hts (zi_6 _) hown hK hP 0 rfl rfl 0 (by decide) (hts _ (zm_11 _)) rfl h0_0 dX6_add_12 ?_
  refine va_alen (v := 4000) hx hb hK hP 1 1 rfl rfl rfl dX6_add_15 ?_
  refine lv_icmp_ge (tgt := 40) hx hb dX6_add_16 (by decide) (fun c9 => absurd c9 ((show ¬ nI 4000 ≤ nI k from nI_ge hk (by decide)))) (fun _ => ?_)
  refine lv_aload_n hx hb dX6_add_19 rfl (lv_at hl 0 rfl) ?_
  refine z_get (T := TX6) (N := 3) (ci := 6) hx hb hts (zi_6 _) hown hK hP 0 rfl rfl 0 (by decide) (hts _ (zm_11 _)) rfl h0_0 dX6_add_20 ?_
  refine lv_aload_n hx hb dX6_add_23 rfl (lv_at hl 0 rfl) ?_
  refine z_get (T := TX6) (N := 3) (ci := 6) hx hb hts (zi_6 _) hown hK hP 0 rfl rfl 1 (by decide) (hts _ (zm_184 _)) rfl h0_1 dX6_add_24 ?_
  refine lv_iload_n hx hb dX6_add_27 rfl (lv_at hl 1 rfl) ?_
  refine lv_i2b hx hb dX6_add_28 rfl ?_
  refine lv_topi (fun y_1 ex_2 => ?_)
  refine z_bast hx hb hK hP hD hS 1 1 rfl rfl (vp_in_nI hk (by decide)) dX6_add_29 (fun H locs g_3 ek_4 ok_5 hP hD hS => ?_)
  have hP : va_P D vwCl [(h0, .inr (6, zf 3 f0)), (b0, .inl (x 1, 4000, .inl g_3))] H := hP
  have hD : va_D A [(h0, .inr (6, zf 3 f0)), (b0, .inl (x 1, 4000, .inl g_3))] := hD
  refine lv_aload_n hx hb dX6_add_30 rfl (lv_at hl 0 rfl) ?_
  refine lv_dup hx hb dX6_add_31 rfl ?_
  refine z_get (T := TX6) (N := 3) (ci := 6) hx hb hts (zi_6 _) hown hK hP 0 rfl rfl 1 (by decide) (hts _ (zm_184 _)) rfl h0_1 dX6_add_32 ?_
  refine lv_iconst (v := 1) hx hb dX6_add_35 (by decide) ?_
  refine lv_iadd hx hb dX6_add_36 ?_
  refine lv_topi (fun y_7 ex_6 => ?_)
  obtain rfl : y_7 = nI (k + 1) := ex_6.trans (nI_1 k)
  refine z_put (T := TX6) (N := 3) (ci := 6) hx hb hts (zi_6 _) hown hK hP hD hS 0 rfl rfl 1 (by decide) (hts _ (zm_184 _)) rfl rfl rfl rfl dX6_add_37 (fun H locs f_8 ek_9 ok_10 hP hD hS => ?_)
  have hP : va_P D vwCl [(h0, .inr (6, zf 3 f_8)), (b0, .inl (x 1, 4000, .inl g_3))] H := hP
  have hD : va_D A [(h0, .inr (6, zf 3 f_8)), (b0, .inl (x 1, 4000, .inl g_3))] := hD
  have hP9 := hP.sub (ws' := [(h0, .inr (6, zf 3 f_8)), (b0, .inl (x 1, 4000, .inl g_3))]) [0, 1] rfl
  have hD9 := hD.sub (ws' := [(h0, .inr (6, zf 3 f_8)), (b0, .inl (x 1, 4000, .inl g_3))]) [0, 1] (by decide) rfl
  exact W.vret hx hb hr (fun t ht hW => ⟨⟨(f_8, g_3), rfl, ⟨((ok_10 0 (by decide)).trans h0_0), ek_9⟩, ⟨by rw [ht]; exact hP9, hD9⟩⟩, hS.F ht⟩) hS.2.2 dX6_add_40

set_option maxHeartbeats 8000000 in
set_option maxRecDepth 100000 in
/-- MumpsHouse.feedNumber -/
theorem c_feedNumber (l : Launch) (D : va_G) (x : Nat → ClassId) (n0 : Int32) (k : Nat) (h0 : Nat) (f0 : Nat → Value) (ta : Nat) (f1 : Nat → Value) (b0 : Nat) (g0 : Nat → Int32) (sz : Nat) (h0_0 : f0 0 = .ref ta) (h1_0 : f1 0 = .ref b0) (h1_1 : f1 1 = .int (nI k)) (hk : k + 4 ≤ 4000) : Met l yX11_feedNumber (.code yX11_feedNumber cX11_feedNumber 3 none :: zW) ({ frames := 1, cells := (0), slots := (0), locals := 21 }) (va_Pc [.ref h0, .int n0] (fun U => U.heap.size = sz ∧ va_P D vwCl [(h0, .inr (11, zf 6 f0)), (ta, .inr (6, zf 3 f1)), (b0, .inl (x 1, 4000, .inl g0))] U.heap ∧ zK x D U ∧ va_D (fun _ => True) [(h0, .inr (11, zf 6 f0)), (ta, .inr (6, zf 3 f1)), (b0, .inl (x 1, 4000, .inl g0))])) (va_Qv (fun u : (Nat → Value) × (Nat → Int32) => match u with | (c1, c2) => c1 0 = .ref b0 ∧ c1 1 = .int (nI ((((k + 1) + 1) + 1) + 1))) (fun u t => match u with | (c1, c2) => zB D vwCl (va_A [(h0, .inr (11, zf 6 f0)), (ta, .inr (6, zf 3 f1)), (b0, .inl (x 1, 4000, .inl g0))] sz) [(h0, .inr (11, zf 6 f0)), (ta, .inr (6, zf 3 c1)), (b0, .inl (x 1, 4000, .inl c2))] t) (va_A [(h0, .inr (11, zf 6 f0)), (ta, .inr (6, zf 3 f1)), (b0, .inl (x 1, 4000, .inl g0))] sz)) (0) (0) (va_A [(h0, .inr (11, zf 6 f0)), (ta, .inr (6, zf 3 f1)), (b0, .inl (x 1, 4000, .inl g0))] sz) := by
  refine Met.ofW (cc := cX11_feedNumber) (maxL := 3) (ret := none) (by decide) rfl ?_
  intro p e s m args below meth c s₁ B hml hv
  obtain ⟨rfl, hsz, hP, hZ, hD0⟩ := hv
  have hK := hZ.1
  have hx := B.exec
  have hb := B.bytes
  have hr := B.returns
  have hts := atoms_spec (ws := .code yX11_feedNumber cX11_feedNumber 3 none :: zW) B.pre
  have hown : s.vm.findClass RX11 = some m.cls := findClass_of_methodNamed B.named
  have hlocks := B.notSynchronized
  subst hsz
  have hD := hD0.self (sz := s.heap.size)
  generalize hAe : va_A [(h0, .inr (11, zf 6 f0)), (ta, .inr (6, zf 3 f1)), (b0, .inl (x 1, 4000, .inl g0))] s.heap.size = A at hD ⊢
  have hA : ∀ q : Nat, s.heap.size ≤ q → A q := fun q h => by rw [← hAe]; exact Or.inr h
  have hS : va_S A s.heap s.heap [] := va_S.rf
  have hP : va_P D vwCl [(h0, .inr (11, zf 6 f0)), (ta, .inr (6, zf 3 f1)), (b0, .inl (x 1, 4000, .inl g0))] s.heap := hP
  have hl := lv_entry ([.ref h0, .int n0]) (n := 3) (Nat.le_of_ble_eq_true rfl)
  rw [lg_entry_eq]
  generalize (lg_sl ([.ref h0, .int n0]) ++ List.replicate (3 - (lg_sl ([.ref h0, .int n0])).length) Slot.unset).toArray = ls at hl ⊢
  have hl : lv_has ls 3 [(0, .ref h0), (1, .int n0)] := hl
  refine lv_bipush (v := 24) hx hb dX11_feedNumber_0 (by decide) ?_
  refine lv_istore_n (lv' := [(2, .int 24), (0, .ref h0), (1, .int n0)]) hx hb dX11_feedNumber_2 rfl hl (by decide) rfl (fun ls hl => ?_)
  refine lv_iload_n hx hb dX11_feedNumber_3 rfl (lv_at hl 0 rfl) ?_
  refine lv_if_lt (tgt := 23) hx hb dX11_feedNumber_4 (by decide) (fun c9 => absurd c9 (by decide)) (fun _ => ?_)
  refine lv_aload_n hx hb dX11_feedNumber_7 rfl (lv_at hl 1 rfl) ?_
  refine z_get (T := TX11) (N := 6) (ci := 11) hx hb hts (zi_11 _) hown hK hP 0 rfl rfl 0 (by decide) (hts _ (zm_172 _)) rfl h0_0 dX11_feedNumber_8 ?_
  refine lv_iload_n hx hb dX11_feedNumber_11 rfl (lv_at hl 2 rfl) ?_
  refine lv_iload_n hx hb dX11_feedNumber_12 rfl (lv_at hl 0 rfl) ?_
  refine lv_iushr hx hb dX11_feedNumber_13 rfl ?_
  refine lv_topi (fun y_1 ex_2 => ?_)
  have hPc := hP.sub (ws' := [(ta, .inr (6, zf 3 f1)), (b0, .inl (x 1, 4000, .inl g0))]) [1, 2] rfl
  have hDc := hD.sub (ws' := [(ta, .inr (6, zf 3 f1)), (b0, .inl (x 1, 4000, .inl g0))]) [1, 2] (by decide) rfl
  have hFc := va_free (wc := [(ta, .inr (6, zf 3 f1)), (b0, .inl (x 1, 4000, .inl g0))]) hD hS hA [1, 2] rfl
  have h_5 : 0 + 0 ≤ 0 ∧ 0 + 0 ≤ 0 := by omega
  refine va_callv (va_runVN (As := [.int y_1]) (rest := []) ⟨hx, hb, hml, hown, hts⟩ (c_add l D x y_1 k ta f1 b0 g0 s.heap.size h1_0 h1_1 (by omega)) ⟨va_cnB 1 hts (zgood (zm_189 _) rfl) rfl rfl rfl (hZ.2.1 _ zn_29) (hts _ (zm_7 _)) ⟨by decide, by decide, by decide +kernel⟩ ⟨Nat.le_of_ble_eq_true rfl, Nat.le_of_ble_eq_true rfl⟩, hts _ (zm_190 _), hts _ (zm_191 _)⟩ ⟨fun a U g mk q => by obtain ⟨q0, q1, qP, qK, qD⟩ := q; exact ⟨q0, q1, qP, ZK.calling (u := U) zN_ok rfl qK, qD⟩, va_recv hK hPc (ci := 6) (q0 := 0) rfl rfl, fun U hU hW => ⟨rfl, by rw [hU], by rw [hU]; exact hPc, ZK.warm zN_ok hW hZ, hDc.weaken (fun _ _ _ _ => trivial)⟩⟩ rfl rfl hl.1 rfl (lv_room (Nat.le_of_ble_eq_true rfl)) dX11_feedNumber_14 h_5) hS (fun q _ h => hFc q h) hFc (fun u t H1 locs ht hvm hw_4 hB hz1 hk1 hS => ?_)
  obtain ⟨c0_3, c1_4⟩ := u
  obtain ⟨hP1, hD1⟩ := hB
  rw [ht] at hP1
  try dsimp only at hw_4
  obtain ⟨hP, hD⟩ := va_join (wr := [(h0, .inr (11, zf 6 f0))]) (w1 := [(ta, .inr (6, zf 3 c0_3)), (b0, .inl (x 1, 4000, .inl c1_4))]) hP hD [1, 2] [0] rfl rfl (by decide) (by decide) hk1 hFc hP1 hD1
  generalize H1 = H at hP hS ⊢
  have hP : va_P D vwCl [(h0, .inr (11, zf 6 f0)), (ta, .inr (6, zf 3 c0_3)), (b0, .inl (x 1, 4000, .inl c1_4))] H := hP
  have hD : va_D A [(h0, .inr (11, zf 6 f0)), (ta, .inr (6, zf 3 c0_3)), (b0, .inl (x 1, 4000, .inl c1_4))] := hD
  refine W.widen (k := 0) (n := 0) (by omega) (by omega) ?_
  refine lv_iinc (v := 16) (lv' := [(2, .int 16), (0, .ref h0), (1, .int n0)]) hx hb dX11_feedNumber_17 hl (k := 0) rfl (by decide) (by decide) rfl (fun ls hl => ?_)
  refine lv_goto (tgt := 3) hx hb dX11_feedNumber_20 (by decide) ?_
  refine lv_iload_n hx hb dX11_feedNumber_3 rfl (lv_at hl 0 rfl) ?_
  refine lv_if_lt (tgt := 23) hx hb dX11_feedNumber_4 (by decide) (fun c9 => absurd c9 (by decide)) (fun _ => ?_)
  refine lv_aload_n hx hb dX11_feedNumber_7 rfl (lv_at hl 1 rfl) ?_
  refine z_get (T := TX11) (N := 6) (ci := 11) hx hb hts (zi_11 _) hown hK hP 0 rfl rfl 0 (by decide) (hts _ (zm_172 _)) rfl h0_0 dX11_feedNumber_8 ?_
  refine lv_iload_n hx hb dX11_feedNumber_11 rfl (lv_at hl 2 rfl) ?_
  refine lv_iload_n hx hb dX11_feedNumber_12 rfl (lv_at hl 0 rfl) ?_
  refine lv_iushr hx hb dX11_feedNumber_13 rfl ?_
  refine lv_topi (fun y_6 ex_7 => ?_)
  have hPc := hP.sub (ws' := [(ta, .inr (6, zf 3 c0_3)), (b0, .inl (x 1, 4000, .inl c1_4))]) [1, 2] rfl
  have hDc := hD.sub (ws' := [(ta, .inr (6, zf 3 c0_3)), (b0, .inl (x 1, 4000, .inl c1_4))]) [1, 2] (by decide) rfl
  have hFc := va_free (wc := [(ta, .inr (6, zf 3 c0_3)), (b0, .inl (x 1, 4000, .inl c1_4))]) hD hS hA [1, 2] rfl
  have h_10 : 0 + 0 ≤ 0 ∧ 0 + 0 ≤ 0 := by omega
  refine va_callv (va_runVN (As := [.int y_6]) (rest := []) ⟨hx, hb, hml, hown, hts⟩ (c_add l D x y_6 (k + 1) ta c0_3 b0 c1_4 H.size hw_4.1 hw_4.2 (by omega)) ⟨va_cnB 1 hts (zgood (zm_189 _) rfl) rfl rfl rfl (hZ.2.1 _ zn_29) (hts _ (zm_7 _)) ⟨by decide, by decide, by decide +kernel⟩ ⟨Nat.le_of_ble_eq_true rfl, Nat.le_of_ble_eq_true rfl⟩, hts _ (zm_190 _), hts _ (zm_191 _)⟩ ⟨fun a U g mk q => by obtain ⟨q0, q1, qP, qK, qD⟩ := q; exact ⟨q0, q1, qP, ZK.calling (u := U) zN_ok rfl qK, qD⟩, va_recv hK hPc (ci := 6) (q0 := 0) rfl rfl, fun U hU hW => ⟨rfl, by rw [hU], by rw [hU]; exact hPc, ZK.warm zN_ok hW hZ, hDc.weaken (fun _ _ _ _ => trivial)⟩⟩ rfl rfl hl.1 rfl (lv_room (Nat.le_of_ble_eq_true rfl)) dX11_feedNumber_14 h_10) hS (fun q _ h => hFc q h) hFc (fun u t H1 locs ht hvm hw_9 hB hz1 hk1 hS => ?_)
  obtain ⟨c0_8, c1_9⟩ := u
  obtain ⟨hP1, hD1⟩ := hB
  rw [ht] at hP1
  try dsimp only at hw_9
  obtain ⟨hP, hD⟩ := va_join (wr := [(h0, .inr (11, zf 6 f0))]) (w1 := [(ta, .inr (6, zf 3 c0_8)), (b0, .inl (x 1, 4000, .inl c1_9))]) hP hD [1, 2] [0] rfl rfl (by decide) (by decide) hk1 hFc hP1 hD1
  generalize H1 = H at hP hS ⊢
  have hP : va_P D vwCl [(h0, .inr (11, zf 6 f0)), (ta, .inr (6, zf 3 c0_8)), (b0, .inl (x 1, 4000, .inl c1_9))] H := hP
  have hD : va_D A [(h0, .inr (11, zf 6 f0)), (ta, .inr (6, zf 3 c0_8)), (b0, .inl (x 1, 4000, .inl c1_9))] := hD
  refine W.widen (k := 0) (n := 0) (by omega) (by omega) ?_
  refine lv_iinc (v := 8) (lv' := [(2, .int 8), (0, .ref h0), (1, .int n0)]) hx hb dX11_feedNumber_17 hl (k := 0) rfl (by decide) (by decide) rfl (fun ls hl => ?_)
  refine lv_goto (tgt := 3) hx hb dX11_feedNumber_20 (by decide) ?_
  refine lv_iload_n hx hb dX11_feedNumber_3 rfl (lv_at hl 0 rfl) ?_
  refine lv_if_lt (tgt := 23) hx hb dX11_feedNumber_4 (by decide) (fun c9 => absurd c9 (by decide)) (fun _ => ?_)
  refine lv_aload_n hx hb dX11_feedNumber_7 rfl (lv_at hl 1 rfl) ?_
  refine z_get (T := TX11) (N := 6) (ci := 11) hx hb hts (zi_11 _) hown hK hP 0 rfl rfl 0 (by decide) (hts _ (zm_172 _)) rfl h0_0 dX11_feedNumber_8 ?_
  refine lv_iload_n hx hb dX11_feedNumber_11 rfl (lv_at hl 2 rfl) ?_
  refine lv_iload_n hx hb dX11_feedNumber_12 rfl (lv_at hl 0 rfl) ?_
  refine lv_iushr hx hb dX11_feedNumber_13 rfl ?_
  refine lv_topi (fun y_11 ex_12 => ?_)
  have hPc := hP.sub (ws' := [(ta, .inr (6, zf 3 c0_8)), (b0, .inl (x 1, 4000, .inl c1_9))]) [1, 2] rfl
  have hDc := hD.sub (ws' := [(ta, .inr (6, zf 3 c0_8)), (b0, .inl (x 1, 4000, .inl c1_9))]) [1, 2] (by decide) rfl
  have hFc := va_free (wc := [(ta, .inr (6, zf 3 c0_8)), (b0, .inl (x 1, 4000, .inl c1_9))]) hD hS hA [1, 2] rfl
  have h_15 : 0 + 0 ≤ 0 ∧ 0 + 0 ≤ 0 := by omega
  refine va_callv (va_runVN (As := [.int y_11]) (rest := []) ⟨hx, hb, hml, hown, hts⟩ (c_add l D x y_11 ((k + 1) + 1) ta c0_8 b0 c1_9 H.size hw_9.1 hw_9.2 (by omega)) ⟨va_cnB 1 hts (zgood (zm_189 _) rfl) rfl rfl rfl (hZ.2.1 _ zn_29) (hts _ (zm_7 _)) ⟨by decide, by decide, by decide +kernel⟩ ⟨Nat.le_of_ble_eq_true rfl, Nat.le_of_ble_eq_true rfl⟩, hts _ (zm_190 _), hts _ (zm_191 _)⟩ ⟨fun a U g mk q => by obtain ⟨q0, q1, qP, qK, qD⟩ := q; exact ⟨q0, q1, qP, ZK.calling (u := U) zN_ok rfl qK, qD⟩, va_recv hK hPc (ci := 6) (q0 := 0) rfl rfl, fun U hU hW => ⟨rfl, by rw [hU], by rw [hU]; exact hPc, ZK.warm zN_ok hW hZ, hDc.weaken (fun _ _ _ _ => trivial)⟩⟩ rfl rfl hl.1 rfl (lv_room (Nat.le_of_ble_eq_true rfl)) dX11_feedNumber_14 h_15) hS (fun q _ h => hFc q h) hFc (fun u t H1 locs ht hvm hw_14 hB hz1 hk1 hS => ?_)
  obtain ⟨c0_13, c1_14⟩ := u
  obtain ⟨hP1, hD1⟩ := hB
  rw [ht] at hP1
  try dsimp only at hw_14
  obtain ⟨hP, hD⟩ := va_join (wr := [(h0, .inr (11, zf 6 f0))]) (w1 := [(ta, .inr (6, zf 3 c0_13)), (b0, .inl (x 1, 4000, .inl c1_14))]) hP hD [1, 2] [0] rfl rfl (by decide) (by decide) hk1 hFc hP1 hD1
  generalize H1 = H at hP hS ⊢
  have hP : va_P D vwCl [(h0, .inr (11, zf 6 f0)), (ta, .inr (6, zf 3 c0_13)), (b0, .inl (x 1, 4000, .inl c1_14))] H := hP
  have hD : va_D A [(h0, .inr (11, zf 6 f0)), (ta, .inr (6, zf 3 c0_13)), (b0, .inl (x 1, 4000, .inl c1_14))] := hD
  refine W.widen (k := 0) (n := 0) (by omega) (by omega) ?_
  refine lv_iinc (v := 0) (lv' := [(2, .int 0), (0, .ref h0), (1, .int n0)]) hx hb dX11_feedNumber_17 hl (k := 0) rfl (by decide) (by decide) rfl (fun ls hl => ?_)
  refine lv_goto (tgt := 3) hx hb dX11_feedNumber_20 (by decide) ?_
  refine lv_iload_n hx hb dX11_feedNumber_3 rfl (lv_at hl 0 rfl) ?_
  refine lv_if_lt (tgt := 23) hx hb dX11_feedNumber_4 (by decide) (fun c9 => absurd c9 (by decide)) (fun _ => ?_)
  refine lv_aload_n hx hb dX11_feedNumber_7 rfl (lv_at hl 1 rfl) ?_
  refine z_get (T := TX11) (N := 6) (ci := 11) hx hb hts (zi_11 _) hown hK hP 0 rfl rfl 0 (by decide) (hts _ (zm_172 _)) rfl h0_0 dX11_feedNumber_8 ?_
  refine lv_iload_n hx hb dX11_feedNumber_11 rfl (lv_at hl 2 rfl) ?_
  refine lv_iload_n hx hb dX11_feedNumber_12 rfl (lv_at hl 0 rfl) ?_
  refine lv_iushr hx hb dX11_feedNumber_13 rfl ?_
  refine lv_topi (fun y_16 ex_17 => ?_)
  have hPc := hP.sub (ws' := [(ta, .inr (6, zf 3 c0_13)), (b0, .inl (x 1, 4000, .inl c1_14))]) [1, 2] rfl
  have hDc := hD.sub (ws' := [(ta, .inr (6, zf 3 c0_13)), (b0, .inl (x 1, 4000, .inl c1_14))]) [1, 2] (by decide) rfl
  have hFc := va_free (wc := [(ta, .inr (6, zf 3 c0_13)), (b0, .inl (x 1, 4000, .inl c1_14))]) hD hS hA [1, 2] rfl
  have h_20 : 0 + 0 ≤ 0 ∧ 0 + 0 ≤ 0 := by omega
  refine va_callv (va_runVN (As := [.int y_16]) (rest := []) ⟨hx, hb, hml, hown, hts⟩ (c_add l D x y_16 (((k + 1) + 1) + 1) ta c0_13 b0 c1_14 H.size hw_14.1 hw_14.2 (by omega)) ⟨va_cnB 1 hts (zgood (zm_189 _) rfl) rfl rfl rfl (hZ.2.1 _ zn_29) (hts _ (zm_7 _)) ⟨by decide, by decide, by decide +kernel⟩ ⟨Nat.le_of_ble_eq_true rfl, Nat.le_of_ble_eq_true rfl⟩, hts _ (zm_190 _), hts _ (zm_191 _)⟩ ⟨fun a U g mk q => by obtain ⟨q0, q1, qP, qK, qD⟩ := q; exact ⟨q0, q1, qP, ZK.calling (u := U) zN_ok rfl qK, qD⟩, va_recv hK hPc (ci := 6) (q0 := 0) rfl rfl, fun U hU hW => ⟨rfl, by rw [hU], by rw [hU]; exact hPc, ZK.warm zN_ok hW hZ, hDc.weaken (fun _ _ _ _ => trivial)⟩⟩ rfl rfl hl.1 rfl (lv_room (Nat.le_of_ble_eq_true rfl)) dX11_feedNumber_14 h_20) hS (fun q _ h => hFc q h) hFc (fun u t H1 locs ht hvm hw_19 hB hz1 hk1 hS => ?_)
  obtain ⟨c0_18, c1_19⟩ := u
  obtain ⟨hP1, hD1⟩ := hB
  rw [ht] at hP1
  try dsimp only at hw_19
  obtain ⟨hP, hD⟩ := va_join (wr := [(h0, .inr (11, zf 6 f0))]) (w1 := [(ta, .inr (6, zf 3 c0_18)), (b0, .inl (x 1, 4000, .inl c1_19))]) hP hD [1, 2] [0] rfl rfl (by decide) (by decide) hk1 hFc hP1 hD1
  generalize H1 = H at hP hS ⊢
  have hP : va_P D vwCl [(h0, .inr (11, zf 6 f0)), (ta, .inr (6, zf 3 c0_18)), (b0, .inl (x 1, 4000, .inl c1_19))] H := hP
  have hD : va_D A [(h0, .inr (11, zf 6 f0)), (ta, .inr (6, zf 3 c0_18)), (b0, .inl (x 1, 4000, .inl c1_19))] := hD
  refine W.widen (k := 0) (n := 0) (by omega) (by omega) ?_
  refine lv_iinc (v := (-8)) (lv' := [(2, .int (-8)), (0, .ref h0), (1, .int n0)]) hx hb dX11_feedNumber_17 hl (k := 0) rfl (by decide) (by decide) rfl (fun ls hl => ?_)
  refine lv_goto (tgt := 3) hx hb dX11_feedNumber_20 (by decide) ?_
  refine lv_iload_n hx hb dX11_feedNumber_3 rfl (lv_at hl 0 rfl) ?_
  refine lv_if_lt (tgt := 23) hx hb dX11_feedNumber_4 (by decide) (fun _ => ?_) (fun c9 => absurd (by decide) c9)
  have hP9 := hP.sub (ws' := [(h0, .inr (11, zf 6 f0)), (ta, .inr (6, zf 3 c0_18)), (b0, .inl (x 1, 4000, .inl c1_19))]) [0, 1, 2] rfl
  have hD9 := hD.sub (ws' := [(h0, .inr (11, zf 6 f0)), (ta, .inr (6, zf 3 c0_18)), (b0, .inl (x 1, 4000, .inl c1_19))]) [0, 1, 2] (by decide) rfl
  exact W.vret hx hb hr (fun t ht hW => ⟨⟨(c0_18, c1_19), rfl, ⟨hw_19.1, hw_19.2⟩, ⟨by rw [ht]; exact hP9, hD9⟩⟩, hS.F ht⟩) hS.2.2 dX11_feedNumber_23

set_option maxHeartbeats 8000000 in
set_option maxRecDepth 100000 in
/-- MumpsHouse.feed on a fresh object -/
theorem c_feed (l : Launch) (D : va_G) (x : Nat → ClassId) (n0 : Int32) (n1 : Int32) (n2 : Int32) (n3 : Int32) (n4 : Int32) (h0 : Nat) (f0 : Nat → Value) (ta : Nat) (f1 : Nat → Value) (b0 : Nat) (g0 : Nat → Int32) (sz : Nat) (h0_0 : f0 0 = .ref ta) (h1_0 : f1 0 = .ref b0) (h1_1 : f1 1 = .int 0) : Met l yX11_feed (.code yX11_feed cX11_feed 6 (some .int) :: zW) ({ frames := 2, cells := (0), slots := (0), locals := 43 }) (va_Pc [.ref h0, .int n0, .int n1, .int n2, .int n3, .int n4] (fun U => U.heap.size = sz ∧ va_P D vwCl [(h0, .inr (11, zf 6 f0)), (ta, .inr (6, zf 3 f1)), (b0, .inl (x 1, 4000, .inl g0))] U.heap ∧ zK x D U ∧ va_D (fun _ => True) [(h0, .inr (11, zf 6 f0)), (ta, .inr (6, zf 3 f1)), (b0, .inl (x 1, 4000, .inl g0))])) (va_Qi (fun (r : Int32) (u : Unit) => r = 20) (fun u t => True) (va_A [(h0, .inr (11, zf 6 f0)), (ta, .inr (6, zf 3 f1)), (b0, .inl (x 1, 4000, .inl g0))] sz)) (0) (0) (va_A [(h0, .inr (11, zf 6 f0)), (ta, .inr (6, zf 3 f1)), (b0, .inl (x 1, 4000, .inl g0))] sz) := by
  refine Met.ofW (cc := cX11_feed) (maxL := 6) (ret := (some .int)) (by decide) rfl ?_
  intro p e s m args below meth c s₁ B hml hv
  obtain ⟨rfl, hsz, hP, hZ, hD0⟩ := hv
  have hK := hZ.1
  have hx := B.exec
  have hb := B.bytes
  have hr := B.returns
  have hts := atoms_spec (ws := .code yX11_feed cX11_feed 6 (some .int) :: zW) B.pre
  have hown : s.vm.findClass RX11 = some m.cls := findClass_of_methodNamed B.named
  have hlocks := B.notSynchronized
  subst hsz
  have hD := hD0.self (sz := s.heap.size)
  generalize hAe : va_A [(h0, .inr (11, zf 6 f0)), (ta, .inr (6, zf 3 f1)), (b0, .inl (x 1, 4000, .inl g0))] s.heap.size = A at hD ⊢
  have hA : ∀ q : Nat, s.heap.size ≤ q → A q := fun q h => by rw [← hAe]; exact Or.inr h
  have hS : va_S A s.heap s.heap [] := va_S.rf
  have hP : va_P D vwCl [(h0, .inr (11, zf 6 f0)), (ta, .inr (6, zf 3 f1)), (b0, .inl (x 1, 4000, .inl g0))] s.heap := hP
  have hl := lv_entry ([.ref h0, .int n0, .int n1, .int n2, .int n3, .int n4]) (n := 6) (Nat.le_of_ble_eq_true rfl)
  rw [lg_entry_eq]
  generalize (lg_sl ([.ref h0, .int n0, .int n1, .int n2, .int n3, .int n4]) ++ List.replicate (6 - (lg_sl ([.ref h0, .int n0, .int n1, .int n2, .int n3, .int n4])).length) Slot.unset).toArray = ls at hl ⊢
  have hl : lv_has ls 6 [(0, .ref h0), (1, .int n0), (2, .int n1), (3, .int n2), (4, .int n3), (5, .int n4)] := hl
  refine lv_aload_n hx hb dX11_feed_0 rfl (lv_at hl 0 rfl) ?_
  refine z_get (T := TX11) (N := 6) (ci := 11) hx hb hts (zi_11 _) hown hK hP 0 rfl rfl 0 (by decide) (hts _ (zm_172 _)) rfl h0_0 dX11_feed_1 ?_
  refine z_getN (T := TX6) (N := 3) (ci := 6) hx hb hts (zi_6 _) hown hK hP 1 rfl rfl 1 (by decide) (hZ.2.1 _ zn_28) rfl h1_1 dX11_feed_4 ?_
  refine lv_bipush (v := 20) hx hb dX11_feed_7 (by decide) ?_
  refine lv_iadd hx hb dX11_feed_9 ?_
  refine lv_topi (fun y_2 ex_1 => ?_)
  obtain rfl : y_2 = 20 := ex_1.trans (by decide)
  refine lv_sipush (v := 4000) hx hb dX11_feed_10 (by decide) ?_
  refine lv_icmp_le (tgt := 19) hx hb dX11_feed_13 (by decide) (fun _ => ?_) (fun c9 => absurd (by decide) c9)
  refine lv_aload_n hx hb dX11_feed_19 rfl (lv_at hl 0 rfl) ?_
  refine lv_iload_n hx hb dX11_feed_20 rfl (lv_at hl 1 rfl) ?_
  have hPc := hP.sub (ws' := [(h0, .inr (11, zf 6 f0)), (ta, .inr (6, zf 3 f1)), (b0, .inl (x 1, 4000, .inl g0))]) [0, 1, 2] rfl
  have hDc := hD.sub (ws' := [(h0, .inr (11, zf 6 f0)), (ta, .inr (6, zf 3 f1)), (b0, .inl (x 1, 4000, .inl g0))]) [0, 1, 2] (by decide) rfl
  have hFc := va_free (wc := [(h0, .inr (11, zf 6 f0)), (ta, .inr (6, zf 3 f1)), (b0, .inl (x 1, 4000, .inl g0))]) hD hS hA [0, 1, 2] rfl
  have h_5 : 0 + 0 ≤ 0 ∧ 0 + 0 ≤ 0 := by omega
  refine va_callv (va_runV (As := [.int n0]) (rest := []) ⟨hx, hb, hml, hown, hts⟩ (c_feedNumber l D x n0 0 h0 f0 ta f1 b0 g0 s.heap.size h0_0 h1_0 h1_1 (by omega)) ⟨callB_of 1 hts (zgood (zm_200 _) rfl) rfl rfl rfl (hts _ (zm_168 _)) (hts _ (zm_199 _)) ⟨by decide, by decide, by decide +kernel⟩ ⟨Nat.le_of_ble_eq_true rfl, Nat.le_of_ble_eq_true rfl⟩, hts _ (zm_201 _), hts _ (zm_202 _)⟩ ⟨fun a U g mk q => by obtain ⟨q0, q1, qP, qK, qD⟩ := q; exact ⟨q0, q1, qP, ZK.calling (u := U) zN_ok rfl qK, qD⟩, va_recv hK hPc (ci := 11) (q0 := 0) rfl rfl, fun U hU hW => ⟨rfl, by rw [hU], by rw [hU]; exact hPc, ZK.warm zN_ok hW hZ, hDc.weaken (fun _ _ _ _ => trivial)⟩⟩ rfl rfl hl.1 rfl (lv_room (Nat.le_of_ble_eq_true rfl)) dX11_feed_21 h_5) hS (fun q _ h => hFc q h) hFc (fun u t H1 locs ht hvm hw_4 hB hz1 hk1 hS => ?_)
  obtain ⟨c1_3, c2_4⟩ := u
  obtain ⟨hP1, hD1⟩ := hB
  rw [ht] at hP1
  try dsimp only at hw_4
  obtain ⟨hP, hD⟩ := va_join (wr := []) (w1 := [(h0, .inr (11, zf 6 f0)), (ta, .inr (6, zf 3 c1_3)), (b0, .inl (x 1, 4000, .inl c2_4))]) hP hD [0, 1, 2] [] rfl rfl (by decide) (by decide) hk1 hFc hP1 hD1
  generalize H1 = H at hP hS ⊢
  have hP : va_P D vwCl [(h0, .inr (11, zf 6 f0)), (ta, .inr (6, zf 3 c1_3)), (b0, .inl (x 1, 4000, .inl c2_4))] H := hP
  have hD : va_D A [(h0, .inr (11, zf 6 f0)), (ta, .inr (6, zf 3 c1_3)), (b0, .inl (x 1, 4000, .inl c2_4))] := hD
  refine W.widen (k := 0) (n := 0) (by omega) (by omega) ?_
  refine lv_aload_n hx hb dX11_feed_24 rfl (lv_at hl 0 rfl) ?_
  refine lv_iload_n hx hb dX11_feed_25 rfl (lv_at hl 2 rfl) ?_
  have hPc := hP.sub (ws' := [(h0, .inr (11, zf 6 f0)), (ta, .inr (6, zf 3 c1_3)), (b0, .inl (x 1, 4000, .inl c2_4))]) [0, 1, 2] rfl
  have hDc := hD.sub (ws' := [(h0, .inr (11, zf 6 f0)), (ta, .inr (6, zf 3 c1_3)), (b0, .inl (x 1, 4000, .inl c2_4))]) [0, 1, 2] (by decide) rfl
  have hFc := va_free (wc := [(h0, .inr (11, zf 6 f0)), (ta, .inr (6, zf 3 c1_3)), (b0, .inl (x 1, 4000, .inl c2_4))]) hD hS hA [0, 1, 2] rfl
  have h_8 : 0 + 0 ≤ 0 ∧ 0 + 0 ≤ 0 := by omega
  refine va_callv (va_runV (As := [.int n1]) (rest := []) ⟨hx, hb, hml, hown, hts⟩ (c_feedNumber l D x n1 ((((0 + 1) + 1) + 1) + 1) h0 f0 ta c1_3 b0 c2_4 H.size h0_0 hw_4.1 hw_4.2 (by omega)) ⟨callB_of 1 hts (zgood (zm_200 _) rfl) rfl rfl rfl (hts _ (zm_168 _)) (hts _ (zm_199 _)) ⟨by decide, by decide, by decide +kernel⟩ ⟨Nat.le_of_ble_eq_true rfl, Nat.le_of_ble_eq_true rfl⟩, hts _ (zm_201 _), hts _ (zm_202 _)⟩ ⟨fun a U g mk q => by obtain ⟨q0, q1, qP, qK, qD⟩ := q; exact ⟨q0, q1, qP, ZK.calling (u := U) zN_ok rfl qK, qD⟩, va_recv hK hPc (ci := 11) (q0 := 0) rfl rfl, fun U hU hW => ⟨rfl, by rw [hU], by rw [hU]; exact hPc, ZK.warm zN_ok hW hZ, hDc.weaken (fun _ _ _ _ => trivial)⟩⟩ rfl rfl hl.1 rfl (lv_room (Nat.le_of_ble_eq_true rfl)) dX11_feed_26 h_8) hS (fun q _ h => hFc q h) hFc (fun u t H1 locs ht hvm hw_7 hB hz1 hk1 hS => ?_)
  obtain ⟨c1_6, c2_7⟩ := u
  obtain ⟨hP1, hD1⟩ := hB
  rw [ht] at hP1
  try dsimp only at hw_7
  obtain ⟨hP, hD⟩ := va_join (wr := []) (w1 := [(h0, .inr (11, zf 6 f0)), (ta, .inr (6, zf 3 c1_6)), (b0, .inl (x 1, 4000, .inl c2_7))]) hP hD [0, 1, 2] [] rfl rfl (by decide) (by decide) hk1 hFc hP1 hD1
  generalize H1 = H at hP hS ⊢
  have hP : va_P D vwCl [(h0, .inr (11, zf 6 f0)), (ta, .inr (6, zf 3 c1_6)), (b0, .inl (x 1, 4000, .inl c2_7))] H := hP
  have hD : va_D A [(h0, .inr (11, zf 6 f0)), (ta, .inr (6, zf 3 c1_6)), (b0, .inl (x 1, 4000, .inl c2_7))] := hD
  refine W.widen (k := 0) (n := 0) (by omega) (by omega) ?_
  refine lv_aload_n hx hb dX11_feed_29 rfl (lv_at hl 0 rfl) ?_
  refine lv_iload_n hx hb dX11_feed_30 rfl (lv_at hl 3 rfl) ?_
  have hPc := hP.sub (ws' := [(h0, .inr (11, zf 6 f0)), (ta, .inr (6, zf 3 c1_6)), (b0, .inl (x 1, 4000, .inl c2_7))]) [0, 1, 2] rfl
  have hDc := hD.sub (ws' := [(h0, .inr (11, zf 6 f0)), (ta, .inr (6, zf 3 c1_6)), (b0, .inl (x 1, 4000, .inl c2_7))]) [0, 1, 2] (by decide) rfl
  have hFc := va_free (wc := [(h0, .inr (11, zf 6 f0)), (ta, .inr (6, zf 3 c1_6)), (b0, .inl (x 1, 4000, .inl c2_7))]) hD hS hA [0, 1, 2] rfl
  have h_11 : 0 + 0 ≤ 0 ∧ 0 + 0 ≤ 0 := by omega
  refine va_callv (va_runV (As := [.int n2]) (rest := []) ⟨hx, hb, hml, hown, hts⟩ (c_feedNumber l D x n2 ((((((((0 + 1) + 1) + 1) + 1) + 1) + 1) + 1) + 1) h0 f0 ta c1_6 b0 c2_7 H.size h0_0 hw_7.1 hw_7.2 (by omega)) ⟨callB_of 1 hts (zgood (zm_200 _) rfl) rfl rfl rfl (hts _ (zm_168 _)) (hts _ (zm_199 _)) ⟨by decide, by decide, by decide +kernel⟩ ⟨Nat.le_of_ble_eq_true rfl, Nat.le_of_ble_eq_true rfl⟩, hts _ (zm_201 _), hts _ (zm_202 _)⟩ ⟨fun a U g mk q => by obtain ⟨q0, q1, qP, qK, qD⟩ := q; exact ⟨q0, q1, qP, ZK.calling (u := U) zN_ok rfl qK, qD⟩, va_recv hK hPc (ci := 11) (q0 := 0) rfl rfl, fun U hU hW => ⟨rfl, by rw [hU], by rw [hU]; exact hPc, ZK.warm zN_ok hW hZ, hDc.weaken (fun _ _ _ _ => trivial)⟩⟩ rfl rfl hl.1 rfl (lv_room (Nat.le_of_ble_eq_true rfl)) dX11_feed_31 h_11) hS (fun q _ h => hFc q h) hFc (fun u t H1 locs ht hvm hw_10 hB hz1 hk1 hS => ?_)
  obtain ⟨c1_9, c2_10⟩ := u
  obtain ⟨hP1, hD1⟩ := hB
  rw [ht] at hP1
  try dsimp only at hw_10
  obtain ⟨hP, hD⟩ := va_join (wr := []) (w1 := [(h0, .inr (11, zf 6 f0)), (ta, .inr (6, zf 3 c1_9)), (b0, .inl (x 1, 4000, .inl c2_10))]) hP hD [0, 1, 2] [] rfl rfl (by decide) (by decide) hk1 hFc hP1 hD1
  generalize H1 = H at hP hS ⊢
  have hP : va_P D vwCl [(h0, .inr (11, zf 6 f0)), (ta, .inr (6, zf 3 c1_9)), (b0, .inl (x 1, 4000, .inl c2_10))] H := hP
  have hD : va_D A [(h0, .inr (11, zf 6 f0)), (ta, .inr (6, zf 3 c1_9)), (b0, .inl (x 1, 4000, .inl c2_10))] := hD
  refine W.widen (k := 0) (n := 0) (by omega) (by omega) ?_
  refine lv_aload_n hx hb dX11_feed_34 rfl (lv_at hl 0 rfl) ?_
  refine lv_iload hx hb dX11_feed_35 (lv_at hl 4 rfl) ?_
  have hPc := hP.sub (ws' := [(h0, .inr (11, zf 6 f0)), (ta, .inr (6, zf 3 c1_9)), (b0, .inl (x 1, 4000, .inl c2_10))]) [0, 1, 2] rfl
  have hDc := hD.sub (ws' := [(h0, .inr (11, zf 6 f0)), (ta, .inr (6, zf 3 c1_9)), (b0, .inl (x 1, 4000, .inl c2_10))]) [0, 1, 2] (by decide) rfl
  have hFc := va_free (wc := [(h0, .inr (11, zf 6 f0)), (ta, .inr (6, zf 3 c1_9)), (b0, .inl (x 1, 4000, .inl c2_10))]) hD hS hA [0, 1, 2] rfl
  have h_14 : 0 + 0 ≤ 0 ∧ 0 + 0 ≤ 0 := by omega
  refine va_callv (va_runV (As := [.int n3]) (rest := []) ⟨hx, hb, hml, hown, hts⟩ (c_feedNumber l D x n3 ((((((((((((0 + 1) + 1) + 1) + 1) + 1) + 1) + 1) + 1) + 1) + 1) + 1) + 1) h0 f0 ta c1_9 b0 c2_10 H.size h0_0 hw_10.1 hw_10.2 (by omega)) ⟨callB_of 1 hts (zgood (zm_200 _) rfl) rfl rfl rfl (hts _ (zm_168 _)) (hts _ (zm_199 _)) ⟨by decide, by decide, by decide +kernel⟩ ⟨Nat.le_of_ble_eq_true rfl, Nat.le_of_ble_eq_true rfl⟩, hts _ (zm_201 _), hts _ (zm_202 _)⟩ ⟨fun a U g mk q => by obtain ⟨q0, q1, qP, qK, qD⟩ := q; exact ⟨q0, q1, qP, ZK.calling (u := U) zN_ok rfl qK, qD⟩, va_recv hK hPc (ci := 11) (q0 := 0) rfl rfl, fun U hU hW => ⟨rfl, by rw [hU], by rw [hU]; exact hPc, ZK.warm zN_ok hW hZ, hDc.weaken (fun _ _ _ _ => trivial)⟩⟩ rfl rfl hl.1 rfl (lv_room (Nat.le_of_ble_eq_true rfl)) dX11_feed_37 h_14) hS (fun q _ h => hFc q h) hFc (fun u t H1 locs ht hvm hw_13 hB hz1 hk1 hS => ?_)
  obtain ⟨c1_12, c2_13⟩ := u
  obtain ⟨hP1, hD1⟩ := hB
  rw [ht] at hP1
  try dsimp only at hw_13
  obtain ⟨hP, hD⟩ := va_join (wr := []) (w1 := [(h0, .inr (11, zf 6 f0)), (ta, .inr (6, zf 3 c1_12)), (b0, .inl (x 1, 4000, .inl c2_13))]) hP hD [0, 1, 2] [] rfl rfl (by decide) (by decide) hk1 hFc hP1 hD1
  generalize H1 = H at hP hS ⊢
  have hP : va_P D vwCl [(h0, .inr (11, zf 6 f0)), (ta, .inr (6, zf 3 c1_12)), (b0, .inl (x 1, 4000, .inl c2_13))] H := hP
  have hD : va_D A [(h0, .inr (11, zf 6 f0)), (ta, .inr (6, zf 3 c1_12)), (b0, .inl (x 1, 4000, .inl c2_13))] := hD
  refine W.widen (k := 0) (n := 0) (by omega) (by omega) ?_
  refine lv_aload_n hx hb dX11_feed_40 rfl (lv_at hl 0 rfl) ?_
  refine lv_iload hx hb dX11_feed_41 (lv_at hl 5 rfl) ?_
  have hPc := hP.sub (ws' := [(h0, .inr (11, zf 6 f0)), (ta, .inr (6, zf 3 c1_12)), (b0, .inl (x 1, 4000, .inl c2_13))]) [0, 1, 2] rfl
  have hDc := hD.sub (ws' := [(h0, .inr (11, zf 6 f0)), (ta, .inr (6, zf 3 c1_12)), (b0, .inl (x 1, 4000, .inl c2_13))]) [0, 1, 2] (by decide) rfl
  have hFc := va_free (wc := [(h0, .inr (11, zf 6 f0)), (ta, .inr (6, zf 3 c1_12)), (b0, .inl (x 1, 4000, .inl c2_13))]) hD hS hA [0, 1, 2] rfl
  have h_17 : 0 + 0 ≤ 0 ∧ 0 + 0 ≤ 0 := by omega
  refine va_callv (va_runV (As := [.int n4]) (rest := []) ⟨hx, hb, hml, hown, hts⟩ (c_feedNumber l D x n4 ((((((((((((((((0 + 1) + 1) + 1) + 1) + 1) + 1) + 1) + 1) + 1) + 1) + 1) + 1) + 1) + 1) + 1) + 1) h0 f0 ta c1_12 b0 c2_13 H.size h0_0 hw_13.1 hw_13.2 (by omega)) ⟨callB_of 1 hts (zgood (zm_200 _) rfl) rfl rfl rfl (hts _ (zm_168 _)) (hts _ (zm_199 _)) ⟨by decide, by decide, by decide +kernel⟩ ⟨Nat.le_of_ble_eq_true rfl, Nat.le_of_ble_eq_true rfl⟩, hts _ (zm_201 _), hts _ (zm_202 _)⟩ ⟨fun a U g mk q => by obtain ⟨q0, q1, qP, qK, qD⟩ := q; exact ⟨q0, q1, qP, ZK.calling (u := U) zN_ok rfl qK, qD⟩, va_recv hK hPc (ci := 11) (q0 := 0) rfl rfl, fun U hU hW => ⟨rfl, by rw [hU], by rw [hU]; exact hPc, ZK.warm zN_ok hW hZ, hDc.weaken (fun _ _ _ _ => trivial)⟩⟩ rfl rfl hl.1 rfl (lv_room (Nat.le_of_ble_eq_true rfl)) dX11_feed_43 h_17) hS (fun q _ h => hFc q h) hFc (fun u t H1 locs ht hvm hw_16 hB hz1 hk1 hS => ?_)
  obtain ⟨c1_15, c2_16⟩ := u
  obtain ⟨hP1, hD1⟩ := hB
  rw [ht] at hP1
  try dsimp only at hw_16
  obtain ⟨hP, hD⟩ := va_join (wr := []) (w1 := [(h0, .inr (11, zf 6 f0)), (ta, .inr (6, zf 3 c1_15)), (b0, .inl (x 1, 4000, .inl c2_16))]) hP hD [0, 1, 2] [] rfl rfl (by decide) (by decide) hk1 hFc hP1 hD1
  generalize H1 = H at hP hS ⊢
  have hP : va_P D vwCl [(h0, .inr (11, zf 6 f0)), (ta, .inr (6, zf 3 c1_15)), (b0, .inl (x 1, 4000, .inl c2_16))] H := hP
  have hD : va_D A [(h0, .inr (11, zf 6 f0)), (ta, .inr (6, zf 3 c1_15)), (b0, .inl (x 1, 4000, .inl c2_16))] := hD
  refine W.widen (k := 0) (n := 0) (by omega) (by omega) ?_
  refine lv_aload_n hx hb dX11_feed_46 rfl (lv_at hl 0 rfl) ?_
  refine z_get (T := TX11) (N := 6) (ci := 11) hx hb hts (zi_11 _) hown hK hP 0 rfl rfl 0 (by decide) (hts _ (zm_172 _)) rfl h0_0 dX11_feed_47 ?_
  refine z_getN (T := TX6) (N := 3) (ci := 6) hx hb hts (zi_6 _) hown hK hP 1 rfl rfl 1 (by decide) (hZ.2.1 _ zn_28) rfl hw_16.2 dX11_feed_50 ?_
  exact W.iret (v := (nI ((((((((((((((((((((0 + 1) + 1) + 1) + 1) + 1) + 1) + 1) + 1) + 1) + 1) + 1) + 1) + 1) + 1) + 1) + 1) + 1) + 1) + 1) + 1))) hx hb hr (fun t ht hW => ⟨⟨_, (), rfl, (by decide), trivial⟩, hS.F ht⟩) hS.2.2 dX11_feed_53
