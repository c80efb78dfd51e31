theorem dX11_beginsName_0 : decode cX11_beginsName 0 = .ok (.iload_n 0, 1) := by decide +kernel
theorem dX11_beginsName_1 : decode cX11_beginsName 1 = .ok (.bipush 37, 2) := by decide +kernel
theorem dX11_beginsName_3 : decode cX11_beginsName 3 = .ok (.if_icmp .eq 27, 3) := by decide +kernel
theorem dX11_beginsName_6 : decode cX11_beginsName 6 = .ok (.iload_n 0, 1) := by decide +kernel
theorem dX11_beginsName_7 : decode cX11_beginsName 7 = .ok (.bipush 65, 2) := by decide +kernel
theorem dX11_beginsName_9 : decode cX11_beginsName 9 = .ok (.if_icmp .lt 9, 3) := by decide +kernel
theorem dX11_beginsName_18 : decode cX11_beginsName 18 = .ok (.iload_n 0, 1) := by decide +kernel
theorem dX11_beginsName_19 : decode cX11_beginsName 19 = .ok (.bipush 97, 2) := by decide +kernel
theorem dX11_beginsName_21 : decode cX11_beginsName 21 = .ok (.if_icmp .lt 13, 3) := by decide +kernel
theorem dX11_beginsName_34 : decode cX11_beginsName 34 = .ok (.iconst 0, 1) := by decide +kernel
theorem dX11_beginsName_35 : decode cX11_beginsName 35 = .ok (.ireturn, 1) := by decide +kernel
theorem dX3_read_0 : decode cX3_read 0 = .ok (.aload_n 1, 1) := by decide +kernel
theorem dX3_read_1 : decode cX3_read 1 = .ok (.iconst 0, 1) := by decide +kernel
theorem dX3_read_2 : decode cX3_read 2 = .ok (.invokevirtual 93, 3) := by decide +kernel
theorem dX3_read_5 : decode cX3_read 5 = .ok (.bipush 94, 2) := by decide +kernel
theorem dX3_read_7 : decode cX3_read 7 = .ok (.if_icmp .ne 7, 3) := by decide +kernel
theorem dX3_read_14 : decode cX3_read 14 = .ok (.iconst 0, 1) := by decide +kernel
theorem dX3_read_15 : decode cX3_read 15 = .ok (.istore_n 3, 1) := by decide +kernel
theorem dX3_read_16 : decode cX3_read 16 = .ok (.iload_n 3, 1) := by decide +kernel
theorem dX3_read_17 : decode cX3_read 17 = .ok (.istore 4, 2) := by decide +kernel
theorem dX3_read_19 : decode cX3_read 19 = .ok (.aload_n 1, 1) := by decide +kernel
theorem dX3_read_20 : decode cX3_read 20 = .ok (.iload_n 3, 1) := by decide +kernel
theorem dX3_read_21 : decode cX3_read 21 = .ok (.invokevirtual 93, 3) := by decide +kernel
theorem dX3_read_24 : decode cX3_read 24 = .ok (.invokestatic 96, 3) := by decide +kernel
theorem dX3_read_27 : decode cX3_read 27 = .ok (.ifCond .ne 5, 3) := by decide +kernel
theorem dX3_read_30 : decode cX3_read 30 = .ok (.iconst 0, 1) := by decide +kernel
theorem dX3_read_31 : decode cX3_read 31 = .ok (.ireturn, 1) := by decide +kernel
theorem dX11_look_0 : decode cX11_look 0 = .ok (.aload_n 0, 1) := by decide +kernel
theorem dX11_look_1 : decode cX11_look 1 = .ok (.getfield 24, 3) := by decide +kernel
theorem dX11_look_4 : decode cX11_look 4 = .ok (.getfield 57, 3) := by decide +kernel
theorem dX11_look_7 : decode cX11_look 7 = .ok (.ifCond .eq 6, 3) := by decide +kernel
theorem dX11_look_13 : decode cX11_look 13 = .ok (.aload_n 0, 1) := by decide +kernel
theorem dX11_look_14 : decode cX11_look 14 = .ok (.getfield 14, 3) := by decide +kernel
theorem dX11_look_17 : decode cX11_look 17 = .ok (.iconst 0, 1) := by decide +kernel
theorem dX11_look_18 : decode cX11_look 18 = .ok (.invokevirtual 276, 3) := by decide +kernel
theorem dX11_look_21 : decode cX11_look 21 = .ok (.bipush 94, 2) := by decide +kernel
theorem dX11_look_23 : decode cX11_look 23 = .ok (.if_icmp .ne 7, 3) := by decide +kernel
theorem dX11_look_30 : decode cX11_look 30 = .ok (.iconst 0, 1) := by decide +kernel
theorem dX11_look_31 : decode cX11_look 31 = .ok (.istore_n 3, 1) := by decide +kernel
theorem dX11_look_32 : decode cX11_look 32 = .ok (.aload_n 0, 1) := by decide +kernel
theorem dX11_look_33 : decode cX11_look 33 = .ok (.getfield 33, 3) := by decide +kernel
theorem dX11_look_36 : decode cX11_look 36 = .ok (.iload_n 1, 1) := by decide +kernel
theorem dX11_look_37 : decode cX11_look 37 = .ok (.invokevirtual 165, 3) := by decide +kernel
theorem dX11_look_40 : decode cX11_look 40 = .ok (.astore 4, 2) := by decide +kernel
theorem dX11_look_42 : decode cX11_look 42 = .ok (.aload_n 0, 1) := by decide +kernel
theorem dX11_look_43 : decode cX11_look 43 = .ok (.getfield 40, 3) := by decide +kernel
theorem dX11_look_46 : decode cX11_look 46 = .ok (.aload_n 0, 1) := by decide +kernel
theorem dX11_look_47 : decode cX11_look 47 = .ok (.getfield 14, 3) := by decide +kernel
theorem dX11_look_50 : decode cX11_look 50 = .ok (.aload_n 0, 1) := by decide +kernel
theorem dX11_look_51 : decode cX11_look 51 = .ok (.getfield 44, 3) := by decide +kernel
theorem dX11_look_54 : decode cX11_look 54 = .ok (.invokevirtual 308, 3) := by decide +kernel
theorem dX11_look_57 : decode cX11_look 57 = .ok (.ifCond .eq 27, 3) := by decide +kernel
theorem dX11_look_84 : decode cX11_look 84 = .ok (.iconst 0, 1) := by decide +kernel
theorem dX11_look_85 : decode cX11_look 85 = .ok (.istore 5, 2) := by decide +kernel
theorem dX11_look_87 : decode cX11_look 87 = .ok (.aload_n 0, 1) := by decide +kernel
theorem dX11_look_88 : decode cX11_look 88 = .ok (.getfield 14, 3) := by decide +kernel
theorem dX11_look_91 : decode cX11_look 91 = .ok (.invokevirtual 61, 3) := by decide +kernel
theorem dX11_look_94 : decode cX11_look 94 = .ok (.iload_n 2, 1) := by decide +kernel
theorem dX11_look_95 : decode cX11_look 95 = .ok (.ifCond .lt 17, 3) := by decide +kernel
theorem dX11_look_98 : decode cX11_look 98 = .ok (.iload_n 2, 1) := by decide +kernel
theorem dX11_look_99 : decode cX11_look 99 = .ok (.iconst 4, 1) := by decide +kernel
theorem dX11_look_100 : decode cX11_look 100 = .ok (.if_icmp .gt 12, 3) := by decide +kernel
theorem dX11_look_103 : decode cX11_look 103 = .ok (.aload 4, 2) := by decide +kernel
theorem dX11_look_105 : decode cX11_look 105 = .ok (.ifnonnull 9, 3) := by decide +kernel
theorem dX11_look_108 : decode cX11_look 108 = .ok (.iload_n 3, 1) := by decide +kernel
theorem dX11_look_109 : decode cX11_look 109 = .ok (.ifCond .ne 5, 3) := by decide +kernel
theorem dX11_look_112 : decode cX11_look 112 = .ok (.iconst (-1), 1) := by decide +kernel
theorem dX11_look_113 : decode cX11_look 113 = .ok (.ireturn, 1) := by decide +kernel
set_option maxHeartbeats 8000000 in
set_option maxRecDepth 100000 in
/-- beginsName(-1) -/
theorem c_beginsName_1 (l : Launch) (D : va_G) (x : Nat → ClassId)  (sz : Nat)  : Met l yX11_beginsName (.code yX11_beginsName cX11_beginsName 1 (some .boolean) :: zW) ({ frames := 0, cells := (0), slots := (0), locals := 0 }) (va_Pc [.int (-1)] (fun U => U.heap.size = sz ∧ va_P D vwCl [] U.heap ∧ zK x D U ∧ va_D (fun _ => True) [])) (va_Qi (fun (r : Int32) (u : Unit) => r = 0) (fun u t => zB D vwCl (va_A [] sz) [] t) (va_A [] sz)) (0) (0) (va_A [] sz) := by
  refine Met.ofW (cc := cX11_beginsName) (maxL := 1) (ret := (some .boolean)) (by decide) rfl ?_
  intro p e s m args below meth c s₁ B hml hv
  obtain ⟨rfl, hsz, hP, hZ, hD0⟩ := hv
  have hK := hZ.1
  have hx := B.exec
  have hb := B.bytes
  have hr := B.returns
  have hts := atoms_spec (ws := .code yX11_beginsName cX11_beginsName 1 (some .boolean) :: zW) B.pre
  have hown : s.vm.findClass RX11 = some m.cls := findClass_of_methodNamed B.named
  have hlocks := B.notSynchronized
  subst hsz
  have hD := hD0.self (sz := s.heap.size)
  generalize hAe : va_A [] s.heap.size = A at hD ⊢
  have hA : ∀ q : Nat, s.heap.size ≤ q → A q := fun q h => by rw [← hAe]; exact Or.inr h
  have hS : va_S A s.heap s.heap [] := va_S.rf
  have hP : va_P D vwCl [] s.heap := hP
  have hl := lv_entry ([.int (-1)]) (n := 1) (Nat.le_of_ble_eq_true rfl)
  rw [lg_entry_eq]
  generalize (lg_sl ([.int (-1)]) ++ List.replicate (1 - (lg_sl ([.int (-1)])).length) Slot.unset).toArray = ls at hl ⊢
  have hl : lv_has ls 1 [(0, .int (-1))] := hl
  refine lv_iload_n hx hb dX11_beginsName_0 rfl (lv_at hl 0 rfl) ?_
  refine lv_bipush (v := 37) hx hb dX11_beginsName_1 (by decide) ?_
  refine lv_icmp_eq (tgt := 30) hx hb dX11_beginsName_3 (by decide) (fun c9 => absurd c9 (by decide)) (fun _ => ?_)
  refine lv_iload_n hx hb dX11_beginsName_6 rfl (lv_at hl 0 rfl) ?_
  refine lv_bipush (v := 65) hx hb dX11_beginsName_7 (by decide) ?_
  refine lv_icmp_lt (tgt := 18) hx hb dX11_beginsName_9 (by decide) (fun _ => ?_) (fun c9 => absurd (by decide) c9)
  refine lv_iload_n hx hb dX11_beginsName_18 rfl (lv_at hl 0 rfl) ?_
  refine lv_bipush (v := 97) hx hb dX11_beginsName_19 (by decide) ?_
  refine lv_icmp_lt (tgt := 34) hx hb dX11_beginsName_21 (by decide) (fun _ => ?_) (fun c9 => absurd (by decide) c9)
  refine lv_iconst (v := 0) hx hb dX11_beginsName_34 (by decide) ?_
  refine W.widen (k := 0) (n := 0) (Nat.le_of_ble_eq_true rfl) (Nat.le_of_ble_eq_true rfl) ?_
  have hP9 := hP.sub (ws' := []) [] rfl
  have hD9 := hD.sub (ws' := []) [] (by decide) rfl
  exact W.zret (v := 0) hx hb hr (by decide) (fun t ht hW => ⟨⟨_, (), rfl, rfl, ⟨by rw [ht]; exact hP9, hD9⟩⟩, hS.F ht⟩) hS.2.2 dX11_beginsName_35

set_option maxHeartbeats 8000000 in
set_option maxRecDepth 100000 in
/-- Node.read of no bytes -/
theorem c_read0 (l : Launch) (D : va_G) (x : Nat → ClassId) (h0 : Nat) (va : Nat) (ta : Nat) (ft : Nat → Value) (b0 : Nat) (sz : Nat) (h0_0 : ft 0 = .ref b0) (h0_1 : ft 1 = .int 0) : Met l yX3_read (.code yX3_read cX3_read 6 (some .boolean) :: zW) ({ frames := 1, cells := (0), slots := (0), locals := 21 }) (va_Pc [.ref h0, .ref ta, .ref va] (fun U => U.heap.size = sz ∧ va_P D vwCl [(ta, .inr (6, zf 3 ft))] U.heap ∧ zK x D U ∧ va_D (fun _ => True) [(ta, .inr (6, zf 3 ft))])) (va_Qi (fun (r : Int32) (u : Unit) => r = 0) (fun u t => zB D vwCl (va_A [(ta, .inr (6, zf 3 ft))] sz) [(ta, .inr (6, zf 3 ft))] t) (va_A [(ta, .inr (6, zf 3 ft))] sz)) (0) (0) (va_A [(ta, .inr (6, zf 3 ft))] sz) := by
  refine Met.ofW (cc := cX3_read) (maxL := 6) (ret := (some .boolean)) (by decide) rfl ?_
  intro p e s m args below meth c s₁ B hml hv
  obtain ⟨rfl, hsz, hP, hZ, hD0⟩ := hv
  have hK := hZ.1
  have hx := B.exec
  have hb := B.bytes
  have hr := B.returns
  have hts := atoms_spec (ws := .code yX3_read cX3_read 6 (some .boolean) :: zW) B.pre
  have hown : s.vm.findClass RX3 = some m.cls := findClass_of_methodNamed B.named
  have hlocks := B.notSynchronized
  subst hsz
  have hD := hD0.self (sz := s.heap.size)
  generalize hAe : va_A [(ta, .inr (6, zf 3 ft))] s.heap.size = A at hD ⊢
  have hA : ∀ q : Nat, s.heap.size ≤ q → A q := fun q h => by rw [← hAe]; exact Or.inr h
  have hS : va_S A s.heap s.heap [] := va_S.rf
  have hP : va_P D vwCl [(ta, .inr (6, zf 3 ft))] s.heap := hP
  have hl := lv_entry ([.ref h0, .ref ta, .ref va]) (n := 6) (Nat.le_of_ble_eq_true rfl)
  rw [lg_entry_eq]
  generalize (lg_sl ([.ref h0, .ref ta, .ref va]) ++ List.replicate (6 - (lg_sl ([.ref h0, .ref ta, .ref va])).length) Slot.unset).toArray = ls at hl ⊢
  have hl : lv_has ls 6 [(0, .ref h0), (1, .ref ta), (2, .ref va)] := hl
  refine lv_aload_n hx hb dX3_read_0 rfl (lv_at hl 1 rfl) ?_
  refine lv_iconst (v := 0) hx hb dX3_read_1 (by decide) ?_
  have hPc := hP.sub (ws' := [(ta, .inr (6, zf 3 ft))]) [0] rfl
  have hDc := hD.sub (ws' := [(ta, .inr (6, zf 3 ft))]) [0] (by decide) rfl
  have hFc := va_free (wc := [(ta, .inr (6, zf 3 ft))]) hD hS hA [0] rfl
  have h_2 : 0 + 0 ≤ 0 ∧ 0 + 0 ≤ 0 := by omega
  refine va_calli (va_runVN (As := [.int 0]) (rest := []) ⟨hx, hb, hml, hown, hts⟩ (c_at0 l D x 0 ta ft s.heap.size h0_1) ⟨va_cnB 1 hts (zgood (zm_186 _) rfl) rfl rfl rfl (hZ.2.1 _ zn_165) (hts _ (zm_7 _)) ⟨by decide, by decide, by decide +kernel⟩ ⟨Nat.le_of_ble_eq_true rfl, Nat.le_of_ble_eq_true rfl⟩, hts _ (zm_187 _), hts _ (zm_188 _)⟩ ⟨fun a U g mk q => by obtain ⟨q0, q1, qP, qK, qD⟩ := q; exact ⟨q0, q1, qP, ZK.calling (u := U) zN_ok rfl qK, qD⟩, va_recv hK hPc (ci := 6) (q0 := 0) rfl rfl, fun U hU hW => ⟨rfl, by rw [hU], by rw [hU]; exact hPc, ZK.warm zN_ok hW hZ, hDc.weaken (fun _ _ _ _ => trivial)⟩⟩ rfl rfl hl.1 rfl (lv_room (Nat.le_of_ble_eq_true rfl)) dX3_read_2 h_2) hS (fun q _ h => hFc q h) hFc (fun r_1 u t H1 locs ht hvm hw_1 hB hz1 hk1 hS => ?_)
  obtain ⟨hP1, hD1⟩ := hB
  rw [ht] at hP1
  try dsimp only at hw_1
  obtain ⟨hP, hD⟩ := va_join (wr := []) (w1 := [(ta, .inr (6, zf 3 ft))]) hP hD [0] [] rfl rfl (by decide) (by decide) hk1 hFc hP1 hD1
  generalize H1 = H at hP hS ⊢
  have hP : va_P D vwCl [(ta, .inr (6, zf 3 ft))] H := hP
  have hD : va_D A [(ta, .inr (6, zf 3 ft))] := hD
  refine W.widen (k := 0) (n := 0) (by omega) (by omega) ?_
  obtain rfl : r_1 = (-1) := hw_1
  refine lv_bipush (v := 94) hx hb dX3_read_5 (by decide) ?_
  refine lv_icmp_ne (tgt := 14) hx hb dX3_read_7 (by decide) (fun _ => ?_) (fun c9 => absurd c9 (by decide))
  refine lv_iconst (v := 0) hx hb dX3_read_14 (by decide) ?_
  refine lv_istore_n (lv' := [(3, .int 0), (0, .ref h0), (1, .ref ta), (2, .ref va)]) hx hb dX3_read_15 rfl hl (by decide) rfl (fun ls hl => ?_)
  refine lv_iload_n hx hb dX3_read_16 rfl (lv_at hl 0 rfl) ?_
  refine lv_istore (lv' := [(4, .int 0), (3, .int 0), (0, .ref h0), (1, .ref ta), (2, .ref va)]) hx hb dX3_read_17 hl (by decide) rfl (fun ls hl => ?_)
  refine lv_aload_n hx hb dX3_read_19 rfl (lv_at hl 3 rfl) ?_
  refine lv_iload_n hx hb dX3_read_20 rfl (lv_at hl 1 rfl) ?_
  have hPc := hP.sub (ws' := [(ta, .inr (6, zf 3 ft))]) [0] rfl
  have hDc := hD.sub (ws' := [(ta, .inr (6, zf 3 ft))]) [0] (by decide) rfl
  have hFc := va_free (wc := [(ta, .inr (6, zf 3 ft))]) hD hS hA [0] rfl
  have h_4 : 0 + 0 ≤ 0 ∧ 0 + 0 ≤ 0 := by omega
  refine va_calli (va_runVN (As := [.int 0]) (rest := []) ⟨hx, hb, hml, hown, hts⟩ (c_at0 l D x 0 ta ft H.size h0_1) ⟨va_cnB 1 hts (zgood (zm_186 _) rfl) rfl rfl rfl (hZ.2.1 _ zn_165) (hts _ (zm_7 _)) ⟨by decide, by decide, by decide +kernel⟩ ⟨Nat.le_of_ble_eq_true rfl, Nat.le_of_ble_eq_true rfl⟩, hts _ (zm_187 _), hts _ (zm_188 _)⟩ ⟨fun a U g mk q => by obtain ⟨q0, q1, qP, qK, qD⟩ := q; exact ⟨q0, q1, qP, ZK.calling (u := U) zN_ok rfl qK, qD⟩, va_recv hK hPc (ci := 6) (q0 := 0) rfl rfl, fun U hU hW => ⟨rfl, by rw [hU], by rw [hU]; exact hPc, ZK.warm zN_ok hW hZ, hDc.weaken (fun _ _ _ _ => trivial)⟩⟩ rfl rfl hl.1 rfl (lv_room (Nat.le_of_ble_eq_true rfl)) dX3_read_21 h_4) hS (fun q _ h => hFc q h) hFc (fun r_3 u t H1 locs ht hvm hw_3 hB hz1 hk1 hS => ?_)
  obtain ⟨hP1, hD1⟩ := hB
  rw [ht] at hP1
  try dsimp only at hw_3
  obtain ⟨hP, hD⟩ := va_join (wr := []) (w1 := [(ta, .inr (6, zf 3 ft))]) hP hD [0] [] rfl rfl (by decide) (by decide) hk1 hFc hP1 hD1
  generalize H1 = H at hP hS ⊢
  have hP : va_P D vwCl [(ta, .inr (6, zf 3 ft))] H := hP
  have hD : va_D A [(ta, .inr (6, zf 3 ft))] := hD
  refine W.widen (k := 0) (n := 0) (by omega) (by omega) ?_
  obtain rfl : r_3 = (-1) := hw_3
  have hPc := hP.sub (ws' := []) [] rfl
  have hDc := hD.sub (ws' := []) [] (by decide) rfl
  have hFc := va_free (wc := []) hD hS hA [] rfl
  have h_6 : 0 + 0 ≤ 0 ∧ 0 + 0 ≤ 0 := by omega
  refine va_calli (va_runSN (As := [.int (-1)]) (rest := []) ⟨hx, hb, hml, hown, hts⟩ (c_beginsName_1 l D x  H.size) ⟨va_cnB 1 hts (zgood (zm_456 _) rfl) rfl rfl rfl (hZ.2.1 _ zn_166) (hts _ (zm_168 _)) ⟨by decide, by decide, by decide +kernel⟩ ⟨Nat.le_of_ble_eq_true rfl, Nat.le_of_ble_eq_true rfl⟩, hts _ (zm_457 _), trivial⟩ ⟨fun a U g mk q => by obtain ⟨q0, q1, qP, qK, qD⟩ := q; exact ⟨q0, q1, qP, ZK.calling (u := U) zN_ok rfl qK, qD⟩, fun U hU hW => ⟨rfl, by rw [hU], by rw [hU]; exact hPc, ZK.warm zN_ok hW hZ, hDc.weaken (fun _ _ _ _ => trivial)⟩⟩ rfl rfl hl.1 rfl (lv_room (Nat.le_of_ble_eq_true rfl)) dX3_read_24 h_6) hS (fun q _ h => hFc q h) hFc (fun r_5 u t H1 locs ht hvm hw_5 hB hz1 hk1 hS => ?_)
  obtain ⟨hP1, hD1⟩ := hB
  rw [ht] at hP1
  try dsimp only at hw_5
  obtain ⟨hP, hD⟩ := va_join (wr := [(ta, .inr (6, zf 3 ft))]) (w1 := []) hP hD [] [0] rfl rfl (by decide) (by decide) hk1 hFc hP1 hD1
  generalize H1 = H at hP hS ⊢
  have hP : va_P D vwCl [(ta, .inr (6, zf 3 ft))] H := hP
  have hD : va_D A [(ta, .inr (6, zf 3 ft))] := hD
  refine W.widen (k := 0) (n := 0) (by omega) (by omega) ?_
  obtain rfl : r_5 = 0 := hw_5
  refine lv_if_ne (tgt := 32) hx hb dX3_read_27 (by decide) (fun c9 => absurd (by decide) c9) (fun _ => ?_)
  refine lv_iconst (v := 0) hx hb dX3_read_30 (by decide) ?_
  refine W.widen (k := 0) (n := 0) (Nat.le_of_ble_eq_true rfl) (Nat.le_of_ble_eq_true rfl) ?_
  have hP9 := hP.sub (ws' := [(ta, .inr (6, zf 3 ft))]) [0] rfl
  have hD9 := hD.sub (ws' := [(ta, .inr (6, zf 3 ft))]) [0] (by decide) rfl
  exact W.zret (v := 0) hx hb hr (by decide) (fun t ht hW => ⟨⟨_, (), rfl, rfl, ⟨by rw [ht]; exact hP9, hD9⟩⟩, hS.F ht⟩) hS.2.2 dX3_read_31

set_option maxHeartbeats 8000000 in
set_option maxRecDepth 100000 in
/-- MumpsHouse.look on a fresh object -/
theorem c_look (l : Launch) (D : va_G) (x : Nat → ClassId) (n0 : Int32) (n1 : Int32) (h0 : Nat) (f0 : Nat → Value) (ho : Nat) (fh : Nat → Value) (ma : Nat) (fm : Nat → Value) (ta : Nat) (ft : Nat → Value) (no : Nat) (fn : Nat → Value) (va : Nat) (b0 : Nat) (sz : Nat) (h0_2 : f0 2 = .ref ho) (h0_3 : f0 3 = .ref ma) (h0_0 : f0 0 = .ref ta) (h0_5 : f0 5 = .ref va) (h0_4 : f0 4 = .ref no) (h1_12 : fh 12 = .int 0) (h2_4 : fm 4 = .int 0) (h3_0 : ft 0 = .ref b0) (h3_1 : ft 1 = .int 0) : Met l yX11_look (.code yX11_look cX11_look 6 (some .int) :: zW) ({ frames := 2, cells := (0), slots := (0), locals := 46 }) (va_Pc [.ref h0, .int n0, .int n1] (fun U => U.heap.size = sz ∧ va_P D vwCl [(h0, .inr (11, zf 6 f0)), (ho, .inr (0, zf 18 fh)), (ma, .inr (2, zf 19 fm)), (ta, .inr (6, zf 3 ft)), (no, .inr (3, zf 9 fn))] U.heap ∧ zK x D U ∧ va_D (fun _ => True) [(h0, .inr (11, zf 6 f0)), (ho, .inr (0, zf 18 fh)), (ma, .inr (2, zf 19 fm)), (ta, .inr (6, zf 3 ft)), (no, .inr (3, zf 9 fn))])) (va_Qi (fun (r : Int32) (u : Unit) => r = (-1)) (fun u t => True) (va_A [(h0, .inr (11, zf 6 f0)), (ho, .inr (0, zf 18 fh)), (ma, .inr (2, zf 19 fm)), (ta, .inr (6, zf 3 ft)), (no, .inr (3, zf 9 fn))] sz)) (0) (0) (va_A [(h0, .inr (11, zf 6 f0)), (ho, .inr (0, zf 18 fh)), (ma, .inr (2, zf 19 fm)), (ta, .inr (6, zf 3 ft)), (no, .inr (3, zf 9 fn))] sz) := by
  refine Met.ofW (cc := cX11_look) (maxL := 6) (ret := (some .int)) (by decide) rfl ?_
  intro p e s m args below meth c s₁ B hml hv
  obtain ⟨rfl, hsz, hP, hZ, hD0⟩ := hv
  have hK := hZ.1
  have hx := B.exec
  have hb := B.bytes
  have hr := B.returns
  have hts := atoms_spec (ws := .code yX11_look cX11_look 6 (some .int) :: zW) B.pre
  have hown : s.vm.findClass RX11 = some m.cls := findClass_of_methodNamed B.named
  have hlocks := B.notSynchronized
  subst hsz
  have hD := hD0.self (sz := s.heap.size)
  generalize hAe : va_A [(h0, .inr (11, zf 6 f0)), (ho, .inr (0, zf 18 fh)), (ma, .inr (2, zf 19 fm)), (ta, .inr (6, zf 3 ft)), (no, .inr (3, zf 9 fn))] s.heap.size = A at hD ⊢
  have hA : ∀ q : Nat, s.heap.size ≤ q → A q := fun q h => by rw [← hAe]; exact Or.inr h
  have hS : va_S A s.heap s.heap [] := va_S.rf
  have hP : va_P D vwCl [(h0, .inr (11, zf 6 f0)), (ho, .inr (0, zf 18 fh)), (ma, .inr (2, zf 19 fm)), (ta, .inr (6, zf 3 ft)), (no, .inr (3, zf 9 fn))] s.heap := hP
  have hl := lv_entry ([.ref h0, .int n0, .int n1]) (n := 6) (Nat.le_of_ble_eq_true rfl)
  rw [lg_entry_eq]
  generalize (lg_sl ([.ref h0, .int n0, .int n1]) ++ List.replicate (6 - (lg_sl ([.ref h0, .int n0, .int n1])).length) Slot.unset).toArray = ls at hl ⊢
  have hl : lv_has ls 6 [(0, .ref h0), (1, .int n0), (2, .int n1)] := hl
  refine lv_aload_n hx hb dX11_look_0 rfl (lv_at hl 0 rfl) ?_
  refine z_get (T := TX11) (N := 6) (ci := 11) hx hb hts (zi_11 _) hown hK hP 0 rfl rfl 2 (by decide) (hts _ (zm_175 _)) rfl h0_2 dX11_look_1 ?_
  refine z_getN (T := TX0) (N := 18) (ci := 0) hx hb hts (zi_0 _) hown hK hP 1 rfl rfl 12 (by decide) (hZ.2.1 _ zn_30) rfl h1_12 dX11_look_4 ?_
  refine lv_if_eq (tgt := 13) hx hb dX11_look_7 (by decide) (fun _ => ?_) (fun c9 => absurd (by decide) c9)
  refine lv_aload_n hx hb dX11_look_13 rfl (lv_at hl 0 rfl) ?_
  refine z_get (T := TX11) (N := 6) (ci := 11) hx hb hts (zi_11 _) hown hK hP 0 rfl rfl 0 (by decide) (hts _ (zm_172 _)) rfl h0_0 dX11_look_14 ?_
  refine lv_iconst (v := 0) hx hb dX11_look_17 (by decide) ?_
  have hPc := hP.sub (ws' := [(ta, .inr (6, zf 3 ft))]) [3] rfl
  have hDc := hD.sub (ws' := [(ta, .inr (6, zf 3 ft))]) [3] (by decide) rfl
  have hFc := va_free (wc := [(ta, .inr (6, zf 3 ft))]) hD hS hA [3] rfl
  have h_2 : 0 + 0 ≤ 0 ∧ 0 + 0 ≤ 0 := by omega
  refine va_calli (va_runVN (As := [.int 0]) (rest := []) ⟨hx, hb, hml, hown, hts⟩ (c_at0 l D x 0 ta ft s.heap.size h3_1) ⟨va_cnB 1 hts (zgood (zm_186 _) rfl) rfl rfl rfl (hZ.2.1 _ zn_85) (hts _ (zm_7 _)) ⟨by decide, by decide, by decide +kernel⟩ ⟨Nat.le_of_ble_eq_true rfl, Nat.le_of_ble_eq_true rfl⟩, hts _ (zm_187 _), hts _ (zm_188 _)⟩ ⟨fun a U g mk q => by obtain ⟨q0, q1, qP, qK, qD⟩ := q; exact ⟨q0, q1, qP, ZK.calling (u := U) zN_ok rfl qK, qD⟩, va_recv hK hPc (ci := 6) (q0 := 0) rfl rfl, fun U hU hW => ⟨rfl, by rw [hU], by rw [hU]; exact hPc, ZK.warm zN_ok hW hZ, hDc.weaken (fun _ _ _ _ => trivial)⟩⟩ rfl rfl hl.1 rfl (lv_room (Nat.le_of_ble_eq_true rfl)) dX11_look_18 h_2) hS (fun q _ h => hFc q h) hFc (fun r_1 u t H1 locs ht hvm hw_1 hB hz1 hk1 hS => ?_)
  obtain ⟨hP1, hD1⟩ := hB
  rw [ht] at hP1
  try dsimp only at hw_1
  obtain ⟨hP, hD⟩ := va_join (wr := [(h0, .inr (11, zf 6 f0)), (ho, .inr (0, zf 18 fh)), (ma, .inr (2, zf 19 fm)), (no, .inr (3, zf 9 fn))]) (w1 := [(ta, .inr (6, zf 3 ft))]) hP hD [3] [0, 1, 2, 4] rfl rfl (by decide) (by decide) hk1 hFc hP1 hD1
  generalize H1 = H at hP hS ⊢
  have hP : va_P D vwCl [(h0, .inr (11, zf 6 f0)), (ho, .inr (0, zf 18 fh)), (ma, .inr (2, zf 19 fm)), (no, .inr (3, zf 9 fn)), (ta, .inr (6, zf 3 ft))] H := hP
  have hD : va_D A [(h0, .inr (11, zf 6 f0)), (ho, .inr (0, zf 18 fh)), (ma, .inr (2, zf 19 fm)), (no, .inr (3, zf 9 fn)), (ta, .inr (6, zf 3 ft))] := hD
  refine W.widen (k := 0) (n := 0) (by omega) (by omega) ?_
  obtain rfl : r_1 = (-1) := hw_1
  refine lv_bipush (v := 94) hx hb dX11_look_21 (by decide) ?_
  refine lv_icmp_ne (tgt := 30) hx hb dX11_look_23 (by decide) (fun _ => ?_) (fun c9 => absurd c9 (by decide))
  refine lv_iconst (v := 0) hx hb dX11_look_30 (by decide) ?_
  refine lv_istore_n (lv' := [(3, .int 0), (0, .ref h0), (1, .int n0), (2, .int n1)]) hx hb dX11_look_31 rfl hl (by decide) rfl (fun ls hl => ?_)
  refine lv_aload_n hx hb dX11_look_32 rfl (lv_at hl 1 rfl) ?_
  refine z_get (T := TX11) (N := 6) (ci := 11) hx hb hts (zi_11 _) hown hK hP 0 rfl rfl 3 (by decide) (hts _ (zm_177 _)) rfl h0_3 dX11_look_33 ?_
  refine lv_iload_n hx hb dX11_look_36 rfl (lv_at hl 2 rfl) ?_
  have hPc := hP.sub (ws' := [(ma, .inr (2, zf 19 fm))]) [2] rfl
  have hDc := hD.sub (ws' := [(ma, .inr (2, zf 19 fm))]) [2] (by decide) rfl
  have hFc := va_free (wc := [(ma, .inr (2, zf 19 fm))]) hD hS hA [2] rfl
  have h_4 : 0 + 0 ≤ 0 ∧ 0 + 0 ≤ 0 := by omega
  refine va_callq (va_runVN (As := [.int n0]) (rest := []) ⟨hx, hb, hml, hown, hts⟩ (c_living0 l D x n0 ma fm H.size h2_4) ⟨va_cnB 1 hts (zgood (zm_289 _) rfl) rfl rfl rfl (hZ.2.1 _ zn_51) (hts _ (zm_146 _)) ⟨by decide, by decide, by decide +kernel⟩ ⟨Nat.le_of_ble_eq_true rfl, Nat.le_of_ble_eq_true rfl⟩, hts _ (zm_290 _), hts _ (zm_291 _)⟩ ⟨fun a U g mk q => by obtain ⟨q0, q1, qP, qK, qD⟩ := q; exact ⟨q0, q1, qP, ZK.calling (u := U) zN_ok rfl qK, qD⟩, va_recv hK hPc (ci := 2) (q0 := 0) rfl rfl, fun U hU hW => ⟨rfl, by rw [hU], by rw [hU]; exact hPc, ZK.warm zN_ok hW hZ, hDc.weaken (fun _ _ _ _ => trivial)⟩⟩ rfl rfl hl.1 rfl (lv_room (Nat.le_of_ble_eq_true rfl)) dX11_look_37 h_4) hS (fun q _ h => hFc q h) hFc (fun r_3 u t H1 locs ht hvm hw_3 hB hz1 hk1 hS => ?_)
  obtain ⟨hP1, hD1⟩ := hB
  rw [ht] at hP1
  try dsimp only at hw_3
  obtain ⟨hP, hD⟩ := va_join (wr := [(h0, .inr (11, zf 6 f0)), (ho, .inr (0, zf 18 fh)), (no, .inr (3, zf 9 fn)), (ta, .inr (6, zf 3 ft))]) (w1 := [(ma, .inr (2, zf 19 fm))]) hP hD [2] [0, 1, 3, 4] rfl rfl (by decide) (by decide) hk1 hFc hP1 hD1
  generalize H1 = H at hP hS ⊢
  have hP : va_P D vwCl [(h0, .inr (11, zf 6 f0)), (ho, .inr (0, zf 18 fh)), (no, .inr (3, zf 9 fn)), (ta, .inr (6, zf 3 ft)), (ma, .inr (2, zf 19 fm))] H := hP
  have hD : va_D A [(h0, .inr (11, zf 6 f0)), (ho, .inr (0, zf 18 fh)), (no, .inr (3, zf 9 fn)), (ta, .inr (6, zf 3 ft)), (ma, .inr (2, zf 19 fm))] := hD
  refine W.widen (k := 0) (n := 0) (by omega) (by omega) ?_
  obtain rfl : r_3 = none := hw_3
  refine lv_astoreN (lv' := [(4, .null), (3, .int 0), (0, .ref h0), (1, .int n0), (2, .int n1)]) hx hb dX11_look_40 hl (by decide) rfl (fun ls hl => ?_)
  refine lv_aload_n hx hb dX11_look_42 rfl (lv_at hl 2 rfl) ?_
  refine z_get (T := TX11) (N := 6) (ci := 11) hx hb hts (zi_11 _) hown hK hP 0 rfl rfl 4 (by decide) (hts _ (zm_179 _)) rfl h0_4 dX11_look_43 ?_
  refine lv_aload_n hx hb dX11_look_46 rfl (lv_at hl 2 rfl) ?_
  refine z_get (T := TX11) (N := 6) (ci := 11) hx hb hts (zi_11 _) hown hK hP 0 rfl rfl 0 (by decide) (hts _ (zm_172 _)) rfl h0_0 dX11_look_47 ?_
  refine lv_aload_n hx hb dX11_look_50 rfl (lv_at hl 2 rfl) ?_
  refine z_get (T := TX11) (N := 6) (ci := 11) hx hb hts (zi_11 _) hown hK hP 0 rfl rfl 5 (by decide) (hts _ (zm_180 _)) rfl h0_5 dX11_look_51 ?_
  have hPc := hP.sub (ws' := [(ta, .inr (6, zf 3 ft))]) [3] rfl
  have hDc := hD.sub (ws' := [(ta, .inr (6, zf 3 ft))]) [3] (by decide) rfl
  have hFc := va_free (wc := [(ta, .inr (6, zf 3 ft))]) hD hS hA [3] rfl
  have h_6 : 0 + 0 ≤ 0 ∧ 0 + 0 ≤ 0 := by omega
  refine va_calli (va_runVN (As := [.ref ta, .ref va]) (rest := []) ⟨hx, hb, hml, hown, hts⟩ (c_read0 l D x no va ta ft b0 H.size h3_0 h3_1) ⟨va_cnB 2 hts (zgood (zm_449 _) rfl) rfl rfl rfl (hZ.2.1 _ zn_96) (hts _ (zm_17 _)) ⟨by decide, by decide, by decide +kernel⟩ ⟨Nat.le_of_ble_eq_true rfl, Nat.le_of_ble_eq_true rfl⟩, hts _ (zm_450 _), hts _ (zm_451 _)⟩ ⟨fun a U g mk q => by obtain ⟨q0, q1, qP, qK, qD⟩ := q; exact ⟨q0, q1, qP, ZK.calling (u := U) zN_ok rfl qK, qD⟩, va_recv hK hP (ci := 3) (q0 := 2) rfl rfl, fun U hU hW => ⟨rfl, by rw [hU], by rw [hU]; exact hPc, ZK.warm zN_ok hW hZ, hDc.weaken (fun _ _ _ _ => trivial)⟩⟩ rfl rfl hl.1 rfl (lv_room (Nat.le_of_ble_eq_true rfl)) dX11_look_54 h_6) hS (fun q _ h => hFc q h) hFc (fun r_5 u t H1 locs ht hvm hw_5 hB hz1 hk1 hS => ?_)
  obtain ⟨hP1, hD1⟩ := hB
  rw [ht] at hP1
  try dsimp only at hw_5
  obtain ⟨hP, hD⟩ := va_join (wr := [(h0, .inr (11, zf 6 f0)), (ho, .inr (0, zf 18 fh)), (no, .inr (3, zf 9 fn)), (ma, .inr (2, zf 19 fm))]) (w1 := [(ta, .inr (6, zf 3 ft))]) hP hD [3] [0, 1, 2, 4] rfl rfl (by decide) (by decide) hk1 hFc hP1 hD1
  generalize H1 = H at hP hS ⊢
  have hP : va_P D vwCl [(h0, .inr (11, zf 6 f0)), (ho, .inr (0, zf 18 fh)), (no, .inr (3, zf 9 fn)), (ma, .inr (2, zf 19 fm)), (ta, .inr (6, zf 3 ft))] H := hP
  have hD : va_D A [(h0, .inr (11, zf 6 f0)), (ho, .inr (0, zf 18 fh)), (no, .inr (3, zf 9 fn)), (ma, .inr (2, zf 19 fm)), (ta, .inr (6, zf 3 ft))] := hD
  refine W.widen (k := 0) (n := 0) (by omega) (by omega) ?_
  obtain rfl : r_5 = 0 := hw_5
  refine lv_if_eq (tgt := 84) hx hb dX11_look_57 (by decide) (fun _ => ?_) (fun c9 => absurd (by decide) c9)
  refine lv_iconst (v := 0) hx hb dX11_look_84 (by decide) ?_
  refine lv_istore (lv' := [(5, .int 0), (4, .null), (3, .int 0), (0, .ref h0), (1, .int n0), (2, .int n1)]) hx hb dX11_look_85 hl (by decide) rfl (fun ls hl => ?_)
  refine lv_aload_n hx hb dX11_look_87 rfl (lv_at hl 3 rfl) ?_
  refine z_get (T := TX11) (N := 6) (ci := 11) hx hb hts (zi_11 _) hown hK hP 0 rfl rfl 0 (by decide) (hts _ (zm_172 _)) rfl h0_0 dX11_look_88 ?_
  have hPc := hP.sub (ws' := [(ta, .inr (6, zf 3 ft))]) [4] rfl
  have hDc := hD.sub (ws' := [(ta, .inr (6, zf 3 ft))]) [4] (by decide) rfl
  have hFc := va_free (wc := [(ta, .inr (6, zf 3 ft))]) hD hS hA [4] rfl
  have h_8 : 0 + 0 ≤ 0 ∧ 0 + 0 ≤ 0 := by omega
  refine va_callv (va_runVN (As := []) (rest := []) ⟨hx, hb, hml, hown, hts⟩ (c_Row_clear l D x ta ft b0 H.size h3_0) ⟨va_cnB 0 hts (zgood (zm_181 _) rfl) rfl rfl rfl (hZ.2.1 _ zn_31) (hts _ (zm_7 _)) ⟨by decide, by decide, by decide +kernel⟩ ⟨Nat.le_of_ble_eq_true rfl, Nat.le_of_ble_eq_true rfl⟩, hts _ (zm_182 _), hts _ (zm_183 _)⟩ ⟨fun a U g mk q => by obtain ⟨q0, q1, qP, qK, qD⟩ := q; exact ⟨q0, q1, qP, ZK.calling (u := U) zN_ok rfl qK, qD⟩, va_recv hK hPc (ci := 6) (q0 := 0) rfl rfl, fun U hU hW => ⟨rfl, by rw [hU], by rw [hU]; exact hPc, ZK.warm zN_ok hW hZ, hDc.weaken (fun _ _ _ _ => trivial)⟩⟩ rfl rfl hl.1 rfl (lv_room (Nat.le_of_ble_eq_true rfl)) dX11_look_91 h_8) hS (fun q _ h => hFc q h) hFc (fun c0_7 t H1 locs ht hvm hw_7 hB hz1 hk1 hS => ?_)
  obtain ⟨hP1, hD1⟩ := hB
  rw [ht] at hP1
  try dsimp only at hw_7
  obtain ⟨hP, hD⟩ := va_join (wr := [(h0, .inr (11, zf 6 f0)), (ho, .inr (0, zf 18 fh)), (no, .inr (3, zf 9 fn)), (ma, .inr (2, zf 19 fm))]) (w1 := [(ta, .inr (6, zf 3 c0_7))]) hP hD [4] [0, 1, 2, 3] rfl rfl (by decide) (by decide) hk1 hFc hP1 hD1
  generalize H1 = H at hP hS ⊢
  have hP : va_P D vwCl [(h0, .inr (11, zf 6 f0)), (ho, .inr (0, zf 18 fh)), (no, .inr (3, zf 9 fn)), (ma, .inr (2, zf 19 fm)), (ta, .inr (6, zf 3 c0_7))] H := hP
  have hD : va_D A [(h0, .inr (11, zf 6 f0)), (ho, .inr (0, zf 18 fh)), (no, .inr (3, zf 9 fn)), (ma, .inr (2, zf 19 fm)), (ta, .inr (6, zf 3 c0_7))] := hD
  refine W.widen (k := 0) (n := 0) (by omega) (by omega) ?_
  refine lv_iload_n hx hb dX11_look_94 rfl (lv_at hl 5 rfl) ?_
  refine lv_if_lt (tgt := 112) hx hb dX11_look_95 (by decide) (fun c_9 => ?_) (fun c_9 => ?_)
  · skip
    refine lv_iconst (v := (-1)) hx hb dX11_look_112 (by decide) ?_
    refine W.widen (k := 0) (n := 0) (Nat.le_of_ble_eq_true rfl) (Nat.le_of_ble_eq_true rfl) ?_
    exact W.iret (v := (-1)) hx hb hr (fun t ht hW => ⟨⟨_, (), rfl, rfl, trivial⟩, hS.F ht⟩) hS.2.2 dX11_look_113
  · skip
    refine lv_iload_n hx hb dX11_look_98 rfl (lv_at hl 5 rfl) ?_
    refine lv_iconst (v := 4) hx hb dX11_look_99 (by decide) ?_
    refine lv_icmp_gt (tgt := 112) hx hb dX11_look_100 (by decide) (fun c_10 => ?_) (fun c_10 => ?_)
    · skip
      refine lv_iconst (v := (-1)) hx hb dX11_look_112 (by decide) ?_
      refine W.widen (k := 0) (n := 0) (Nat.le_of_ble_eq_true rfl) (Nat.le_of_ble_eq_true rfl) ?_
      exact W.iret (v := (-1)) hx hb hr (fun t ht hW => ⟨⟨_, (), rfl, rfl, trivial⟩, hS.F ht⟩) hS.2.2 dX11_look_113
    · skip
      refine lv_aloadN hx hb dX11_look_103 (lv_at hl 1 rfl) ?_
      refine lv_ifnonnullN hx hb dX11_look_105 ?_
      refine lv_iload_n hx hb dX11_look_108 rfl (lv_at hl 2 rfl) ?_
      refine lv_if_ne (tgt := 114) hx hb dX11_look_109 (by decide) (fun c9 => absurd (by decide) c9) (fun _ => ?_)
      refine lv_iconst (v := (-1)) hx hb dX11_look_112 (by decide) ?_
      refine W.widen (k := 0) (n := 0) (Nat.le_of_ble_eq_true rfl) (Nat.le_of_ble_eq_true rfl) ?_
      exact W.iret (v := (-1)) hx hb hr (fun t ht hW => ⟨⟨_, (), rfl, rfl, trivial⟩, hS.F ht⟩) hS.2.2 dX11_look_113
