
set_option maxHeartbeats 8000000 in
set_option maxRecDepth 100000 in
/-- Text.load of no bytes -/
theorem c_loadL (l : Launch) (D : va_G) (x : Nat → ClassId) (h0 : Nat) (f0 : Nat → Value) (b : Nat) (gb : Nat → Int32) (sb : Nat) (gs : Nat → Int32) (cd : Nat) (s1 : Nat) (s2 : Nat) (s3 : Nat) (s4 : Nat) (s5 : Nat) (sz : Nat) (h0_0 : f0 0 = .ref b) (h0_2 : f0 2 = .ref cd) (h0_5 : f0 5 = .ref s1) (h0_6 : f0 6 = .ref s2) (h0_7 : f0 7 = .ref s3) (h0_8 : f0 8 = .ref s4) (h0_9 : f0 9 = .ref s5) : Met l yX8_load (.code yX8_load cX8_load 4 (some .boolean) :: zW) ({ frames := 1, cells := (0), slots := (0), locals := 40 }) (va_Pc [.ref h0, .ref sb, .int 0, .int 0] (fun U => U.heap.size = sz ∧ va_P D vwCl [(h0, .inr (8, zf 18 f0)), (b, .inl (x 1, 250, .inl gb)), (sb, .inl (x 1, 250, .inl gs))] U.heap ∧ zK x D U ∧ va_D (fun _ => True) [(h0, .inr (8, zf 18 f0)), (b, .inl (x 1, 250, .inl gb)), (sb, .inl (x 1, 250, .inl gs))])) (va_Qi (fun (r : Int32) (u : (Nat → Value) × (Nat → Int32)) => match u with | (c0, c1) => r = 1 ∧ c0 0 = .ref b ∧ c0 2 = .ref cd ∧ c0 5 = .ref s1 ∧ c0 6 = .ref s2 ∧ c0 7 = .ref s3 ∧ c0 8 = .ref s4 ∧ c0 9 = .ref s5 ∧ c0 1 = .int 0 ∧ c0 11 = .long 0) (fun u t => match u with | (c0, c1) => zB D vwCl (va_A [(h0, .inr (8, zf 18 f0)), (b, .inl (x 1, 250, .inl gb)), (sb, .inl (x 1, 250, .inl gs))] sz) [(h0, .inr (8, zf 18 c0)), (b, .inl (x 1, 250, .inl c1)), (sb, .inl (x 1, 250, .inl gs))] t) (va_A [(h0, .inr (8, zf 18 f0)), (b, .inl (x 1, 250, .inl gb)), (sb, .inl (x 1, 250, .inl gs))] sz)) (0) (0) (va_A [(h0, .inr (8, zf 18 f0)), (b, .inl (x 1, 250, .inl gb)), (sb, .inl (x 1, 250, .inl gs))] sz) := by
  refine Met.ofW (cc := cX8_load) (maxL := 4) (ret := (some .boolean)) (by decide) rfl ?_
  intro p e s m args below meth c s₁ B hml hv
  obtain ⟨rfl, hsz, hP, hZ, hD0⟩ := hv
  have hK := hZ.1
  have hx := B.exec
  have hb := B.bytes
  have hr := B.returns
  have hts := atoms_spec (ws := .code yX8_load cX8_load 4 (some .boolean) :: zW) B.pre
  have hown : s.vm.findClass RX8 = some m.cls := findClass_of_methodNamed B.named
  have hlocks := B.notSynchronized
  subst hsz
  have hD := hD0.self (sz := s.heap.size)
  generalize hAe : va_A [(h0, .inr (8, zf 18 f0)), (b, .inl (x 1, 250, .inl gb)), (sb, .inl (x 1, 250, .inl gs))] s.heap.size = A at hD ⊢
  have hA : ∀ q : Nat, s.heap.size ≤ q → A q := fun q h => by rw [← hAe]; exact Or.inr h
  have hS : va_S A s.heap s.heap [] := va_S.rf
  have hP : va_P D vwCl [(h0, .inr (8, zf 18 f0)), (b, .inl (x 1, 250, .inl gb)), (sb, .inl (x 1, 250, .inl gs))] s.heap := hP
  have hl := lv_entry ([.ref h0, .ref sb, .int 0, .int 0]) (n := 4) (Nat.le_of_ble_eq_true rfl)
  rw [lg_entry_eq]
  generalize (lg_sl ([.ref h0, .ref sb, .int 0, .int 0]) ++ List.replicate (4 - (lg_sl ([.ref h0, .ref sb, .int 0, .int 0])).length) Slot.unset).toArray = ls at hl ⊢
  have hl : lv_has ls 4 [(0, .ref h0), (1, .ref sb), (2, .int 0), (3, .int 0)] := hl
  refine lv_iload_n hx hb dX8_load_0 rfl (lv_at hl 2 rfl) ?_
  refine lv_if_lt (tgt := 25) hx hb dX8_load_1 (by decide) (fun c9 => absurd c9 (by decide)) (fun _ => ?_)
  refine lv_iload_n hx hb dX8_load_4 rfl (lv_at hl 3 rfl) ?_
  refine lv_if_lt (tgt := 25) hx hb dX8_load_5 (by decide) (fun c9 => absurd c9 (by decide)) (fun _ => ?_)
  refine lv_iload_n hx hb dX8_load_8 rfl (lv_at hl 3 rfl) ?_
  refine lv_aload_n hx hb dX8_load_9 rfl (lv_at hl 0 rfl) ?_
  refine z_get (T := TX8) (N := 18) (ci := 8) hx hb hts (zi_8 _) hown hK hP 0 rfl rfl 0 (by decide) (hts _ (zm_41 _)) rfl h0_0 dX8_load_10 ?_
  refine va_alen (v := 250) hx hb hK hP 1 1 rfl rfl rfl dX8_load_13 ?_
  refine lv_icmp_gt (tgt := 25) hx hb dX8_load_14 (by decide) (fun c9 => absurd c9 (by decide)) (fun _ => ?_)
  refine lv_iload_n hx hb dX8_load_17 rfl (lv_at hl 3 rfl) ?_
  refine lv_aload_n hx hb dX8_load_18 rfl (lv_at hl 1 rfl) ?_
  refine va_alen (v := 250) hx hb hK hP 2 1 rfl rfl rfl dX8_load_19 ?_
  refine lv_iload_n hx hb dX8_load_20 rfl (lv_at hl 2 rfl) ?_
  refine lv_isub hx hb dX8_load_21 ?_
  refine lv_topi (fun y_2 ex_1 => ?_)
  obtain rfl : y_2 = 250 := ex_1.trans (by decide)
  refine lv_icmp_le (tgt := 27) hx hb dX8_load_22 (by decide) (fun _ => ?_) (fun c9 => absurd (by decide) c9)
  refine lv_aload_n hx hb dX8_load_27 rfl (lv_at hl 1 rfl) ?_
  refine lv_iload_n hx hb dX8_load_28 rfl (lv_at hl 2 rfl) ?_
  refine lv_aload_n hx hb dX8_load_29 rfl (lv_at hl 0 rfl) ?_
  refine z_get (T := TX8) (N := 18) (ci := 8) hx hb hts (zi_8 _) hown hK hP 0 rfl rfl 0 (by decide) (hts _ (zm_41 _)) rfl h0_0 dX8_load_30 ?_
  refine lv_iconst (v := 0) hx hb dX8_load_33 (by decide) ?_
  refine lv_iload_n hx hb dX8_load_34 rfl (lv_at hl 3 rfl) ?_
  refine va_copyi (ty := .byte) hx hb (hml.trans hl.1.symm) hown (hts _ (zm_380 _)) (hts _ (zm_900 _)) (hts _ (zm_901 _)) (hts _ (zm_902 _)) hK hP hD hS 2 1 1 1 rfl rfl rfl rfl rfl (by decide) (by decide) (by decide) (by decide) (by decide) (fun i hi => absurd hi (Nat.not_lt_zero i)) (Nat.le_of_ble_eq_true rfl) (by decide) dX8_load_35 (fun H locs hP hD hS => ?_)
  generalize va_cpy gs gb _ _ _ = g_3 at hP hD
  have hP : va_P D vwCl [(h0, .inr (8, zf 18 f0)), (b, .inl (x 1, 250, .inl g_3)), (sb, .inl (x 1, 250, .inl gs))] H := hP
  have hD : va_D A [(h0, .inr (8, zf 18 f0)), (b, .inl (x 1, 250, .inl g_3)), (sb, .inl (x 1, 250, .inl gs))] := hD
  refine lv_aload_n hx hb dX8_load_38 rfl (lv_at hl 0 rfl) ?_
  refine lv_iload_n hx hb dX8_load_39 rfl (lv_at hl 3 rfl) ?_
  refine z_put (T := TX8) (N := 18) (ci := 8) hx hb hts (zi_8 _) hown hK hP hD hS 0 rfl rfl 1 (by decide) (hts _ (zm_381 _)) rfl rfl rfl rfl dX8_load_40 (fun H locs f_4 ek_5 ok_6 hP hD hS => ?_)
  have hP : va_P D vwCl [(h0, .inr (8, zf 18 f_4)), (b, .inl (x 1, 250, .inl g_3)), (sb, .inl (x 1, 250, .inl gs))] H := hP
  have hD : va_D A [(h0, .inr (8, zf 18 f_4)), (b, .inl (x 1, 250, .inl g_3)), (sb, .inl (x 1, 250, .inl gs))] := hD
  refine lv_aload_n hx hb dX8_load_43 rfl (lv_at hl 0 rfl) ?_
  refine lv_lconst (v := 0) hx hb dX8_load_44 (by decide) ?_
  refine z_put (T := TX8) (N := 18) (ci := 8) hx hb hts (zi_8 _) hown hK hP hD hS 0 rfl rfl 11 (by decide) (hts _ (zm_382 _)) rfl rfl rfl rfl dX8_load_45 (fun H locs f_7 ek_8 ok_9 hP hD hS => ?_)
  have hP : va_P D vwCl [(h0, .inr (8, zf 18 f_7)), (b, .inl (x 1, 250, .inl g_3)), (sb, .inl (x 1, 250, .inl gs))] H := hP
  have hD : va_D A [(h0, .inr (8, zf 18 f_7)), (b, .inl (x 1, 250, .inl g_3)), (sb, .inl (x 1, 250, .inl gs))] := hD
  refine lv_iconst (v := 1) hx hb dX8_load_48 (by decide) ?_
  have hP9 := hP.sub (ws' := [(h0, .inr (8, zf 18 f_7)), (b, .inl (x 1, 250, .inl g_3)), (sb, .inl (x 1, 250, .inl gs))]) [0, 1, 2] rfl
  have hD9 := hD.sub (ws' := [(h0, .inr (8, zf 18 f_7)), (b, .inl (x 1, 250, .inl g_3)), (sb, .inl (x 1, 250, .inl gs))]) [0, 1, 2] (by decide) rfl
  exact W.zret (v := 1) hx hb hr (by decide) (fun t ht hW => ⟨⟨_, (f_7, g_3), rfl, ⟨rfl, ((ok_9 0 (by decide)).trans ((ok_6 0 (by decide)).trans h0_0)), ((ok_9 2 (by decide)).trans ((ok_6 2 (by decide)).trans h0_2)), ((ok_9 5 (by decide)).trans ((ok_6 5 (by decide)).trans h0_5)), ((ok_9 6 (by decide)).trans ((ok_6 6 (by decide)).trans h0_6)), ((ok_9 7 (by decide)).trans ((ok_6 7 (by decide)).trans h0_7)), ((ok_9 8 (by decide)).trans ((ok_6 8 (by decide)).trans h0_8)), ((ok_9 9 (by decide)).trans ((ok_6 9 (by decide)).trans h0_9)), ((ok_9 1 (by decide)).trans ek_5), ek_8⟩, ⟨by rw [ht]; exact hP9, hD9⟩⟩, hS.F ht⟩) hS.2.2 dX8_load_49

set_option maxHeartbeats 8000000 in
set_option maxRecDepth 100000 in
/-- Text.begin -/
theorem c_beginL (l : Launch) (D : va_G) (x : Nat → ClassId) (h0 : Nat) (f0 : Nat → Value) (b : Nat) (cd : Nat) (s1 : Nat) (s2 : Nat) (s3 : Nat) (s4 : Nat) (s5 : Nat) (sz : Nat) (h0_0 : f0 0 = .ref b) (h0_2 : f0 2 = .ref cd) (h0_5 : f0 5 = .ref s1) (h0_6 : f0 6 = .ref s2) (h0_7 : f0 7 = .ref s3) (h0_8 : f0 8 = .ref s4) (h0_9 : f0 9 = .ref s5) (h0_1 : f0 1 = .int 0) : Met l yX8_begin (.code yX8_begin cX8_begin 2 none :: zW) ({ frames := 0, cells := (0), slots := (0), locals := 0 }) (va_Pc [.ref h0, .int 1] (fun U => U.heap.size = sz ∧ va_P D vwCl [(h0, .inr (8, zf 18 f0))] U.heap ∧ zK x D U ∧ va_D (fun _ => True) [(h0, .inr (8, zf 18 f0))])) (va_Qv (fun u : Nat → Value => match u with | c0 => c0 0 = .ref b ∧ c0 2 = .ref cd ∧ c0 5 = .ref s1 ∧ c0 6 = .ref s2 ∧ c0 7 = .ref s3 ∧ c0 8 = .ref s4 ∧ c0 9 = .ref s5 ∧ c0 1 = .int 0 ∧ c0 14 = .int 0 ∧ c0 15 = .int (-1) ∧ c0 3 = .int 0 ∧ c0 4 = .int 0 ∧ c0 16 = .int 1) (fun u t => match u with | c0 => zB D vwCl (va_A [(h0, .inr (8, zf 18 f0))] sz) [(h0, .inr (8, zf 18 c0))] t) (va_A [(h0, .inr (8, zf 18 f0))] sz)) (0) (0) (va_A [(h0, .inr (8, zf 18 f0))] sz) := by
  refine Met.ofW (cc := cX8_begin) (maxL := 2) (ret := none) (by decide) rfl ?_
  intro p e s m args below meth c s₁ B hml hv
  obtain ⟨rfl, hsz, hP, hZ, hD0⟩ := hv
  have hK := hZ.1
  have hx := B.exec
  have hb := B.bytes
  have hr := B.returns
  have hts := atoms_spec (ws := .code yX8_begin cX8_begin 2 none :: zW) B.pre
  have hown : s.vm.findClass RX8 = some m.cls := findClass_of_methodNamed B.named
  have hlocks := B.notSynchronized
  subst hsz
  have hD := hD0.self (sz := s.heap.size)
  generalize hAe : va_A [(h0, .inr (8, zf 18 f0))] s.heap.size = A at hD ⊢
  have hA : ∀ q : Nat, s.heap.size ≤ q → A q := fun q h => by rw [← hAe]; exact Or.inr h
  have hS : va_S A s.heap s.heap [] := va_S.rf
  have hP : va_P D vwCl [(h0, .inr (8, zf 18 f0))] s.heap := hP
  have hl := lv_entry ([.ref h0, .int 1]) (n := 2) (Nat.le_of_ble_eq_true rfl)
  rw [lg_entry_eq]
  generalize (lg_sl ([.ref h0, .int 1]) ++ List.replicate (2 - (lg_sl ([.ref h0, .int 1])).length) Slot.unset).toArray = ls at hl ⊢
  have hl : lv_has ls 2 [(0, .ref h0), (1, .int 1)] := hl
  refine lv_aload_n hx hb dX8_begin_0 rfl (lv_at hl 0 rfl) ?_
  refine lv_iconst (v := 0) hx hb dX8_begin_1 (by decide) ?_
  refine z_put (T := TX8) (N := 18) (ci := 8) hx hb hts (zi_8 _) hown hK hP hD hS 0 rfl rfl 14 (by decide) (hts _ (zm_395 _)) rfl rfl rfl rfl dX8_begin_2 (fun H locs f_1 ek_2 ok_3 hP hD hS => ?_)
  have hP : va_P D vwCl [(h0, .inr (8, zf 18 f_1))] H := hP
  have hD : va_D A [(h0, .inr (8, zf 18 f_1))] := hD
  refine lv_aload_n hx hb dX8_begin_5 rfl (lv_at hl 0 rfl) ?_
  refine lv_iconst (v := (-1)) hx hb dX8_begin_6 (by decide) ?_
  refine z_put (T := TX8) (N := 18) (ci := 8) hx hb hts (zi_8 _) hown hK hP hD hS 0 rfl rfl 15 (by decide) (hts _ (zm_396 _)) rfl rfl rfl rfl dX8_begin_7 (fun H locs f_4 ek_5 ok_6 hP hD hS => ?_)
  have hP : va_P D vwCl [(h0, .inr (8, zf 18 f_4))] H := hP
  have hD : va_D A [(h0, .inr (8, zf 18 f_4))] := hD
  refine lv_aload_n hx hb dX8_begin_10 rfl (lv_at hl 0 rfl) ?_
  refine lv_iconst (v := 0) hx hb dX8_begin_11 (by decide) ?_
  refine z_put (T := TX8) (N := 18) (ci := 8) hx hb hts (zi_8 _) hown hK hP hD hS 0 rfl rfl 3 (by decide) (hts _ (zm_400 _)) rfl rfl rfl rfl dX8_begin_12 (fun H locs f_7 ek_8 ok_9 hP hD hS => ?_)
  have hP : va_P D vwCl [(h0, .inr (8, zf 18 f_7))] H := hP
  have hD : va_D A [(h0, .inr (8, zf 18 f_7))] := hD
  refine lv_aload_n hx hb dX8_begin_15 rfl (lv_at hl 0 rfl) ?_
  refine lv_iconst (v := 0) hx hb dX8_begin_16 (by decide) ?_
  refine z_put (T := TX8) (N := 18) (ci := 8) hx hb hts (zi_8 _) hown hK hP hD hS 0 rfl rfl 4 (by decide) (hts _ (zm_401 _)) rfl rfl rfl rfl dX8_begin_17 (fun H locs f_10 ek_11 ok_12 hP hD hS => ?_)
  have hP : va_P D vwCl [(h0, .inr (8, zf 18 f_10))] H := hP
  have hD : va_D A [(h0, .inr (8, zf 18 f_10))] := hD
  refine lv_aload_n hx hb dX8_begin_20 rfl (lv_at hl 0 rfl) ?_
  refine lv_iload_n hx hb dX8_begin_21 rfl (lv_at hl 1 rfl) ?_
  refine z_put (T := TX8) (N := 18) (ci := 8) hx hb hts (zi_8 _) hown hK hP hD hS 0 rfl rfl 16 (by decide) (hts _ (zm_402 _)) rfl rfl (by decide) rfl dX8_begin_22 (fun H locs f_13 ek_14 ok_15 hP hD hS => ?_)
  have hP : va_P D vwCl [(h0, .inr (8, zf 18 f_13))] H := hP
  have hD : va_D A [(h0, .inr (8, zf 18 f_13))] := hD
  have hP9 := hP.sub (ws' := [(h0, .inr (8, zf 18 f_13))]) [0] rfl
  have hD9 := hD.sub (ws' := [(h0, .inr (8, zf 18 f_13))]) [0] (by decide) rfl
  exact W.vret hx hb hr (fun t ht hW => ⟨⟨f_13, rfl, ⟨((ok_15 0 (by decide)).trans ((ok_12 0 (by decide)).trans ((ok_9 0 (by decide)).trans ((ok_6 0 (by decide)).trans ((ok_3 0 (by decide)).trans h0_0))))), ((ok_15 2 (by decide)).trans ((ok_12 2 (by decide)).trans ((ok_9 2 (by decide)).trans ((ok_6 2 (by decide)).trans ((ok_3 2 (by decide)).trans h0_2))))), ((ok_15 5 (by decide)).trans ((ok_12 5 (by decide)).trans ((ok_9 5 (by decide)).trans ((ok_6 5 (by decide)).trans ((ok_3 5 (by decide)).trans h0_5))))), ((ok_15 6 (by decide)).trans ((ok_12 6 (by decide)).trans ((ok_9 6 (by decide)).trans ((ok_6 6 (by decide)).trans ((ok_3 6 (by decide)).trans h0_6))))), ((ok_15 7 (by decide)).trans ((ok_12 7 (by decide)).trans ((ok_9 7 (by decide)).trans ((ok_6 7 (by decide)).trans ((ok_3 7 (by decide)).trans h0_7))))), ((ok_15 8 (by decide)).trans ((ok_12 8 (by decide)).trans ((ok_9 8 (by decide)).trans ((ok_6 8 (by decide)).trans ((ok_3 8 (by decide)).trans h0_8))))), ((ok_15 9 (by decide)).trans ((ok_12 9 (by decide)).trans ((ok_9 9 (by decide)).trans ((ok_6 9 (by decide)).trans ((ok_3 9 (by decide)).trans h0_9))))), ((ok_15 1 (by decide)).trans ((ok_12 1 (by decide)).trans ((ok_9 1 (by decide)).trans ((ok_6 1 (by decide)).trans ((ok_3 1 (by decide)).trans h0_1))))), ((ok_15 14 (by decide)).trans ((ok_12 14 (by decide)).trans ((ok_9 14 (by decide)).trans ((ok_6 14 (by decide)).trans ek_2)))), ((ok_15 15 (by decide)).trans ((ok_12 15 (by decide)).trans ((ok_9 15 (by decide)).trans ek_5))), ((ok_15 3 (by decide)).trans ((ok_12 3 (by decide)).trans ek_8)), ((ok_15 4 (by decide)).trans ek_11), ek_14⟩, ⟨by rw [ht]; exact hP9, hD9⟩⟩, hS.F ht⟩) hS.2.2 dX8_begin_25

set_option maxHeartbeats 8000000 in
set_option maxRecDepth 100000 in
/-- Text.beginLine(0) -/
theorem c_beginLineL (l : Launch) (D : va_G) (x : Nat → ClassId) (h0 : Nat) (f0 : Nat → Value) (s1 : Nat) (g1 : Nat → Int32) (s2 : Nat) (g2 : Nat → Int32) (s3 : Nat) (g3 : Nat → Int32) (s4 : Nat) (g4 : Nat → Int64) (s5 : Nat) (g5 : Nat → Int32) (b : Nat) (cd : Nat) (sz : Nat) (h0_0 : f0 0 = .ref b) (h0_2 : f0 2 = .ref cd) (h0_5 : f0 5 = .ref s1) (h0_6 : f0 6 = .ref s2) (h0_7 : f0 7 = .ref s3) (h0_8 : f0 8 = .ref s4) (h0_9 : f0 9 = .ref s5) (h0_1 : f0 1 = .int 0) (h0_14 : f0 14 = .int 0) (h0_15 : f0 15 = .int (-1)) (h0_3 : f0 3 = .int 0) (h0_4 : f0 4 = .int 0) (h0_16 : f0 16 = .int 1) : Met l yX8_beginLine (.code yX8_beginLine cX8_beginLine 2 none :: zW) ({ frames := 0, cells := (0), slots := (0), locals := 0 }) (va_Pc [.ref h0, .int 0] (fun U => U.heap.size = sz ∧ va_P D vwCl [(h0, .inr (8, zf 18 f0)), (s1, .inl (x 0, 1, .inl g1)), (s2, .inl (x 0, 1, .inl g2)), (s3, .inl (x 0, 1, .inl g3)), (s4, .inl (x 2, 1, .inr (.inl g4))), (s5, .inl (x 0, 1, .inl g5))] U.heap ∧ zK x D U ∧ va_D (fun _ => True) [(h0, .inr (8, zf 18 f0)), (s1, .inl (x 0, 1, .inl g1)), (s2, .inl (x 0, 1, .inl g2)), (s3, .inl (x 0, 1, .inl g3)), (s4, .inl (x 2, 1, .inr (.inl g4))), (s5, .inl (x 0, 1, .inl g5))])) (va_Qv (fun u : (Nat → Value) × (Nat → Int32) × (Nat → Int32) × (Nat → Int32) × (Nat → Int64) × (Nat → Int32) => match u with | (c0, c1, c2, c3, c4, c5) => c0 0 = .ref b ∧ c0 2 = .ref cd ∧ c0 5 = .ref s1 ∧ c0 6 = .ref s2 ∧ c0 7 = .ref s3 ∧ c0 8 = .ref s4 ∧ c0 9 = .ref s5 ∧ c0 1 = .int 0 ∧ c0 14 = .int 0 ∧ c0 15 = .int (-1) ∧ c0 3 = .int 0 ∧ c0 4 = .int 1 ∧ c0 16 = .int 1) (fun u t => match u with | (c0, c1, c2, c3, c4, c5) => zB D vwCl (va_A [(h0, .inr (8, zf 18 f0)), (s1, .inl (x 0, 1, .inl g1)), (s2, .inl (x 0, 1, .inl g2)), (s3, .inl (x 0, 1, .inl g3)), (s4, .inl (x 2, 1, .inr (.inl g4))), (s5, .inl (x 0, 1, .inl g5))] sz) [(h0, .inr (8, zf 18 c0)), (s1, .inl (x 0, 1, .inl c1)), (s2, .inl (x 0, 1, .inl c2)), (s3, .inl (x 0, 1, .inl c3)), (s4, .inl (x 2, 1, .inr (.inl c4))), (s5, .inl (x 0, 1, .inl c5))] t) (va_A [(h0, .inr (8, zf 18 f0)), (s1, .inl (x 0, 1, .inl g1)), (s2, .inl (x 0, 1, .inl g2)), (s3, .inl (x 0, 1, .inl g3)), (s4, .inl (x 2, 1, .inr (.inl g4))), (s5, .inl (x 0, 1, .inl g5))] sz)) (0) (0) (va_A [(h0, .inr (8, zf 18 f0)), (s1, .inl (x 0, 1, .inl g1)), (s2, .inl (x 0, 1, .inl g2)), (s3, .inl (x 0, 1, .inl g3)), (s4, .inl (x 2, 1, .inr (.inl g4))), (s5, .inl (x 0, 1, .inl g5))] sz) := by
  refine Met.ofW (cc := cX8_beginLine) (maxL := 2) (ret := none) (by decide) rfl ?_
  intro p e s m args below meth c s₁ B hml hv
  obtain ⟨rfl, hsz, hP, hZ, hD0⟩ := hv
  have hK := hZ.1
  have hx := B.exec
  have hb := B.bytes
  have hr := B.returns
  have hts := atoms_spec (ws := .code yX8_beginLine cX8_beginLine 2 none :: zW) B.pre
  have hown : s.vm.findClass RX8 = some m.cls := findClass_of_methodNamed B.named
  have hlocks := B.notSynchronized
  subst hsz
  have hD := hD0.self (sz := s.heap.size)
  generalize hAe : va_A [(h0, .inr (8, zf 18 f0)), (s1, .inl (x 0, 1, .inl g1)), (s2, .inl (x 0, 1, .inl g2)), (s3, .inl (x 0, 1, .inl g3)), (s4, .inl (x 2, 1, .inr (.inl g4))), (s5, .inl (x 0, 1, .inl g5))] s.heap.size = A at hD ⊢
  have hA : ∀ q : Nat, s.heap.size ≤ q → A q := fun q h => by rw [← hAe]; exact Or.inr h
  have hS : va_S A s.heap s.heap [] := va_S.rf
  have hP : va_P D vwCl [(h0, .inr (8, zf 18 f0)), (s1, .inl (x 0, 1, .inl g1)), (s2, .inl (x 0, 1, .inl g2)), (s3, .inl (x 0, 1, .inl g3)), (s4, .inl (x 2, 1, .inr (.inl g4))), (s5, .inl (x 0, 1, .inl g5))] s.heap := hP
  have hl := lv_entry ([.ref h0, .int 0]) (n := 2) (Nat.le_of_ble_eq_true rfl)
  rw [lg_entry_eq]
  generalize (lg_sl ([.ref h0, .int 0]) ++ List.replicate (2 - (lg_sl ([.ref h0, .int 0])).length) Slot.unset).toArray = ls at hl ⊢
  have hl : lv_has ls 2 [(0, .ref h0), (1, .int 0)] := hl
  refine lv_iload_n hx hb dX8_beginLine_0 rfl (lv_at hl 1 rfl) ?_
  refine lv_if_lt (tgt := 31) hx hb dX8_beginLine_1 (by decide) (fun c9 => absurd c9 (by decide)) (fun _ => ?_)
  refine lv_iload_n hx hb dX8_beginLine_4 rfl (lv_at hl 1 rfl) ?_
  refine lv_aload_n hx hb dX8_beginLine_5 rfl (lv_at hl 0 rfl) ?_
  refine z_get (T := TX8) (N := 18) (ci := 8) hx hb hts (zi_8 _) hown hK hP 0 rfl rfl 5 (by decide) (hts _ (zm_43 _)) rfl h0_5 dX8_beginLine_6 ?_
  refine va_alen (v := 1) hx hb hK hP 1 0 rfl rfl rfl dX8_beginLine_9 ?_
  refine lv_icmp_ge (tgt := 31) hx hb dX8_beginLine_10 (by decide) (fun c9 => absurd c9 (by decide)) (fun _ => ?_)
  refine lv_iload_n hx hb dX8_beginLine_13 rfl (lv_at hl 1 rfl) ?_
  refine lv_aload_n hx hb dX8_beginLine_14 rfl (lv_at hl 0 rfl) ?_
  refine z_get (T := TX8) (N := 18) (ci := 8) hx hb hts (zi_8 _) hown hK hP 0 rfl rfl 6 (by decide) (hts _ (zm_44 _)) rfl h0_6 dX8_beginLine_15 ?_
  refine va_alen (v := 1) hx hb hK hP 2 0 rfl rfl rfl dX8_beginLine_18 ?_
  refine lv_icmp_ge (tgt := 31) hx hb dX8_beginLine_19 (by decide) (fun c9 => absurd c9 (by decide)) (fun _ => ?_)
  refine lv_iload_n hx hb dX8_beginLine_22 rfl (lv_at hl 1 rfl) ?_
  refine lv_aload_n hx hb dX8_beginLine_23 rfl (lv_at hl 0 rfl) ?_
  refine z_get (T := TX8) (N := 18) (ci := 8) hx hb hts (zi_8 _) hown hK hP 0 rfl rfl 7 (by decide) (hts _ (zm_45 _)) rfl h0_7 dX8_beginLine_24 ?_
  refine va_alen (v := 1) hx hb hK hP 3 0 rfl rfl rfl dX8_beginLine_27 ?_
  refine lv_icmp_lt (tgt := 32) hx hb dX8_beginLine_28 (by decide) (fun _ => ?_) (fun c9 => absurd (by decide) c9)
  refine lv_aload_n hx hb dX8_beginLine_32 rfl (lv_at hl 0 rfl) ?_
  refine z_get (T := TX8) (N := 18) (ci := 8) hx hb hts (zi_8 _) hown hK hP 0 rfl rfl 5 (by decide) (hts _ (zm_43 _)) rfl h0_5 dX8_beginLine_33 ?_
  refine lv_iload_n hx hb dX8_beginLine_36 rfl (lv_at hl 1 rfl) ?_
  refine lv_aload_n hx hb dX8_beginLine_37 rfl (lv_at hl 0 rfl) ?_
  refine z_get (T := TX8) (N := 18) (ci := 8) hx hb hts (zi_8 _) hown hK hP 0 rfl rfl 14 (by decide) (hts _ (zm_395 _)) rfl h0_14 dX8_beginLine_38 ?_
  refine z_iast hx hb hK hP hD hS 1 0 rfl rfl (z_in (by decide)) dX8_beginLine_41 (fun H locs g_1 ek_2 ok_3 hP hD hS => ?_)
  have hP : va_P D vwCl [(h0, .inr (8, zf 18 f0)), (s1, .inl (x 0, 1, .inl g_1)), (s2, .inl (x 0, 1, .inl g2)), (s3, .inl (x 0, 1, .inl g3)), (s4, .inl (x 2, 1, .inr (.inl g4))), (s5, .inl (x 0, 1, .inl g5))] H := hP
  have hD : va_D A [(h0, .inr (8, zf 18 f0)), (s1, .inl (x 0, 1, .inl g_1)), (s2, .inl (x 0, 1, .inl g2)), (s3, .inl (x 0, 1, .inl g3)), (s4, .inl (x 2, 1, .inr (.inl g4))), (s5, .inl (x 0, 1, .inl g5))] := hD
  refine lv_aload_n hx hb dX8_beginLine_42 rfl (lv_at hl 0 rfl) ?_
  refine z_get (T := TX8) (N := 18) (ci := 8) hx hb hts (zi_8 _) hown hK hP 0 rfl rfl 6 (by decide) (hts _ (zm_44 _)) rfl h0_6 dX8_beginLine_43 ?_
  refine lv_iload_n hx hb dX8_beginLine_46 rfl (lv_at hl 1 rfl) ?_
  refine lv_aload_n hx hb dX8_beginLine_47 rfl (lv_at hl 0 rfl) ?_
  refine z_get (T := TX8) (N := 18) (ci := 8) hx hb hts (zi_8 _) hown hK hP 0 rfl rfl 3 (by decide) (hts _ (zm_400 _)) rfl h0_3 dX8_beginLine_48 ?_
  refine z_iast hx hb hK hP hD hS 2 0 rfl rfl (z_in (by decide)) dX8_beginLine_51 (fun H locs g_4 ek_5 ok_6 hP hD hS => ?_)
  have hP : va_P D vwCl [(h0, .inr (8, zf 18 f0)), (s1, .inl (x 0, 1, .inl g_1)), (s2, .inl (x 0, 1, .inl g_4)), (s3, .inl (x 0, 1, .inl g3)), (s4, .inl (x 2, 1, .inr (.inl g4))), (s5, .inl (x 0, 1, .inl g5))] H := hP
  have hD : va_D A [(h0, .inr (8, zf 18 f0)), (s1, .inl (x 0, 1, .inl g_1)), (s2, .inl (x 0, 1, .inl g_4)), (s3, .inl (x 0, 1, .inl g3)), (s4, .inl (x 2, 1, .inr (.inl g4))), (s5, .inl (x 0, 1, .inl g5))] := hD
  refine lv_aload_n hx hb dX8_beginLine_52 rfl (lv_at hl 0 rfl) ?_
  refine z_get (T := TX8) (N := 18) (ci := 8) hx hb hts (zi_8 _) hown hK hP 0 rfl rfl 7 (by decide) (hts _ (zm_45 _)) rfl h0_7 dX8_beginLine_53 ?_
  refine lv_iload_n hx hb dX8_beginLine_56 rfl (lv_at hl 1 rfl) ?_
  refine lv_iconst (v := 1) hx hb dX8_beginLine_57 (by decide) ?_
  refine z_iast hx hb hK hP hD hS 3 0 rfl rfl (z_in (by decide)) dX8_beginLine_58 (fun H locs g_7 ek_8 ok_9 hP hD hS => ?_)
  have hP : va_P D vwCl [(h0, .inr (8, zf 18 f0)), (s1, .inl (x 0, 1, .inl g_1)), (s2, .inl (x 0, 1, .inl g_4)), (s3, .inl (x 0, 1, .inl g_7)), (s4, .inl (x 2, 1, .inr (.inl g4))), (s5, .inl (x 0, 1, .inl g5))] H := hP
  have hD : va_D A [(h0, .inr (8, zf 18 f0)), (s1, .inl (x 0, 1, .inl g_1)), (s2, .inl (x 0, 1, .inl g_4)), (s3, .inl (x 0, 1, .inl g_7)), (s4, .inl (x 2, 1, .inr (.inl g4))), (s5, .inl (x 0, 1, .inl g5))] := hD
  refine lv_iload_n hx hb dX8_beginLine_59 rfl (lv_at hl 1 rfl) ?_
  refine lv_aload_n hx hb dX8_beginLine_60 rfl (lv_at hl 0 rfl) ?_
  refine z_get (T := TX8) (N := 18) (ci := 8) hx hb hts (zi_8 _) hown hK hP 0 rfl rfl 8 (by decide) (hts _ (zm_46 _)) rfl h0_8 dX8_beginLine_61 ?_
  refine va_alen (v := 1) hx hb hK hP 4 2 rfl rfl rfl dX8_beginLine_64 ?_
  refine lv_icmp_ge (tgt := 75) hx hb dX8_beginLine_65 (by decide) (fun c9 => absurd c9 (by decide)) (fun _ => ?_)
  refine lv_aload_n hx hb dX8_beginLine_68 rfl (lv_at hl 0 rfl) ?_
  refine z_get (T := TX8) (N := 18) (ci := 8) hx hb hts (zi_8 _) hown hK hP 0 rfl rfl 8 (by decide) (hts _ (zm_46 _)) rfl h0_8 dX8_beginLine_69 ?_
  refine lv_iload_n hx hb dX8_beginLine_72 rfl (lv_at hl 1 rfl) ?_
  refine lv_lconst (v := 0) hx hb dX8_beginLine_73 (by decide) ?_
  refine z_last hx hb hK hP hD hS 4 2 rfl rfl (z_in (by decide)) dX8_beginLine_74 (fun H locs g_10 hP hD hS => ?_)
  have hP : va_P D vwCl [(h0, .inr (8, zf 18 f0)), (s1, .inl (x 0, 1, .inl g_1)), (s2, .inl (x 0, 1, .inl g_4)), (s3, .inl (x 0, 1, .inl g_7)), (s4, .inl (x 2, 1, .inr (.inl g_10))), (s5, .inl (x 0, 1, .inl g5))] H := hP
  have hD : va_D A [(h0, .inr (8, zf 18 f0)), (s1, .inl (x 0, 1, .inl g_1)), (s2, .inl (x 0, 1, .inl g_4)), (s3, .inl (x 0, 1, .inl g_7)), (s4, .inl (x 2, 1, .inr (.inl g_10))), (s5, .inl (x 0, 1, .inl g5))] := hD
  refine lv_iload_n hx hb dX8_beginLine_75 rfl (lv_at hl 1 rfl) ?_
  refine lv_aload_n hx hb dX8_beginLine_76 rfl (lv_at hl 0 rfl) ?_
  refine z_get (T := TX8) (N := 18) (ci := 8) hx hb hts (zi_8 _) hown hK hP 0 rfl rfl 9 (by decide) (hts _ (zm_47 _)) rfl h0_9 dX8_beginLine_77 ?_
  refine va_alen (v := 1) hx hb hK hP 5 0 rfl rfl rfl dX8_beginLine_80 ?_
  refine lv_icmp_ge (tgt := 91) hx hb dX8_beginLine_81 (by decide) (fun c9 => absurd c9 (by decide)) (fun _ => ?_)
  refine lv_aload_n hx hb dX8_beginLine_84 rfl (lv_at hl 0 rfl) ?_
  refine z_get (T := TX8) (N := 18) (ci := 8) hx hb hts (zi_8 _) hown hK hP 0 rfl rfl 9 (by decide) (hts _ (zm_47 _)) rfl h0_9 dX8_beginLine_85 ?_
  refine lv_iload_n hx hb dX8_beginLine_88 rfl (lv_at hl 1 rfl) ?_
  refine lv_iconst (v := 0) hx hb dX8_beginLine_89 (by decide) ?_
  refine z_iast hx hb hK hP hD hS 5 0 rfl rfl (z_in (by decide)) dX8_beginLine_90 (fun H locs g_13 ek_14 ok_15 hP hD hS => ?_)
  have hP : va_P D vwCl [(h0, .inr (8, zf 18 f0)), (s1, .inl (x 0, 1, .inl g_1)), (s2, .inl (x 0, 1, .inl g_4)), (s3, .inl (x 0, 1, .inl g_7)), (s4, .inl (x 2, 1, .inr (.inl g_10))), (s5, .inl (x 0, 1, .inl g_13))] H := hP
  have hD : va_D A [(h0, .inr (8, zf 18 f0)), (s1, .inl (x 0, 1, .inl g_1)), (s2, .inl (x 0, 1, .inl g_4)), (s3, .inl (x 0, 1, .inl g_7)), (s4, .inl (x 2, 1, .inr (.inl g_10))), (s5, .inl (x 0, 1, .inl g_13))] := hD
  refine lv_aload_n hx hb dX8_beginLine_91 rfl (lv_at hl 0 rfl) ?_
  refine lv_iload_n hx hb dX8_beginLine_92 rfl (lv_at hl 1 rfl) ?_
  refine lv_iconst (v := 1) hx hb dX8_beginLine_93 (by decide) ?_
  refine lv_iadd hx hb dX8_beginLine_94 ?_
  refine lv_topi (fun y_17 ex_16 => ?_)
  obtain rfl : y_17 = 1 := ex_16.trans (by decide)
  refine z_put (T := TX8) (N := 18) (ci := 8) hx hb hts (zi_8 _) hown hK hP hD hS 0 rfl rfl 4 (by decide) (hts _ (zm_401 _)) rfl rfl rfl rfl dX8_beginLine_95 (fun H locs f_18 ek_19 ok_20 hP hD hS => ?_)
  have hP : va_P D vwCl [(h0, .inr (8, zf 18 f_18)), (s1, .inl (x 0, 1, .inl g_1)), (s2, .inl (x 0, 1, .inl g_4)), (s3, .inl (x 0, 1, .inl g_7)), (s4, .inl (x 2, 1, .inr (.inl g_10))), (s5, .inl (x 0, 1, .inl g_13))] H := hP
  have hD : va_D A [(h0, .inr (8, zf 18 f_18)), (s1, .inl (x 0, 1, .inl g_1)), (s2, .inl (x 0, 1, .inl g_4)), (s3, .inl (x 0, 1, .inl g_7)), (s4, .inl (x 2, 1, .inr (.inl g_10))), (s5, .inl (x 0, 1, .inl g_13))] := hD
  have hP9 := hP.sub (ws' := [(h0, .inr (8, zf 18 f_18)), (s1, .inl (x 0, 1, .inl g_1)), (s2, .inl (x 0, 1, .inl g_4)), (s3, .inl (x 0, 1, .inl g_7)), (s4, .inl (x 2, 1, .inr (.inl g_10))), (s5, .inl (x 0, 1, .inl g_13))]) [0, 1, 2, 3, 4, 5] rfl
  have hD9 := hD.sub (ws' := [(h0, .inr (8, zf 18 f_18)), (s1, .inl (x 0, 1, .inl g_1)), (s2, .inl (x 0, 1, .inl g_4)), (s3, .inl (x 0, 1, .inl g_7)), (s4, .inl (x 2, 1, .inr (.inl g_10))), (s5, .inl (x 0, 1, .inl g_13))]) [0, 1, 2, 3, 4, 5] (by decide) rfl
  exact W.vret hx hb hr (fun t ht hW => ⟨⟨(f_18, g_1, g_4, g_7, g_10, g_13), rfl, ⟨((ok_20 0 (by decide)).trans h0_0), ((ok_20 2 (by decide)).trans h0_2), ((ok_20 5 (by decide)).trans h0_5), ((ok_20 6 (by decide)).trans h0_6), ((ok_20 7 (by decide)).trans h0_7), ((ok_20 8 (by decide)).trans h0_8), ((ok_20 9 (by decide)).trans h0_9), ((ok_20 1 (by decide)).trans h0_1), ((ok_20 14 (by decide)).trans h0_14), ((ok_20 15 (by decide)).trans h0_15), ((ok_20 3 (by decide)).trans h0_3), ek_19, ((ok_20 16 (by decide)).trans h0_16)⟩, ⟨by rw [ht]; exact hP9, hD9⟩⟩, hS.F ht⟩) hS.2.2 dX8_beginLine_98

set_option maxHeartbeats 8000000 in
set_option maxRecDepth 100000 in
/-- Text.lineEnds of no bytes -/
theorem c_lineEndsL (l : Launch) (D : va_G) (x : Nat → ClassId) (h0 : Nat) (f0 : Nat → Value) (b : Nat) (cd : Nat) (s1 : Nat) (s2 : Nat) (s3 : Nat) (s4 : Nat) (s5 : Nat) (sz : Nat) (h0_0 : f0 0 = .ref b) (h0_2 : f0 2 = .ref cd) (h0_5 : f0 5 = .ref s1) (h0_6 : f0 6 = .ref s2) (h0_7 : f0 7 = .ref s3) (h0_8 : f0 8 = .ref s4) (h0_9 : f0 9 = .ref s5) (h0_1 : f0 1 = .int 0) (h0_14 : f0 14 = .int 0) (h0_15 : f0 15 = .int (-1)) (h0_3 : f0 3 = .int 0) (h0_4 : f0 4 = .int 1) (h0_16 : f0 16 = .int 1) : Met l yX8_lineEnds (.code yX8_lineEnds cX8_lineEnds 1 (some .boolean) :: zW) ({ frames := 0, cells := (0), slots := (0), locals := 0 }) (va_Pc [.ref h0] (fun U => U.heap.size = sz ∧ va_P D vwCl [(h0, .inr (8, zf 18 f0))] U.heap ∧ zK x D U ∧ va_D (fun _ => True) [(h0, .inr (8, zf 18 f0))])) (va_Qi (fun (r : Int32) (u : Unit) => r = 1) (fun u t => zB D vwCl (va_A [(h0, .inr (8, zf 18 f0))] sz) [(h0, .inr (8, zf 18 f0))] t) (va_A [(h0, .inr (8, zf 18 f0))] sz)) (0) (0) (va_A [(h0, .inr (8, zf 18 f0))] sz) := by
  refine Met.ofW (cc := cX8_lineEnds) (maxL := 1) (ret := (some .boolean)) (by decide) rfl ?_
  intro p e s m args below meth c s₁ B hml hv
  obtain ⟨rfl, hsz, hP, hZ, hD0⟩ := hv
  have hK := hZ.1
  have hx := B.exec
  have hb := B.bytes
  have hr := B.returns
  have hts := atoms_spec (ws := .code yX8_lineEnds cX8_lineEnds 1 (some .boolean) :: zW) B.pre
  have hown : s.vm.findClass RX8 = some m.cls := findClass_of_methodNamed B.named
  have hlocks := B.notSynchronized
  subst hsz
  have hD := hD0.self (sz := s.heap.size)
  generalize hAe : va_A [(h0, .inr (8, zf 18 f0))] s.heap.size = A at hD ⊢
  have hA : ∀ q : Nat, s.heap.size ≤ q → A q := fun q h => by rw [← hAe]; exact Or.inr h
  have hS : va_S A s.heap s.heap [] := va_S.rf
  have hP : va_P D vwCl [(h0, .inr (8, zf 18 f0))] s.heap := hP
  have hl := lv_entry ([.ref h0]) (n := 1) (Nat.le_of_ble_eq_true rfl)
  rw [lg_entry_eq]
  generalize (lg_sl ([.ref h0]) ++ List.replicate (1 - (lg_sl ([.ref h0])).length) Slot.unset).toArray = ls at hl ⊢
  have hl : lv_has ls 1 [(0, .ref h0)] := hl
  refine lv_aload_n hx hb dX8_lineEnds_0 rfl (lv_at hl 0 rfl) ?_
  refine z_get (T := TX8) (N := 18) (ci := 8) hx hb hts (zi_8 _) hown hK hP 0 rfl rfl 14 (by decide) (hts _ (zm_395 _)) rfl h0_14 dX8_lineEnds_1 ?_
  refine lv_aload_n hx hb dX8_lineEnds_4 rfl (lv_at hl 0 rfl) ?_
  refine z_get (T := TX8) (N := 18) (ci := 8) hx hb hts (zi_8 _) hown hK hP 0 rfl rfl 1 (by decide) (hts _ (zm_381 _)) rfl h0_1 dX8_lineEnds_5 ?_
  refine lv_icmp_ge (tgt := 44) hx hb dX8_lineEnds_8 (by decide) (fun _ => ?_) (fun c9 => absurd (by decide) c9)
  refine lv_iconst (v := 1) hx hb dX8_lineEnds_44 (by decide) ?_
  refine lv_goto (tgt := 49) hx hb dX8_lineEnds_45 (by decide) ?_
  have hP9 := hP.sub (ws' := [(h0, .inr (8, zf 18 f0))]) [0] rfl
  have hD9 := hD.sub (ws' := [(h0, .inr (8, zf 18 f0))]) [0] (by decide) rfl
  exact W.zret (v := 1) hx hb hr (by decide) (fun t ht hW => ⟨⟨_, (), rfl, rfl, ⟨by rw [ht]; exact hP9, hD9⟩⟩, hS.F ht⟩) hS.2.2 dX8_lineEnds_49

set_option maxHeartbeats 8000000 in
set_option maxRecDepth 100000 in
/-- Text.emit -/
theorem c_emit0L (l : Launch) (D : va_G) (x : Nat → ClassId) (h0 : Nat) (f0 : Nat → Value) (cd : Nat) (gc : Nat → Int32) (b : Nat) (s1 : Nat) (s2 : Nat) (s3 : Nat) (s4 : Nat) (s5 : Nat) (sz : Nat) (h0_0 : f0 0 = .ref b) (h0_2 : f0 2 = .ref cd) (h0_5 : f0 5 = .ref s1) (h0_6 : f0 6 = .ref s2) (h0_7 : f0 7 = .ref s3) (h0_8 : f0 8 = .ref s4) (h0_9 : f0 9 = .ref s5) (h0_1 : f0 1 = .int 0) (h0_14 : f0 14 = .int 0) (h0_15 : f0 15 = .int (-1)) (h0_3 : f0 3 = .int 0) (h0_4 : f0 4 = .int 1) (h0_16 : f0 16 = .int 1) : Met l yX8_emit (.code yX8_emit cX8_emit 3 none :: zW) ({ frames := 0, cells := (0), slots := (0), locals := 0 }) (va_Pc [.ref h0, .int 42, .int 0] (fun U => U.heap.size = sz ∧ va_P D vwCl [(h0, .inr (8, zf 18 f0)), (cd, .inl (x 0, 518, .inl gc))] U.heap ∧ zK x D U ∧ va_D (fun _ => True) [(h0, .inr (8, zf 18 f0)), (cd, .inl (x 0, 518, .inl gc))])) (va_Qv (fun u : (Nat → Value) × (Nat → Int32) => match u with | (c0, c1) => c0 0 = .ref b ∧ c0 2 = .ref cd ∧ c0 5 = .ref s1 ∧ c0 6 = .ref s2 ∧ c0 7 = .ref s3 ∧ c0 8 = .ref s4 ∧ c0 9 = .ref s5 ∧ c0 1 = .int 0 ∧ c0 14 = .int 0 ∧ c0 15 = .int (-1) ∧ c0 3 = .int 1 ∧ c0 4 = .int 1 ∧ c0 16 = .int 1) (fun u t => match u with | (c0, c1) => zB D vwCl (va_A [(h0, .inr (8, zf 18 f0)), (cd, .inl (x 0, 518, .inl gc))] sz) [(h0, .inr (8, zf 18 c0)), (cd, .inl (x 0, 518, .inl c1))] t) (va_A [(h0, .inr (8, zf 18 f0)), (cd, .inl (x 0, 518, .inl gc))] sz)) (0) (0) (va_A [(h0, .inr (8, zf 18 f0)), (cd, .inl (x 0, 518, .inl gc))] sz) := by
  refine Met.ofW (cc := cX8_emit) (maxL := 3) (ret := none) (by decide) rfl ?_
  intro p e s m args below meth c s₁ B hml hv
  obtain ⟨rfl, hsz, hP, hZ, hD0⟩ := hv
  have hK := hZ.1
  have hx := B.exec
  have hb := B.bytes
  have hr := B.returns
  have hts := atoms_spec (ws := .code yX8_emit cX8_emit 3 none :: zW) B.pre
  have hown : s.vm.findClass RX8 = some m.cls := findClass_of_methodNamed B.named
  have hlocks := B.notSynchronized
  subst hsz
  have hD := hD0.self (sz := s.heap.size)
  generalize hAe : va_A [(h0, .inr (8, zf 18 f0)), (cd, .inl (x 0, 518, .inl gc))] s.heap.size = A at hD ⊢
  have hA : ∀ q : Nat, s.heap.size ≤ q → A q := fun q h => by rw [← hAe]; exact Or.inr h
  have hS : va_S A s.heap s.heap [] := va_S.rf
  have hP : va_P D vwCl [(h0, .inr (8, zf 18 f0)), (cd, .inl (x 0, 518, .inl gc))] s.heap := hP
  have hl := lv_entry ([.ref h0, .int 42, .int 0]) (n := 3) (Nat.le_of_ble_eq_true rfl)
  rw [lg_entry_eq]
  generalize (lg_sl ([.ref h0, .int 42, .int 0]) ++ List.replicate (3 - (lg_sl ([.ref h0, .int 42, .int 0])).length) Slot.unset).toArray = ls at hl ⊢
  have hl : lv_has ls 3 [(0, .ref h0), (1, .int 42), (2, .int 0)] := hl
  refine lv_aload_n hx hb dX8_emit_0 rfl (lv_at hl 0 rfl) ?_
  refine z_get (T := TX8) (N := 18) (ci := 8) hx hb hts (zi_8 _) hown hK hP 0 rfl rfl 3 (by decide) (hts _ (zm_400 _)) rfl h0_3 dX8_emit_1 ?_
  refine lv_aload_n hx hb dX8_emit_4 rfl (lv_at hl 0 rfl) ?_
  refine z_get (T := TX8) (N := 18) (ci := 8) hx hb hts (zi_8 _) hown hK hP 0 rfl rfl 2 (by decide) (hts _ (zm_42 _)) rfl h0_2 dX8_emit_5 ?_
  refine va_alen (v := 518) hx hb hK hP 1 0 rfl rfl rfl dX8_emit_8 ?_
  refine lv_icmp_ge (tgt := 37) hx hb dX8_emit_9 (by decide) (fun c9 => absurd c9 (by decide)) (fun _ => ?_)
  refine lv_aload_n hx hb dX8_emit_12 rfl (lv_at hl 0 rfl) ?_
  refine z_get (T := TX8) (N := 18) (ci := 8) hx hb hts (zi_8 _) hown hK hP 0 rfl rfl 2 (by decide) (hts _ (zm_42 _)) rfl h0_2 dX8_emit_13 ?_
  refine lv_aload_n hx hb dX8_emit_16 rfl (lv_at hl 0 rfl) ?_
  refine z_get (T := TX8) (N := 18) (ci := 8) hx hb hts (zi_8 _) hown hK hP 0 rfl rfl 3 (by decide) (hts _ (zm_400 _)) rfl h0_3 dX8_emit_17 ?_
  refine lv_iload_n hx hb dX8_emit_20 rfl (lv_at hl 1 rfl) ?_
  refine lv_iload_n hx hb dX8_emit_21 rfl (lv_at hl 2 rfl) ?_
  refine lv_bipush (v := 8) hx hb dX8_emit_22 (by decide) ?_
  refine lv_ishl hx hb dX8_emit_24 ?_
  refine lv_topi (fun y_2 ex_1 => ?_)
  obtain rfl : y_2 = 0 := ex_1.trans (by decide)
  refine lv_ior hx hb dX8_emit_25 ?_
  refine lv_topi (fun y_4 ex_3 => ?_)
  obtain rfl : y_4 = 42 := ex_3.trans (by decide)
  refine z_iast hx hb hK hP hD hS 1 0 rfl rfl (z_in (by decide)) dX8_emit_26 (fun H locs g_5 ek_6 ok_7 hP hD hS => ?_)
  have hP : va_P D vwCl [(h0, .inr (8, zf 18 f0)), (cd, .inl (x 0, 518, .inl g_5))] H := hP
  have hD : va_D A [(h0, .inr (8, zf 18 f0)), (cd, .inl (x 0, 518, .inl g_5))] := hD
  refine lv_aload_n hx hb dX8_emit_27 rfl (lv_at hl 0 rfl) ?_
  refine lv_dup hx hb dX8_emit_28 rfl ?_
  refine z_get (T := TX8) (N := 18) (ci := 8) hx hb hts (zi_8 _) hown hK hP 0 rfl rfl 3 (by decide) (hts _ (zm_400 _)) rfl h0_3 dX8_emit_29 ?_
  refine lv_iconst (v := 1) hx hb dX8_emit_32 (by decide) ?_
  refine lv_iadd hx hb dX8_emit_33 ?_
  refine lv_topi (fun y_9 ex_8 => ?_)
  obtain rfl : y_9 = 1 := ex_8.trans (by decide)
  refine z_put (T := TX8) (N := 18) (ci := 8) hx hb hts (zi_8 _) hown hK hP hD hS 0 rfl rfl 3 (by decide) (hts _ (zm_400 _)) rfl rfl rfl rfl dX8_emit_34 (fun H locs f_10 ek_11 ok_12 hP hD hS => ?_)
  have hP : va_P D vwCl [(h0, .inr (8, zf 18 f_10)), (cd, .inl (x 0, 518, .inl g_5))] H := hP
  have hD : va_D A [(h0, .inr (8, zf 18 f_10)), (cd, .inl (x 0, 518, .inl g_5))] := hD
  have hP9 := hP.sub (ws' := [(h0, .inr (8, zf 18 f_10)), (cd, .inl (x 0, 518, .inl g_5))]) [0, 1] rfl
  have hD9 := hD.sub (ws' := [(h0, .inr (8, zf 18 f_10)), (cd, .inl (x 0, 518, .inl g_5))]) [0, 1] (by decide) rfl
  exact W.vret hx hb hr (fun t ht hW => ⟨⟨(f_10, g_5), rfl, ⟨((ok_12 0 (by decide)).trans h0_0), ((ok_12 2 (by decide)).trans h0_2), ((ok_12 5 (by decide)).trans h0_5), ((ok_12 6 (by decide)).trans h0_6), ((ok_12 7 (by decide)).trans h0_7), ((ok_12 8 (by decide)).trans h0_8), ((ok_12 9 (by decide)).trans h0_9), ((ok_12 1 (by decide)).trans h0_1), ((ok_12 14 (by decide)).trans h0_14), ((ok_12 15 (by decide)).trans h0_15), ek_11, ((ok_12 4 (by decide)).trans h0_4), ((ok_12 16 (by decide)).trans h0_16)⟩, ⟨by rw [ht]; exact hP9, hD9⟩⟩, hS.F ht⟩) hS.2.2 dX8_emit_37

set_option maxHeartbeats 8000000 in
set_option maxRecDepth 100000 in
/-- Text.emit -/
theorem c_emit1L (l : Launch) (D : va_G) (x : Nat → ClassId) (h0 : Nat) (f0 : Nat → Value) (cd : Nat) (gc : Nat → Int32) (b : Nat) (s1 : Nat) (s2 : Nat) (s3 : Nat) (s4 : Nat) (s5 : Nat) (sz : Nat) (h0_0 : f0 0 = .ref b) (h0_2 : f0 2 = .ref cd) (h0_5 : f0 5 = .ref s1) (h0_6 : f0 6 = .ref s2) (h0_7 : f0 7 = .ref s3) (h0_8 : f0 8 = .ref s4) (h0_9 : f0 9 = .ref s5) (h0_1 : f0 1 = .int 0) (h0_14 : f0 14 = .int 0) (h0_15 : f0 15 = .int (-1)) (h0_3 : f0 3 = .int 1) (h0_4 : f0 4 = .int 1) (h0_16 : f0 16 = .int 1) : Met l yX8_emit (.code yX8_emit cX8_emit 3 none :: zW) ({ frames := 0, cells := (0), slots := (0), locals := 0 }) (va_Pc [.ref h0, .int 43, .int 0] (fun U => U.heap.size = sz ∧ va_P D vwCl [(h0, .inr (8, zf 18 f0)), (cd, .inl (x 0, 518, .inl gc))] U.heap ∧ zK x D U ∧ va_D (fun _ => True) [(h0, .inr (8, zf 18 f0)), (cd, .inl (x 0, 518, .inl gc))])) (va_Qv (fun u : (Nat → Value) × (Nat → Int32) => match u with | (c0, c1) => c0 0 = .ref b ∧ c0 2 = .ref cd ∧ c0 5 = .ref s1 ∧ c0 6 = .ref s2 ∧ c0 7 = .ref s3 ∧ c0 8 = .ref s4 ∧ c0 9 = .ref s5 ∧ c0 1 = .int 0 ∧ c0 14 = .int 0 ∧ c0 15 = .int (-1) ∧ c0 3 = .int 2 ∧ c0 4 = .int 1 ∧ c0 16 = .int 1) (fun u t => match u with | (c0, c1) => zB D vwCl (va_A [(h0, .inr (8, zf 18 f0)), (cd, .inl (x 0, 518, .inl gc))] sz) [(h0, .inr (8, zf 18 c0)), (cd, .inl (x 0, 518, .inl c1))] t) (va_A [(h0, .inr (8, zf 18 f0)), (cd, .inl (x 0, 518, .inl gc))] sz)) (0) (0) (va_A [(h0, .inr (8, zf 18 f0)), (cd, .inl (x 0, 518, .inl gc))] sz) := by
  refine Met.ofW (cc := cX8_emit) (maxL := 3) (ret := none) (by decide) rfl ?_
  intro p e s m args below meth c s₁ B hml hv
  obtain ⟨rfl, hsz, hP, hZ, hD0⟩ := hv
  have hK := hZ.1
  have hx := B.exec
  have hb := B.bytes
  have hr := B.returns
  have hts := atoms_spec (ws := .code yX8_emit cX8_emit 3 none :: zW) B.pre
  have hown : s.vm.findClass RX8 = some m.cls := findClass_of_methodNamed B.named
  have hlocks := B.notSynchronized
  subst hsz
  have hD := hD0.self (sz := s.heap.size)
  generalize hAe : va_A [(h0, .inr (8, zf 18 f0)), (cd, .inl (x 0, 518, .inl gc))] s.heap.size = A at hD ⊢
  have hA : ∀ q : Nat, s.heap.size ≤ q → A q := fun q h => by rw [← hAe]; exact Or.inr h
  have hS : va_S A s.heap s.heap [] := va_S.rf
  have hP : va_P D vwCl [(h0, .inr (8, zf 18 f0)), (cd, .inl (x 0, 518, .inl gc))] s.heap := hP
  have hl := lv_entry ([.ref h0, .int 43, .int 0]) (n := 3) (Nat.le_of_ble_eq_true rfl)
  rw [lg_entry_eq]
  generalize (lg_sl ([.ref h0, .int 43, .int 0]) ++ List.replicate (3 - (lg_sl ([.ref h0, .int 43, .int 0])).length) Slot.unset).toArray = ls at hl ⊢
  have hl : lv_has ls 3 [(0, .ref h0), (1, .int 43), (2, .int 0)] := hl
  refine lv_aload_n hx hb dX8_emit_0 rfl (lv_at hl 0 rfl) ?_
  refine z_get (T := TX8) (N := 18) (ci := 8) hx hb hts (zi_8 _) hown hK hP 0 rfl rfl 3 (by decide) (hts _ (zm_400 _)) rfl h0_3 dX8_emit_1 ?_
  refine lv_aload_n hx hb dX8_emit_4 rfl (lv_at hl 0 rfl) ?_
  refine z_get (T := TX8) (N := 18) (ci := 8) hx hb hts (zi_8 _) hown hK hP 0 rfl rfl 2 (by decide) (hts _ (zm_42 _)) rfl h0_2 dX8_emit_5 ?_
  refine va_alen (v := 518) hx hb hK hP 1 0 rfl rfl rfl dX8_emit_8 ?_
  refine lv_icmp_ge (tgt := 37) hx hb dX8_emit_9 (by decide) (fun c9 => absurd c9 (by decide)) (fun _ => ?_)
  refine lv_aload_n hx hb dX8_emit_12 rfl (lv_at hl 0 rfl) ?_
  refine z_get (T := TX8) (N := 18) (ci := 8) hx hb hts (zi_8 _) hown hK hP 0 rfl rfl 2 (by decide) (hts _ (zm_42 _)) rfl h0_2 dX8_emit_13 ?_
  refine lv_aload_n hx hb dX8_emit_16 rfl (lv_at hl 0 rfl) ?_
  refine z_get (T := TX8) (N := 18) (ci := 8) hx hb hts (zi_8 _) hown hK hP 0 rfl rfl 3 (by decide) (hts _ (zm_400 _)) rfl h0_3 dX8_emit_17 ?_
  refine lv_iload_n hx hb dX8_emit_20 rfl (lv_at hl 1 rfl) ?_
  refine lv_iload_n hx hb dX8_emit_21 rfl (lv_at hl 2 rfl) ?_
  refine lv_bipush (v := 8) hx hb dX8_emit_22 (by decide) ?_
  refine lv_ishl hx hb dX8_emit_24 ?_
  refine lv_topi (fun y_2 ex_1 => ?_)
  obtain rfl : y_2 = 0 := ex_1.trans (by decide)
  refine lv_ior hx hb dX8_emit_25 ?_
  refine lv_topi (fun y_4 ex_3 => ?_)
  obtain rfl : y_4 = 43 := ex_3.trans (by decide)
  refine z_iast hx hb hK hP hD hS 1 0 rfl rfl (z_in (by decide)) dX8_emit_26 (fun H locs g_5 ek_6 ok_7 hP hD hS => ?_)
  have hP : va_P D vwCl [(h0, .inr (8, zf 18 f0)), (cd, .inl (x 0, 518, .inl g_5))] H := hP
  have hD : va_D A [(h0, .inr (8, zf 18 f0)), (cd, .inl (x 0, 518, .inl g_5))] := hD
  refine lv_aload_n hx hb dX8_emit_27 rfl (lv_at hl 0 rfl) ?_
  refine lv_dup hx hb dX8_emit_28 rfl ?_
  refine z_get (T := TX8) (N := 18) (ci := 8) hx hb hts (zi_8 _) hown hK hP 0 rfl rfl 3 (by decide) (hts _ (zm_400 _)) rfl h0_3 dX8_emit_29 ?_
  refine lv_iconst (v := 1) hx hb dX8_emit_32 (by decide) ?_
  refine lv_iadd hx hb dX8_emit_33 ?_
  refine lv_topi (fun y_9 ex_8 => ?_)
  obtain rfl : y_9 = 2 := ex_8.trans (by decide)
  refine z_put (T := TX8) (N := 18) (ci := 8) hx hb hts (zi_8 _) hown hK hP hD hS 0 rfl rfl 3 (by decide) (hts _ (zm_400 _)) rfl rfl rfl rfl dX8_emit_34 (fun H locs f_10 ek_11 ok_12 hP hD hS => ?_)
  have hP : va_P D vwCl [(h0, .inr (8, zf 18 f_10)), (cd, .inl (x 0, 518, .inl g_5))] H := hP
  have hD : va_D A [(h0, .inr (8, zf 18 f_10)), (cd, .inl (x 0, 518, .inl g_5))] := hD
  have hP9 := hP.sub (ws' := [(h0, .inr (8, zf 18 f_10)), (cd, .inl (x 0, 518, .inl g_5))]) [0, 1] rfl
  have hD9 := hD.sub (ws' := [(h0, .inr (8, zf 18 f_10)), (cd, .inl (x 0, 518, .inl g_5))]) [0, 1] (by decide) rfl
  exact W.vret hx hb hr (fun t ht hW => ⟨⟨(f_10, g_5), rfl, ⟨((ok_12 0 (by decide)).trans h0_0), ((ok_12 2 (by decide)).trans h0_2), ((ok_12 5 (by decide)).trans h0_5), ((ok_12 6 (by decide)).trans h0_6), ((ok_12 7 (by decide)).trans h0_7), ((ok_12 8 (by decide)).trans h0_8), ((ok_12 9 (by decide)).trans h0_9), ((ok_12 1 (by decide)).trans h0_1), ((ok_12 14 (by decide)).trans h0_14), ((ok_12 15 (by decide)).trans h0_15), ek_11, ((ok_12 4 (by decide)).trans h0_4), ((ok_12 16 (by decide)).trans h0_16)⟩, ⟨by rw [ht]; exact hP9, hD9⟩⟩, hS.F ht⟩) hS.2.2 dX8_emit_37

set_option maxHeartbeats 8000000 in
set_option maxRecDepth 100000 in
/-- Text.commands of no bytes -/
theorem c_commandsL (l : Launch) (D : va_G) (x : Nat → ClassId) (h0 : Nat) (f0 : Nat → Value) (cd : Nat) (gc : Nat → Int32) (b : Nat) (s1 : Nat) (s2 : Nat) (s3 : Nat) (s4 : Nat) (s5 : Nat) (sz : Nat) (h0_0 : f0 0 = .ref b) (h0_2 : f0 2 = .ref cd) (h0_5 : f0 5 = .ref s1) (h0_6 : f0 6 = .ref s2) (h0_7 : f0 7 = .ref s3) (h0_8 : f0 8 = .ref s4) (h0_9 : f0 9 = .ref s5) (h0_1 : f0 1 = .int 0) (h0_14 : f0 14 = .int 0) (h0_15 : f0 15 = .int (-1)) (h0_3 : f0 3 = .int 0) (h0_4 : f0 4 = .int 1) (h0_16 : f0 16 = .int 1) : Met l yX8_commands (.code yX8_commands cX8_commands 7 none :: zW) ({ frames := 1, cells := (0), slots := (0), locals := 22 }) (va_Pc [.ref h0] (fun U => U.heap.size = sz ∧ va_P D vwCl [(h0, .inr (8, zf 18 f0)), (cd, .inl (x 0, 518, .inl gc))] U.heap ∧ zK x D U ∧ va_D (fun _ => True) [(h0, .inr (8, zf 18 f0)), (cd, .inl (x 0, 518, .inl gc))])) (va_Qv (fun u : (Nat → Value) × (Nat → Int32) => match u with | (c0, c1) => c0 0 = .ref b ∧ c0 2 = .ref cd ∧ c0 5 = .ref s1 ∧ c0 6 = .ref s2 ∧ c0 7 = .ref s3 ∧ c0 8 = .ref s4 ∧ c0 9 = .ref s5 ∧ c0 1 = .int 0 ∧ c0 14 = .int 0 ∧ c0 15 = .int (-1) ∧ c0 3 = .int 1 ∧ c0 4 = .int 1 ∧ c0 16 = .int 1) (fun u t => match u with | (c0, c1) => zB D vwCl (va_A [(h0, .inr (8, zf 18 f0)), (cd, .inl (x 0, 518, .inl gc))] sz) [(h0, .inr (8, zf 18 c0)), (cd, .inl (x 0, 518, .inl c1))] t) (va_A [(h0, .inr (8, zf 18 f0)), (cd, .inl (x 0, 518, .inl gc))] sz)) (0) (0) (va_A [(h0, .inr (8, zf 18 f0)), (cd, .inl (x 0, 518, .inl gc))] sz) := by
  refine Met.ofW (cc := cX8_commands) (maxL := 7) (ret := none) (by decide) rfl ?_
  intro p e s m args below meth c s₁ B hml hv
  obtain ⟨rfl, hsz, hP, hZ, hD0⟩ := hv
  have hK := hZ.1
  have hx := B.exec
  have hb := B.bytes
  have hr := B.returns
  have hts := atoms_spec (ws := .code yX8_commands cX8_commands 7 none :: zW) B.pre
  have hown : s.vm.findClass RX8 = some m.cls := findClass_of_methodNamed B.named
  have hlocks := B.notSynchronized
  subst hsz
  have hD := hD0.self (sz := s.heap.size)
  generalize hAe : va_A [(h0, .inr (8, zf 18 f0)), (cd, .inl (x 0, 518, .inl gc))] s.heap.size = A at hD ⊢
  have hA : ∀ q : Nat, s.heap.size ≤ q → A q := fun q h => by rw [← hAe]; exact Or.inr h
  have hS : va_S A s.heap s.heap [] := va_S.rf
  have hP : va_P D vwCl [(h0, .inr (8, zf 18 f0)), (cd, .inl (x 0, 518, .inl gc))] s.heap := hP
  have hl := lv_entry ([.ref h0]) (n := 7) (Nat.le_of_ble_eq_true rfl)
  rw [lg_entry_eq]
  generalize (lg_sl ([.ref h0]) ++ List.replicate (7 - (lg_sl ([.ref h0])).length) Slot.unset).toArray = ls at hl ⊢
  have hl : lv_has ls 7 [(0, .ref h0)] := hl
  refine lv_iconst (v := 0) hx hb dX8_commands_0 (by decide) ?_
  refine lv_istore_n (lv' := [(1, .int 0), (0, .ref h0)]) hx hb dX8_commands_1 rfl hl (by decide) rfl (fun ls hl => ?_)
  refine lv_iload_n hx hb dX8_commands_2 rfl (lv_at hl 0 rfl) ?_
  refine lv_aload_n hx hb dX8_commands_3 rfl (lv_at hl 1 rfl) ?_
  refine z_get (T := TX8) (N := 18) (ci := 8) hx hb hts (zi_8 _) hown hK hP 0 rfl rfl 1 (by decide) (hts _ (zm_381 _)) rfl h0_1 dX8_commands_4 ?_
  refine lv_icmp_gt (tgt := 333) hx hb dX8_commands_7 (by decide) (fun c9 => absurd c9 (by decide)) (fun _ => ?_)
  refine lv_aload_n hx hb dX8_commands_10 rfl (lv_at hl 1 rfl) ?_
  refine z_get (T := TX8) (N := 18) (ci := 8) hx hb hts (zi_8 _) hown hK hP 0 rfl rfl 15 (by decide) (hts _ (zm_396 _)) rfl h0_15 dX8_commands_11 ?_
  refine lv_if_ge (tgt := 333) hx hb dX8_commands_14 (by decide) (fun c9 => absurd c9 (by decide)) (fun _ => ?_)
  refine lv_aload_n hx hb dX8_commands_17 rfl (lv_at hl 1 rfl) ?_
  have hPc := hP.sub (ws' := [(h0, .inr (8, zf 18 f0))]) [0] rfl
  have hDc := hD.sub (ws' := [(h0, .inr (8, zf 18 f0))]) [0] (by decide) rfl
  have hFc := va_free (wc := [(h0, .inr (8, zf 18 f0))]) hD hS hA [0] rfl
  have h_2 : 0 + 0 ≤ 0 ∧ 0 + 0 ≤ 0 := by omega
  refine va_calli (va_runV (As := []) (rest := []) ⟨hx, hb, hml, hown, hts⟩ (c_lineEndsL l D x h0 f0 b cd s1 s2 s3 s4 s5 s.heap.size h0_0 h0_2 h0_5 h0_6 h0_7 h0_8 h0_9 h0_1 h0_14 h0_15 h0_3 h0_4 h0_16) ⟨callB_of 0 hts (zgood (zm_420 _) rfl) rfl rfl rfl (hts _ (zm_37 _)) (hts _ (zm_409 _)) ⟨by decide, by decide, by decide +kernel⟩ ⟨Nat.le_of_ble_eq_true rfl, Nat.le_of_ble_eq_true rfl⟩, hts _ (zm_421 _), hts _ (zm_422 _)⟩ ⟨fun a U g mk q => by obtain ⟨q0, q1, qP, qK, qD⟩ := q; exact ⟨q0, q1, qP, ZK.calling (u := U) zN_ok rfl qK, qD⟩, va_recv hK hPc (ci := 8) (q0 := 0) rfl rfl, fun U hU hW => ⟨rfl, by rw [hU], by rw [hU]; exact hPc, ZK.warm zN_ok hW hZ, hDc.weaken (fun _ _ _ _ => trivial)⟩⟩ rfl rfl hl.1 rfl (lv_room (Nat.le_of_ble_eq_true rfl)) dX8_commands_18 h_2) hS (fun q _ h => hFc q h) hFc (fun r_1 u t H1 locs ht hvm hw_1 hB hz1 hk1 hS => ?_)
  obtain ⟨hP1, hD1⟩ := hB
  rw [ht] at hP1
  try dsimp only at hw_1
  obtain ⟨hP, hD⟩ := va_join (wr := [(cd, .inl (x 0, 518, .inl gc))]) (w1 := [(h0, .inr (8, zf 18 f0))]) hP hD [0] [1] rfl rfl (by decide) (by decide) hk1 hFc hP1 hD1
  generalize H1 = H at hP hS ⊢
  have hP : va_P D vwCl [(cd, .inl (x 0, 518, .inl gc)), (h0, .inr (8, zf 18 f0))] H := hP
  have hD : va_D A [(cd, .inl (x 0, 518, .inl gc)), (h0, .inr (8, zf 18 f0))] := hD
  refine W.widen (k := 0) (n := 0) (by omega) (by omega) ?_
  obtain rfl : r_1 = 1 := hw_1
  refine lv_if_ne (tgt := 333) hx hb dX8_commands_21 (by decide) (fun _ => ?_) (fun c9 => absurd c9 (by decide))
  refine lv_aload_n hx hb dX8_commands_333 rfl (lv_at hl 1 rfl) ?_
  refine lv_bipush (v := 42) hx hb dX8_commands_334 (by decide) ?_
  refine lv_iconst (v := 0) hx hb dX8_commands_336 (by decide) ?_
  have hPc := hP.sub (ws' := [(h0, .inr (8, zf 18 f0)), (cd, .inl (x 0, 518, .inl gc))]) [1, 0] rfl
  have hDc := hD.sub (ws' := [(h0, .inr (8, zf 18 f0)), (cd, .inl (x 0, 518, .inl gc))]) [1, 0] (by decide) rfl
  have hFc := va_free (wc := [(h0, .inr (8, zf 18 f0)), (cd, .inl (x 0, 518, .inl gc))]) hD hS hA [1, 0] rfl
  have h_5 : 0 + 0 ≤ 0 ∧ 0 + 0 ≤ 0 := by omega
  refine va_callv (va_runV (As := [.int 42, .int 0]) (rest := []) ⟨hx, hb, hml, hown, hts⟩ (c_emit0L l D x h0 f0 cd gc b s1 s2 s3 s4 s5 H.size h0_0 h0_2 h0_5 h0_6 h0_7 h0_8 h0_9 h0_1 h0_14 h0_15 h0_3 h0_4 h0_16) ⟨callB_of 2 hts (zgood (zm_423 _) rfl) rfl rfl rfl (hts _ (zm_37 _)) (hts _ (zm_393 _)) ⟨by decide, by decide, by decide +kernel⟩ ⟨Nat.le_of_ble_eq_true rfl, Nat.le_of_ble_eq_true rfl⟩, hts _ (zm_424 _), hts _ (zm_425 _)⟩ ⟨fun a U g mk q => by obtain ⟨q0, q1, qP, qK, qD⟩ := q; exact ⟨q0, q1, qP, ZK.calling (u := U) zN_ok rfl qK, qD⟩, va_recv hK hPc (ci := 8) (q0 := 0) rfl rfl, fun U hU hW => ⟨rfl, by rw [hU], by rw [hU]; exact hPc, ZK.warm zN_ok hW hZ, hDc.weaken (fun _ _ _ _ => trivial)⟩⟩ rfl rfl hl.1 rfl (lv_room (Nat.le_of_ble_eq_true rfl)) dX8_commands_337 h_5) hS (fun q _ h => hFc q h) hFc (fun u t H1 locs ht hvm hw_4 hB hz1 hk1 hS => ?_)
  obtain ⟨c0_3, c1_4⟩ := u
  obtain ⟨hP1, hD1⟩ := hB
  rw [ht] at hP1
  try dsimp only at hw_4
  obtain ⟨hP, hD⟩ := va_join (wr := []) (w1 := [(h0, .inr (8, zf 18 c0_3)), (cd, .inl (x 0, 518, .inl c1_4))]) hP hD [1, 0] [] rfl rfl (by decide) (by decide) hk1 hFc hP1 hD1
  generalize H1 = H at hP hS ⊢
  have hP : va_P D vwCl [(h0, .inr (8, zf 18 c0_3)), (cd, .inl (x 0, 518, .inl c1_4))] H := hP
  have hD : va_D A [(h0, .inr (8, zf 18 c0_3)), (cd, .inl (x 0, 518, .inl c1_4))] := hD
  refine W.widen (k := 0) (n := 0) (by omega) (by omega) ?_
  have hP9 := hP.sub (ws' := [(h0, .inr (8, zf 18 c0_3)), (cd, .inl (x 0, 518, .inl c1_4))]) [0, 1] rfl
  have hD9 := hD.sub (ws' := [(h0, .inr (8, zf 18 c0_3)), (cd, .inl (x 0, 518, .inl c1_4))]) [0, 1] (by decide) rfl
  exact W.vret hx hb hr (fun t ht hW => ⟨⟨(c0_3, c1_4), rfl, ⟨hw_4.1, hw_4.2.1, hw_4.2.2.1, hw_4.2.2.2.1, hw_4.2.2.2.2.1, hw_4.2.2.2.2.2.1, hw_4.2.2.2.2.2.2.1, hw_4.2.2.2.2.2.2.2.1, hw_4.2.2.2.2.2.2.2.2.1, hw_4.2.2.2.2.2.2.2.2.2.1, hw_4.2.2.2.2.2.2.2.2.2.2.1, hw_4.2.2.2.2.2.2.2.2.2.2.2.1, hw_4.2.2.2.2.2.2.2.2.2.2.2.2⟩, ⟨by rw [ht]; exact hP9, hD9⟩⟩, hS.F ht⟩) hS.2.2 dX8_commands_340

set_option maxHeartbeats 8000000 in
set_option maxRecDepth 100000 in
/-- Text.readPiece(A_LINE) of no bytes -/
theorem c_readPieceL (l : Launch) (D : va_G) (x : Nat → ClassId) (h0 : Nat) (f0 : Nat → Value) (cd : Nat) (gc : Nat → Int32) (s1 : Nat) (g1 : Nat → Int32) (s2 : Nat) (g2 : Nat → Int32) (s3 : Nat) (g3 : Nat → Int32) (s4 : Nat) (g4 : Nat → Int64) (s5 : Nat) (g5 : Nat → Int32) (b : Nat) (sz : Nat) (h0_0 : f0 0 = .ref b) (h0_2 : f0 2 = .ref cd) (h0_5 : f0 5 = .ref s1) (h0_6 : f0 6 = .ref s2) (h0_7 : f0 7 = .ref s3) (h0_8 : f0 8 = .ref s4) (h0_9 : f0 9 = .ref s5) (h0_1 : f0 1 = .int 0) : Met l yX8_readPiece (.code yX8_readPiece cX8_readPiece 2 (some .boolean) :: zW) ({ frames := 2, cells := (0), slots := (0), locals := 48 }) (va_Pc [.ref h0, .int 1] (fun U => U.heap.size = sz ∧ va_P D vwCl [(h0, .inr (8, zf 18 f0)), (cd, .inl (x 0, 518, .inl gc)), (s1, .inl (x 0, 1, .inl g1)), (s2, .inl (x 0, 1, .inl g2)), (s3, .inl (x 0, 1, .inl g3)), (s4, .inl (x 2, 1, .inr (.inl g4))), (s5, .inl (x 0, 1, .inl g5))] U.heap ∧ zK x D U ∧ va_D (fun _ => True) [(h0, .inr (8, zf 18 f0)), (cd, .inl (x 0, 518, .inl gc)), (s1, .inl (x 0, 1, .inl g1)), (s2, .inl (x 0, 1, .inl g2)), (s3, .inl (x 0, 1, .inl g3)), (s4, .inl (x 2, 1, .inr (.inl g4))), (s5, .inl (x 0, 1, .inl g5))])) (va_Qi (fun (r : Int32) (u : (Nat → Value) × (Nat → Int32) × (Nat → Int32) × (Nat → Int32) × (Nat → Int32) × (Nat → Int64) × (Nat → Int32)) => match u with | (c0, c1, c2, c3, c4, c5, c6) => r = 1 ∧ c0 0 = .ref b ∧ c0 2 = .ref cd ∧ c0 5 = .ref s1 ∧ c0 6 = .ref s2 ∧ c0 7 = .ref s3 ∧ c0 8 = .ref s4 ∧ c0 9 = .ref s5 ∧ c0 1 = .int 0 ∧ c0 14 = .int 0 ∧ c0 15 = .int (-1) ∧ c0 3 = .int 2 ∧ c0 4 = .int 1 ∧ c0 16 = .int 1) (fun u t => match u with | (c0, c1, c2, c3, c4, c5, c6) => zB D vwCl (va_A [(h0, .inr (8, zf 18 f0)), (cd, .inl (x 0, 518, .inl gc)), (s1, .inl (x 0, 1, .inl g1)), (s2, .inl (x 0, 1, .inl g2)), (s3, .inl (x 0, 1, .inl g3)), (s4, .inl (x 2, 1, .inr (.inl g4))), (s5, .inl (x 0, 1, .inl g5))] sz) [(h0, .inr (8, zf 18 c0)), (cd, .inl (x 0, 518, .inl c1)), (s1, .inl (x 0, 1, .inl c2)), (s2, .inl (x 0, 1, .inl c3)), (s3, .inl (x 0, 1, .inl c4)), (s4, .inl (x 2, 1, .inr (.inl c5))), (s5, .inl (x 0, 1, .inl c6))] t) (va_A [(h0, .inr (8, zf 18 f0)), (cd, .inl (x 0, 518, .inl gc)), (s1, .inl (x 0, 1, .inl g1)), (s2, .inl (x 0, 1, .inl g2)), (s3, .inl (x 0, 1, .inl g3)), (s4, .inl (x 2, 1, .inr (.inl g4))), (s5, .inl (x 0, 1, .inl g5))] sz)) (0) (0) (va_A [(h0, .inr (8, zf 18 f0)), (cd, .inl (x 0, 518, .inl gc)), (s1, .inl (x 0, 1, .inl g1)), (s2, .inl (x 0, 1, .inl g2)), (s3, .inl (x 0, 1, .inl g3)), (s4, .inl (x 2, 1, .inr (.inl g4))), (s5, .inl (x 0, 1, .inl g5))] sz) := by
  refine Met.ofW (cc := cX8_readPiece) (maxL := 2) (ret := (some .boolean)) (by decide) rfl ?_
  intro p e s m args below meth c s₁ B hml hv
  obtain ⟨rfl, hsz, hP, hZ, hD0⟩ := hv
  have hK := hZ.1
  have hx := B.exec
  have hb := B.bytes
  have hr := B.returns
  have hts := atoms_spec (ws := .code yX8_readPiece cX8_readPiece 2 (some .boolean) :: zW) B.pre
  have hown : s.vm.findClass RX8 = some m.cls := findClass_of_methodNamed B.named
  have hlocks := B.notSynchronized
  subst hsz
  have hD := hD0.self (sz := s.heap.size)
  generalize hAe : va_A [(h0, .inr (8, zf 18 f0)), (cd, .inl (x 0, 518, .inl gc)), (s1, .inl (x 0, 1, .inl g1)), (s2, .inl (x 0, 1, .inl g2)), (s3, .inl (x 0, 1, .inl g3)), (s4, .inl (x 2, 1, .inr (.inl g4))), (s5, .inl (x 0, 1, .inl g5))] s.heap.size = A at hD ⊢
  have hA : ∀ q : Nat, s.heap.size ≤ q → A q := fun q h => by rw [← hAe]; exact Or.inr h
  have hS : va_S A s.heap s.heap [] := va_S.rf
  have hP : va_P D vwCl [(h0, .inr (8, zf 18 f0)), (cd, .inl (x 0, 518, .inl gc)), (s1, .inl (x 0, 1, .inl g1)), (s2, .inl (x 0, 1, .inl g2)), (s3, .inl (x 0, 1, .inl g3)), (s4, .inl (x 2, 1, .inr (.inl g4))), (s5, .inl (x 0, 1, .inl g5))] s.heap := hP
  have hl := lv_entry ([.ref h0, .int 1]) (n := 2) (Nat.le_of_ble_eq_true rfl)
  rw [lg_entry_eq]
  generalize (lg_sl ([.ref h0, .int 1]) ++ List.replicate (2 - (lg_sl ([.ref h0, .int 1])).length) Slot.unset).toArray = ls at hl ⊢
  have hl : lv_has ls 2 [(0, .ref h0), (1, .int 1)] := hl
  refine lv_aload_n hx hb dX8_readPiece_0 rfl (lv_at hl 0 rfl) ?_
  refine lv_iload_n hx hb dX8_readPiece_1 rfl (lv_at hl 1 rfl) ?_
  refine lv_iconst (v := 1) hx hb dX8_readPiece_2 (by decide) ?_
  refine lv_icmp_ne (tgt := 10) hx hb dX8_readPiece_3 (by decide) (fun c9 => absurd (by decide) c9) (fun _ => ?_)
  refine lv_iconst (v := 1) hx hb dX8_readPiece_6 (by decide) ?_
  refine lv_goto (tgt := 11) hx hb dX8_readPiece_7 (by decide) ?_
  have hPc := hP.sub (ws' := [(h0, .inr (8, zf 18 f0))]) [0] rfl
  have hDc := hD.sub (ws' := [(h0, .inr (8, zf 18 f0))]) [0] (by decide) rfl
  have hFc := va_free (wc := [(h0, .inr (8, zf 18 f0))]) hD hS hA [0] rfl
  have h_2 : 0 + 0 ≤ 0 ∧ 0 + 0 ≤ 0 := by omega
  refine va_callv (va_runV (As := [.int 1]) (rest := []) ⟨hx, hb, hml, hown, hts⟩ (c_beginL l D x h0 f0 b cd s1 s2 s3 s4 s5 s.heap.size h0_0 h0_2 h0_5 h0_6 h0_7 h0_8 h0_9 h0_1) ⟨callB_of 1 hts (zgood (zm_397 _) rfl) rfl rfl rfl (hts _ (zm_37 _)) (hts _ (zm_386 _)) ⟨by decide, by decide, by decide +kernel⟩ ⟨Nat.le_of_ble_eq_true rfl, Nat.le_of_ble_eq_true rfl⟩, hts _ (zm_398 _), hts _ (zm_399 _)⟩ ⟨fun a U g mk q => by obtain ⟨q0, q1, qP, qK, qD⟩ := q; exact ⟨q0, q1, qP, ZK.calling (u := U) zN_ok rfl qK, qD⟩, va_recv hK hPc (ci := 8) (q0 := 0) rfl rfl, fun U hU hW => ⟨rfl, by rw [hU], by rw [hU]; exact hPc, ZK.warm zN_ok hW hZ, hDc.weaken (fun _ _ _ _ => trivial)⟩⟩ rfl rfl hl.1 rfl (lv_room (Nat.le_of_ble_eq_true rfl)) dX8_readPiece_11 h_2) hS (fun q _ h => hFc q h) hFc (fun c0_1 t H1 locs ht hvm hw_1 hB hz1 hk1 hS => ?_)
  obtain ⟨hP1, hD1⟩ := hB
  rw [ht] at hP1
  try dsimp only at hw_1
  obtain ⟨hP, hD⟩ := va_join (wr := [(cd, .inl (x 0, 518, .inl gc)), (s1, .inl (x 0, 1, .inl g1)), (s2, .inl (x 0, 1, .inl g2)), (s3, .inl (x 0, 1, .inl g3)), (s4, .inl (x 2, 1, .inr (.inl g4))), (s5, .inl (x 0, 1, .inl g5))]) (w1 := [(h0, .inr (8, zf 18 c0_1))]) hP hD [0] [1, 2, 3, 4, 5, 6] rfl rfl (by decide) (by decide) hk1 hFc hP1 hD1
  generalize H1 = H at hP hS ⊢
  have hP : va_P D vwCl [(cd, .inl (x 0, 518, .inl gc)), (s1, .inl (x 0, 1, .inl g1)), (s2, .inl (x 0, 1, .inl g2)), (s3, .inl (x 0, 1, .inl g3)), (s4, .inl (x 2, 1, .inr (.inl g4))), (s5, .inl (x 0, 1, .inl g5)), (h0, .inr (8, zf 18 c0_1))] H := hP
  have hD : va_D A [(cd, .inl (x 0, 518, .inl gc)), (s1, .inl (x 0, 1, .inl g1)), (s2, .inl (x 0, 1, .inl g2)), (s3, .inl (x 0, 1, .inl g3)), (s4, .inl (x 2, 1, .inr (.inl g4))), (s5, .inl (x 0, 1, .inl g5)), (h0, .inr (8, zf 18 c0_1))] := hD
  refine W.widen (k := 0) (n := 0) (by omega) (by omega) ?_
  refine lv_aload_n hx hb dX8_readPiece_14 rfl (lv_at hl 0 rfl) ?_
  refine lv_iconst (v := 0) hx hb dX8_readPiece_15 (by decide) ?_
  have hPc := hP.sub (ws' := [(h0, .inr (8, zf 18 c0_1)), (s1, .inl (x 0, 1, .inl g1)), (s2, .inl (x 0, 1, .inl g2)), (s3, .inl (x 0, 1, .inl g3)), (s4, .inl (x 2, 1, .inr (.inl g4))), (s5, .inl (x 0, 1, .inl g5))]) [6, 1, 2, 3, 4, 5] rfl
  have hDc := hD.sub (ws' := [(h0, .inr (8, zf 18 c0_1)), (s1, .inl (x 0, 1, .inl g1)), (s2, .inl (x 0, 1, .inl g2)), (s3, .inl (x 0, 1, .inl g3)), (s4, .inl (x 2, 1, .inr (.inl g4))), (s5, .inl (x 0, 1, .inl g5))]) [6, 1, 2, 3, 4, 5] (by decide) rfl
  have hFc := va_free (wc := [(h0, .inr (8, zf 18 c0_1)), (s1, .inl (x 0, 1, .inl g1)), (s2, .inl (x 0, 1, .inl g2)), (s3, .inl (x 0, 1, .inl g3)), (s4, .inl (x 2, 1, .inr (.inl g4))), (s5, .inl (x 0, 1, .inl g5))]) hD hS hA [6, 1, 2, 3, 4, 5] rfl
  have h_9 : 0 + 0 ≤ 0 ∧ 0 + 0 ≤ 0 := by omega
  refine va_callv (va_runV (As := [.int 0]) (rest := []) ⟨hx, hb, hml, hown, hts⟩ (c_beginLineL l D x h0 c0_1 s1 g1 s2 g2 s3 g3 s4 g4 s5 g5 b cd H.size hw_1.1 hw_1.2.1 hw_1.2.2.1 hw_1.2.2.2.1 hw_1.2.2.2.2.1 hw_1.2.2.2.2.2.1 hw_1.2.2.2.2.2.2.1 hw_1.2.2.2.2.2.2.2.1 hw_1.2.2.2.2.2.2.2.2.1 hw_1.2.2.2.2.2.2.2.2.2.1 hw_1.2.2.2.2.2.2.2.2.2.2.1 hw_1.2.2.2.2.2.2.2.2.2.2.2.1 hw_1.2.2.2.2.2.2.2.2.2.2.2.2) ⟨callB_of 1 hts (zgood (zm_403 _) rfl) rfl rfl rfl (hts _ (zm_37 _)) (hts _ (zm_387 _)) ⟨by decide, by decide, by decide +kernel⟩ ⟨Nat.le_of_ble_eq_true rfl, Nat.le_of_ble_eq_true rfl⟩, hts _ (zm_404 _), hts _ (zm_405 _)⟩ ⟨fun a U g mk q => by obtain ⟨q0, q1, qP, qK, qD⟩ := q; exact ⟨q0, q1, qP, ZK.calling (u := U) zN_ok rfl qK, qD⟩, va_recv hK hPc (ci := 8) (q0 := 0) rfl rfl, fun U hU hW => ⟨rfl, by rw [hU], by rw [hU]; exact hPc, ZK.warm zN_ok hW hZ, hDc.weaken (fun _ _ _ _ => trivial)⟩⟩ rfl rfl hl.1 rfl (lv_room (Nat.le_of_ble_eq_true rfl)) dX8_readPiece_16 h_9) hS (fun q _ h => hFc q h) hFc (fun u t H1 locs ht hvm hw_8 hB hz1 hk1 hS => ?_)
  obtain ⟨c0_3, c1_4, c2_5, c3_6, c4_7, c5_8⟩ := u
  obtain ⟨hP1, hD1⟩ := hB
  rw [ht] at hP1
  try dsimp only at hw_8
  obtain ⟨hP, hD⟩ := va_join (wr := [(cd, .inl (x 0, 518, .inl gc))]) (w1 := [(h0, .inr (8, zf 18 c0_3)), (s1, .inl (x 0, 1, .inl c1_4)), (s2, .inl (x 0, 1, .inl c2_5)), (s3, .inl (x 0, 1, .inl c3_6)), (s4, .inl (x 2, 1, .inr (.inl c4_7))), (s5, .inl (x 0, 1, .inl c5_8))]) hP hD [6, 1, 2, 3, 4, 5] [0] rfl rfl (by decide) (by decide) hk1 hFc hP1 hD1
  generalize H1 = H at hP hS ⊢
  have hP : va_P D vwCl [(cd, .inl (x 0, 518, .inl gc)), (h0, .inr (8, zf 18 c0_3)), (s1, .inl (x 0, 1, .inl c1_4)), (s2, .inl (x 0, 1, .inl c2_5)), (s3, .inl (x 0, 1, .inl c3_6)), (s4, .inl (x 2, 1, .inr (.inl c4_7))), (s5, .inl (x 0, 1, .inl c5_8))] H := hP
  have hD : va_D A [(cd, .inl (x 0, 518, .inl gc)), (h0, .inr (8, zf 18 c0_3)), (s1, .inl (x 0, 1, .inl c1_4)), (s2, .inl (x 0, 1, .inl c2_5)), (s3, .inl (x 0, 1, .inl c3_6)), (s4, .inl (x 2, 1, .inr (.inl c4_7))), (s5, .inl (x 0, 1, .inl c5_8))] := hD
  refine W.widen (k := 0) (n := 0) (by omega) (by omega) ?_
  refine lv_iload_n hx hb dX8_readPiece_19 rfl (lv_at hl 1 rfl) ?_
  refine lv_iconst (v := 1) hx hb dX8_readPiece_20 (by decide) ?_
  refine lv_icmp_ne (tgt := 31) hx hb dX8_readPiece_21 (by decide) (fun c9 => absurd (by decide) c9) (fun _ => ?_)
  refine lv_aload_n hx hb dX8_readPiece_24 rfl (lv_at hl 0 rfl) ?_
  have hPc := hP.sub (ws' := [(h0, .inr (8, zf 18 c0_3)), (cd, .inl (x 0, 518, .inl gc))]) [1, 0] rfl
  have hDc := hD.sub (ws' := [(h0, .inr (8, zf 18 c0_3)), (cd, .inl (x 0, 518, .inl gc))]) [1, 0] (by decide) rfl
  have hFc := va_free (wc := [(h0, .inr (8, zf 18 c0_3)), (cd, .inl (x 0, 518, .inl gc))]) hD hS hA [1, 0] rfl
  have h_12 : 0 + 0 ≤ 0 ∧ 0 + 0 ≤ 0 := by omega
  refine va_callv (va_runV (As := []) (rest := []) ⟨hx, hb, hml, hown, hts⟩ (c_commandsL l D x h0 c0_3 cd gc b s1 s2 s3 s4 s5 H.size hw_8.1 hw_8.2.1 hw_8.2.2.1 hw_8.2.2.2.1 hw_8.2.2.2.2.1 hw_8.2.2.2.2.2.1 hw_8.2.2.2.2.2.2.1 hw_8.2.2.2.2.2.2.2.1 hw_8.2.2.2.2.2.2.2.2.1 hw_8.2.2.2.2.2.2.2.2.2.1 hw_8.2.2.2.2.2.2.2.2.2.2.1 hw_8.2.2.2.2.2.2.2.2.2.2.2.1 hw_8.2.2.2.2.2.2.2.2.2.2.2.2) ⟨callB_of 0 hts (zgood (zm_406 _) rfl) rfl rfl rfl (hts _ (zm_37 _)) (hts _ (zm_388 _)) ⟨by decide, by decide, by decide +kernel⟩ ⟨Nat.le_of_ble_eq_true rfl, Nat.le_of_ble_eq_true rfl⟩, hts _ (zm_407 _), hts _ (zm_408 _)⟩ ⟨fun a U g mk q => by obtain ⟨q0, q1, qP, qK, qD⟩ := q; exact ⟨q0, q1, qP, ZK.calling (u := U) zN_ok rfl qK, qD⟩, va_recv hK hPc (ci := 8) (q0 := 0) rfl rfl, fun U hU hW => ⟨rfl, by rw [hU], by rw [hU]; exact hPc, ZK.warm zN_ok hW hZ, hDc.weaken (fun _ _ _ _ => trivial)⟩⟩ rfl rfl hl.1 rfl (lv_room (Nat.le_of_ble_eq_true rfl)) dX8_readPiece_25 h_12) hS (fun q _ h => hFc q h) hFc (fun u t H1 locs ht hvm hw_11 hB hz1 hk1 hS => ?_)
  obtain ⟨c0_10, c1_11⟩ := u
  obtain ⟨hP1, hD1⟩ := hB
  rw [ht] at hP1
  try dsimp only at hw_11
  obtain ⟨hP, hD⟩ := va_join (wr := [(s1, .inl (x 0, 1, .inl c1_4)), (s2, .inl (x 0, 1, .inl c2_5)), (s3, .inl (x 0, 1, .inl c3_6)), (s4, .inl (x 2, 1, .inr (.inl c4_7))), (s5, .inl (x 0, 1, .inl c5_8))]) (w1 := [(h0, .inr (8, zf 18 c0_10)), (cd, .inl (x 0, 518, .inl c1_11))]) hP hD [1, 0] [2, 3, 4, 5, 6] rfl rfl (by decide) (by decide) hk1 hFc hP1 hD1
  generalize H1 = H at hP hS ⊢
  have hP : va_P D vwCl [(s1, .inl (x 0, 1, .inl c1_4)), (s2, .inl (x 0, 1, .inl c2_5)), (s3, .inl (x 0, 1, .inl c3_6)), (s4, .inl (x 2, 1, .inr (.inl c4_7))), (s5, .inl (x 0, 1, .inl c5_8)), (h0, .inr (8, zf 18 c0_10)), (cd, .inl (x 0, 518, .inl c1_11))] H := hP
  have hD : va_D A [(s1, .inl (x 0, 1, .inl c1_4)), (s2, .inl (x 0, 1, .inl c2_5)), (s3, .inl (x 0, 1, .inl c3_6)), (s4, .inl (x 2, 1, .inr (.inl c4_7))), (s5, .inl (x 0, 1, .inl c5_8)), (h0, .inr (8, zf 18 c0_10)), (cd, .inl (x 0, 518, .inl c1_11))] := hD
  refine W.widen (k := 0) (n := 0) (by omega) (by omega) ?_
  refine lv_goto (tgt := 87) hx hb dX8_readPiece_28 (by decide) ?_
  refine lv_aload_n hx hb dX8_readPiece_87 rfl (lv_at hl 0 rfl) ?_
  refine lv_bipush (v := 43) hx hb dX8_readPiece_88 (by decide) ?_
  refine lv_iconst (v := 0) hx hb dX8_readPiece_90 (by decide) ?_
  have hPc := hP.sub (ws' := [(h0, .inr (8, zf 18 c0_10)), (cd, .inl (x 0, 518, .inl c1_11))]) [5, 6] rfl
  have hDc := hD.sub (ws' := [(h0, .inr (8, zf 18 c0_10)), (cd, .inl (x 0, 518, .inl c1_11))]) [5, 6] (by decide) rfl
  have hFc := va_free (wc := [(h0, .inr (8, zf 18 c0_10)), (cd, .inl (x 0, 518, .inl c1_11))]) hD hS hA [5, 6] rfl
  have h_15 : 0 + 0 ≤ 0 ∧ 0 + 0 ≤ 0 := by omega
  refine va_callv (va_runV (As := [.int 43, .int 0]) (rest := []) ⟨hx, hb, hml, hown, hts⟩ (c_emit1L l D x h0 c0_10 cd c1_11 b s1 s2 s3 s4 s5 H.size hw_11.1 hw_11.2.1 hw_11.2.2.1 hw_11.2.2.2.1 hw_11.2.2.2.2.1 hw_11.2.2.2.2.2.1 hw_11.2.2.2.2.2.2.1 hw_11.2.2.2.2.2.2.2.1 hw_11.2.2.2.2.2.2.2.2.1 hw_11.2.2.2.2.2.2.2.2.2.1 hw_11.2.2.2.2.2.2.2.2.2.2.1 hw_11.2.2.2.2.2.2.2.2.2.2.2.1 hw_11.2.2.2.2.2.2.2.2.2.2.2.2) ⟨callB_of 2 hts (zgood (zm_423 _) rfl) rfl rfl rfl (hts _ (zm_37 _)) (hts _ (zm_393 _)) ⟨by decide, by decide, by decide +kernel⟩ ⟨Nat.le_of_ble_eq_true rfl, Nat.le_of_ble_eq_true rfl⟩, hts _ (zm_424 _), hts _ (zm_425 _)⟩ ⟨fun a U g mk q => by obtain ⟨q0, q1, qP, qK, qD⟩ := q; exact ⟨q0, q1, qP, ZK.calling (u := U) zN_ok rfl qK, qD⟩, va_recv hK hPc (ci := 8) (q0 := 0) rfl rfl, fun U hU hW => ⟨rfl, by rw [hU], by rw [hU]; exact hPc, ZK.warm zN_ok hW hZ, hDc.weaken (fun _ _ _ _ => trivial)⟩⟩ rfl rfl hl.1 rfl (lv_room (Nat.le_of_ble_eq_true rfl)) dX8_readPiece_91 h_15) hS (fun q _ h => hFc q h) hFc (fun u t H1 locs ht hvm hw_14 hB hz1 hk1 hS => ?_)
  obtain ⟨c0_13, c1_14⟩ := u
  obtain ⟨hP1, hD1⟩ := hB
  rw [ht] at hP1
  try dsimp only at hw_14
  obtain ⟨hP, hD⟩ := va_join (wr := [(s1, .inl (x 0, 1, .inl c1_4)), (s2, .inl (x 0, 1, .inl c2_5)), (s3, .inl (x 0, 1, .inl c3_6)), (s4, .inl (x 2, 1, .inr (.inl c4_7))), (s5, .inl (x 0, 1, .inl c5_8))]) (w1 := [(h0, .inr (8, zf 18 c0_13)), (cd, .inl (x 0, 518, .inl c1_14))]) hP hD [5, 6] [0, 1, 2, 3, 4] rfl rfl (by decide) (by decide) hk1 hFc hP1 hD1
  generalize H1 = H at hP hS ⊢
  have hP : va_P D vwCl [(s1, .inl (x 0, 1, .inl c1_4)), (s2, .inl (x 0, 1, .inl c2_5)), (s3, .inl (x 0, 1, .inl c3_6)), (s4, .inl (x 2, 1, .inr (.inl c4_7))), (s5, .inl (x 0, 1, .inl c5_8)), (h0, .inr (8, zf 18 c0_13)), (cd, .inl (x 0, 518, .inl c1_14))] H := hP
  have hD : va_D A [(s1, .inl (x 0, 1, .inl c1_4)), (s2, .inl (x 0, 1, .inl c2_5)), (s3, .inl (x 0, 1, .inl c3_6)), (s4, .inl (x 2, 1, .inr (.inl c4_7))), (s5, .inl (x 0, 1, .inl c5_8)), (h0, .inr (8, zf 18 c0_13)), (cd, .inl (x 0, 518, .inl c1_14))] := hD
  refine W.widen (k := 0) (n := 0) (by omega) (by omega) ?_
  refine lv_aload_n hx hb dX8_readPiece_94 rfl (lv_at hl 0 rfl) ?_
  refine z_get (T := TX8) (N := 18) (ci := 8) hx hb hts (zi_8 _) hown hK hP 5 rfl rfl 14 (by decide) (hts _ (zm_395 _)) rfl hw_14.2.2.2.2.2.2.2.2.1 dX8_readPiece_95 ?_
  refine lv_aload_n hx hb dX8_readPiece_98 rfl (lv_at hl 0 rfl) ?_
  refine z_get (T := TX8) (N := 18) (ci := 8) hx hb hts (zi_8 _) hown hK hP 5 rfl rfl 1 (by decide) (hts _ (zm_381 _)) rfl hw_14.2.2.2.2.2.2.2.1 dX8_readPiece_99 ?_
  refine lv_icmp_ge (tgt := 113) hx hb dX8_readPiece_102 (by decide) (fun _ => ?_) (fun c9 => absurd (by decide) c9)
  refine lv_aload_n hx hb dX8_readPiece_113 rfl (lv_at hl 0 rfl) ?_
  refine z_get (T := TX8) (N := 18) (ci := 8) hx hb hts (zi_8 _) hown hK hP 5 rfl rfl 15 (by decide) (hts _ (zm_396 _)) rfl hw_14.2.2.2.2.2.2.2.2.2.1 dX8_readPiece_114 ?_
  refine lv_if_ge (tgt := 124) hx hb dX8_readPiece_117 (by decide) (fun c9 => absurd c9 (by decide)) (fun _ => ?_)
  refine lv_iconst (v := 1) hx hb dX8_readPiece_120 (by decide) ?_
  refine lv_goto (tgt := 125) hx hb dX8_readPiece_121 (by decide) ?_
  have hP9 := hP.sub (ws' := [(h0, .inr (8, zf 18 c0_13)), (cd, .inl (x 0, 518, .inl c1_14)), (s1, .inl (x 0, 1, .inl c1_4)), (s2, .inl (x 0, 1, .inl c2_5)), (s3, .inl (x 0, 1, .inl c3_6)), (s4, .inl (x 2, 1, .inr (.inl c4_7))), (s5, .inl (x 0, 1, .inl c5_8))]) [5, 6, 0, 1, 2, 3, 4] rfl
  have hD9 := hD.sub (ws' := [(h0, .inr (8, zf 18 c0_13)), (cd, .inl (x 0, 518, .inl c1_14)), (s1, .inl (x 0, 1, .inl c1_4)), (s2, .inl (x 0, 1, .inl c2_5)), (s3, .inl (x 0, 1, .inl c3_6)), (s4, .inl (x 2, 1, .inr (.inl c4_7))), (s5, .inl (x 0, 1, .inl c5_8))]) [5, 6, 0, 1, 2, 3, 4] (by decide) rfl
  exact W.zret (v := 1) hx hb hr (by decide) (fun t ht hW => ⟨⟨_, (c0_13, c1_14, c1_4, c2_5, c3_6, c4_7, c5_8), rfl, ⟨rfl, hw_14.1, hw_14.2.1, hw_14.2.2.1, hw_14.2.2.2.1, hw_14.2.2.2.2.1, hw_14.2.2.2.2.2.1, hw_14.2.2.2.2.2.2.1, hw_14.2.2.2.2.2.2.2.1, hw_14.2.2.2.2.2.2.2.2.1, hw_14.2.2.2.2.2.2.2.2.2.1, hw_14.2.2.2.2.2.2.2.2.2.2.1, hw_14.2.2.2.2.2.2.2.2.2.2.2.1, hw_14.2.2.2.2.2.2.2.2.2.2.2.2⟩, ⟨by rw [ht]; exact hP9, hD9⟩⟩, hS.F ht⟩) hS.2.2 dX8_readPiece_125
