theorem dX9_clear_7 : decode cX9_clear 7 = .ok (.iload_n 1, 1) := by decide +kernel
theorem dX9_clear_8 : decode cX9_clear 8 = .ok (.aload_n 0, 1) := by decide +kernel
theorem dX9_clear_9 : decode cX9_clear 9 = .ok (.getfield 30, 3) := by decide +kernel
theorem dX9_clear_12 : decode cX9_clear 12 = .ok (.arraylength, 1) := by decide +kernel
theorem dX9_clear_13 : decode cX9_clear 13 = .ok (.if_icmp .ge 16, 3) := by decide +kernel
theorem dX9_clear_16 : decode cX9_clear 16 = .ok (.aload_n 0, 1) := by decide +kernel
theorem dX9_clear_17 : decode cX9_clear 17 = .ok (.getfield 30, 3) := by decide +kernel
theorem dX9_clear_20 : decode cX9_clear 20 = .ok (.iload_n 1, 1) := by decide +kernel
theorem dX9_clear_21 : decode cX9_clear 21 = .ok (.iload_n 1, 1) := by decide +kernel
theorem dX9_clear_22 : decode cX9_clear 22 = .ok (.iastore, 1) := by decide +kernel
theorem dX9_clear_23 : decode cX9_clear 23 = .ok (.iinc 1 1, 3) := by decide +kernel
theorem dX9_clear_26 : decode cX9_clear 26 = .ok (.goto (-19), 3) := by decide +kernel
theorem dX9_clear_0 : decode cX9_clear 0 = .ok (.aload_n 0, 1) := by decide +kernel
theorem dX9_clear_1 : decode cX9_clear 1 = .ok (.iconst 0, 1) := by decide +kernel
theorem dX9_clear_2 : decode cX9_clear 2 = .ok (.putfield 44, 3) := by decide +kernel
theorem dX9_clear_5 : decode cX9_clear 5 = .ok (.iconst 0, 1) := by decide +kernel
theorem dX9_clear_6 : decode cX9_clear 6 = .ok (.istore_n 1, 1) := by decide +kernel
theorem dX9_clear_29 : decode cX9_clear 29 = .ok (.return_, 1) := by decide +kernel
theorem dX9_init_0 : decode cX9_init 0 = .ok (.aload_n 0, 1) := by decide +kernel
theorem dX9_init_1 : decode cX9_init 1 = .ok (.invokespecial 3, 3) := by decide +kernel
theorem dX9_init_4 : decode cX9_init 4 = .ok (.aload_n 0, 1) := by decide +kernel
theorem dX9_init_5 : decode cX9_init 5 = .ok (.iload_n 1, 1) := by decide +kernel
theorem dX9_init_6 : decode cX9_init 6 = .ok (.invokestatic 9, 3) := by decide +kernel
theorem dX9_init_9 : decode cX9_init 9 = .ok (.putfield 15, 3) := by decide +kernel
theorem dX9_init_12 : decode cX9_init 12 = .ok (.aload_n 0, 1) := by decide +kernel
theorem dX9_init_13 : decode cX9_init 13 = .ok (.iload_n 1, 1) := by decide +kernel
theorem dX9_init_14 : decode cX9_init 14 = .ok (.sipush 250, 3) := by decide +kernel
theorem dX9_init_17 : decode cX9_init 17 = .ok (.invokestatic 21, 3) := by decide +kernel
theorem dX9_init_20 : decode cX9_init 20 = .ok (.putfield 26, 3) := by decide +kernel
theorem dX9_init_23 : decode cX9_init 23 = .ok (.aload_n 0, 1) := by decide +kernel
theorem dX9_init_24 : decode cX9_init 24 = .ok (.iload_n 1, 1) := by decide +kernel
theorem dX9_init_25 : decode cX9_init 25 = .ok (.newarray .int, 2) := by decide +kernel
theorem dX9_init_27 : decode cX9_init 27 = .ok (.putfield 30, 3) := by decide +kernel
theorem dX9_init_30 : decode cX9_init 30 = .ok (.aload_n 0, 1) := by decide +kernel
theorem dX9_init_31 : decode cX9_init 31 = .ok (.iload_n 1, 1) := by decide +kernel
theorem dX9_init_32 : decode cX9_init 32 = .ok (.newarray .int, 2) := by decide +kernel
theorem dX9_init_34 : decode cX9_init 34 = .ok (.putfield 34, 3) := by decide +kernel
theorem dX9_init_37 : decode cX9_init 37 = .ok (.aload_n 0, 1) := by decide +kernel
theorem dX9_init_38 : decode cX9_init 38 = .ok (.iload_n 2, 1) := by decide +kernel
theorem dX9_init_39 : decode cX9_init 39 = .ok (.putfield 37, 3) := by decide +kernel
theorem dX9_init_42 : decode cX9_init 42 = .ok (.aload_n 0, 1) := by decide +kernel
theorem dX9_init_43 : decode cX9_init 43 = .ok (.invokevirtual 41, 3) := by decide +kernel
theorem dX9_init_46 : decode cX9_init 46 = .ok (.return_, 1) := by decide +kernel
set_option maxHeartbeats 8000000 in
set_option maxRecDepth 100000 in
/-- the loop of Tree.clear -/
theorem lp_Tree_clear {p : Program} {l : Launch} {e : Env} {R : Room} {s : State} {m : MethodId} {args : Array Value} {below : List Frame} {meth : Method} {c : Code} {Q : State → Prop} {A : Nat → Prop} {D : va_G} {x : Nat → ClassId} (h0 q n : Nat) (f : Nat → Value) (hx : p.tables.exec = Jvm.exec) (hb : c.code = cX9_clear) (hml : c.maxLocals = 2) (hts : ∀ w ∈ (.code yX9_clear cX9_clear 2 none :: zW : List Cond), w.before args s = true) (hown : s.vm.findClass RX9 = some m.cls) (hZ : zK x D s) (hA : ∀ q, s.heap.size ≤ q → A q) (hn : n ≤ 100000) (ho : f 2 = .ref q) 
    (kk : ∀ (g : Nat → Int32) (H : Heap) (locs : List Loc) (ls : Array Slot), va_P D vwCl [(h0, .inr (9, zf 8 f)), (q, .inl (x 0, n, .inl g))] H → va_D A [(h0, .inr (9, zf 8 f)), (q, .inl (x 0, n, .inl g))] → va_S A s.heap H locs → lv_has ls 2 [(1, .int (nI n)), (0, .ref h0)] → W p l e R s m args below meth c H locs 0 0 Q (F0 m 29 ls [])) :
    ∀ (k i : Nat), i + k = n → ∀ (g : Nat → Int32) (H : Heap) (locs : List Loc) (ls : Array Slot), va_P D vwCl [(h0, .inr (9, zf 8 f)), (q, .inl (x 0, n, .inl g))] H → va_D A [(h0, .inr (9, zf 8 f)), (q, .inl (x 0, n, .inl g))] → va_S A s.heap H locs → lv_has ls 2 [(1, .int (nI i)), (0, .ref h0)] → W p l e R s m args below meth c H locs 0 0 Q (F0 m 7 ls []) := by
  intro k
  induction k with
  | zero =>
    intro i hi g H locs ls hP hD hS hl
    have hi : i = n := by omega
    subst hi
    have hK := hZ.1
    refine lv_iload_n hx hb dX9_clear_7 rfl (lv_at hl 0 rfl) ?_
    refine lv_aload_n hx hb dX9_clear_8 rfl (lv_at hl 1 rfl) ?_
    refine z_get (T := TX9) (N := 8) (ci := 9) hx hb hts (zi_9 _) hown hK hP 0 rfl rfl 2 (by decide) (hts _ (zm_119 _)) rfl ho dX9_clear_9 ?_
    refine va_alen (v := nI i) hx hb hK hP 1 0 rfl rfl rfl dX9_clear_12 ?_
    refine lv_icmp_ge (tgt := 29) hx hb dX9_clear_13 (by decide) (fun _ => ?_) (fun c9 => absurd (nI_le (Nat.le_refl i) (by omega)) c9)
    exact kk g H locs ls hP hD hS hl
  | succ k ih =>
    intro i hi g H locs ls hP hD hS hl
    have hK := hZ.1
    have hlt : i < n := by omega
    refine lv_iload_n hx hb dX9_clear_7 rfl (lv_at hl 0 rfl) ?_
    refine lv_aload_n hx hb dX9_clear_8 rfl (lv_at hl 1 rfl) ?_
    refine z_get (T := TX9) (N := 8) (ci := 9) hx hb hts (zi_9 _) hown hK hP 0 rfl rfl 2 (by decide) (hts _ (zm_119 _)) rfl ho dX9_clear_9 ?_
    refine va_alen (v := nI n) hx hb hK hP 1 0 rfl rfl rfl dX9_clear_12 ?_
    refine lv_icmp_ge (tgt := 29) hx hb dX9_clear_13 (by decide) (fun c9 => absurd c9 (nI_ge hlt (by omega))) (fun _ => ?_)
    refine lv_aload_n hx hb dX9_clear_16 rfl (lv_at hl 1 rfl) ?_
    refine z_get (T := TX9) (N := 8) (ci := 9) hx hb hts (zi_9 _) hown hK hP 0 rfl rfl 2 (by decide) (hts _ (zm_119 _)) rfl ho dX9_clear_17 ?_
    refine lv_iload_n hx hb dX9_clear_20 rfl (lv_at hl 0 rfl) ?_
    refine lv_iload_n hx hb dX9_clear_21 rfl (lv_at hl 0 rfl) ?_
    refine z_iast hx hb hK hP hD hS 1 0 rfl rfl (vp_in_nI hlt (by omega)) dX9_clear_22 (fun H locs g_1 ek_2 ok_3 hP hD hS => ?_)
    have hP : va_P D vwCl [(h0, .inr (9, zf 8 f)), (q, .inl (x 0, n, .inl g_1))] H := hP
    have hD : va_D A [(h0, .inr (9, zf 8 f)), (q, .inl (x 0, n, .inl g_1))] := hD
    refine lv_iinc (v := nI (i + 1)) (lv' := [(1, .int (nI (i + 1))), (0, .ref h0)]) hx hb dX9_clear_23 hl (k := 0) rfl (nI_1 i) (by decide) rfl (fun ls hl => ?_)
    refine lv_goto (tgt := 7) hx hb dX9_clear_26 (by decide) ?_
    exact ih (i + 1) (by omega) _ H locs ls hP hD hS (lv_sub hl [0, 1] rfl)

set_option maxHeartbeats 8000000 in
set_option maxRecDepth 100000 in
/-- Tree.clear -/
theorem c_Tree_clear (l : Launch) (D : va_G) (x : Nat → ClassId) (n : Nat) (h0 : Nat) (f0 : Nat → Value) (q : Nat) (g0 : Nat → Int32) (sz : Nat) (h0_2 : f0 2 = .ref q) (hn : n ≤ 100000) : Met l yX9_clear (.code yX9_clear cX9_clear 2 none :: zW) ({ frames := 0, cells := (0), slots := (0), locals := 0 }) (va_Pc [.ref h0] (fun U => U.heap.size = sz ∧ va_P D vwCl [(h0, .inr (9, zf 8 f0)), (q, .inl (x 0, n, .inl g0))] U.heap ∧ zK x D U ∧ va_D (fun _ => True) [(h0, .inr (9, zf 8 f0)), (q, .inl (x 0, n, .inl g0))])) (va_Qv (fun u : (Nat → Value) × (Nat → Int32) => match u with | (c0, c1) => c0 5 = .int 0 ∧ c0 2 = .ref q) (fun u t => match u with | (c0, c1) => zB D vwCl (va_A [(h0, .inr (9, zf 8 f0)), (q, .inl (x 0, n, .inl g0))] sz) [(h0, .inr (9, zf 8 c0)), (q, .inl (x 0, n, .inl c1))] t) (va_A [(h0, .inr (9, zf 8 f0)), (q, .inl (x 0, n, .inl g0))] sz)) (0) (0) (va_A [(h0, .inr (9, zf 8 f0)), (q, .inl (x 0, n, .inl g0))] sz) := by
  refine Met.ofW (cc := cX9_clear) (maxL := 2) (ret := none) (by decide) rfl ?_
  intro p e s m args below meth c s₁ B hml hv
  obtain ⟨rfl, hsz, hP, hZ, hD0⟩ := hv
  have hK := hZ.1
  have hx := B.exec
  have hb := B.bytes
  have hr := B.returns
  have hts := atoms_spec (ws := .code yX9_clear cX9_clear 2 none :: zW) B.pre
  have hown : s.vm.findClass RX9 = some m.cls := findClass_of_methodNamed B.named
  have hlocks := B.notSynchronized
  subst hsz
  have hD := hD0.self (sz := s.heap.size)
  generalize hAe : va_A [(h0, .inr (9, zf 8 f0)), (q, .inl (x 0, n, .inl g0))] s.heap.size = A at hD ⊢
  have hA : ∀ q : Nat, s.heap.size ≤ q → A q := fun q h => by rw [← hAe]; exact Or.inr h
  have hS : va_S A s.heap s.heap [] := va_S.rf
  have hP : va_P D vwCl [(h0, .inr (9, zf 8 f0)), (q, .inl (x 0, n, .inl g0))] s.heap := hP
  have hl := lv_entry ([.ref h0]) (n := 2) (Nat.le_of_ble_eq_true rfl)
  rw [lg_entry_eq]
  generalize (lg_sl ([.ref h0]) ++ List.replicate (2 - (lg_sl ([.ref h0])).length) Slot.unset).toArray = ls at hl ⊢
  have hl : lv_has ls 2 [(0, .ref h0)] := hl
  refine lv_aload_n hx hb dX9_clear_0 rfl (lv_at hl 0 rfl) ?_
  refine lv_iconst (v := 0) hx hb dX9_clear_1 (by decide) ?_
  refine z_put (T := TX9) (N := 8) (ci := 9) hx hb hts (zi_9 _) hown hK hP hD hS 0 rfl rfl 5 (by decide) (hts _ (zm_126 _)) rfl rfl rfl rfl dX9_clear_2 (fun H locs f_1 ek_2 ok_3 hP hD hS => ?_)
  have hP : va_P D vwCl [(h0, .inr (9, zf 8 f_1)), (q, .inl (x 0, n, .inl g0))] H := hP
  have hD : va_D A [(h0, .inr (9, zf 8 f_1)), (q, .inl (x 0, n, .inl g0))] := hD
  refine lv_iconst (v := 0) hx hb dX9_clear_5 (by decide) ?_
  refine lv_istore_n (lv' := [(1, .int 0), (0, .ref h0)]) hx hb dX9_clear_6 rfl hl (by decide) rfl (fun ls hl => ?_)
  refine lp_Tree_clear (Q := MQ below _ _ s _ _ _) h0 q n f_1 hx hb hml hts hown hZ hA hn ((ok_3 2 (by decide)).trans h0_2) ?_ n 0 (by omega) _ H _ ls hP hD hS (by rw [nI_0]; exact hl)
  intro g H locs ls hP hD hS hl
  have hP9 := hP.sub (ws' := [(h0, .inr (9, zf 8 f_1)), (q, .inl (x 0, n, .inl g))]) [0, 1] rfl
  have hD9 := hD.sub (ws' := [(h0, .inr (9, zf 8 f_1)), (q, .inl (x 0, n, .inl g))]) [0, 1] (by decide) rfl
  exact W.vret hx hb hr (fun t ht hW => ⟨⟨(f_1, g), rfl, ⟨ek_2, ((ok_3 2 (by decide)).trans h0_2)⟩, ⟨by rw [ht]; exact hP9, hD9⟩⟩, hS.F ht⟩) hS.2.2 dX9_clear_29

set_option maxHeartbeats 8000000 in
set_option maxRecDepth 100000 in
/-- Tree(800, true) -/
theorem c_Tree_initG (l : Launch) (D : va_G) (x : Nat → ClassId) (h0 : Nat) (f0 : Nat → Value) (sz : Nat) (h0_5 : f0 5 = .int 0) (h0_6 : f0 6 = .int 0) (h0_7 : f0 7 = .int 0) : Met l yX9_init (.code yX9_init cX9_init 3 none :: zW) ({ frames := 3, cells := (3204), slots := (296000), locals := 56 }) (va_Pc [.ref h0, .int 800, .int 1] (fun U => U.heap.size = sz ∧ va_P D vwCl [(h0, .inr (9, zf 8 f0))] U.heap ∧ zK x D U ∧ va_D (fun _ => True) [(h0, .inr (9, zf 8 f0))])) (va_Qv (fun u : Nat → Value => match u with | c0 => c0 5 = .int 0) (fun u t => match u with | c0 => zB D vwCl (va_A [(h0, .inr (9, zf 8 f0))] sz) [(h0, .inr (9, zf 8 c0))] t) (va_A [(h0, .inr (9, zf 8 f0))] sz)) (3204) (296000) (va_A [(h0, .inr (9, zf 8 f0))] sz) := by
  refine Met.ofW (cc := cX9_init) (maxL := 3) (ret := none) (by decide) rfl ?_
  intro p e s m args below meth c s₁ B hml hv
  obtain ⟨rfl, hsz, hP, hZ, hD0⟩ := hv
  have hK := hZ.1
  have hx := B.exec
  have hb := B.bytes
  have hr := B.returns
  have hts := atoms_spec (ws := .code yX9_init cX9_init 3 none :: zW) B.pre
  have hown : s.vm.findClass RX9 = some m.cls := findClass_of_methodNamed B.named
  have hlocks := B.notSynchronized
  have hin : meth.name = "<init>" := (name_of_methodNamed B.named B.method).1
  subst hsz
  have hD := hD0.self (sz := s.heap.size)
  generalize hAe : va_A [(h0, .inr (9, zf 8 f0))] s.heap.size = A at hD ⊢
  have hA : ∀ q : Nat, s.heap.size ≤ q → A q := fun q h => by rw [← hAe]; exact Or.inr h
  have hS : va_S A s.heap s.heap [] := va_S.rf
  have hP : va_P D vwCl [(h0, .inr (9, zf 8 f0))] s.heap := hP
  have hl := lv_entry ([.ref h0, .int 800, .int 1]) (n := 3) (Nat.le_of_ble_eq_true rfl)
  rw [lg_entry_eq]
  generalize (lg_sl ([.ref h0, .int 800, .int 1]) ++ List.replicate (3 - (lg_sl ([.ref h0, .int 800, .int 1])).length) Slot.unset).toArray = ls at hl ⊢
  have hl : lv_has ls 3 [(0, .ref h0), (1, .int 800), (2, .int 1)] := hl
  refine lv_aload_n hx hb dX9_init_0 rfl (lv_at hl 0 rfl) ?_
  refine W.objInit hx hb hown (hts _ (zm_116 _)) (hts _ (zm_0 _)) (hts _ (zm_1 _)) rfl (by rw [hml]; exact hl.1) rfl dX9_init_1 (Nat.le_of_ble_eq_true rfl) (Nat.le_of_ble_eq_true rfl) ?_
  refine W.eq (g2 := F0 m 4 ls []) rfl ?_
  refine lv_aload_n hx hb dX9_init_4 rfl (lv_at hl 0 rfl) ?_
  refine lv_iload_n hx hb dX9_init_5 rfl (lv_at hl 1 rfl) ?_
  have hPc := hP.sub (ws' := []) [] rfl
  have hDc := hD.sub (ws' := []) [] (by decide) rfl
  have hFc := va_free (wc := []) hD hS hA [] rfl
  have h_2 : 0 + 1601 ≤ 3204 ∧ 0 + 91200 ≤ 296000 := by omega
  refine va_callr (va_runSN (As := [.int 800]) (rest := [.ref h0]) ⟨hx, hb, hml, hown, hts⟩ (c_Node_many l D x 800 s.heap.size (by decide)) ⟨va_cnB 1 hts (zgood (zm_22 _) rfl) rfl rfl rfl (hZ.2.1 _ zn_11) (hts _ (zm_17 _)) ⟨by decide, by decide, by decide +kernel⟩ ⟨Nat.le_of_ble_eq_true rfl, Nat.le_of_ble_eq_true rfl⟩, hts _ (zm_23 _), trivial⟩ ⟨fun a U g mk q => by obtain ⟨q0, q1, qP, qK, qD⟩ := q; exact ⟨q0, q1, qP, ZK.calling (u := U) zN_ok rfl qK, qD⟩, fun U hU hW => ⟨rfl, by rw [hU], by rw [hU]; exact hPc, ZK.warm zN_ok hW hZ, hDc.weaken (fun _ _ _ _ => trivial)⟩⟩ rfl rfl hl.1 rfl (lv_room (Nat.le_of_ble_eq_true rfl)) dX9_init_6 h_2) hS (fun q _ h => hFc q h) hFc (fun u ra_1 t H1 locs ht hvm hw_1 hB hz1 hk1 hS => ?_)
  obtain ⟨hP1, hD1⟩ := hB
  rw [ht] at hP1
  try dsimp only at hw_1
  obtain ⟨hP, hD⟩ := va_join (wr := [(h0, .inr (9, zf 8 f0))]) (w1 := []) hP hD [] [0] rfl rfl (by decide) (by decide) hk1 hFc hP1 hD1
  generalize H1 = H at hP hS ⊢
  have hP : va_P D vwCl [(h0, .inr (9, zf 8 f0))] H := hP
  have hD : va_D A [(h0, .inr (9, zf 8 f0))] := hD
  refine W.widen (k := 1601) (n := 91200) (by omega) (by omega) ?_
  refine z_putF (T := TX9) (N := 8) (ci := 9) hx hb hts (zi_9 _) hown hK hP hD hS 0 rfl rfl 0 (by decide) (hts _ (zm_117 _)) rfl rfl hin rfl rfl rfl dX9_init_9 (fun H locs f_3 ek_4 ok_5 hP hD hS => ?_)
  have hP : va_P D vwCl [(h0, .inr (9, zf 8 f_3))] H := hP
  have hD : va_D A [(h0, .inr (9, zf 8 f_3))] := hD
  refine lv_aload_n hx hb dX9_init_12 rfl (lv_at hl 0 rfl) ?_
  refine lv_iload_n hx hb dX9_init_13 rfl (lv_at hl 1 rfl) ?_
  refine lv_sipush (v := 250) hx hb dX9_init_14 (by decide) ?_
  have hPc := hP.sub (ws' := []) [] rfl
  have hDc := hD.sub (ws' := []) [] (by decide) rfl
  have hFc := va_free (wc := []) hD hS hA [] rfl
  have h_7 : 1601 + 1601 ≤ 3204 ∧ 91200 + 203200 ≤ 296000 := by omega
  refine va_callr (va_runSN (As := [.int 800, .int 250]) (rest := [.ref h0]) ⟨hx, hb, hml, hown, hts⟩ (c_Row_many l D x 800 250 H.size (by decide) (by decide)) ⟨va_cnB 2 hts (zgood (zm_12 _) rfl) rfl rfl rfl (hZ.2.1 _ zn_12) (hts _ (zm_7 _)) ⟨by decide, by decide, by decide +kernel⟩ ⟨Nat.le_of_ble_eq_true rfl, Nat.le_of_ble_eq_true rfl⟩, hts _ (zm_13 _), trivial⟩ ⟨fun a U g mk q => by obtain ⟨q0, q1, qP, qK, qD⟩ := q; exact ⟨q0, q1, qP, ZK.calling (u := U) zN_ok rfl qK, qD⟩, fun U hU hW => ⟨rfl, by rw [hU], by rw [hU]; exact hPc, ZK.warm zN_ok hW hZ, hDc.weaken (fun _ _ _ _ => trivial)⟩⟩ rfl rfl hl.1 rfl (lv_room (Nat.le_of_ble_eq_true rfl)) dX9_init_17 h_7) hS (fun q _ h => hFc q h) hFc (fun u ra_6 t H1 locs ht hvm hw_6 hB hz1 hk1 hS => ?_)
  obtain ⟨hP1, hD1⟩ := hB
  rw [ht] at hP1
  try dsimp only at hw_6
  obtain ⟨hP, hD⟩ := va_join (wr := [(h0, .inr (9, zf 8 f_3))]) (w1 := []) hP hD [] [0] rfl rfl (by decide) (by decide) hk1 hFc hP1 hD1
  generalize H1 = H at hP hS ⊢
  have hP : va_P D vwCl [(h0, .inr (9, zf 8 f_3))] H := hP
  have hD : va_D A [(h0, .inr (9, zf 8 f_3))] := hD
  refine W.widen (k := 3202) (n := 294400) (by omega) (by omega) ?_
  refine z_putF (T := TX9) (N := 8) (ci := 9) hx hb hts (zi_9 _) hown hK hP hD hS 0 rfl rfl 1 (by decide) (hts _ (zm_118 _)) rfl rfl hin rfl rfl rfl dX9_init_20 (fun H locs f_8 ek_9 ok_10 hP hD hS => ?_)
  have hP : va_P D vwCl [(h0, .inr (9, zf 8 f_8))] H := hP
  have hD : va_D A [(h0, .inr (9, zf 8 f_8))] := hD
  refine lv_aload_n hx hb dX9_init_23 rfl (lv_at hl 0 rfl) ?_
  refine lv_iload_n hx hb dX9_init_24 rfl (lv_at hl 1 rfl) ?_
  have h_13 : 3202 + 1 ≤ 3204 := by omega
  have h_14 : 294400 + 800 ≤ 296000 := by omega
  refine z_newa (atype := .int) (ty := .int) (a0 := (800, .inl (fun _ => 0))) hx hb (hts _ (zm_2 _)) rfl hK 0 rfl hP hD hS hA (fun cA => rfl) (by decide) (by decide) (by decide) h_13 h_14 dX9_init_25 (fun q_11 H hP hD hS => ?_)
  have hP : va_P D vwCl [(h0, .inr (9, zf 8 f_8)), (q_11, .inl (x 0, 800, .inl (fun _ => 0)))] H := hP
  have hD : va_D A [(h0, .inr (9, zf 8 f_8)), (q_11, .inl (x 0, 800, .inl (fun _ => 0)))] := hD
  refine W.widen (k := 3203) (n := 295200) (by omega) (by omega) ?_
  refine z_putF (T := TX9) (N := 8) (ci := 9) hx hb hts (zi_9 _) hown hK hP hD hS 0 rfl rfl 2 (by decide) (hts _ (zm_119 _)) rfl rfl hin rfl rfl rfl dX9_init_27 (fun H locs f_15 ek_16 ok_17 hP hD hS => ?_)
  have hP : va_P D vwCl [(h0, .inr (9, zf 8 f_15)), (q_11, .inl (x 0, 800, .inl (fun _ => 0)))] H := hP
  have hD : va_D A [(h0, .inr (9, zf 8 f_15)), (q_11, .inl (x 0, 800, .inl (fun _ => 0)))] := hD
  refine lv_aload_n hx hb dX9_init_30 rfl (lv_at hl 0 rfl) ?_
  refine lv_iload_n hx hb dX9_init_31 rfl (lv_at hl 1 rfl) ?_
  have h_20 : 3203 + 1 ≤ 3204 := by omega
  have h_21 : 295200 + 800 ≤ 296000 := by omega
  refine z_newa (atype := .int) (ty := .int) (a0 := (800, .inl (fun _ => 0))) hx hb (hts _ (zm_2 _)) rfl hK 0 rfl hP hD hS hA (fun cA => rfl) (by decide) (by decide) (by decide) h_20 h_21 dX9_init_32 (fun q_18 H hP hD hS => ?_)
  have hP : va_P D vwCl [(h0, .inr (9, zf 8 f_15)), (q_11, .inl (x 0, 800, .inl (fun _ => 0))), (q_18, .inl (x 0, 800, .inl (fun _ => 0)))] H := hP
  have hD : va_D A [(h0, .inr (9, zf 8 f_15)), (q_11, .inl (x 0, 800, .inl (fun _ => 0))), (q_18, .inl (x 0, 800, .inl (fun _ => 0)))] := hD
  refine W.widen (k := 3204) (n := 296000) (by omega) (by omega) ?_
  refine z_putF (T := TX9) (N := 8) (ci := 9) hx hb hts (zi_9 _) hown hK hP hD hS 0 rfl rfl 3 (by decide) (hts _ (zm_120 _)) rfl rfl hin rfl rfl rfl dX9_init_34 (fun H locs f_22 ek_23 ok_24 hP hD hS => ?_)
  have hP : va_P D vwCl [(h0, .inr (9, zf 8 f_22)), (q_11, .inl (x 0, 800, .inl (fun _ => 0))), (q_18, .inl (x 0, 800, .inl (fun _ => 0)))] H := hP
  have hD : va_D A [(h0, .inr (9, zf 8 f_22)), (q_11, .inl (x 0, 800, .inl (fun _ => 0))), (q_18, .inl (x 0, 800, .inl (fun _ => 0)))] := hD
  refine lv_aload_n hx hb dX9_init_37 rfl (lv_at hl 0 rfl) ?_
  refine lv_iload_n hx hb dX9_init_38 rfl (lv_at hl 2 rfl) ?_
  refine z_putF (T := TX9) (N := 8) (ci := 9) hx hb hts (zi_9 _) hown hK hP hD hS 0 rfl rfl 4 (by decide) (hts _ (zm_121 _)) rfl rfl hin rfl (by decide) rfl dX9_init_39 (fun H locs f_25 ek_26 ok_27 hP hD hS => ?_)
  have hP : va_P D vwCl [(h0, .inr (9, zf 8 f_25)), (q_11, .inl (x 0, 800, .inl (fun _ => 0))), (q_18, .inl (x 0, 800, .inl (fun _ => 0)))] H := hP
  have hD : va_D A [(h0, .inr (9, zf 8 f_25)), (q_11, .inl (x 0, 800, .inl (fun _ => 0))), (q_18, .inl (x 0, 800, .inl (fun _ => 0)))] := hD
  refine lv_aload_n hx hb dX9_init_42 rfl (lv_at hl 0 rfl) ?_
  have hPc := hP.sub (ws' := [(h0, .inr (9, zf 8 f_25)), (q_11, .inl (x 0, 800, .inl (fun _ => 0)))]) [0, 1] rfl
  have hDc := hD.sub (ws' := [(h0, .inr (9, zf 8 f_25)), (q_11, .inl (x 0, 800, .inl (fun _ => 0)))]) [0, 1] (by decide) rfl
  have hFc := va_free (wc := [(h0, .inr (9, zf 8 f_25)), (q_11, .inl (x 0, 800, .inl (fun _ => 0)))]) hD hS hA [0, 1] rfl
  have h_30 : 3204 + 0 ≤ 3204 ∧ 296000 + 0 ≤ 296000 := by omega
  refine va_callv (va_runV (As := []) (rest := []) ⟨hx, hb, hml, hown, hts⟩ (c_Tree_clear l D x 800 h0 f_25 q_11 ((fun _ => 0)) H.size ((ok_27 2 (by decide)).trans ((ok_24 2 (by decide)).trans ek_16)) (by decide)) ⟨callB_of 0 hts (zgood (zm_123 _) rfl) rfl rfl rfl (hts _ (zm_114 _)) (hts _ (zm_122 _)) ⟨by decide, by decide, by decide +kernel⟩ ⟨Nat.le_of_ble_eq_true rfl, Nat.le_of_ble_eq_true rfl⟩, hts _ (zm_124 _), hts _ (zm_125 _)⟩ ⟨fun a U g mk q => by obtain ⟨q0, q1, qP, qK, qD⟩ := q; exact ⟨q0, q1, qP, ZK.calling (u := U) zN_ok rfl qK, qD⟩, va_recv hK hPc (ci := 9) (q0 := 0) rfl rfl, fun U hU hW => ⟨rfl, by rw [hU], by rw [hU]; exact hPc, ZK.warm zN_ok hW hZ, hDc.weaken (fun _ _ _ _ => trivial)⟩⟩ rfl rfl hl.1 rfl (lv_room (Nat.le_of_ble_eq_true rfl)) dX9_init_43 h_30) hS (fun q _ h => hFc q h) hFc (fun u t H1 locs ht hvm hw_29 hB hz1 hk1 hS => ?_)
  obtain ⟨c0_28, c1_29⟩ := u
  obtain ⟨hP1, hD1⟩ := hB
  rw [ht] at hP1
  try dsimp only at hw_29
  obtain ⟨hP, hD⟩ := va_join (wr := [(q_18, .inl (x 0, 800, .inl (fun _ => 0)))]) (w1 := [(h0, .inr (9, zf 8 c0_28)), (q_11, .inl (x 0, 800, .inl c1_29))]) hP hD [0, 1] [2] rfl rfl (by decide) (by decide) hk1 hFc hP1 hD1
  generalize H1 = H at hP hS ⊢
  have hP : va_P D vwCl [(q_18, .inl (x 0, 800, .inl (fun _ => 0))), (h0, .inr (9, zf 8 c0_28)), (q_11, .inl (x 0, 800, .inl c1_29))] H := hP
  have hD : va_D A [(q_18, .inl (x 0, 800, .inl (fun _ => 0))), (h0, .inr (9, zf 8 c0_28)), (q_11, .inl (x 0, 800, .inl c1_29))] := hD
  refine W.widen (k := 3204) (n := 296000) (by omega) (by omega) ?_
  have hP9 := hP.sub (ws' := [(h0, .inr (9, zf 8 c0_28))]) [1] rfl
  have hD9 := hD.sub (ws' := [(h0, .inr (9, zf 8 c0_28))]) [1] (by decide) rfl
  exact W.vret hx hb hr (fun t ht hW => ⟨⟨c0_28, rfl, hw_29.1, ⟨by rw [ht]; exact hP9, hD9⟩⟩, hS.F ht⟩) hS.2.2 dX9_init_46

set_option maxHeartbeats 8000000 in
set_option maxRecDepth 100000 in
/-- Tree(500, false) -/
theorem c_Tree_initL (l : Launch) (D : va_G) (x : Nat → ClassId) (h0 : Nat) (f0 : Nat → Value) (sz : Nat) (h0_5 : f0 5 = .int 0) (h0_6 : f0 6 = .int 0) (h0_7 : f0 7 = .int 0) : Met l yX9_init (.code yX9_init cX9_init 3 none :: zW) ({ frames := 3, cells := (2004), slots := (185000), locals := 56 }) (va_Pc [.ref h0, .int 500, .int 0] (fun U => U.heap.size = sz ∧ va_P D vwCl [(h0, .inr (9, zf 8 f0))] U.heap ∧ zK x D U ∧ va_D (fun _ => True) [(h0, .inr (9, zf 8 f0))])) (va_Qv (fun u : Nat → Value => match u with | c0 => c0 5 = .int 0) (fun u t => match u with | c0 => zB D vwCl (va_A [(h0, .inr (9, zf 8 f0))] sz) [(h0, .inr (9, zf 8 c0))] t) (va_A [(h0, .inr (9, zf 8 f0))] sz)) (2004) (185000) (va_A [(h0, .inr (9, zf 8 f0))] sz) := by
  refine Met.ofW (cc := cX9_init) (maxL := 3) (ret := none) (by decide) rfl ?_
  intro p e s m args below meth c s₁ B hml hv
  obtain ⟨rfl, hsz, hP, hZ, hD0⟩ := hv
  have hK := hZ.1
  have hx := B.exec
  have hb := B.bytes
  have hr := B.returns
  have hts := atoms_spec (ws := .code yX9_init cX9_init 3 none :: zW) B.pre
  have hown : s.vm.findClass RX9 = some m.cls := findClass_of_methodNamed B.named
  have hlocks := B.notSynchronized
  have hin : meth.name = "<init>" := (name_of_methodNamed B.named B.method).1
  subst hsz
  have hD := hD0.self (sz := s.heap.size)
  generalize hAe : va_A [(h0, .inr (9, zf 8 f0))] s.heap.size = A at hD ⊢
  have hA : ∀ q : Nat, s.heap.size ≤ q → A q := fun q h => by rw [← hAe]; exact Or.inr h
  have hS : va_S A s.heap s.heap [] := va_S.rf
  have hP : va_P D vwCl [(h0, .inr (9, zf 8 f0))] s.heap := hP
  have hl := lv_entry ([.ref h0, .int 500, .int 0]) (n := 3) (Nat.le_of_ble_eq_true rfl)
  rw [lg_entry_eq]
  generalize (lg_sl ([.ref h0, .int 500, .int 0]) ++ List.replicate (3 - (lg_sl ([.ref h0, .int 500, .int 0])).length) Slot.unset).toArray = ls at hl ⊢
  have hl : lv_has ls 3 [(0, .ref h0), (1, .int 500), (2, .int 0)] := hl
  refine lv_aload_n hx hb dX9_init_0 rfl (lv_at hl 0 rfl) ?_
  refine W.objInit hx hb hown (hts _ (zm_116 _)) (hts _ (zm_0 _)) (hts _ (zm_1 _)) rfl (by rw [hml]; exact hl.1) rfl dX9_init_1 (Nat.le_of_ble_eq_true rfl) (Nat.le_of_ble_eq_true rfl) ?_
  refine W.eq (g2 := F0 m 4 ls []) rfl ?_
  refine lv_aload_n hx hb dX9_init_4 rfl (lv_at hl 0 rfl) ?_
  refine lv_iload_n hx hb dX9_init_5 rfl (lv_at hl 1 rfl) ?_
  have hPc := hP.sub (ws' := []) [] rfl
  have hDc := hD.sub (ws' := []) [] (by decide) rfl
  have hFc := va_free (wc := []) hD hS hA [] rfl
  have h_2 : 0 + 1001 ≤ 2004 ∧ 0 + 57000 ≤ 185000 := by omega
  refine va_callr (va_runSN (As := [.int 500]) (rest := [.ref h0]) ⟨hx, hb, hml, hown, hts⟩ (c_Node_many l D x 500 s.heap.size (by decide)) ⟨va_cnB 1 hts (zgood (zm_22 _) rfl) rfl rfl rfl (hZ.2.1 _ zn_11) (hts _ (zm_17 _)) ⟨by decide, by decide, by decide +kernel⟩ ⟨Nat.le_of_ble_eq_true rfl, Nat.le_of_ble_eq_true rfl⟩, hts _ (zm_23 _), trivial⟩ ⟨fun a U g mk q => by obtain ⟨q0, q1, qP, qK, qD⟩ := q; exact ⟨q0, q1, qP, ZK.calling (u := U) zN_ok rfl qK, qD⟩, fun U hU hW => ⟨rfl, by rw [hU], by rw [hU]; exact hPc, ZK.warm zN_ok hW hZ, hDc.weaken (fun _ _ _ _ => trivial)⟩⟩ rfl rfl hl.1 rfl (lv_room (Nat.le_of_ble_eq_true rfl)) dX9_init_6 h_2) hS (fun q _ h => hFc q h) hFc (fun u ra_1 t H1 locs ht hvm hw_1 hB hz1 hk1 hS => ?_)
  obtain ⟨hP1, hD1⟩ := hB
  rw [ht] at hP1
  try dsimp only at hw_1
  obtain ⟨hP, hD⟩ := va_join (wr := [(h0, .inr (9, zf 8 f0))]) (w1 := []) hP hD [] [0] rfl rfl (by decide) (by decide) hk1 hFc hP1 hD1
  generalize H1 = H at hP hS ⊢
  have hP : va_P D vwCl [(h0, .inr (9, zf 8 f0))] H := hP
  have hD : va_D A [(h0, .inr (9, zf 8 f0))] := hD
  refine W.widen (k := 1001) (n := 57000) (by omega) (by omega) ?_
  refine z_putF (T := TX9) (N := 8) (ci := 9) hx hb hts (zi_9 _) hown hK hP hD hS 0 rfl rfl 0 (by decide) (hts _ (zm_117 _)) rfl rfl hin rfl rfl rfl dX9_init_9 (fun H locs f_3 ek_4 ok_5 hP hD hS => ?_)
  have hP : va_P D vwCl [(h0, .inr (9, zf 8 f_3))] H := hP
  have hD : va_D A [(h0, .inr (9, zf 8 f_3))] := hD
  refine lv_aload_n hx hb dX9_init_12 rfl (lv_at hl 0 rfl) ?_
  refine lv_iload_n hx hb dX9_init_13 rfl (lv_at hl 1 rfl) ?_
  refine lv_sipush (v := 250) hx hb dX9_init_14 (by decide) ?_
  have hPc := hP.sub (ws' := []) [] rfl
  have hDc := hD.sub (ws' := []) [] (by decide) rfl
  have hFc := va_free (wc := []) hD hS hA [] rfl
  have h_7 : 1001 + 1001 ≤ 2004 ∧ 57000 + 127000 ≤ 185000 := by omega
  refine va_callr (va_runSN (As := [.int 500, .int 250]) (rest := [.ref h0]) ⟨hx, hb, hml, hown, hts⟩ (c_Row_many l D x 500 250 H.size (by decide) (by decide)) ⟨va_cnB 2 hts (zgood (zm_12 _) rfl) rfl rfl rfl (hZ.2.1 _ zn_12) (hts _ (zm_7 _)) ⟨by decide, by decide, by decide +kernel⟩ ⟨Nat.le_of_ble_eq_true rfl, Nat.le_of_ble_eq_true rfl⟩, hts _ (zm_13 _), trivial⟩ ⟨fun a U g mk q => by obtain ⟨q0, q1, qP, qK, qD⟩ := q; exact ⟨q0, q1, qP, ZK.calling (u := U) zN_ok rfl qK, qD⟩, fun U hU hW => ⟨rfl, by rw [hU], by rw [hU]; exact hPc, ZK.warm zN_ok hW hZ, hDc.weaken (fun _ _ _ _ => trivial)⟩⟩ rfl rfl hl.1 rfl (lv_room (Nat.le_of_ble_eq_true rfl)) dX9_init_17 h_7) hS (fun q _ h => hFc q h) hFc (fun u ra_6 t H1 locs ht hvm hw_6 hB hz1 hk1 hS => ?_)
  obtain ⟨hP1, hD1⟩ := hB
  rw [ht] at hP1
  try dsimp only at hw_6
  obtain ⟨hP, hD⟩ := va_join (wr := [(h0, .inr (9, zf 8 f_3))]) (w1 := []) hP hD [] [0] rfl rfl (by decide) (by decide) hk1 hFc hP1 hD1
  generalize H1 = H at hP hS ⊢
  have hP : va_P D vwCl [(h0, .inr (9, zf 8 f_3))] H := hP
  have hD : va_D A [(h0, .inr (9, zf 8 f_3))] := hD
  refine W.widen (k := 2002) (n := 184000) (by omega) (by omega) ?_
  refine z_putF (T := TX9) (N := 8) (ci := 9) hx hb hts (zi_9 _) hown hK hP hD hS 0 rfl rfl 1 (by decide) (hts _ (zm_118 _)) rfl rfl hin rfl rfl rfl dX9_init_20 (fun H locs f_8 ek_9 ok_10 hP hD hS => ?_)
  have hP : va_P D vwCl [(h0, .inr (9, zf 8 f_8))] H := hP
  have hD : va_D A [(h0, .inr (9, zf 8 f_8))] := hD
  refine lv_aload_n hx hb dX9_init_23 rfl (lv_at hl 0 rfl) ?_
  refine lv_iload_n hx hb dX9_init_24 rfl (lv_at hl 1 rfl) ?_
  have h_13 : 2002 + 1 ≤ 2004 := by omega
  have h_14 : 184000 + 500 ≤ 185000 := by omega
  refine z_newa (atype := .int) (ty := .int) (a0 := (500, .inl (fun _ => 0))) hx hb (hts _ (zm_2 _)) rfl hK 0 rfl hP hD hS hA (fun cA => rfl) (by decide) (by decide) (by decide) h_13 h_14 dX9_init_25 (fun q_11 H hP hD hS => ?_)
  have hP : va_P D vwCl [(h0, .inr (9, zf 8 f_8)), (q_11, .inl (x 0, 500, .inl (fun _ => 0)))] H := hP
  have hD : va_D A [(h0, .inr (9, zf 8 f_8)), (q_11, .inl (x 0, 500, .inl (fun _ => 0)))] := hD
  refine W.widen (k := 2003) (n := 184500) (by omega) (by omega) ?_
  refine z_putF (T := TX9) (N := 8) (ci := 9) hx hb hts (zi_9 _) hown hK hP hD hS 0 rfl rfl 2 (by decide) (hts _ (zm_119 _)) rfl rfl hin rfl rfl rfl dX9_init_27 (fun H locs f_15 ek_16 ok_17 hP hD hS => ?_)
  have hP : va_P D vwCl [(h0, .inr (9, zf 8 f_15)), (q_11, .inl (x 0, 500, .inl (fun _ => 0)))] H := hP
  have hD : va_D A [(h0, .inr (9, zf 8 f_15)), (q_11, .inl (x 0, 500, .inl (fun _ => 0)))] := hD
  refine lv_aload_n hx hb dX9_init_30 rfl (lv_at hl 0 rfl) ?_
  refine lv_iload_n hx hb dX9_init_31 rfl (lv_at hl 1 rfl) ?_
  have h_20 : 2003 + 1 ≤ 2004 := by omega
  have h_21 : 184500 + 500 ≤ 185000 := by omega
  refine z_newa (atype := .int) (ty := .int) (a0 := (500, .inl (fun _ => 0))) hx hb (hts _ (zm_2 _)) rfl hK 0 rfl hP hD hS hA (fun cA => rfl) (by decide) (by decide) (by decide) h_20 h_21 dX9_init_32 (fun q_18 H hP hD hS => ?_)
  have hP : va_P D vwCl [(h0, .inr (9, zf 8 f_15)), (q_11, .inl (x 0, 500, .inl (fun _ => 0))), (q_18, .inl (x 0, 500, .inl (fun _ => 0)))] H := hP
  have hD : va_D A [(h0, .inr (9, zf 8 f_15)), (q_11, .inl (x 0, 500, .inl (fun _ => 0))), (q_18, .inl (x 0, 500, .inl (fun _ => 0)))] := hD
  refine W.widen (k := 2004) (n := 185000) (by omega) (by omega) ?_
  refine z_putF (T := TX9) (N := 8) (ci := 9) hx hb hts (zi_9 _) hown hK hP hD hS 0 rfl rfl 3 (by decide) (hts _ (zm_120 _)) rfl rfl hin rfl rfl rfl dX9_init_34 (fun H locs f_22 ek_23 ok_24 hP hD hS => ?_)
  have hP : va_P D vwCl [(h0, .inr (9, zf 8 f_22)), (q_11, .inl (x 0, 500, .inl (fun _ => 0))), (q_18, .inl (x 0, 500, .inl (fun _ => 0)))] H := hP
  have hD : va_D A [(h0, .inr (9, zf 8 f_22)), (q_11, .inl (x 0, 500, .inl (fun _ => 0))), (q_18, .inl (x 0, 500, .inl (fun _ => 0)))] := hD
  refine lv_aload_n hx hb dX9_init_37 rfl (lv_at hl 0 rfl) ?_
  refine lv_iload_n hx hb dX9_init_38 rfl (lv_at hl 2 rfl) ?_
  refine z_putF (T := TX9) (N := 8) (ci := 9) hx hb hts (zi_9 _) hown hK hP hD hS 0 rfl rfl 4 (by decide) (hts _ (zm_121 _)) rfl rfl hin rfl (by decide) rfl dX9_init_39 (fun H locs f_25 ek_26 ok_27 hP hD hS => ?_)
  have hP : va_P D vwCl [(h0, .inr (9, zf 8 f_25)), (q_11, .inl (x 0, 500, .inl (fun _ => 0))), (q_18, .inl (x 0, 500, .inl (fun _ => 0)))] H := hP
  have hD : va_D A [(h0, .inr (9, zf 8 f_25)), (q_11, .inl (x 0, 500, .inl (fun _ => 0))), (q_18, .inl (x 0, 500, .inl (fun _ => 0)))] := hD
  refine lv_aload_n hx hb dX9_init_42 rfl (lv_at hl 0 rfl) ?_
  have hPc := hP.sub (ws' := [(h0, .inr (9, zf 8 f_25)), (q_11, .inl (x 0, 500, .inl (fun _ => 0)))]) [0, 1] rfl
  have hDc := hD.sub (ws' := [(h0, .inr (9, zf 8 f_25)), (q_11, .inl (x 0, 500, .inl (fun _ => 0)))]) [0, 1] (by decide) rfl
  have hFc := va_free (wc := [(h0, .inr (9, zf 8 f_25)), (q_11, .inl (x 0, 500, .inl (fun _ => 0)))]) hD hS hA [0, 1] rfl
  have h_30 : 2004 + 0 ≤ 2004 ∧ 185000 + 0 ≤ 185000 := by omega
  refine va_callv (va_runV (As := []) (rest := []) ⟨hx, hb, hml, hown, hts⟩ (c_Tree_clear l D x 500 h0 f_25 q_11 ((fun _ => 0)) H.size ((ok_27 2 (by decide)).trans ((ok_24 2 (by decide)).trans ek_16)) (by decide)) ⟨callB_of 0 hts (zgood (zm_123 _) rfl) rfl rfl rfl (hts _ (zm_114 _)) (hts _ (zm_122 _)) ⟨by decide, by decide, by decide +kernel⟩ ⟨Nat.le_of_ble_eq_true rfl, Nat.le_of_ble_eq_true rfl⟩, hts _ (zm_124 _), hts _ (zm_125 _)⟩ ⟨fun a U g mk q => by obtain ⟨q0, q1, qP, qK, qD⟩ := q; exact ⟨q0, q1, qP, ZK.calling (u := U) zN_ok rfl qK, qD⟩, va_recv hK hPc (ci := 9) (q0 := 0) rfl rfl, fun U hU hW => ⟨rfl, by rw [hU], by rw [hU]; exact hPc, ZK.warm zN_ok hW hZ, hDc.weaken (fun _ _ _ _ => trivial)⟩⟩ rfl rfl hl.1 rfl (lv_room (Nat.le_of_ble_eq_true rfl)) dX9_init_43 h_30) hS (fun q _ h => hFc q h) hFc (fun u t H1 locs ht hvm hw_29 hB hz1 hk1 hS => ?_)
  obtain ⟨c0_28, c1_29⟩ := u
  obtain ⟨hP1, hD1⟩ := hB
  rw [ht] at hP1
  try dsimp only at hw_29
  obtain ⟨hP, hD⟩ := va_join (wr := [(q_18, .inl (x 0, 500, .inl (fun _ => 0)))]) (w1 := [(h0, .inr (9, zf 8 c0_28)), (q_11, .inl (x 0, 500, .inl c1_29))]) hP hD [0, 1] [2] rfl rfl (by decide) (by decide) hk1 hFc hP1 hD1
  generalize H1 = H at hP hS ⊢
  have hP : va_P D vwCl [(q_18, .inl (x 0, 500, .inl (fun _ => 0))), (h0, .inr (9, zf 8 c0_28)), (q_11, .inl (x 0, 500, .inl c1_29))] H := hP
  have hD : va_D A [(q_18, .inl (x 0, 500, .inl (fun _ => 0))), (h0, .inr (9, zf 8 c0_28)), (q_11, .inl (x 0, 500, .inl c1_29))] := hD
  refine W.widen (k := 2004) (n := 185000) (by omega) (by omega) ?_
  have hP9 := hP.sub (ws' := [(h0, .inr (9, zf 8 c0_28))]) [1] rfl
  have hD9 := hD.sub (ws' := [(h0, .inr (9, zf 8 c0_28))]) [1] (by decide) rfl
  exact W.vret hx hb hr (fun t ht hW => ⟨⟨c0_28, rfl, hw_29.1, ⟨by rw [ht]; exact hP9, hD9⟩⟩, hS.F ht⟩) hS.2.2 dX9_init_46
