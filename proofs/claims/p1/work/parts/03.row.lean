theorem dX6_init_0 : decode cX6_init 0 = .ok (.aload_n 0, 1) := by decide +kernel
theorem dX6_init_1 : decode cX6_init 1 = .ok (.invokespecial 3, 3) := by decide +kernel
theorem dX6_init_4 : decode cX6_init 4 = .ok (.aload_n 0, 1) := by decide +kernel
theorem dX6_init_5 : decode cX6_init 5 = .ok (.iload_n 1, 1) := by decide +kernel
theorem dX6_init_6 : decode cX6_init 6 = .ok (.newarray .byte, 2) := by decide +kernel
theorem dX6_init_8 : decode cX6_init 8 = .ok (.putfield 9, 3) := by decide +kernel
theorem dX6_init_11 : decode cX6_init 11 = .ok (.return_, 1) := by decide +kernel
theorem dX6_many_7 : decode cX6_many 7 = .ok (.iload_n 3, 1) := by decide +kernel
theorem dX6_many_8 : decode cX6_many 8 = .ok (.aload_n 2, 1) := by decide +kernel
theorem dX6_many_9 : decode cX6_many 9 = .ok (.arraylength, 1) := by decide +kernel
theorem dX6_many_10 : decode cX6_many 10 = .ok (.if_icmp .ge 20, 3) := by decide +kernel
theorem dX6_many_13 : decode cX6_many 13 = .ok (.aload_n 2, 1) := by decide +kernel
theorem dX6_many_14 : decode cX6_many 14 = .ok (.iload_n 3, 1) := by decide +kernel
theorem dX6_many_15 : decode cX6_many 15 = .ok (.new 10, 3) := by decide +kernel
theorem dX6_many_18 : decode cX6_many 18 = .ok (.dup, 1) := by decide +kernel
theorem dX6_many_19 : decode cX6_many 19 = .ok (.iload_n 1, 1) := by decide +kernel
theorem dX6_many_20 : decode cX6_many 20 = .ok (.invokespecial 15, 3) := by decide +kernel
theorem dX6_many_23 : decode cX6_many 23 = .ok (.aastore, 1) := by decide +kernel
theorem dX6_many_24 : decode cX6_many 24 = .ok (.iinc 3 1, 3) := by decide +kernel
theorem dX6_many_27 : decode cX6_many 27 = .ok (.goto (-20), 3) := by decide +kernel
theorem dX6_many_0 : decode cX6_many 0 = .ok (.iload_n 0, 1) := by decide +kernel
theorem dX6_many_1 : decode cX6_many 1 = .ok (.anewarray 10, 3) := by decide +kernel
theorem dX6_many_4 : decode cX6_many 4 = .ok (.astore_n 2, 1) := by decide +kernel
theorem dX6_many_5 : decode cX6_many 5 = .ok (.iconst 0, 1) := by decide +kernel
theorem dX6_many_6 : decode cX6_many 6 = .ok (.istore_n 3, 1) := by decide +kernel
theorem dX6_many_30 : decode cX6_many 30 = .ok (.aload_n 2, 1) := by decide +kernel
theorem dX6_many_31 : decode cX6_many 31 = .ok (.areturn, 1) := by decide +kernel
theorem dX3_init_0 : decode cX3_init 0 = .ok (.aload_n 0, 1) := by decide +kernel
theorem dX3_init_1 : decode cX3_init 1 = .ok (.invokespecial 3, 3) := by decide +kernel
theorem dX3_init_4 : decode cX3_init 4 = .ok (.aload_n 0, 1) := by decide +kernel
theorem dX3_init_5 : decode cX3_init 5 = .ok (.bipush 104, 2) := by decide +kernel
theorem dX3_init_7 : decode cX3_init 7 = .ok (.newarray .byte, 2) := by decide +kernel
theorem dX3_init_9 : decode cX3_init 9 = .ok (.putfield 9, 3) := by decide +kernel
theorem dX3_init_12 : decode cX3_init 12 = .ok (.return_, 1) := by decide +kernel
theorem dX3_many_7 : decode cX3_many 7 = .ok (.iload_n 2, 1) := by decide +kernel
theorem dX3_many_8 : decode cX3_many 8 = .ok (.aload_n 1, 1) := by decide +kernel
theorem dX3_many_9 : decode cX3_many 9 = .ok (.arraylength, 1) := by decide +kernel
theorem dX3_many_10 : decode cX3_many 10 = .ok (.if_icmp .ge 19, 3) := by decide +kernel
theorem dX3_many_13 : decode cX3_many 13 = .ok (.aload_n 1, 1) := by decide +kernel
theorem dX3_many_14 : decode cX3_many 14 = .ok (.iload_n 2, 1) := by decide +kernel
theorem dX3_many_15 : decode cX3_many 15 = .ok (.new 10, 3) := by decide +kernel
theorem dX3_many_18 : decode cX3_many 18 = .ok (.dup, 1) := by decide +kernel
theorem dX3_many_19 : decode cX3_many 19 = .ok (.invokespecial 15, 3) := by decide +kernel
theorem dX3_many_22 : decode cX3_many 22 = .ok (.aastore, 1) := by decide +kernel
theorem dX3_many_23 : decode cX3_many 23 = .ok (.iinc 2 1, 3) := by decide +kernel
theorem dX3_many_26 : decode cX3_many 26 = .ok (.goto (-19), 3) := by decide +kernel
theorem dX3_many_0 : decode cX3_many 0 = .ok (.iload_n 0, 1) := by decide +kernel
theorem dX3_many_1 : decode cX3_many 1 = .ok (.anewarray 10, 3) := by decide +kernel
theorem dX3_many_4 : decode cX3_many 4 = .ok (.astore_n 1, 1) := by decide +kernel
theorem dX3_many_5 : decode cX3_many 5 = .ok (.iconst 0, 1) := by decide +kernel
theorem dX3_many_6 : decode cX3_many 6 = .ok (.istore_n 2, 1) := by decide +kernel
theorem dX3_many_29 : decode cX3_many 29 = .ok (.aload_n 1, 1) := by decide +kernel
theorem dX3_many_30 : decode cX3_many 30 = .ok (.areturn, 1) := by decide +kernel
theorem dX4_init_0 : decode cX4_init 0 = .ok (.aload_n 0, 1) := by decide +kernel
theorem dX4_init_1 : decode cX4_init 1 = .ok (.invokespecial 3, 3) := by decide +kernel
theorem dX4_init_4 : decode cX4_init 4 = .ok (.aload_n 0, 1) := by decide +kernel
theorem dX4_init_5 : decode cX4_init 5 = .ok (.iload_n 1, 1) := by decide +kernel
theorem dX4_init_6 : decode cX4_init 6 = .ok (.newarray .int, 2) := by decide +kernel
theorem dX4_init_8 : decode cX4_init 8 = .ok (.putfield 9, 3) := by decide +kernel
theorem dX4_init_11 : decode cX4_init 11 = .ok (.return_, 1) := by decide +kernel
theorem dX4_many_7 : decode cX4_many 7 = .ok (.iload_n 2, 1) := by decide +kernel
theorem dX4_many_8 : decode cX4_many 8 = .ok (.aload_n 1, 1) := by decide +kernel
theorem dX4_many_9 : decode cX4_many 9 = .ok (.arraylength, 1) := by decide +kernel
theorem dX4_many_10 : decode cX4_many 10 = .ok (.if_icmp .ge 20, 3) := by decide +kernel
theorem dX4_many_13 : decode cX4_many 13 = .ok (.aload_n 1, 1) := by decide +kernel
theorem dX4_many_14 : decode cX4_many 14 = .ok (.iload_n 2, 1) := by decide +kernel
theorem dX4_many_15 : decode cX4_many 15 = .ok (.new 10, 3) := by decide +kernel
theorem dX4_many_18 : decode cX4_many 18 = .ok (.dup, 1) := by decide +kernel
theorem dX4_many_19 : decode cX4_many 19 = .ok (.iconst 0, 1) := by decide +kernel
theorem dX4_many_20 : decode cX4_many 20 = .ok (.invokespecial 15, 3) := by decide +kernel
theorem dX4_many_23 : decode cX4_many 23 = .ok (.aastore, 1) := by decide +kernel
theorem dX4_many_24 : decode cX4_many 24 = .ok (.iinc 2 1, 3) := by decide +kernel
theorem dX4_many_27 : decode cX4_many 27 = .ok (.goto (-20), 3) := by decide +kernel
theorem dX4_many_0 : decode cX4_many 0 = .ok (.iload_n 0, 1) := by decide +kernel
theorem dX4_many_1 : decode cX4_many 1 = .ok (.anewarray 10, 3) := by decide +kernel
theorem dX4_many_4 : decode cX4_many 4 = .ok (.astore_n 1, 1) := by decide +kernel
theorem dX4_many_5 : decode cX4_many 5 = .ok (.iconst 0, 1) := by decide +kernel
theorem dX4_many_6 : decode cX4_many 6 = .ok (.istore_n 2, 1) := by decide +kernel
theorem dX4_many_30 : decode cX4_many 30 = .ok (.aload_n 1, 1) := by decide +kernel
theorem dX4_many_31 : decode cX4_many 31 = .ok (.areturn, 1) := by decide +kernel
set_option maxHeartbeats 8000000 in
set_option maxRecDepth 100000 in
/-- Row(most) -/
theorem c_Row_init (l : Launch) (D : va_G) (x : Nat → ClassId) (n : Nat) (h0 : Nat) (f0 : Nat → Value) (sz : Nat) (h0_1 : f0 1 = .int 0) (h0_2 : f0 2 = .int 0) (hn : n ≤ 99200) : Met l yX6_init (.code yX6_init cX6_init 2 none :: zW) ({ frames := 1, cells := (1), slots := (n), locals := 12 }) (va_Pc [.ref h0, .int (nI n)] (fun U => U.heap.size = sz ∧ va_P D vwCl [(h0, .inr (6, zf 3 f0))] U.heap ∧ zK x D U ∧ va_D (fun _ => True) [(h0, .inr (6, zf 3 f0))])) (va_Qv (fun u : (Nat → Value) × (Nat) => match u with | (c0, a1) => c0 0 = .ref a1 ∧ c0 1 = .int 0 ∧ c0 2 = .int 0) (fun u t => match u with | (c0, a1) => zB D vwCl (va_A [(h0, .inr (6, zf 3 f0))] sz) [(h0, .inr (6, zf 3 c0)), (a1, .inl (x 1, n, .inl (fun _ => 0)))] t) (va_A [(h0, .inr (6, zf 3 f0))] sz)) (1) (n) (va_A [(h0, .inr (6, zf 3 f0))] sz) := by
  refine Met.ofW (cc := cX6_init) (maxL := 2) (ret := none) (by decide) rfl ?_
  intro p e s m args below meth c s₁ B hml hv
  obtain ⟨rfl, hsz, hP, hZ, hD0⟩ := hv
  have hK := hZ.1
  have hx := B.exec
  have hb := B.bytes
  have hr := B.returns
  have hts := atoms_spec (ws := .code yX6_init cX6_init 2 none :: zW) B.pre
  have hown : s.vm.findClass RX6 = some m.cls := findClass_of_methodNamed B.named
  have hlocks := B.notSynchronized
  have hin : meth.name = "<init>" := (name_of_methodNamed B.named B.method).1
  subst hsz
  have hD := hD0.self (sz := s.heap.size)
  generalize hAe : va_A [(h0, .inr (6, zf 3 f0))] s.heap.size = A at hD ⊢
  have hA : ∀ q : Nat, s.heap.size ≤ q → A q := fun q h => by rw [← hAe]; exact Or.inr h
  have hS : va_S A s.heap s.heap [] := va_S.rf
  have hP : va_P D vwCl [(h0, .inr (6, zf 3 f0))] s.heap := hP
  have hl := lv_entry ([.ref h0, .int (nI n)]) (n := 2) (Nat.le_of_ble_eq_true rfl)
  rw [lg_entry_eq]
  generalize (lg_sl ([.ref h0, .int (nI n)]) ++ List.replicate (2 - (lg_sl ([.ref h0, .int (nI n)])).length) Slot.unset).toArray = ls at hl ⊢
  have hl : lv_has ls 2 [(0, .ref h0), (1, .int (nI n))] := hl
  refine lv_aload_n hx hb dX6_init_0 rfl (lv_at hl 0 rfl) ?_
  refine W.objInit hx hb hown (hts _ (zm_9 _)) (hts _ (zm_0 _)) (hts _ (zm_1 _)) rfl (by rw [hml]; exact hl.1) rfl dX6_init_1 (Nat.le_of_ble_eq_true rfl) (Nat.le_of_ble_eq_true rfl) ?_
  refine W.eq (g2 := F0 m 4 ls []) rfl ?_
  refine lv_aload_n hx hb dX6_init_4 rfl (lv_at hl 0 rfl) ?_
  refine lv_iload_n hx hb dX6_init_5 rfl (lv_at hl 1 rfl) ?_
  have h_3 : 0 + 1 ≤ 1 := by omega
  have h_4 : 0 + n ≤ n := by omega
  refine z_newa (atype := .byte) (ty := .byte) (a0 := (n, .inl (fun _ => 0))) hx hb (hts _ (zm_3 _)) rfl hK 1 rfl hP hD hS hA (fun cA => rfl) (nI_pos (by omega)) (nI_clamp (by omega)) (by show n * 1 ≤ 536870912; omega) h_3 h_4 dX6_init_6 (fun q_1 H hP hD hS => ?_)
  have hP : va_P D vwCl [(h0, .inr (6, zf 3 f0)), (q_1, .inl (x 1, n, .inl (fun _ => 0)))] H := hP
  have hD : va_D A [(h0, .inr (6, zf 3 f0)), (q_1, .inl (x 1, n, .inl (fun _ => 0)))] := hD
  refine W.widen (k := 1) (n := n) (by omega) (by omega) ?_
  refine z_putF (T := TX6) (N := 3) (ci := 6) hx hb hts (zi_6 _) hown hK hP hD hS 0 rfl rfl 0 (by decide) (hts _ (zm_11 _)) rfl rfl hin rfl rfl rfl dX6_init_8 (fun H locs f_5 ek_6 ok_7 hP hD hS => ?_)
  have hP : va_P D vwCl [(h0, .inr (6, zf 3 f_5)), (q_1, .inl (x 1, n, .inl (fun _ => 0)))] H := hP
  have hD : va_D A [(h0, .inr (6, zf 3 f_5)), (q_1, .inl (x 1, n, .inl (fun _ => 0)))] := hD
  have hP9 := hP.sub (ws' := [(h0, .inr (6, zf 3 f_5)), (q_1, .inl (x 1, n, .inl (fun _ => 0)))]) [0, 1] rfl
  have hD9 := hD.sub (ws' := [(h0, .inr (6, zf 3 f_5)), (q_1, .inl (x 1, n, .inl (fun _ => 0)))]) [0, 1] (by decide) rfl
  exact W.vret hx hb hr (fun t ht hW => ⟨⟨(f_5, q_1), rfl, ⟨ek_6, ((ok_7 1 (by decide)).trans h0_1), ((ok_7 2 (by decide)).trans h0_2)⟩, ⟨by rw [ht]; exact hP9, hD9⟩⟩, hS.F ht⟩) hS.2.2 dX6_init_11

set_option maxHeartbeats 8000000 in
set_option maxRecDepth 100000 in
/-- the loop of Row.many(rows, most) -/
theorem lp_Row_many {p : Program} {l : Launch} {e : Env} {R : Room} {s : State} {m : MethodId} {args : Array Value} {below : List Frame} {meth : Method} {c : Code} {Q : State → Prop} {A : Nat → Prop} {D : va_G} {x : Nat → ClassId} (r q : Nat) (n : Nat) (hx : p.tables.exec = Jvm.exec) (hb : c.code = cX6_many) (hml : c.maxLocals = 4) (hts : ∀ w ∈ (.code yX6_many cX6_many 4 (some (.array (.object "MumpsHouse$Row"))) :: zW : List Cond), w.before args s = true) (hown : s.vm.findClass RX6 = some m.cls) (hZ : zK x D s) (hA : ∀ q, s.heap.size ≤ q → A q) (hn : n ≤ 99200) (hrw : r ≤ 100000) (hc : 1 + r * 2 ≤ R.cells) (hsl : r + r * (3 + n) ≤ R.slots) (hR_c_Row_init : 1 + 1 ≤ R.frames ∧ 8 + (2 + 11) + 12 ≤ R.locals)
    (kk : ∀ (g : Nat → Option Nat) (H : Heap) (locs : List Loc) (ls : Array Slot), va_P D vwCl [(q, .inl (x 5, r, .inr (.inr (.inr (.inr g)))))] H → va_D A [(q, .inl (x 5, r, .inr (.inr (.inr (.inr g)))))] → va_S A s.heap H locs → lv_has ls 4 [(3, .int (nI r)), (2, .ref q), (0, .int (nI r)), (1, .int (nI n))] → W p l e R s m args below meth c H locs (1 + r * 2) (r + r * (3 + n)) Q (F0 m 30 ls [])) :
    ∀ (k i : Nat), i + k = r → ∀ (g : Nat → Option Nat) (H : Heap) (locs : List Loc) (ls : Array Slot), va_P D vwCl [(q, .inl (x 5, r, .inr (.inr (.inr (.inr g)))))] H → va_D A [(q, .inl (x 5, r, .inr (.inr (.inr (.inr g)))))] → va_S A s.heap H locs → lv_has ls 4 [(3, .int (nI i)), (2, .ref q), (0, .int (nI r)), (1, .int (nI n))] → W p l e R s m args below meth c H locs (1 + i * 2) (r + i * (3 + n)) Q (F0 m 7 ls []) := by
  intro k
  induction k with
  | zero =>
    intro i hi g H locs ls hP hD hS hl
    have hi : i = r := by omega
    subst hi
    have hK := hZ.1
    refine lv_iload_n hx hb dX6_many_7 rfl (lv_at hl 0 rfl) ?_
    refine lv_aload_n hx hb dX6_many_8 rfl (lv_at hl 1 rfl) ?_
    refine va_alen (v := nI i) hx hb hK hP 0 5 rfl rfl rfl dX6_many_9 ?_
    refine lv_icmp_ge (tgt := 30) hx hb dX6_many_10 (by decide) (fun _ => ?_) (fun c9 => absurd (nI_le (Nat.le_refl i) (by omega)) c9)
    exact kk g H locs ls hP hD hS hl
  | succ k ih =>
    intro i hi g H locs ls hP hD hS hl
    have hK := hZ.1
    have hlt : i < r := by omega
    have hm : (i + 1) * (3 + n) = i * (3 + n) + (3 + n) := Nat.succ_mul _ _
    have hle : (i + 1) * (3 + n) ≤ r * (3 + n) := Nat.mul_le_mul_right _ hlt
    refine lv_iload_n hx hb dX6_many_7 rfl (lv_at hl 0 rfl) ?_
    refine lv_aload_n hx hb dX6_many_8 rfl (lv_at hl 1 rfl) ?_
    refine va_alen (v := nI r) hx hb hK hP 0 5 rfl rfl rfl dX6_many_9 ?_
    refine lv_icmp_ge (tgt := 30) hx hb dX6_many_10 (by decide) (fun c9 => absurd c9 (nI_ge hlt (by omega))) (fun _ => ?_)
    refine lv_aload_n hx hb dX6_many_13 rfl (lv_at hl 1 rfl) ?_
    refine lv_iload_n hx hb dX6_many_14 rfl (lv_at hl 0 rfl) ?_
    have h_4 : 1 + i * 2 + 1 ≤ R.cells := by omega
    have h_5 : r + i * (3 + n) + 3 ≤ R.slots := by omega
    refine z_new (T := TX6) (N := 3) (ci := 6) hx hb hts (zi_6 _) hown (hts _ (zm_14 _)) (hts _ (zm_10 _)) (hts _ (zm_7 _)) hK hP hD hS hA rfl h_4 h_5 dX6_many_15 (fun q_1 H f_2 ed_3 hP hD hS => ?_)
    have hP : va_P D vwCl [(q, .inl (x 5, r, .inr (.inr (.inr (.inr g))))), (q_1, .inr (6, zf 3 f_2))] H := hP
    have hD : va_D A [(q, .inl (x 5, r, .inr (.inr (.inr (.inr g))))), (q_1, .inr (6, zf 3 f_2))] := hD
    refine W.widen (k := 1 + i * 2 + 1) (n := 3 + r + i * (3 + n)) (by omega) (by omega) ?_
    refine lv_dup hx hb dX6_many_18 rfl ?_
    refine lv_iload_n hx hb dX6_many_19 rfl (lv_at hl 3 rfl) ?_
    have hPc := hP.sub (ws' := [(q_1, .inr (6, zf 3 f_2))]) [1] rfl
    have hDc := hD.sub (ws' := [(q_1, .inr (6, zf 3 f_2))]) [1] (by decide) rfl
    have hFc := va_free (wc := [(q_1, .inr (6, zf 3 f_2))]) hD hS hA [1] rfl
    have h_8 : 1 + i * 2 + 1 + 1 ≤ R.cells ∧ 3 + r + i * (3 + n) + n ≤ R.slots := by omega
    refine va_callv (va_runI (As := [.int (nI n)]) (rest := [.ref q_1, .int (nI i), .ref q]) ⟨hx, hb, hml, hown, hts⟩ (c_Row_init l D x n q_1 f_2 H.size (ed_3 1) (ed_3 2) hn) ⟨callB_of 1 hts (zgood (zm_6 _) rfl) rfl rfl rfl (hts _ (zm_7 _)) (hts _ (zm_15 _)) ⟨by decide, by decide, by decide +kernel⟩ hR_c_Row_init, rfl, hts _ (zm_8 _)⟩ ⟨fun a U g mk q => by obtain ⟨q0, q1, qP, qK, qD⟩ := q; exact ⟨q0, q1, qP, ZK.calling (u := U) zN_ok rfl qK, qD⟩, fun U hU hW => ⟨rfl, by rw [hU], by rw [hU]; exact hPc, ZK.warm zN_ok hW hZ, hDc.weaken (fun _ _ _ _ => trivial)⟩⟩ rfl rfl hl.1 rfl (lv_room (Nat.le_of_ble_eq_true rfl)) dX6_many_20 h_8) hS (fun q _ h => hFc q h) hFc (fun u t H1 locs ht hvm hw_7 hB hz1 hk1 hS => ?_)
    obtain ⟨c0_6, a1_7⟩ := u
    obtain ⟨hP1, hD1⟩ := hB
    rw [ht] at hP1
    try dsimp only at hw_7
    obtain ⟨hP, hD⟩ := va_join (wr := [(q, .inl (x 5, r, .inr (.inr (.inr (.inr g)))))]) (w1 := [(q_1, .inr (6, zf 3 c0_6)), (a1_7, .inl (x 1, n, .inl (fun _ => 0)))]) hP hD [1] [0] rfl rfl (by decide) (by decide) hk1 hFc hP1 hD1
    generalize H1 = H at hP hS ⊢
    have hP : va_P D vwCl [(q, .inl (x 5, r, .inr (.inr (.inr (.inr g))))), (q_1, .inr (6, zf 3 c0_6)), (a1_7, .inl (x 1, n, .inl (fun _ => 0)))] H := hP
    have hD : va_D A [(q, .inl (x 5, r, .inr (.inr (.inr (.inr g))))), (q_1, .inr (6, zf 3 c0_6)), (a1_7, .inl (x 1, n, .inl (fun _ => 0)))] := hD
    refine W.widen (k := 1 + i * 2 + 2) (n := 3 + r + i * (3 + n) + n) (by omega) (by omega) ?_
    refine z_astq hx hb hK hP hD hS 0 5 1 6 rfl rfl rfl rfl (vp_in_nI hlt (by omega)) dX6_many_23 (fun H locs g_9 ek_10 ok_11 hP hD hS => ?_)
    have hP : va_P D vwCl [(q, .inl (x 5, r, .inr (.inr (.inr (.inr g_9))))), (q_1, .inr (6, zf 3 c0_6)), (a1_7, .inl (x 1, n, .inl (fun _ => 0)))] H := hP
    have hD : va_D A [(q, .inl (x 5, r, .inr (.inr (.inr (.inr g_9))))), (q_1, .inr (6, zf 3 c0_6)), (a1_7, .inl (x 1, n, .inl (fun _ => 0)))] := hD
    refine lv_iinc (v := nI (i + 1)) (lv' := [(3, .int (nI (i + 1))), (2, .ref q), (0, .int (nI r)), (1, .int (nI n))]) hx hb dX6_many_24 hl (k := 0) rfl (nI_1 i) (by decide) rfl (fun ls hl => ?_)
    refine lv_goto (tgt := 7) hx hb dX6_many_27 (by decide) ?_
    have hP := hP.sub (ws' := [(q, .inl (x 5, r, .inr (.inr (.inr (.inr g_9)))))]) [0] rfl
    have hD := hD.sub (ws' := [(q, .inl (x 5, r, .inr (.inr (.inr (.inr g_9)))))]) [0] (by decide) rfl
    refine W.widen (k := 1 + (i + 1) * 2) (n := r + (i + 1) * (3 + n)) (by omega) (by omega) ?_
    exact ih (i + 1) (by omega) _ H locs ls hP hD hS (lv_sub hl [0, 1, 2, 3] rfl)

set_option maxHeartbeats 8000000 in
set_option maxRecDepth 100000 in
/-- Row.many(rows, most) -/
theorem c_Row_many (l : Launch) (D : va_G) (x : Nat → ClassId) (r : Nat) (n : Nat) (sz : Nat) (hn : n ≤ 99200) (hrw : r ≤ 100000) : Met l yX6_many (.code yX6_many cX6_many 4 (some (.array (.object "MumpsHouse$Row"))) :: zW) ({ frames := 2, cells := ((1 + r * 2)), slots := ((r + r * (3 + n))), locals := 33 }) (va_Pc [.int (nI r), .int (nI n)] (fun U => U.heap.size = sz ∧ va_P D vwCl [] U.heap ∧ zK x D U ∧ va_D (fun _ => True) [])) (va_Qr (fun u : Unit => True) (fun u ra t => zB D vwCl (va_A [] sz) [] t) (va_A [] sz)) ((1 + r * 2)) ((r + r * (3 + n))) (va_A [] sz) := by
  refine Met.ofW (cc := cX6_many) (maxL := 4) (ret := (some (.array (.object "MumpsHouse$Row")))) (by decide) rfl ?_
  intro p e s m args below meth c s₁ B hml hv
  obtain ⟨rfl, hsz, hP, hZ, hD0⟩ := hv
  have hK := hZ.1
  have hx := B.exec
  have hb := B.bytes
  have hr := B.returns
  have hts := atoms_spec (ws := .code yX6_many cX6_many 4 (some (.array (.object "MumpsHouse$Row"))) :: zW) B.pre
  have hown : s.vm.findClass RX6 = some m.cls := findClass_of_methodNamed B.named
  have hlocks := B.notSynchronized
  subst hsz
  have hD := hD0.self (sz := s.heap.size)
  generalize hAe : va_A [] s.heap.size = A at hD ⊢
  have hA : ∀ q : Nat, s.heap.size ≤ q → A q := fun q h => by rw [← hAe]; exact Or.inr h
  have hS : va_S A s.heap s.heap [] := va_S.rf
  have hP : va_P D vwCl [] s.heap := hP
  have hl := lv_entry ([.int (nI r), .int (nI n)]) (n := 4) (Nat.le_of_ble_eq_true rfl)
  rw [lg_entry_eq]
  generalize (lg_sl ([.int (nI r), .int (nI n)]) ++ List.replicate (4 - (lg_sl ([.int (nI r), .int (nI n)])).length) Slot.unset).toArray = ls at hl ⊢
  have hl : lv_has ls 4 [(0, .int (nI r)), (1, .int (nI n))] := hl
  refine lv_iload_n hx hb dX6_many_0 rfl (lv_at hl 0 rfl) ?_
  have h_2 : 0 + 1 ≤ (1 + r * 2) := by omega
  have h_3 : 0 + r ≤ (r + r * (3 + n)) := by omega
  refine z_newq (C := RX6) hx hb hown (hts _ (zm_14 _)) (hZ.2.2 _ (List.mem_of_getElem? (i := 1) rfl)) hK 5 rfl hP hD hS hA (nI_pos (by omega)) (nI_clamp (by omega)) (by omega) h_2 h_3 dX6_many_1 (fun q_1 H hP hD hS => ?_)
  have hP : va_P D vwCl [(q_1, .inl (x 5, r, .inr (.inr (.inr (.inr (fun _ => none))))))] H := hP
  have hD : va_D A [(q_1, .inl (x 5, r, .inr (.inr (.inr (.inr (fun _ => none))))))] := hD
  refine W.widen (k := 1) (n := r) (by omega) (by omega) ?_
  refine lv_astore_n (lv' := [(2, .ref q_1), (0, .int (nI r)), (1, .int (nI n))]) hx hb dX6_many_4 rfl hl (by decide) rfl (fun ls hl => ?_)
  refine lv_iconst (v := 0) hx hb dX6_many_5 (by decide) ?_
  refine lv_istore_n (lv' := [(3, .int 0), (2, .ref q_1), (0, .int (nI r)), (1, .int (nI n))]) hx hb dX6_many_6 rfl hl (by decide) rfl (fun ls hl => ?_)
  refine W.widen (k := 1 + 0 * 2) (n := r + 0 * (3 + n)) (by omega) (by omega) ?_
  refine lp_Row_many (Q := MQ below _ _ s _ _ _) r q_1 n hx hb hml hts hown hZ hA hn hrw (by exact Nat.le_refl _) (by exact Nat.le_refl _) (by exact ⟨Nat.le_of_ble_eq_true rfl, Nat.le_of_ble_eq_true rfl⟩) ?_ r 0 (by omega) _ H _ ls hP hD hS (by rw [nI_0]; exact lv_sub hl [0, 1, 2, 3] rfl)
  intro g H locs ls hP hD hS hl
  refine lv_aload_n hx hb dX6_many_30 rfl (lv_at hl 1 rfl) ?_
  have hP9 := hP.sub (ws' := []) [] rfl
  have hD9 := hD.sub (ws' := []) [] (by decide) rfl
  exact W.aret (v := .ref q_1) hx hb hr (Or.inr ⟨_, rfl⟩) (Or.inr ⟨_, rfl⟩) (fun t ht hW => ⟨⟨(), _, rfl, trivial, ⟨by rw [ht]; exact hP9, hD9⟩⟩, hS.F ht⟩) hS.2.2 dX6_many_31

set_option maxHeartbeats 8000000 in
set_option maxRecDepth 100000 in
/-- Node() -/
theorem c_Node_init (l : Launch) (D : va_G) (x : Nat → ClassId) (h0 : Nat) (f0 : Nat → Value) (sz : Nat)  : Met l yX3_init (.code yX3_init cX3_init 1 none :: zW) ({ frames := 1, cells := (1), slots := (104), locals := 12 }) (va_Pc [.ref h0] (fun U => U.heap.size = sz ∧ va_P D vwCl [(h0, .inr (3, zf 9 f0))] U.heap ∧ zK x D U ∧ va_D (fun _ => True) [(h0, .inr (3, zf 9 f0))])) (va_Qv (fun u : Nat → Value => match u with | c0 => True) (fun u t => match u with | c0 => zB D vwCl (va_A [(h0, .inr (3, zf 9 f0))] sz) [(h0, .inr (3, zf 9 c0))] t) (va_A [(h0, .inr (3, zf 9 f0))] sz)) (1) (104) (va_A [(h0, .inr (3, zf 9 f0))] sz) := by
  refine Met.ofW (cc := cX3_init) (maxL := 1) (ret := none) (by decide) rfl ?_
  intro p e s m args below meth c s₁ B hml hv
  obtain ⟨rfl, hsz, hP, hZ, hD0⟩ := hv
  have hK := hZ.1
  have hx := B.exec
  have hb := B.bytes
  have hr := B.returns
  have hts := atoms_spec (ws := .code yX3_init cX3_init 1 none :: zW) B.pre
  have hown : s.vm.findClass RX3 = some m.cls := findClass_of_methodNamed B.named
  have hlocks := B.notSynchronized
  have hin : meth.name = "<init>" := (name_of_methodNamed B.named B.method).1
  subst hsz
  have hD := hD0.self (sz := s.heap.size)
  generalize hAe : va_A [(h0, .inr (3, zf 9 f0))] s.heap.size = A at hD ⊢
  have hA : ∀ q : Nat, s.heap.size ≤ q → A q := fun q h => by rw [← hAe]; exact Or.inr h
  have hS : va_S A s.heap s.heap [] := va_S.rf
  have hP : va_P D vwCl [(h0, .inr (3, zf 9 f0))] s.heap := hP
  have hl := lv_entry ([.ref h0]) (n := 1) (Nat.le_of_ble_eq_true rfl)
  rw [lg_entry_eq]
  generalize (lg_sl ([.ref h0]) ++ List.replicate (1 - (lg_sl ([.ref h0])).length) Slot.unset).toArray = ls at hl ⊢
  have hl : lv_has ls 1 [(0, .ref h0)] := hl
  refine lv_aload_n hx hb dX3_init_0 rfl (lv_at hl 0 rfl) ?_
  refine W.objInit hx hb hown (hts _ (zm_19 _)) (hts _ (zm_0 _)) (hts _ (zm_1 _)) rfl (by rw [hml]; exact hl.1) rfl dX3_init_1 (Nat.le_of_ble_eq_true rfl) (Nat.le_of_ble_eq_true rfl) ?_
  refine W.eq (g2 := F0 m 4 ls []) rfl ?_
  refine lv_aload_n hx hb dX3_init_4 rfl (lv_at hl 0 rfl) ?_
  refine lv_bipush (v := 104) hx hb dX3_init_5 (by decide) ?_
  have h_3 : 0 + 1 ≤ 1 := by omega
  have h_4 : 0 + 104 ≤ 104 := by omega
  refine z_newa (atype := .byte) (ty := .byte) (a0 := (104, .inl (fun _ => 0))) hx hb (hts _ (zm_3 _)) rfl hK 1 rfl hP hD hS hA (fun cA => rfl) (by decide) (by decide) (by decide) h_3 h_4 dX3_init_7 (fun q_1 H hP hD hS => ?_)
  have hP : va_P D vwCl [(h0, .inr (3, zf 9 f0)), (q_1, .inl (x 1, 104, .inl (fun _ => 0)))] H := hP
  have hD : va_D A [(h0, .inr (3, zf 9 f0)), (q_1, .inl (x 1, 104, .inl (fun _ => 0)))] := hD
  refine W.widen (k := 1) (n := 104) (by omega) (by omega) ?_
  refine z_putF (T := TX3) (N := 9) (ci := 3) hx hb hts (zi_3 _) hown hK hP hD hS 0 rfl rfl 0 (by decide) (hts _ (zm_20 _)) rfl rfl hin rfl rfl rfl dX3_init_9 (fun H locs f_5 ek_6 ok_7 hP hD hS => ?_)
  have hP : va_P D vwCl [(h0, .inr (3, zf 9 f_5)), (q_1, .inl (x 1, 104, .inl (fun _ => 0)))] H := hP
  have hD : va_D A [(h0, .inr (3, zf 9 f_5)), (q_1, .inl (x 1, 104, .inl (fun _ => 0)))] := hD
  have hP9 := hP.sub (ws' := [(h0, .inr (3, zf 9 f_5))]) [0] rfl
  have hD9 := hD.sub (ws' := [(h0, .inr (3, zf 9 f_5))]) [0] (by decide) rfl
  exact W.vret hx hb hr (fun t ht hW => ⟨⟨f_5, rfl, trivial, ⟨by rw [ht]; exact hP9, hD9⟩⟩, hS.F ht⟩) hS.2.2 dX3_init_12

set_option maxHeartbeats 8000000 in
set_option maxRecDepth 100000 in
/-- the loop of Node.many(nodes) -/
theorem lp_Node_many {p : Program} {l : Launch} {e : Env} {R : Room} {s : State} {m : MethodId} {args : Array Value} {below : List Frame} {meth : Method} {c : Code} {Q : State → Prop} {A : Nat → Prop} {D : va_G} {x : Nat → ClassId} (r q : Nat) (hx : p.tables.exec = Jvm.exec) (hb : c.code = cX3_many) (hml : c.maxLocals = 3) (hts : ∀ w ∈ (.code yX3_many cX3_many 3 (some (.array (.object "MumpsHouse$Node"))) :: zW : List Cond), w.before args s = true) (hown : s.vm.findClass RX3 = some m.cls) (hZ : zK x D s) (hA : ∀ q, s.heap.size ≤ q → A q) (hrw : r ≤ 100000) (hc : 1 + r * 2 ≤ R.cells) (hsl : r + r * 113 ≤ R.slots) (hR_c_Node_init : 1 + 1 ≤ R.frames ∧ 8 + (1 + 11) + 12 ≤ R.locals)
    (kk : ∀ (g : Nat → Option Nat) (H : Heap) (locs : List Loc) (ls : Array Slot), va_P D vwCl [(q, .inl (x 4, r, .inr (.inr (.inr (.inr g)))))] H → va_D A [(q, .inl (x 4, r, .inr (.inr (.inr (.inr g)))))] → va_S A s.heap H locs → lv_has ls 3 [(2, .int (nI r)), (1, .ref q), (0, .int (nI r))] → W p l e R s m args below meth c H locs (1 + r * 2) (r + r * 113) Q (F0 m 29 ls [])) :
    ∀ (k i : Nat), i + k = r → ∀ (g : Nat → Option Nat) (H : Heap) (locs : List Loc) (ls : Array Slot), va_P D vwCl [(q, .inl (x 4, r, .inr (.inr (.inr (.inr g)))))] H → va_D A [(q, .inl (x 4, r, .inr (.inr (.inr (.inr g)))))] → va_S A s.heap H locs → lv_has ls 3 [(2, .int (nI i)), (1, .ref q), (0, .int (nI r))] → W p l e R s m args below meth c H locs (1 + i * 2) (r + i * 113) Q (F0 m 7 ls []) := by
  intro k
  induction k with
  | zero =>
    intro i hi g H locs ls hP hD hS hl
    have hi : i = r := by omega
    subst hi
    have hK := hZ.1
    refine lv_iload_n hx hb dX3_many_7 rfl (lv_at hl 0 rfl) ?_
    refine lv_aload_n hx hb dX3_many_8 rfl (lv_at hl 1 rfl) ?_
    refine va_alen (v := nI i) hx hb hK hP 0 4 rfl rfl rfl dX3_many_9 ?_
    refine lv_icmp_ge (tgt := 29) hx hb dX3_many_10 (by decide) (fun _ => ?_) (fun c9 => absurd (nI_le (Nat.le_refl i) (by omega)) c9)
    exact kk g H locs ls hP hD hS hl
  | succ k ih =>
    intro i hi g H locs ls hP hD hS hl
    have hK := hZ.1
    have hlt : i < r := by omega
    have hm : (i + 1) * 113 = i * 113 + 113 := Nat.succ_mul _ _
    have hle : (i + 1) * 113 ≤ r * 113 := Nat.mul_le_mul_right _ hlt
    refine lv_iload_n hx hb dX3_many_7 rfl (lv_at hl 0 rfl) ?_
    refine lv_aload_n hx hb dX3_many_8 rfl (lv_at hl 1 rfl) ?_
    refine va_alen (v := nI r) hx hb hK hP 0 4 rfl rfl rfl dX3_many_9 ?_
    refine lv_icmp_ge (tgt := 29) hx hb dX3_many_10 (by decide) (fun c9 => absurd c9 (nI_ge hlt (by omega))) (fun _ => ?_)
    refine lv_aload_n hx hb dX3_many_13 rfl (lv_at hl 1 rfl) ?_
    refine lv_iload_n hx hb dX3_many_14 rfl (lv_at hl 0 rfl) ?_
    have h_4 : 1 + i * 2 + 1 ≤ R.cells := by omega
    have h_5 : r + i * 113 + 9 ≤ R.slots := by omega
    refine z_new (T := TX3) (N := 9) (ci := 3) hx hb hts (zi_3 _) hown (hts _ (zm_24 _)) (hts _ (zm_21 _)) (hts _ (zm_17 _)) hK hP hD hS hA rfl h_4 h_5 dX3_many_15 (fun q_1 H f_2 ed_3 hP hD hS => ?_)
    have hP : va_P D vwCl [(q, .inl (x 4, r, .inr (.inr (.inr (.inr g))))), (q_1, .inr (3, zf 9 f_2))] H := hP
    have hD : va_D A [(q, .inl (x 4, r, .inr (.inr (.inr (.inr g))))), (q_1, .inr (3, zf 9 f_2))] := hD
    refine W.widen (k := 1 + i * 2 + 1) (n := 9 + r + i * 113) (by omega) (by omega) ?_
    refine lv_dup hx hb dX3_many_18 rfl ?_
    have hPc := hP.sub (ws' := [(q_1, .inr (3, zf 9 f_2))]) [1] rfl
    have hDc := hD.sub (ws' := [(q_1, .inr (3, zf 9 f_2))]) [1] (by decide) rfl
    have hFc := va_free (wc := [(q_1, .inr (3, zf 9 f_2))]) hD hS hA [1] rfl
    have h_7 : 1 + i * 2 + 1 + 1 ≤ R.cells ∧ 9 + r + i * 113 + 104 ≤ R.slots := by omega
    refine va_callv (va_runI (As := []) (rest := [.ref q_1, .int (nI i), .ref q]) ⟨hx, hb, hml, hown, hts⟩ (c_Node_init l D x q_1 f_2 H.size) ⟨callB_of 0 hts (zgood (zm_16 _) rfl) rfl rfl rfl (hts _ (zm_17 _)) (hts _ (zm_25 _)) ⟨by decide, by decide, by decide +kernel⟩ hR_c_Node_init, rfl, hts _ (zm_18 _)⟩ ⟨fun a U g mk q => by obtain ⟨q0, q1, qP, qK, qD⟩ := q; exact ⟨q0, q1, qP, ZK.calling (u := U) zN_ok rfl qK, qD⟩, fun U hU hW => ⟨rfl, by rw [hU], by rw [hU]; exact hPc, ZK.warm zN_ok hW hZ, hDc.weaken (fun _ _ _ _ => trivial)⟩⟩ rfl rfl hl.1 rfl (lv_room (Nat.le_of_ble_eq_true rfl)) dX3_many_19 h_7) hS (fun q _ h => hFc q h) hFc (fun c0_6 t H1 locs ht hvm hw_6 hB hz1 hk1 hS => ?_)
    obtain ⟨hP1, hD1⟩ := hB
    rw [ht] at hP1
    try dsimp only at hw_6
    obtain ⟨hP, hD⟩ := va_join (wr := [(q, .inl (x 4, r, .inr (.inr (.inr (.inr g)))))]) (w1 := [(q_1, .inr (3, zf 9 c0_6))]) hP hD [1] [0] rfl rfl (by decide) (by decide) hk1 hFc hP1 hD1
    generalize H1 = H at hP hS ⊢
    have hP : va_P D vwCl [(q, .inl (x 4, r, .inr (.inr (.inr (.inr g))))), (q_1, .inr (3, zf 9 c0_6))] H := hP
    have hD : va_D A [(q, .inl (x 4, r, .inr (.inr (.inr (.inr g))))), (q_1, .inr (3, zf 9 c0_6))] := hD
    refine W.widen (k := 1 + i * 2 + 2) (n := 113 + r + i * 113) (by omega) (by omega) ?_
    refine z_astq hx hb hK hP hD hS 0 4 1 3 rfl rfl rfl rfl (vp_in_nI hlt (by omega)) dX3_many_22 (fun H locs g_8 ek_9 ok_10 hP hD hS => ?_)
    have hP : va_P D vwCl [(q, .inl (x 4, r, .inr (.inr (.inr (.inr g_8))))), (q_1, .inr (3, zf 9 c0_6))] H := hP
    have hD : va_D A [(q, .inl (x 4, r, .inr (.inr (.inr (.inr g_8))))), (q_1, .inr (3, zf 9 c0_6))] := hD
    refine lv_iinc (v := nI (i + 1)) (lv' := [(2, .int (nI (i + 1))), (1, .ref q), (0, .int (nI r))]) hx hb dX3_many_23 hl (k := 0) rfl (nI_1 i) (by decide) rfl (fun ls hl => ?_)
    refine lv_goto (tgt := 7) hx hb dX3_many_26 (by decide) ?_
    have hP := hP.sub (ws' := [(q, .inl (x 4, r, .inr (.inr (.inr (.inr g_8)))))]) [0] rfl
    have hD := hD.sub (ws' := [(q, .inl (x 4, r, .inr (.inr (.inr (.inr g_8)))))]) [0] (by decide) rfl
    refine W.widen (k := 1 + (i + 1) * 2) (n := r + (i + 1) * 113) (by omega) (by omega) ?_
    exact ih (i + 1) (by omega) _ H locs ls hP hD hS (lv_sub hl [0, 1, 2] rfl)

set_option maxHeartbeats 8000000 in
set_option maxRecDepth 100000 in
/-- Node.many(nodes) -/
theorem c_Node_many (l : Launch) (D : va_G) (x : Nat → ClassId) (r : Nat) (sz : Nat) (hrw : r ≤ 100000) : Met l yX3_many (.code yX3_many cX3_many 3 (some (.array (.object "MumpsHouse$Node"))) :: zW) ({ frames := 2, cells := ((1 + r * 2)), slots := ((r + r * 113)), locals := 32 }) (va_Pc [.int (nI r)] (fun U => U.heap.size = sz ∧ va_P D vwCl [] U.heap ∧ zK x D U ∧ va_D (fun _ => True) [])) (va_Qr (fun u : Unit => True) (fun u ra t => zB D vwCl (va_A [] sz) [] t) (va_A [] sz)) ((1 + r * 2)) ((r + r * 113)) (va_A [] sz) := by
  refine Met.ofW (cc := cX3_many) (maxL := 3) (ret := (some (.array (.object "MumpsHouse$Node")))) (by decide) rfl ?_
  intro p e s m args below meth c s₁ B hml hv
  obtain ⟨rfl, hsz, hP, hZ, hD0⟩ := hv
  have hK := hZ.1
  have hx := B.exec
  have hb := B.bytes
  have hr := B.returns
  have hts := atoms_spec (ws := .code yX3_many cX3_many 3 (some (.array (.object "MumpsHouse$Node"))) :: zW) B.pre
  have hown : s.vm.findClass RX3 = some m.cls := findClass_of_methodNamed B.named
  have hlocks := B.notSynchronized
  subst hsz
  have hD := hD0.self (sz := s.heap.size)
  generalize hAe : va_A [] s.heap.size = A at hD ⊢
  have hA : ∀ q : Nat, s.heap.size ≤ q → A q := fun q h => by rw [← hAe]; exact Or.inr h
  have hS : va_S A s.heap s.heap [] := va_S.rf
  have hP : va_P D vwCl [] s.heap := hP
  have hl := lv_entry ([.int (nI r)]) (n := 3) (Nat.le_of_ble_eq_true rfl)
  rw [lg_entry_eq]
  generalize (lg_sl ([.int (nI r)]) ++ List.replicate (3 - (lg_sl ([.int (nI r)])).length) Slot.unset).toArray = ls at hl ⊢
  have hl : lv_has ls 3 [(0, .int (nI r))] := hl
  refine lv_iload_n hx hb dX3_many_0 rfl (lv_at hl 0 rfl) ?_
  have h_2 : 0 + 1 ≤ (1 + r * 2) := by omega
  have h_3 : 0 + r ≤ (r + r * 113) := by omega
  refine z_newq (C := RX3) hx hb hown (hts _ (zm_24 _)) (hZ.2.2 _ (List.mem_of_getElem? (i := 0) rfl)) hK 4 rfl hP hD hS hA (nI_pos (by omega)) (nI_clamp (by omega)) (by omega) h_2 h_3 dX3_many_1 (fun q_1 H hP hD hS => ?_)
  have hP : va_P D vwCl [(q_1, .inl (x 4, r, .inr (.inr (.inr (.inr (fun _ => none))))))] H := hP
  have hD : va_D A [(q_1, .inl (x 4, r, .inr (.inr (.inr (.inr (fun _ => none))))))] := hD
  refine W.widen (k := 1) (n := r) (by omega) (by omega) ?_
  refine lv_astore_n (lv' := [(1, .ref q_1), (0, .int (nI r))]) hx hb dX3_many_4 rfl hl (by decide) rfl (fun ls hl => ?_)
  refine lv_iconst (v := 0) hx hb dX3_many_5 (by decide) ?_
  refine lv_istore_n (lv' := [(2, .int 0), (1, .ref q_1), (0, .int (nI r))]) hx hb dX3_many_6 rfl hl (by decide) rfl (fun ls hl => ?_)
  refine W.widen (k := 1 + 0 * 2) (n := r + 0 * 113) (by omega) (by omega) ?_
  refine lp_Node_many (Q := MQ below _ _ s _ _ _) r q_1  hx hb hml hts hown hZ hA  hrw (by exact Nat.le_refl _) (by exact Nat.le_refl _) (by exact ⟨Nat.le_of_ble_eq_true rfl, Nat.le_of_ble_eq_true rfl⟩) ?_ r 0 (by omega) _ H _ ls hP hD hS (by rw [nI_0]; exact lv_sub hl [0, 1, 2] rfl)
  intro g H locs ls hP hD hS hl
  refine lv_aload_n hx hb dX3_many_29 rfl (lv_at hl 1 rfl) ?_
  have hP9 := hP.sub (ws' := []) [] rfl
  have hD9 := hD.sub (ws' := []) [] (by decide) rfl
  exact W.aret (v := .ref q_1) hx hb hr (Or.inr ⟨_, rfl⟩) (Or.inr ⟨_, rfl⟩) (fun t ht hW => ⟨⟨(), _, rfl, trivial, ⟨by rw [ht]; exact hP9, hD9⟩⟩, hS.F ht⟩) hS.2.2 dX3_many_30

set_option maxHeartbeats 8000000 in
set_option maxRecDepth 100000 in
/-- Num(places) -/
theorem c_Num_init (l : Launch) (D : va_G) (x : Nat → ClassId) (n : Nat) (h0 : Nat) (f0 : Nat → Value) (sz : Nat) (hn : n ≤ 62) : Met l yX4_init (.code yX4_init cX4_init 2 none :: zW) ({ frames := 1, cells := (1), slots := (n), locals := 12 }) (va_Pc [.ref h0, .int (nI n)] (fun U => U.heap.size = sz ∧ va_P D vwCl [(h0, .inr (4, zf 3 f0))] U.heap ∧ zK x D U ∧ va_D (fun _ => True) [(h0, .inr (4, zf 3 f0))])) (va_Qv (fun u : Nat → Value => match u with | c0 => True) (fun u t => match u with | c0 => zB D vwCl (va_A [(h0, .inr (4, zf 3 f0))] sz) [(h0, .inr (4, zf 3 c0))] t) (va_A [(h0, .inr (4, zf 3 f0))] sz)) (1) (n) (va_A [(h0, .inr (4, zf 3 f0))] sz) := by
  refine Met.ofW (cc := cX4_init) (maxL := 2) (ret := none) (by decide) rfl ?_
  intro p e s m args below meth c s₁ B hml hv
  obtain ⟨rfl, hsz, hP, hZ, hD0⟩ := hv
  have hK := hZ.1
  have hx := B.exec
  have hb := B.bytes
  have hr := B.returns
  have hts := atoms_spec (ws := .code yX4_init cX4_init 2 none :: zW) B.pre
  have hown : s.vm.findClass RX4 = some m.cls := findClass_of_methodNamed B.named
  have hlocks := B.notSynchronized
  have hin : meth.name = "<init>" := (name_of_methodNamed B.named B.method).1
  subst hsz
  have hD := hD0.self (sz := s.heap.size)
  generalize hAe : va_A [(h0, .inr (4, zf 3 f0))] s.heap.size = A at hD ⊢
  have hA : ∀ q : Nat, s.heap.size ≤ q → A q := fun q h => by rw [← hAe]; exact Or.inr h
  have hS : va_S A s.heap s.heap [] := va_S.rf
  have hP : va_P D vwCl [(h0, .inr (4, zf 3 f0))] s.heap := hP
  have hl := lv_entry ([.ref h0, .int (nI n)]) (n := 2) (Nat.le_of_ble_eq_true rfl)
  rw [lg_entry_eq]
  generalize (lg_sl ([.ref h0, .int (nI n)]) ++ List.replicate (2 - (lg_sl ([.ref h0, .int (nI n)])).length) Slot.unset).toArray = ls at hl ⊢
  have hl : lv_has ls 2 [(0, .ref h0), (1, .int (nI n))] := hl
  refine lv_aload_n hx hb dX4_init_0 rfl (lv_at hl 0 rfl) ?_
  refine W.objInit hx hb hown (hts _ (zm_29 _)) (hts _ (zm_0 _)) (hts _ (zm_1 _)) rfl (by rw [hml]; exact hl.1) rfl dX4_init_1 (Nat.le_of_ble_eq_true rfl) (Nat.le_of_ble_eq_true rfl) ?_
  refine W.eq (g2 := F0 m 4 ls []) rfl ?_
  refine lv_aload_n hx hb dX4_init_4 rfl (lv_at hl 0 rfl) ?_
  refine lv_iload_n hx hb dX4_init_5 rfl (lv_at hl 1 rfl) ?_
  have h_3 : 0 + 1 ≤ 1 := by omega
  have h_4 : 0 + n ≤ n := by omega
  refine z_newa (atype := .int) (ty := .int) (a0 := (n, .inl (fun _ => 0))) hx hb (hts _ (zm_2 _)) rfl hK 0 rfl hP hD hS hA (fun cA => rfl) (nI_pos (by omega)) (nI_clamp (by omega)) (by show n * 4 ≤ 536870912; omega) h_3 h_4 dX4_init_6 (fun q_1 H hP hD hS => ?_)
  have hP : va_P D vwCl [(h0, .inr (4, zf 3 f0)), (q_1, .inl (x 0, n, .inl (fun _ => 0)))] H := hP
  have hD : va_D A [(h0, .inr (4, zf 3 f0)), (q_1, .inl (x 0, n, .inl (fun _ => 0)))] := hD
  refine W.widen (k := 1) (n := n) (by omega) (by omega) ?_
  refine z_putF (T := TX4) (N := 3) (ci := 4) hx hb hts (zi_4 _) hown hK hP hD hS 0 rfl rfl 2 (by decide) (hts _ (zm_31 _)) rfl rfl hin rfl rfl rfl dX4_init_8 (fun H locs f_5 ek_6 ok_7 hP hD hS => ?_)
  have hP : va_P D vwCl [(h0, .inr (4, zf 3 f_5)), (q_1, .inl (x 0, n, .inl (fun _ => 0)))] H := hP
  have hD : va_D A [(h0, .inr (4, zf 3 f_5)), (q_1, .inl (x 0, n, .inl (fun _ => 0)))] := hD
  have hP9 := hP.sub (ws' := [(h0, .inr (4, zf 3 f_5))]) [0] rfl
  have hD9 := hD.sub (ws' := [(h0, .inr (4, zf 3 f_5))]) [0] (by decide) rfl
  exact W.vret hx hb hr (fun t ht hW => ⟨⟨f_5, rfl, trivial, ⟨by rw [ht]; exact hP9, hD9⟩⟩, hS.F ht⟩) hS.2.2 dX4_init_11

set_option maxHeartbeats 8000000 in
set_option maxRecDepth 100000 in
/-- the loop of Num.many(numbers) -/
theorem lp_Num_many {p : Program} {l : Launch} {e : Env} {R : Room} {s : State} {m : MethodId} {args : Array Value} {below : List Frame} {meth : Method} {c : Code} {Q : State → Prop} {A : Nat → Prop} {D : va_G} {x : Nat → ClassId} (r q : Nat) (hx : p.tables.exec = Jvm.exec) (hb : c.code = cX4_many) (hml : c.maxLocals = 3) (hts : ∀ w ∈ (.code yX4_many cX4_many 3 (some (.array (.object "MumpsHouse$Num"))) :: zW : List Cond), w.before args s = true) (hown : s.vm.findClass RX4 = some m.cls) (hZ : zK x D s) (hA : ∀ q, s.heap.size ≤ q → A q) (hrw : r ≤ 100000) (hc : 1 + r * 2 ≤ R.cells) (hsl : r + r * 3 ≤ R.slots) (hR_c_Num_init : 1 + 1 ≤ R.frames ∧ 8 + (2 + 11) + 12 ≤ R.locals)
    (kk : ∀ (g : Nat → Option Nat) (H : Heap) (locs : List Loc) (ls : Array Slot), va_P D vwCl [(q, .inl (x 8, r, .inr (.inr (.inr (.inr g)))))] H → va_D A [(q, .inl (x 8, r, .inr (.inr (.inr (.inr g)))))] → va_S A s.heap H locs → lv_has ls 3 [(2, .int (nI r)), (1, .ref q), (0, .int (nI r))] → W p l e R s m args below meth c H locs (1 + r * 2) (r + r * 3) Q (F0 m 30 ls [])) :
    ∀ (k i : Nat), i + k = r → ∀ (g : Nat → Option Nat) (H : Heap) (locs : List Loc) (ls : Array Slot), va_P D vwCl [(q, .inl (x 8, r, .inr (.inr (.inr (.inr g)))))] H → va_D A [(q, .inl (x 8, r, .inr (.inr (.inr (.inr g)))))] → va_S A s.heap H locs → lv_has ls 3 [(2, .int (nI i)), (1, .ref q), (0, .int (nI r))] → W p l e R s m args below meth c H locs (1 + i * 2) (r + i * 3) Q (F0 m 7 ls []) := by
  intro k
  induction k with
  | zero =>
    intro i hi g H locs ls hP hD hS hl
    have hi : i = r := by omega
    subst hi
    have hK := hZ.1
    refine lv_iload_n hx hb dX4_many_7 rfl (lv_at hl 0 rfl) ?_
    refine lv_aload_n hx hb dX4_many_8 rfl (lv_at hl 1 rfl) ?_
    refine va_alen (v := nI i) hx hb hK hP 0 8 rfl rfl rfl dX4_many_9 ?_
    refine lv_icmp_ge (tgt := 30) hx hb dX4_many_10 (by decide) (fun _ => ?_) (fun c9 => absurd (nI_le (Nat.le_refl i) (by omega)) c9)
    exact kk g H locs ls hP hD hS hl
  | succ k ih =>
    intro i hi g H locs ls hP hD hS hl
    have hK := hZ.1
    have hlt : i < r := by omega
    have hm : (i + 1) * 3 = i * 3 + 3 := Nat.succ_mul _ _
    have hle : (i + 1) * 3 ≤ r * 3 := Nat.mul_le_mul_right _ hlt
    refine lv_iload_n hx hb dX4_many_7 rfl (lv_at hl 0 rfl) ?_
    refine lv_aload_n hx hb dX4_many_8 rfl (lv_at hl 1 rfl) ?_
    refine va_alen (v := nI r) hx hb hK hP 0 8 rfl rfl rfl dX4_many_9 ?_
    refine lv_icmp_ge (tgt := 30) hx hb dX4_many_10 (by decide) (fun c9 => absurd c9 (nI_ge hlt (by omega))) (fun _ => ?_)
    refine lv_aload_n hx hb dX4_many_13 rfl (lv_at hl 1 rfl) ?_
    refine lv_iload_n hx hb dX4_many_14 rfl (lv_at hl 0 rfl) ?_
    have h_4 : 1 + i * 2 + 1 ≤ R.cells := by omega
    have h_5 : r + i * 3 + 3 ≤ R.slots := by omega
    refine z_new (T := TX4) (N := 3) (ci := 4) hx hb hts (zi_4 _) hown (hts _ (zm_34 _)) (hts _ (zm_30 _)) (hts _ (zm_27 _)) hK hP hD hS hA rfl h_4 h_5 dX4_many_15 (fun q_1 H f_2 ed_3 hP hD hS => ?_)
    have hP : va_P D vwCl [(q, .inl (x 8, r, .inr (.inr (.inr (.inr g))))), (q_1, .inr (4, zf 3 f_2))] H := hP
    have hD : va_D A [(q, .inl (x 8, r, .inr (.inr (.inr (.inr g))))), (q_1, .inr (4, zf 3 f_2))] := hD
    refine W.widen (k := 1 + i * 2 + 1) (n := 3 + r + i * 3) (by omega) (by omega) ?_
    refine lv_dup hx hb dX4_many_18 rfl ?_
    refine lv_iconst (v := 0) hx hb dX4_many_19 (by decide) ?_
    have hPc := hP.sub (ws' := [(q_1, .inr (4, zf 3 f_2))]) [1] rfl
    have hDc := hD.sub (ws' := [(q_1, .inr (4, zf 3 f_2))]) [1] (by decide) rfl
    have hFc := va_free (wc := [(q_1, .inr (4, zf 3 f_2))]) hD hS hA [1] rfl
    have h_7 : 1 + i * 2 + 1 + 1 ≤ R.cells ∧ 3 + r + i * 3 + 0 ≤ R.slots := by omega
    refine va_callv (va_runI (As := [.int 0]) (rest := [.ref q_1, .int (nI i), .ref q]) ⟨hx, hb, hml, hown, hts⟩ (c_Num_init l D x 0 q_1 f_2 H.size (by decide)) ⟨callB_of 1 hts (zgood (zm_26 _) rfl) rfl rfl rfl (hts _ (zm_27 _)) (hts _ (zm_35 _)) ⟨by decide, by decide, by decide +kernel⟩ hR_c_Num_init, rfl, hts _ (zm_28 _)⟩ ⟨fun a U g mk q => by obtain ⟨q0, q1, qP, qK, qD⟩ := q; exact ⟨q0, q1, qP, ZK.calling (u := U) zN_ok rfl qK, qD⟩, fun U hU hW => ⟨rfl, by rw [hU], by rw [hU]; exact hPc, ZK.warm zN_ok hW hZ, hDc.weaken (fun _ _ _ _ => trivial)⟩⟩ rfl rfl hl.1 rfl (lv_room (Nat.le_of_ble_eq_true rfl)) dX4_many_20 h_7) hS (fun q _ h => hFc q h) hFc (fun c0_6 t H1 locs ht hvm hw_6 hB hz1 hk1 hS => ?_)
    obtain ⟨hP1, hD1⟩ := hB
    rw [ht] at hP1
    try dsimp only at hw_6
    obtain ⟨hP, hD⟩ := va_join (wr := [(q, .inl (x 8, r, .inr (.inr (.inr (.inr g)))))]) (w1 := [(q_1, .inr (4, zf 3 c0_6))]) hP hD [1] [0] rfl rfl (by decide) (by decide) hk1 hFc hP1 hD1
    generalize H1 = H at hP hS ⊢
    have hP : va_P D vwCl [(q, .inl (x 8, r, .inr (.inr (.inr (.inr g))))), (q_1, .inr (4, zf 3 c0_6))] H := hP
    have hD : va_D A [(q, .inl (x 8, r, .inr (.inr (.inr (.inr g))))), (q_1, .inr (4, zf 3 c0_6))] := hD
    refine W.widen (k := 1 + i * 2 + 2) (n := 3 + r + i * 3) (by omega) (by omega) ?_
    refine z_astq hx hb hK hP hD hS 0 8 1 4 rfl rfl rfl rfl (vp_in_nI hlt (by omega)) dX4_many_23 (fun H locs g_8 ek_9 ok_10 hP hD hS => ?_)
    have hP : va_P D vwCl [(q, .inl (x 8, r, .inr (.inr (.inr (.inr g_8))))), (q_1, .inr (4, zf 3 c0_6))] H := hP
    have hD : va_D A [(q, .inl (x 8, r, .inr (.inr (.inr (.inr g_8))))), (q_1, .inr (4, zf 3 c0_6))] := hD
    refine lv_iinc (v := nI (i + 1)) (lv' := [(2, .int (nI (i + 1))), (1, .ref q), (0, .int (nI r))]) hx hb dX4_many_24 hl (k := 0) rfl (nI_1 i) (by decide) rfl (fun ls hl => ?_)
    refine lv_goto (tgt := 7) hx hb dX4_many_27 (by decide) ?_
    have hP := hP.sub (ws' := [(q, .inl (x 8, r, .inr (.inr (.inr (.inr g_8)))))]) [0] rfl
    have hD := hD.sub (ws' := [(q, .inl (x 8, r, .inr (.inr (.inr (.inr g_8)))))]) [0] (by decide) rfl
    refine W.widen (k := 1 + (i + 1) * 2) (n := r + (i + 1) * 3) (by omega) (by omega) ?_
    exact ih (i + 1) (by omega) _ H locs ls hP hD hS (lv_sub hl [0, 1, 2] rfl)

set_option maxHeartbeats 8000000 in
set_option maxRecDepth 100000 in
/-- Num.many(numbers) -/
theorem c_Num_many (l : Launch) (D : va_G) (x : Nat → ClassId) (r : Nat) (sz : Nat) (hrw : r ≤ 100000) : Met l yX4_many (.code yX4_many cX4_many 3 (some (.array (.object "MumpsHouse$Num"))) :: zW) ({ frames := 2, cells := ((1 + r * 2)), slots := ((r + r * 3)), locals := 33 }) (va_Pc [.int (nI r)] (fun U => U.heap.size = sz ∧ va_P D vwCl [] U.heap ∧ zK x D U ∧ va_D (fun _ => True) [])) (va_Qr (fun u : Unit => True) (fun u ra t => zB D vwCl (va_A [] sz) [] t) (va_A [] sz)) ((1 + r * 2)) ((r + r * 3)) (va_A [] sz) := by
  refine Met.ofW (cc := cX4_many) (maxL := 3) (ret := (some (.array (.object "MumpsHouse$Num")))) (by decide) rfl ?_
  intro p e s m args below meth c s₁ B hml hv
  obtain ⟨rfl, hsz, hP, hZ, hD0⟩ := hv
  have hK := hZ.1
  have hx := B.exec
  have hb := B.bytes
  have hr := B.returns
  have hts := atoms_spec (ws := .code yX4_many cX4_many 3 (some (.array (.object "MumpsHouse$Num"))) :: zW) B.pre
  have hown : s.vm.findClass RX4 = some m.cls := findClass_of_methodNamed B.named
  have hlocks := B.notSynchronized
  subst hsz
  have hD := hD0.self (sz := s.heap.size)
  generalize hAe : va_A [] s.heap.size = A at hD ⊢
  have hA : ∀ q : Nat, s.heap.size ≤ q → A q := fun q h => by rw [← hAe]; exact Or.inr h
  have hS : va_S A s.heap s.heap [] := va_S.rf
  have hP : va_P D vwCl [] s.heap := hP
  have hl := lv_entry ([.int (nI r)]) (n := 3) (Nat.le_of_ble_eq_true rfl)
  rw [lg_entry_eq]
  generalize (lg_sl ([.int (nI r)]) ++ List.replicate (3 - (lg_sl ([.int (nI r)])).length) Slot.unset).toArray = ls at hl ⊢
  have hl : lv_has ls 3 [(0, .int (nI r))] := hl
  refine lv_iload_n hx hb dX4_many_0 rfl (lv_at hl 0 rfl) ?_
  have h_2 : 0 + 1 ≤ (1 + r * 2) := by omega
  have h_3 : 0 + r ≤ (r + r * 3) := by omega
  refine z_newq (C := RX4) hx hb hown (hts _ (zm_34 _)) (hZ.2.2 _ (List.mem_of_getElem? (i := 4) rfl)) hK 8 rfl hP hD hS hA (nI_pos (by omega)) (nI_clamp (by omega)) (by omega) h_2 h_3 dX4_many_1 (fun q_1 H hP hD hS => ?_)
  have hP : va_P D vwCl [(q_1, .inl (x 8, r, .inr (.inr (.inr (.inr (fun _ => none))))))] H := hP
  have hD : va_D A [(q_1, .inl (x 8, r, .inr (.inr (.inr (.inr (fun _ => none))))))] := hD
  refine W.widen (k := 1) (n := r) (by omega) (by omega) ?_
  refine lv_astore_n (lv' := [(1, .ref q_1), (0, .int (nI r))]) hx hb dX4_many_4 rfl hl (by decide) rfl (fun ls hl => ?_)
  refine lv_iconst (v := 0) hx hb dX4_many_5 (by decide) ?_
  refine lv_istore_n (lv' := [(2, .int 0), (1, .ref q_1), (0, .int (nI r))]) hx hb dX4_many_6 rfl hl (by decide) rfl (fun ls hl => ?_)
  refine W.widen (k := 1 + 0 * 2) (n := r + 0 * 3) (by omega) (by omega) ?_
  refine lp_Num_many (Q := MQ below _ _ s _ _ _) r q_1  hx hb hml hts hown hZ hA  hrw (by exact Nat.le_refl _) (by exact Nat.le_refl _) (by exact ⟨Nat.le_of_ble_eq_true rfl, Nat.le_of_ble_eq_true rfl⟩) ?_ r 0 (by omega) _ H _ ls hP hD hS (by rw [nI_0]; exact lv_sub hl [0, 1, 2] rfl)
  intro g H locs ls hP hD hS hl
  refine lv_aload_n hx hb dX4_many_30 rfl (lv_at hl 1 rfl) ?_
  have hP9 := hP.sub (ws' := []) [] rfl
  have hD9 := hD.sub (ws' := []) [] (by decide) rfl
  exact W.aret (v := .ref q_1) hx hb hr (Or.inr ⟨_, rfl⟩) (Or.inr ⟨_, rfl⟩) (fun t ht hW => ⟨⟨(), _, rfl, trivial, ⟨by rw [ht]; exact hP9, hD9⟩⟩, hS.F ht⟩) hS.2.2 dX4_many_31
