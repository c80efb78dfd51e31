theorem dL_law_18 : decode cL_law 18 = .ok (.iload_n 3, 1) := by decide +kernel
theorem dL_law_19 : decode cL_law 19 = .ok (.aload_n 0, 1) := by decide +kernel
theorem dL_law_20 : decode cL_law 20 = .ok (.arraylength, 1) := by decide +kernel
theorem dL_law_21 : decode cL_law 21 = .ok (.bipush 6, 2) := by decide +kernel
theorem dL_law_23 : decode cL_law 23 = .ok (.isub, 1) := by decide +kernel
theorem dL_law_24 : decode cL_law 24 = .ok (.if_icmp .gt 825, 3) := by decide +kernel
theorem dL_law_843 : decode cL_law 843 = .ok (.iinc 3 6, 3) := by decide +kernel
theorem dL_law_846 : decode cL_law 846 = .ok (.goto (-828), 3) := by decide +kernel

section ZLAW
variable {p : Program} {l : Launch} {e : Env} {R : Room} {s : State} {m : MethodId} {args : Array Value} {below : List Frame} {meth : Method} {c : Code} {H : Heap} {locs : List Loc} {cells slots : Nat} {Q : State → Prop}
variable {cc : ByteArray} {pc : Nat} {ls : Array Slot} {rest : List Value} {A : Nat → Prop} {H0 : Heap}
theorem z_sld (hexec : p.tables.exec = Jvm.exec) (hb : c.code = cc) {b L : Nat} {xs : Nat → Int32} (hX : va_X b L xs s H0) (hbl : b < H0.size) (hbA : ¬ A b) (hS : va_S A H0 H locs) {i : Int32} (hin : vp_in i L) {v : Int32} (hv : xs i.toNatClampNeg = v) (hdg : decode cc pc = .ok (.iaload, 1))
    (kk : W p l e R s m args below meth c H locs cells slots Q (F0 m (pc + 1) ls (.int v :: rest))) : W p l e R s m args below meth c H locs cells slots Q (F0 m pc ls (.int i :: .ref b :: rest)) := va_sld hexec hb hX hbl hbA hS hin hdg (by rw [hv]; exact kk)
end ZLAW
abbrev lw0 : Cond := .instanceMethod objectInit
/-- an array's class out of its word: of a kind that is no class -/
theorem zk_prim {w : Cond} {args : Array Value} {s : State} {ty : FieldType} (hw : w = .arrayClass ty) (ht : ∀ C, ty ≠ .object C) (h : w.before args s = true) : ∃ cA, ArrOfT s cA ty ∧ va_RA s cA ty := by
  subst hw
  obtain ⟨cA, kA, comp, h1, h2, h3⟩ := Cond.arrayClass_spec h
  refine ⟨cA, fun n z => ⟨(fun k h => by cases h), kA, h2, comp, h3⟩, ?_⟩
  cases ty with
  | object C => exact absurd rfl (ht C)
  | _ => exact h1
theorem zk_over {args : Array Value} {s : State} {C : String} (h : (Cond.arrayOver (.object C)).before args s = true) : ∃ cA, ArrOfT s cA (.object C) ∧ va_RA s cA (.object C) := by
  obtain ⟨comp, cA, kA, h1, h2, h3, h4, h5⟩ := Cond.arrayOver_spec h
  exact ⟨cA, fun n z => ⟨(fun k h => by cases h), kA, h3, comp, h4⟩, kA, comp, h3, h4, h1, h5⟩

theorem zN_on : zN.all (fun w => w.onTables) = true := by decide +kernel
theorem lw0_tbl : ∀ w ∈ (lw0 :: zW : List Cond), w ∈ lw_tbl := List.forall_mem_cons.mpr ⟨zW_tbl _ (List.mem_append_left _ (List.mem_of_getElem? (i := 0) rfl)), zW_tbl⟩
set_option maxHeartbeats 4000000 in
set_option maxRecDepth 100000 in
theorem zK_start {args : Array Value} {s : State} (hts : ∀ w ∈ lw_tbl, w.before args s = true) : ∃ (x : Nat → ClassId) (D : va_G), zK x D s := by
  have h0 : ∀ w ∈ (lw0 :: zW : List Cond), w.before args s = true := fun w hw => hts w (lw0_tbl w hw)
  obtain ⟨c0, i0, k0⟩ := u_known (C := RX0) (T := TX0) (N := 18) (n := 18) h0 (zi_0 _).1 (h0 _ (zm_906 _))
  obtain ⟨c1, i1, k1⟩ := u_known (C := RX1) (T := TX1) (N := 16) (n := 16) h0 (zi_1 _).1 (h0 _ (zm_903 _))
  obtain ⟨c2, i2, k2⟩ := u_known (C := RX2) (T := TX2) (N := 19) (n := 19) h0 (zi_2 _).1 (h0 _ (zm_907 _))
  obtain ⟨c3, i3, k3⟩ := u_known (C := RX3) (T := TX3) (N := 9) (n := 9) h0 (zi_3 _).1 (h0 _ (zm_21 _))
  obtain ⟨c4, i4, k4⟩ := u_known (C := RX4) (T := TX4) (N := 3) (n := 3) h0 (zi_4 _).1 (h0 _ (zm_30 _))
  obtain ⟨c5, i5, k5⟩ := u_known (C := RX5) (T := TX5) (N := 14) (n := 14) h0 (zi_5 _).1 (h0 _ (zm_71 _))
  obtain ⟨c6, i6, k6⟩ := u_known (C := RX6) (T := TX6) (N := 3) (n := 3) h0 (zi_6 _).1 (h0 _ (zm_10 _))
  obtain ⟨c7, i7, k7⟩ := u_known (C := RX7) (T := TX7) (N := 20) (n := 20) h0 (zi_7 _).1 (h0 _ (zm_904 _))
  obtain ⟨c8, i8, k8⟩ := u_known (C := RX8) (T := TX8) (N := 18) (n := 18) h0 (zi_8 _).1 (h0 _ (zm_898 _))
  obtain ⟨c9, i9, k9⟩ := u_known (C := RX9) (T := TX9) (N := 8) (n := 8) h0 (zi_9 _).1 (h0 _ (zm_899 _))
  obtain ⟨c10, i10, k10⟩ := u_known (C := RX10) (T := TX10) (N := 20) (n := 20) h0 (zi_10 _).1 (h0 _ (zm_905 _))
  obtain ⟨c11, i11, k11⟩ := u_known (C := RX11) (T := TX11) (N := 6) (n := 6) h0 (zi_11 _).1 (h0 _ (zm_908 _))
  obtain ⟨c12, i12, k12⟩ := u_known (C := RX12) (T := TX12) (N := 212) (n := 212) h0 (zi_12 _).1 (h0 _ (zm_909 _))
  obtain ⟨a0, p0⟩ := zk_prim (ty := .int) rfl (fun C h => by cases h) (h0 _ (zm_2 _))
  obtain ⟨a1, p1⟩ := zk_prim (ty := .byte) rfl (fun C h => by cases h) (h0 _ (zm_3 _))
  obtain ⟨a2, p2⟩ := zk_prim (ty := .long) rfl (fun C h => by cases h) (h0 _ (zm_4 _))
  obtain ⟨a3, p3⟩ := zk_prim (ty := .boolean) rfl (fun C h => by cases h) (h0 _ (zm_5 _))
  obtain ⟨a4, p4⟩ := zk_over (C := RX3) (hts _ zov_3)
  obtain ⟨a5, p5⟩ := zk_over (C := RX6) (hts _ zov_6)
  obtain ⟨a6, p6⟩ := zk_over (C := RX8) (hts _ zov_8)
  obtain ⟨a7, p7⟩ := zk_over (C := RX1) (hts _ zov_1)
  obtain ⟨a8, p8⟩ := zk_over (C := RX4) (hts _ zov_4)
  obtain ⟨a9, p9⟩ := zk_over (C := RX5) (hts _ zov_5)
  obtain ⟨a10, p10⟩ := zk_over (C := RX10) (hts _ zov_10)
  refine ⟨fun k => match k with | 0 => a0 | 1 => a1 | 2 => a2 | 3 => a3 | 4 => a4 | 5 => a5 | 6 => a6 | 7 => a7 | 8 => a8 | 9 => a9 | _ => a10, (fun k => match k with | 0 => c0 | 1 => c1 | 2 => c2 | 3 => c3 | 4 => c4 | 5 => c5 | 6 => c6 | 7 => c7 | 8 => c8 | 9 => c9 | 10 => c10 | 11 => c11 | _ => c12, fun k => match k with | 0 => i0 | 1 => i1 | 2 => i2 | 3 => i3 | 4 => i4 | 5 => i5 | 6 => i6 | 7 => i7 | 8 => i8 | 9 => i9 | 10 => i10 | 11 => i11 | _ => i12), ⟨?_, ?_⟩, ?_, ?_⟩
  · intro k q hq
    match k, hq with
    | 0, hq => cases hq; exact k0
    | 1, hq => cases hq; exact k1
    | 2, hq => cases hq; exact k2
    | 3, hq => cases hq; exact k3
    | 4, hq => cases hq; exact k4
    | 5, hq => cases hq; exact k5
    | 6, hq => cases hq; exact k6
    | 7, hq => cases hq; exact k7
    | 8, hq => cases hq; exact k8
    | 9, hq => cases hq; exact k9
    | 10, hq => cases hq; exact k10
    | 11, hq => cases hq; exact k11
    | 12, hq => cases hq; exact k12
    | k + 13, hq => simp [vwCl] at hq
  · intro k q hq
    match k, hq with
    | 0, hq => cases hq; exact p0
    | 1, hq => cases hq; exact p1
    | 2, hq => cases hq; exact p2
    | 3, hq => cases hq; exact p3
    | 4, hq => cases hq; exact p4
    | 5, hq => cases hq; exact p5
    | 6, hq => cases hq; exact p6
    | 7, hq => cases hq; exact p7
    | 8, hq => cases hq; exact p8
    | 9, hq => cases hq; exact p9
    | 10, hq => cases hq; exact p10
    | k + 11, hq => simp at hq
  · intro w hw
    exact va_Nw.of (List.all_eq_true.mp zN_on w hw) (hts w (zN_tbl w hw))
  · intro C hC
    exact (show ∀ C ∈ zO, va_AO C s from List.forall_mem_cons.mpr ⟨va_AO.of (hts _ zov_3), List.forall_mem_cons.mpr ⟨va_AO.of (hts _ zov_6), List.forall_mem_cons.mpr ⟨va_AO.of (hts _ zov_8), List.forall_mem_cons.mpr ⟨va_AO.of (hts _ zov_1), List.forall_mem_cons.mpr ⟨va_AO.of (hts _ zov_4), List.forall_mem_cons.mpr ⟨va_AO.of (hts _ zov_5), List.forall_mem_cons.mpr ⟨va_AO.of (hts _ zov_10), fun _ h => absurd h List.not_mem_nil⟩⟩⟩⟩⟩⟩⟩) C hC
/-- what the law's walk stands on -/
def LawC (p : Program) (s : State) (m : MethodId) (meth : Method) (c : Code) (b L : Nat) (xs : Nat → Int32) (A : Nat → Prop) (D : va_G) (x : Nat → ClassId) : Prop :=
  p.tables.exec = Jvm.exec ∧ c.code = code ∧ meth.sig.returnType = ret ∧ c.maxLocals = 4 ∧ s.vm.findClass RL = some m.cls ∧ (∀ w ∈ (lw0 :: zW : List Cond), w.before #[Value.ref b] s = true) ∧ va_X b L xs s s.heap ∧ b < s.heap.size ∧ meth.locks = false ∧ zK x D s ∧ (∀ q, s.heap.size ≤ q → A q) ∧ (∀ q, A q → s.heap.size ≤ q) ∧ ¬ A b
theorem law_len {L : Nat} (hL : L ≤ 6) {y z : Int32} (e1 : y = Int32.ofNat L) (e2 : z = y - 6) (c : ¬ z < 0) : L = 6 := by
  subst e1
  subst e2
  rcases (show L = 0 ∨ L = 1 ∨ L = 2 ∨ L = 3 ∨ L = 4 ∨ L = 5 ∨ L = 6 by omega) with rfl | rfl | rfl | rfl | rfl | rfl | rfl
  · exact absurd (by decide) c
  · exact absurd (by decide) c
  · exact absurd (by decide) c
  · exact absurd (by decide) c
  · exact absurd (by decide) c
  · exact absurd (by decide) c
  · rfl
theorem law_six {y z : Int32} (e1 : y = Int32.ofNat 6) (e2 : z = y - 6) : z < 6 := by
  subst e1
  subst e2
  decide
theorem dL_law_849 : decode cL_law 849 = .ok (.iconst 1, 1) := by decide +kernel
theorem dL_law_850 : decode cL_law 850 = .ok (.ireturn, 1) := by decide +kernel
/-- the law's end: 1 -/
theorem law_exit {p : Program} {l : Launch} {e : Env} {s : State} {m : MethodId} {below : List Frame} {meth : Method} {c : Code} {b L : Nat} {xs : Nat → Int32} {A : Nat → Prop} {D : va_G} {x : Nat → ClassId} (C0 : LawC p s m meth c b L xs A D x) {H : Heap} {locs : List Loc} {ls : Array Slot} (hS : va_S A s.heap H locs) : W p l e room_1 s m #[Value.ref b] below meth c H locs 13405 3699129 (lw_Z below #[Value.ref b] s) (F0 m 849 ls []) := by
  obtain ⟨hx, hb, hr, hml, hown, hts, hX, hbl, hlocks, hZ, hA, hA2, hbA⟩ := C0
  refine lv_iconst (v := 1) hx hb dL_law_849 (by decide) ?_
  refine va_forget (fun q hq => hA2 _ (hS.2.2 q hq)) ?_
  refine W.widen (k := 87370) (n := 8840140) (Nat.le_of_ble_eq_true rfl) (Nat.le_of_ble_eq_true rfl) ?_
  exact lw_ret hx hb hr hlocks dL_law_850
set_option maxHeartbeats 8000000 in
set_option maxRecDepth 100000 in
/-- behind an arm: 6 of 6 ints are read: the law's end -/
theorem law_tail {p : Program} {l : Launch} {e : Env} {s : State} {m : MethodId} {below : List Frame} {meth : Method} {c : Code} {b : Nat} {xs : Nat → Int32} {A : Nat → Prop} {D : va_G} {x : Nat → ClassId} (C0 : LawC p s m meth c b 6 xs A D x) {q1 q2 : Nat} {H : Heap} {locs : List Loc} {ls : Array Slot} (hS : va_S A s.heap H locs) (hl : lv_has ls 4 [(3, .int 0), (2, .ref q2), (1, .ref q1), (0, .ref b)]) : W p l e room_1 s m #[Value.ref b] below meth c H locs 13405 3699129 (lw_Z below #[Value.ref b] s) (F0 m 843 ls []) := by
  obtain ⟨hx, hb, hr, hml, hown, hts, hX, hbl, hlocks, hZ, hA, hA2, hbA⟩ := id C0
  refine lv_iinc (v := 6) (lv' := [(3, .int 6), (2, .ref q2), (1, .ref q1), (0, .ref b)]) hx hb dL_law_843 hl (k := 0) rfl (by decide) (by decide) rfl (fun ls hl => ?_)
  refine lv_goto (tgt := 18) hx hb dL_law_846 (by decide) ?_
  refine lv_iload_n hx hb dL_law_18 rfl (lv_at hl 0 rfl) ?_
  refine lv_aload_n hx hb dL_law_19 rfl (lv_at hl 3 rfl) ?_
  refine va_slen hx hb hX hbl hbA hS dL_law_20 ?_
  refine lv_topi (fun y_1 ex_2 => ?_)
  refine lv_bipush (v := 6) hx hb dL_law_21 (by decide) ?_
  refine lv_isub hx hb dL_law_23 ?_
  refine lv_topi (fun y_4 ex_3 => ?_)
  refine lv_icmp_gt (tgt := 849) hx hb dL_law_24 (by decide) (fun c9 => ?_) (fun c9 => absurd (law_six ex_2 ex_3) c9)
  exact law_exit C0 hS
