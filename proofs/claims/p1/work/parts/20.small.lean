theorem dX6_clear_0 : decode cX6_clear 0 = .ok (.aload_n 0, 1) := by decide +kernel
theorem dX6_clear_1 : decode cX6_clear 1 = .ok (.iconst 0, 1) := by decide +kernel
theorem dX6_clear_2 : decode cX6_clear 2 = .ok (.putfield 18, 3) := by decide +kernel
theorem dX6_clear_5 : decode cX6_clear 5 = .ok (.aload_n 0, 1) := by decide +kernel
theorem dX6_clear_6 : decode cX6_clear 6 = .ok (.iconst 0, 1) := by decide +kernel
theorem dX6_clear_7 : decode cX6_clear 7 = .ok (.putfield 22, 3) := by decide +kernel
theorem dX6_clear_10 : decode cX6_clear 10 = .ok (.return_, 1) := by decide +kernel
theorem dX2_proc_0 : decode cX2_proc 0 = .ok (.iload_n 1, 1) := by decide +kernel
theorem dX2_proc_1 : decode cX2_proc 1 = .ok (.ifCond .lt 29, 3) := by decide +kernel
theorem dX2_proc_4 : decode cX2_proc 4 = .ok (.iload_n 1, 1) := by decide +kernel
theorem dX2_proc_5 : decode cX2_proc 5 = .ok (.aload_n 0, 1) := by decide +kernel
theorem dX2_proc_6 : decode cX2_proc 6 = .ok (.getfield 90, 3) := by decide +kernel
theorem dX2_proc_9 : decode cX2_proc 9 = .ok (.if_icmp .ge 21, 3) := by decide +kernel
theorem dX2_proc_30 : decode cX2_proc 30 = .ok (.aconst_null, 1) := by decide +kernel
theorem dX2_proc_31 : decode cX2_proc 31 = .ok (.areturn, 1) := by decide +kernel
theorem dX2_living_0 : decode cX2_living 0 = .ok (.aload_n 0, 1) := by decide +kernel
theorem dX2_living_1 : decode cX2_living 1 = .ok (.iload_n 1, 1) := by decide +kernel
theorem dX2_living_2 : decode cX2_living 2 = .ok (.invokevirtual 105, 3) := by decide +kernel
theorem dX2_living_5 : decode cX2_living 5 = .ok (.astore_n 2, 1) := by decide +kernel
theorem dX2_living_6 : decode cX2_living 6 = .ok (.aload_n 2, 1) := by decide +kernel
theorem dX2_living_7 : decode cX2_living 7 = .ok (.ifnull 14, 3) := by decide +kernel
theorem dX2_living_21 : decode cX2_living 21 = .ok (.aconst_null, 1) := by decide +kernel
theorem dX2_living_22 : decode cX2_living 22 = .ok (.areturn, 1) := by decide +kernel
theorem dX2_livingCount_0 : decode cX2_livingCount 0 = .ok (.iconst 0, 1) := by decide +kernel
theorem dX2_livingCount_1 : decode cX2_livingCount 1 = .ok (.istore_n 1, 1) := by decide +kernel
theorem dX2_livingCount_2 : decode cX2_livingCount 2 = .ok (.iconst 0, 1) := by decide +kernel
theorem dX2_livingCount_3 : decode cX2_livingCount 3 = .ok (.istore_n 2, 1) := by decide +kernel
theorem dX2_livingCount_4 : decode cX2_livingCount 4 = .ok (.iload_n 2, 1) := by decide +kernel
theorem dX2_livingCount_5 : decode cX2_livingCount 5 = .ok (.aload_n 0, 1) := by decide +kernel
theorem dX2_livingCount_6 : decode cX2_livingCount 6 = .ok (.getfield 90, 3) := by decide +kernel
theorem dX2_livingCount_9 : decode cX2_livingCount 9 = .ok (.if_icmp .ge 20, 3) := by decide +kernel
theorem dX2_livingCount_29 : decode cX2_livingCount 29 = .ok (.iload_n 1, 1) := by decide +kernel
theorem dX2_livingCount_30 : decode cX2_livingCount 30 = .ok (.ireturn, 1) := by decide +kernel
theorem dX2_choose_0 : decode cX2_choose 0 = .ok (.aload_n 0, 1) := by decide +kernel
theorem dX2_choose_1 : decode cX2_choose 1 = .ok (.invokevirtual 124, 3) := by decide +kernel
theorem dX2_choose_4 : decode cX2_choose 4 = .ok (.istore_n 1, 1) := by decide +kernel
theorem dX2_choose_5 : decode cX2_choose 5 = .ok (.iload_n 1, 1) := by decide +kernel
theorem dX2_choose_6 : decode cX2_choose 6 = .ok (.iconst 1, 1) := by decide +kernel
theorem dX2_choose_7 : decode cX2_choose 7 = .ok (.if_icmp .ge 5, 3) := by decide +kernel
theorem dX2_choose_10 : decode cX2_choose 10 = .ok (.iconst (-1), 1) := by decide +kernel
theorem dX2_choose_11 : decode cX2_choose 11 = .ok (.ireturn, 1) := by decide +kernel
theorem dX6_at_0 : decode cX6_at 0 = .ok (.iload_n 1, 1) := by decide +kernel
theorem dX6_at_1 : decode cX6_at 1 = .ok (.ifCond .lt 33, 3) := by decide +kernel
theorem dX6_at_4 : decode cX6_at 4 = .ok (.iload_n 1, 1) := by decide +kernel
theorem dX6_at_5 : decode cX6_at 5 = .ok (.aload_n 0, 1) := by decide +kernel
theorem dX6_at_6 : decode cX6_at 6 = .ok (.getfield 18, 3) := by decide +kernel
theorem dX6_at_9 : decode cX6_at 9 = .ok (.if_icmp .ge 25, 3) := by decide +kernel
theorem dX6_at_34 : decode cX6_at 34 = .ok (.iconst (-1), 1) := by decide +kernel
theorem dX6_at_35 : decode cX6_at 35 = .ok (.ireturn, 1) := by decide +kernel
theorem dX0_lockAt_0 : decode cX0_lockAt 0 = .ok (.iconst 0, 1) := by decide +kernel
theorem dX0_lockAt_1 : decode cX0_lockAt 1 = .ok (.istore_n 2, 1) := by decide +kernel
theorem dX0_lockAt_2 : decode cX0_lockAt 2 = .ok (.iload_n 2, 1) := by decide +kernel
theorem dX0_lockAt_3 : decode cX0_lockAt 3 = .ok (.aload_n 0, 1) := by decide +kernel
theorem dX0_lockAt_4 : decode cX0_lockAt 4 = .ok (.getfield 126, 3) := by decide +kernel
theorem dX0_lockAt_7 : decode cX0_lockAt 7 = .ok (.if_icmp .ge 153, 3) := by decide +kernel
theorem dX0_lockAt_160 : decode cX0_lockAt 160 = .ok (.aconst_null, 1) := by decide +kernel
theorem dX0_lockAt_161 : decode cX0_lockAt 161 = .ok (.areturn, 1) := by decide +kernel
theorem dX9_inOrder_0 : decode cX9_inOrder 0 = .ok (.iconst 0, 1) := by decide +kernel
theorem dX9_inOrder_1 : decode cX9_inOrder 1 = .ok (.istore_n 1, 1) := by decide +kernel
theorem dX9_inOrder_2 : decode cX9_inOrder 2 = .ok (.iload_n 1, 1) := by decide +kernel
theorem dX9_inOrder_3 : decode cX9_inOrder 3 = .ok (.iconst 1, 1) := by decide +kernel
theorem dX9_inOrder_4 : decode cX9_inOrder 4 = .ok (.iadd, 1) := by decide +kernel
theorem dX9_inOrder_5 : decode cX9_inOrder 5 = .ok (.aload_n 0, 1) := by decide +kernel
theorem dX9_inOrder_6 : decode cX9_inOrder 6 = .ok (.getfield 44, 3) := by decide +kernel
theorem dX9_inOrder_9 : decode cX9_inOrder 9 = .ok (.if_icmp .ge 32, 3) := by decide +kernel
theorem dX9_inOrder_41 : decode cX9_inOrder 41 = .ok (.iconst 1, 1) := by decide +kernel
theorem dX9_inOrder_42 : decode cX9_inOrder 42 = .ok (.ireturn, 1) := by decide +kernel

def zTime (n : Int32) : Int32 := if n < 0 then -1 else if n ≤ 2000000000 then n - 0 else -1
def zTurns (n : Int32) : Int32 := if n < 1 then -1 else if n ≤ 400 then 0 else -1
def zEnd (n : Int32) : Int32 := if n < 0 then -1 else if n ≤ 0 then n else -1
def zCut (n t : Int32) : Int32 := if n < -1 then -1 else if 2000 < n then -1 else if t < 0 then -1 else if t < 256 then 1 else -1
def zCount (n : Int32) : Int32 := if n.toInt < 0 ∨ 14 < n.toInt then -1 else 0
theorem z_ge0 {n : Int32} (h : ¬ n < 0) : 0 ≤ n := by
  rw [Int32.lt_iff_toInt_lt] at h
  rw [Int32.le_iff_toInt_le]
  exact Int.not_lt.mp h
theorem z_turn {n : Int32} (h : ¬ n < 1) : ¬ n ≤ 0 := by
  rw [Int32.lt_iff_toInt_lt] at h
  rw [Int32.le_iff_toInt_le]
  have h1 : (1 : Int32).toInt = 1 := by decide
  have h0 : (0 : Int32).toInt = 0 := by decide
  omega
theorem z_save {n : Int32} (h : ¬ n < 1) : ¬ n ≤ 0 := z_turn h

set_option maxHeartbeats 8000000 in
set_option maxRecDepth 100000 in
/-- Row.clear -/
theorem c_Row_clear (l : Launch) (D : va_G) (x : Nat → ClassId) (h0 : Nat) (f0 : Nat → Value) (b0 : Nat) (sz : Nat) (h0_0 : f0 0 = .ref b0) : Met l yX6_clear (.code yX6_clear cX6_clear 1 none :: zW) ({ frames := 0, cells := (0), slots := (0), locals := 0 }) (va_Pc [.ref h0] (fun U => U.heap.size = sz ∧ va_P D vwCl [(h0, .inr (6, zf 3 f0))] U.heap ∧ zK x D U ∧ va_D (fun _ => True) [(h0, .inr (6, zf 3 f0))])) (va_Qv (fun u : Nat → Value => match u with | c0 => c0 0 = .ref b0 ∧ c0 1 = .int 0 ∧ c0 2 = .int 0) (fun u t => match u with | c0 => zB D vwCl (va_A [(h0, .inr (6, zf 3 f0))] sz) [(h0, .inr (6, zf 3 c0))] t) (va_A [(h0, .inr (6, zf 3 f0))] sz)) (0) (0) (va_A [(h0, .inr (6, zf 3 f0))] sz) := by
  refine Met.ofW (cc := cX6_clear) (maxL := 1) (ret := none) (by decide) rfl ?_
  intro p e s m args below meth c s₁ B hml hv
  obtain ⟨rfl, hsz, hP, hZ, hD0⟩ := hv
  have hK := hZ.1
  have hx := B.exec
  have hb := B.bytes
  have hr := B.returns
  have hts := atoms_spec (ws := .code yX6_clear cX6_clear 1 none :: zW) B.pre
  have hown : s.vm.findClass RX6 = some m.cls := findClass_of_methodNamed B.named
  have hlocks := B.notSynchronized
  subst hsz
  have hD := hD0.self (sz := s.heap.size)
  generalize hAe : va_A [(h0, .inr (6, zf 3 f0))] s.heap.size = A at hD ⊢
  have hA : ∀ q : Nat, s.heap.size ≤ q → A q := fun q h => by rw [← hAe]; exact Or.inr h
  have hS : va_S A s.heap s.heap [] := va_S.rf
  have hP : va_P D vwCl [(h0, .inr (6, zf 3 f0))] s.heap := hP
  have hl := lv_entry ([.ref h0]) (n := 1) (Nat.le_of_ble_eq_true rfl)
  rw [lg_entry_eq]
  generalize (lg_sl ([.ref h0]) ++ List.replicate (1 - (lg_sl ([.ref h0])).length) Slot.unset).toArray = ls at hl ⊢
  have hl : lv_has ls 1 [(0, .ref h0)] := hl
  refine lv_aload_n hx hb dX6_clear_0 rfl (lv_at hl 0 rfl) ?_
  refine lv_iconst (v := 0) hx hb dX6_clear_1 (by decide) ?_
  refine z_put (T := TX6) (N := 3) (ci := 6) hx hb hts (zi_6 _) hown hK hP hD hS 0 rfl rfl 1 (by decide) (hts _ (zm_184 _)) rfl rfl rfl rfl dX6_clear_2 (fun H locs f_1 ek_2 ok_3 hP hD hS => ?_)
  have hP : va_P D vwCl [(h0, .inr (6, zf 3 f_1))] H := hP
  have hD : va_D A [(h0, .inr (6, zf 3 f_1))] := hD
  refine lv_aload_n hx hb dX6_clear_5 rfl (lv_at hl 0 rfl) ?_
  refine lv_iconst (v := 0) hx hb dX6_clear_6 (by decide) ?_
  refine z_put (T := TX6) (N := 3) (ci := 6) hx hb hts (zi_6 _) hown hK hP hD hS 0 rfl rfl 2 (by decide) (hts _ (zm_185 _)) rfl rfl rfl rfl dX6_clear_7 (fun H locs f_4 ek_5 ok_6 hP hD hS => ?_)
  have hP : va_P D vwCl [(h0, .inr (6, zf 3 f_4))] H := hP
  have hD : va_D A [(h0, .inr (6, zf 3 f_4))] := hD
  have hP9 := hP.sub (ws' := [(h0, .inr (6, zf 3 f_4))]) [0] rfl
  have hD9 := hD.sub (ws' := [(h0, .inr (6, zf 3 f_4))]) [0] (by decide) rfl
  exact W.vret hx hb hr (fun t ht hW => ⟨⟨f_4, rfl, ⟨((ok_6 0 (by decide)).trans ((ok_3 0 (by decide)).trans h0_0)), ((ok_6 1 (by decide)).trans ek_2), ek_5⟩, ⟨by rw [ht]; exact hP9, hD9⟩⟩, hS.F ht⟩) hS.2.2 dX6_clear_10

set_option maxHeartbeats 8000000 in
set_option maxRecDepth 100000 in
/-- Machine.proc where there are none -/
theorem c_proc0 (l : Launch) (D : va_G) (x : Nat → ClassId) (n0 : Int32) (h0 : Nat) (f0 : Nat → Value) (sz : Nat) (h0_4 : f0 4 = .int 0) : Met l yX2_proc (.code yX2_proc cX2_proc 2 (some (.object "MumpsHouse$Proc")) :: zW) ({ frames := 0, cells := (0), slots := (0), locals := 0 }) (va_Pc [.ref h0, .int n0] (fun U => U.heap.size = sz ∧ va_P D vwCl [(h0, .inr (2, zf 19 f0))] U.heap ∧ zK x D U ∧ va_D (fun _ => True) [(h0, .inr (2, zf 19 f0))])) (va_Qq (fun (r : Option Nat) (u : Unit) => r = none) (fun u t => zB D vwCl (va_A [(h0, .inr (2, zf 19 f0))] sz) [(h0, .inr (2, zf 19 f0))] t) (va_A [(h0, .inr (2, zf 19 f0))] sz)) (0) (0) (va_A [(h0, .inr (2, zf 19 f0))] sz) := by
  refine Met.ofW (cc := cX2_proc) (maxL := 2) (ret := (some (.object "MumpsHouse$Proc"))) (by decide) rfl ?_
  intro p e s m args below meth c s₁ B hml hv
  obtain ⟨rfl, hsz, hP, hZ, hD0⟩ := hv
  have hK := hZ.1
  have hx := B.exec
  have hb := B.bytes
  have hr := B.returns
  have hts := atoms_spec (ws := .code yX2_proc cX2_proc 2 (some (.object "MumpsHouse$Proc")) :: zW) B.pre
  have hown : s.vm.findClass RX2 = some m.cls := findClass_of_methodNamed B.named
  have hlocks := B.notSynchronized
  subst hsz
  have hD := hD0.self (sz := s.heap.size)
  generalize hAe : va_A [(h0, .inr (2, zf 19 f0))] s.heap.size = A at hD ⊢
  have hA : ∀ q : Nat, s.heap.size ≤ q → A q := fun q h => by rw [← hAe]; exact Or.inr h
  have hS : va_S A s.heap s.heap [] := va_S.rf
  have hP : va_P D vwCl [(h0, .inr (2, zf 19 f0))] s.heap := hP
  have hl := lv_entry ([.ref h0, .int n0]) (n := 2) (Nat.le_of_ble_eq_true rfl)
  rw [lg_entry_eq]
  generalize (lg_sl ([.ref h0, .int n0]) ++ List.replicate (2 - (lg_sl ([.ref h0, .int n0])).length) Slot.unset).toArray = ls at hl ⊢
  have hl : lv_has ls 2 [(0, .ref h0), (1, .int n0)] := hl
  refine lv_iload_n hx hb dX2_proc_0 rfl (lv_at hl 1 rfl) ?_
  refine lv_if_lt (tgt := 30) hx hb dX2_proc_1 (by decide) (fun c_1 => ?_) (fun c_1 => ?_)
  · skip
    refine lv_null hx hb dX2_proc_30 ?_
    refine W.widen (k := 0) (n := 0) (Nat.le_of_ble_eq_true rfl) (Nat.le_of_ble_eq_true rfl) ?_
    have hP9 := hP.sub (ws' := [(h0, .inr (2, zf 19 f0))]) [0] rfl
    have hD9 := hD.sub (ws' := [(h0, .inr (2, zf 19 f0))]) [0] (by decide) rfl
    exact W.aret (v := .null) hx hb hr (Or.inl ⟨_, rfl⟩) (Or.inl rfl) (fun t ht hW => ⟨⟨none, (), rfl, rfl, ⟨by rw [ht]; exact hP9, hD9⟩⟩, hS.F ht⟩) hS.2.2 dX2_proc_31
  · skip
    refine lv_iload_n hx hb dX2_proc_4 rfl (lv_at hl 1 rfl) ?_
    refine lv_aload_n hx hb dX2_proc_5 rfl (lv_at hl 0 rfl) ?_
    refine z_get (T := TX2) (N := 19) (ci := 2) hx hb hts (zi_2 _) hown hK hP 0 rfl rfl 4 (by decide) (hts _ (zm_288 _)) rfl h0_4 dX2_proc_6 ?_
    refine lv_icmp_ge (tgt := 30) hx hb dX2_proc_9 (by decide) (fun _ => ?_) (fun c9 => absurd ((z_ge0 c_1)) c9)
    refine lv_null hx hb dX2_proc_30 ?_
    refine W.widen (k := 0) (n := 0) (Nat.le_of_ble_eq_true rfl) (Nat.le_of_ble_eq_true rfl) ?_
    have hP9 := hP.sub (ws' := [(h0, .inr (2, zf 19 f0))]) [0] rfl
    have hD9 := hD.sub (ws' := [(h0, .inr (2, zf 19 f0))]) [0] (by decide) rfl
    exact W.aret (v := .null) hx hb hr (Or.inl ⟨_, rfl⟩) (Or.inl rfl) (fun t ht hW => ⟨⟨none, (), rfl, rfl, ⟨by rw [ht]; exact hP9, hD9⟩⟩, hS.F ht⟩) hS.2.2 dX2_proc_31

set_option maxHeartbeats 8000000 in
set_option maxRecDepth 100000 in
/-- Machine.living where there are none -/
theorem c_living0 (l : Launch) (D : va_G) (x : Nat → ClassId) (n0 : Int32) (h0 : Nat) (f0 : Nat → Value) (sz : Nat) (h0_4 : f0 4 = .int 0) : Met l yX2_living (.code yX2_living cX2_living 3 (some (.object "MumpsHouse$Proc")) :: zW) ({ frames := 1, cells := (0), slots := (0), locals := 21 }) (va_Pc [.ref h0, .int n0] (fun U => U.heap.size = sz ∧ va_P D vwCl [(h0, .inr (2, zf 19 f0))] U.heap ∧ zK x D U ∧ va_D (fun _ => True) [(h0, .inr (2, zf 19 f0))])) (va_Qq (fun (r : Option Nat) (u : Unit) => r = none) (fun u t => zB D vwCl (va_A [(h0, .inr (2, zf 19 f0))] sz) [(h0, .inr (2, zf 19 f0))] t) (va_A [(h0, .inr (2, zf 19 f0))] sz)) (0) (0) (va_A [(h0, .inr (2, zf 19 f0))] sz) := by
  refine Met.ofW (cc := cX2_living) (maxL := 3) (ret := (some (.object "MumpsHouse$Proc"))) (by decide) rfl ?_
  intro p e s m args below meth c s₁ B hml hv
  obtain ⟨rfl, hsz, hP, hZ, hD0⟩ := hv
  have hK := hZ.1
  have hx := B.exec
  have hb := B.bytes
  have hr := B.returns
  have hts := atoms_spec (ws := .code yX2_living cX2_living 3 (some (.object "MumpsHouse$Proc")) :: zW) B.pre
  have hown : s.vm.findClass RX2 = some m.cls := findClass_of_methodNamed B.named
  have hlocks := B.notSynchronized
  subst hsz
  have hD := hD0.self (sz := s.heap.size)
  generalize hAe : va_A [(h0, .inr (2, zf 19 f0))] s.heap.size = A at hD ⊢
  have hA : ∀ q : Nat, s.heap.size ≤ q → A q := fun q h => by rw [← hAe]; exact Or.inr h
  have hS : va_S A s.heap s.heap [] := va_S.rf
  have hP : va_P D vwCl [(h0, .inr (2, zf 19 f0))] s.heap := hP
  have hl := lv_entry ([.ref h0, .int n0]) (n := 3) (Nat.le_of_ble_eq_true rfl)
  rw [lg_entry_eq]
  generalize (lg_sl ([.ref h0, .int n0]) ++ List.replicate (3 - (lg_sl ([.ref h0, .int n0])).length) Slot.unset).toArray = ls at hl ⊢
  have hl : lv_has ls 3 [(0, .ref h0), (1, .int n0)] := hl
  refine lv_aload_n hx hb dX2_living_0 rfl (lv_at hl 0 rfl) ?_
  refine lv_iload_n hx hb dX2_living_1 rfl (lv_at hl 1 rfl) ?_
  have hPc := hP.sub (ws' := [(h0, .inr (2, zf 19 f0))]) [0] rfl
  have hDc := hD.sub (ws' := [(h0, .inr (2, zf 19 f0))]) [0] (by decide) rfl
  have hFc := va_free (wc := [(h0, .inr (2, zf 19 f0))]) hD hS hA [0] rfl
  have h_2 : 0 + 0 ≤ 0 ∧ 0 + 0 ≤ 0 := by omega
  refine va_callq (va_runV (As := [.int n0]) (rest := []) ⟨hx, hb, hml, hown, hts⟩ (c_proc0 l D x n0 h0 f0 s.heap.size h0_4) ⟨callB_of 1 hts (zgood (zm_285 _) rfl) rfl rfl rfl (hts _ (zm_146 _)) (hts _ (zm_292 _)) ⟨by decide, by decide, by decide +kernel⟩ ⟨Nat.le_of_ble_eq_true rfl, Nat.le_of_ble_eq_true rfl⟩, hts _ (zm_286 _), hts _ (zm_287 _)⟩ ⟨fun a U g mk q => by obtain ⟨q0, q1, qP, qK, qD⟩ := q; exact ⟨q0, q1, qP, ZK.calling (u := U) zN_ok rfl qK, qD⟩, va_recv hK hPc (ci := 2) (q0 := 0) rfl rfl, fun U hU hW => ⟨rfl, by rw [hU], by rw [hU]; exact hPc, ZK.warm zN_ok hW hZ, hDc.weaken (fun _ _ _ _ => trivial)⟩⟩ rfl rfl hl.1 rfl (lv_room (Nat.le_of_ble_eq_true rfl)) dX2_living_2 h_2) hS (fun q _ h => hFc q h) hFc (fun r_1 u t H1 locs ht hvm hw_1 hB hz1 hk1 hS => ?_)
  obtain ⟨hP1, hD1⟩ := hB
  rw [ht] at hP1
  try dsimp only at hw_1
  obtain ⟨hP, hD⟩ := va_join (wr := []) (w1 := [(h0, .inr (2, zf 19 f0))]) hP hD [0] [] rfl rfl (by decide) (by decide) hk1 hFc hP1 hD1
  generalize H1 = H at hP hS ⊢
  have hP : va_P D vwCl [(h0, .inr (2, zf 19 f0))] H := hP
  have hD : va_D A [(h0, .inr (2, zf 19 f0))] := hD
  refine W.widen (k := 0) (n := 0) (by omega) (by omega) ?_
  obtain rfl : r_1 = none := hw_1
  refine lv_astore_nN (lv' := [(2, .null), (0, .ref h0), (1, .int n0)]) hx hb dX2_living_5 rfl hl (by decide) rfl (fun ls hl => ?_)
  refine lv_aload_nN hx hb dX2_living_6 rfl (lv_at hl 0 rfl) ?_
  refine lv_ifnullN (tgt := 21) hx hb dX2_living_7 (by decide) ?_
  refine lv_null hx hb dX2_living_21 ?_
  refine W.widen (k := 0) (n := 0) (Nat.le_of_ble_eq_true rfl) (Nat.le_of_ble_eq_true rfl) ?_
  have hP9 := hP.sub (ws' := [(h0, .inr (2, zf 19 f0))]) [0] rfl
  have hD9 := hD.sub (ws' := [(h0, .inr (2, zf 19 f0))]) [0] (by decide) rfl
  exact W.aret (v := .null) hx hb hr (Or.inl ⟨_, rfl⟩) (Or.inl rfl) (fun t ht hW => ⟨⟨none, (), rfl, rfl, ⟨by rw [ht]; exact hP9, hD9⟩⟩, hS.F ht⟩) hS.2.2 dX2_living_22

set_option maxHeartbeats 8000000 in
set_option maxRecDepth 100000 in
/-- Machine.livingCount -/
theorem c_livingCount0 (l : Launch) (D : va_G) (x : Nat → ClassId) (h0 : Nat) (f0 : Nat → Value) (sz : Nat) (h0_4 : f0 4 = .int 0) : Met l yX2_livingCount (.code yX2_livingCount cX2_livingCount 3 (some .int) :: zW) ({ frames := 0, cells := (0), slots := (0), locals := 0 }) (va_Pc [.ref h0] (fun U => U.heap.size = sz ∧ va_P D vwCl [(h0, .inr (2, zf 19 f0))] U.heap ∧ zK x D U ∧ va_D (fun _ => True) [(h0, .inr (2, zf 19 f0))])) (va_Qi (fun (r : Int32) (u : Unit) => r = 0) (fun u t => zB D vwCl (va_A [(h0, .inr (2, zf 19 f0))] sz) [(h0, .inr (2, zf 19 f0))] t) (va_A [(h0, .inr (2, zf 19 f0))] sz)) (0) (0) (va_A [(h0, .inr (2, zf 19 f0))] sz) := by
  refine Met.ofW (cc := cX2_livingCount) (maxL := 3) (ret := (some .int)) (by decide) rfl ?_
  intro p e s m args below meth c s₁ B hml hv
  obtain ⟨rfl, hsz, hP, hZ, hD0⟩ := hv
  have hK := hZ.1
  have hx := B.exec
  have hb := B.bytes
  have hr := B.returns
  have hts := atoms_spec (ws := .code yX2_livingCount cX2_livingCount 3 (some .int) :: zW) B.pre
  have hown : s.vm.findClass RX2 = some m.cls := findClass_of_methodNamed B.named
  have hlocks := B.notSynchronized
  subst hsz
  have hD := hD0.self (sz := s.heap.size)
  generalize hAe : va_A [(h0, .inr (2, zf 19 f0))] s.heap.size = A at hD ⊢
  have hA : ∀ q : Nat, s.heap.size ≤ q → A q := fun q h => by rw [← hAe]; exact Or.inr h
  have hS : va_S A s.heap s.heap [] := va_S.rf
  have hP : va_P D vwCl [(h0, .inr (2, zf 19 f0))] s.heap := hP
  have hl := lv_entry ([.ref h0]) (n := 3) (Nat.le_of_ble_eq_true rfl)
  rw [lg_entry_eq]
  generalize (lg_sl ([.ref h0]) ++ List.replicate (3 - (lg_sl ([.ref h0])).length) Slot.unset).toArray = ls at hl ⊢
  have hl : lv_has ls 3 [(0, .ref h0)] := hl
  refine lv_iconst (v := 0) hx hb dX2_livingCount_0 (by decide) ?_
  refine lv_istore_n (lv' := [(1, .int 0), (0, .ref h0)]) hx hb dX2_livingCount_1 rfl hl (by decide) rfl (fun ls hl => ?_)
  refine lv_iconst (v := 0) hx hb dX2_livingCount_2 (by decide) ?_
  refine lv_istore_n (lv' := [(2, .int 0), (1, .int 0), (0, .ref h0)]) hx hb dX2_livingCount_3 rfl hl (by decide) rfl (fun ls hl => ?_)
  refine lv_iload_n hx hb dX2_livingCount_4 rfl (lv_at hl 0 rfl) ?_
  refine lv_aload_n hx hb dX2_livingCount_5 rfl (lv_at hl 2 rfl) ?_
  refine z_get (T := TX2) (N := 19) (ci := 2) hx hb hts (zi_2 _) hown hK hP 0 rfl rfl 4 (by decide) (hts _ (zm_288 _)) rfl h0_4 dX2_livingCount_6 ?_
  refine lv_icmp_ge (tgt := 29) hx hb dX2_livingCount_9 (by decide) (fun _ => ?_) (fun c9 => absurd (by decide) c9)
  refine lv_iload_n hx hb dX2_livingCount_29 rfl (lv_at hl 1 rfl) ?_
  refine W.widen (k := 0) (n := 0) (Nat.le_of_ble_eq_true rfl) (Nat.le_of_ble_eq_true rfl) ?_
  have hP9 := hP.sub (ws' := [(h0, .inr (2, zf 19 f0))]) [0] rfl
  have hD9 := hD.sub (ws' := [(h0, .inr (2, zf 19 f0))]) [0] (by decide) rfl
  exact W.iret (v := 0) hx hb hr (fun t ht hW => ⟨⟨_, (), rfl, rfl, ⟨by rw [ht]; exact hP9, hD9⟩⟩, hS.F ht⟩) hS.2.2 dX2_livingCount_30

set_option maxHeartbeats 8000000 in
set_option maxRecDepth 100000 in
/-- Machine.choose -/
theorem c_choose0 (l : Launch) (D : va_G) (x : Nat → ClassId) (h0 : Nat) (f0 : Nat → Value) (sz : Nat) (h0_4 : f0 4 = .int 0) : Met l yX2_choose (.code yX2_choose cX2_choose 6 (some .int) :: zW) ({ frames := 1, cells := (0), slots := (0), locals := 22 }) (va_Pc [.ref h0] (fun U => U.heap.size = sz ∧ va_P D vwCl [(h0, .inr (2, zf 19 f0))] U.heap ∧ zK x D U ∧ va_D (fun _ => True) [(h0, .inr (2, zf 19 f0))])) (va_Qi (fun (r : Int32) (u : Unit) => r = (-1)) (fun u t => zB D vwCl (va_A [(h0, .inr (2, zf 19 f0))] sz) [(h0, .inr (2, zf 19 f0))] t) (va_A [(h0, .inr (2, zf 19 f0))] sz)) (0) (0) (va_A [(h0, .inr (2, zf 19 f0))] sz) := by
  refine Met.ofW (cc := cX2_choose) (maxL := 6) (ret := (some .int)) (by decide) rfl ?_
  intro p e s m args below meth c s₁ B hml hv
  obtain ⟨rfl, hsz, hP, hZ, hD0⟩ := hv
  have hK := hZ.1
  have hx := B.exec
  have hb := B.bytes
  have hr := B.returns
  have hts := atoms_spec (ws := .code yX2_choose cX2_choose 6 (some .int) :: zW) B.pre
  have hown : s.vm.findClass RX2 = some m.cls := findClass_of_methodNamed B.named
  have hlocks := B.notSynchronized
  subst hsz
  have hD := hD0.self (sz := s.heap.size)
  generalize hAe : va_A [(h0, .inr (2, zf 19 f0))] s.heap.size = A at hD ⊢
  have hA : ∀ q : Nat, s.heap.size ≤ q → A q := fun q h => by rw [← hAe]; exact Or.inr h
  have hS : va_S A s.heap s.heap [] := va_S.rf
  have hP : va_P D vwCl [(h0, .inr (2, zf 19 f0))] s.heap := hP
  have hl := lv_entry ([.ref h0]) (n := 6) (Nat.le_of_ble_eq_true rfl)
  rw [lg_entry_eq]
  generalize (lg_sl ([.ref h0]) ++ List.replicate (6 - (lg_sl ([.ref h0])).length) Slot.unset).toArray = ls at hl ⊢
  have hl : lv_has ls 6 [(0, .ref h0)] := hl
  refine lv_aload_n hx hb dX2_choose_0 rfl (lv_at hl 0 rfl) ?_
  have hPc := hP.sub (ws' := [(h0, .inr (2, zf 19 f0))]) [0] rfl
  have hDc := hD.sub (ws' := [(h0, .inr (2, zf 19 f0))]) [0] (by decide) rfl
  have hFc := va_free (wc := [(h0, .inr (2, zf 19 f0))]) hD hS hA [0] rfl
  have h_2 : 0 + 0 ≤ 0 ∧ 0 + 0 ≤ 0 := by omega
  refine va_calli (va_runV (As := []) (rest := []) ⟨hx, hb, hml, hown, hts⟩ (c_livingCount0 l D x h0 f0 s.heap.size h0_4) ⟨callB_of 0 hts (zgood (zm_293 _) rfl) rfl rfl rfl (hts _ (zm_146 _)) (hts _ (zm_300 _)) ⟨by decide, by decide, by decide +kernel⟩ ⟨Nat.le_of_ble_eq_true rfl, Nat.le_of_ble_eq_true rfl⟩, hts _ (zm_294 _), hts _ (zm_295 _)⟩ ⟨fun a U g mk q => by obtain ⟨q0, q1, qP, qK, qD⟩ := q; exact ⟨q0, q1, qP, ZK.calling (u := U) zN_ok rfl qK, qD⟩, va_recv hK hPc (ci := 2) (q0 := 0) rfl rfl, fun U hU hW => ⟨rfl, by rw [hU], by rw [hU]; exact hPc, ZK.warm zN_ok hW hZ, hDc.weaken (fun _ _ _ _ => trivial)⟩⟩ rfl rfl hl.1 rfl (lv_room (Nat.le_of_ble_eq_true rfl)) dX2_choose_1 h_2) hS (fun q _ h => hFc q h) hFc (fun r_1 u t H1 locs ht hvm hw_1 hB hz1 hk1 hS => ?_)
  obtain ⟨hP1, hD1⟩ := hB
  rw [ht] at hP1
  try dsimp only at hw_1
  obtain ⟨hP, hD⟩ := va_join (wr := []) (w1 := [(h0, .inr (2, zf 19 f0))]) hP hD [0] [] rfl rfl (by decide) (by decide) hk1 hFc hP1 hD1
  generalize H1 = H at hP hS ⊢
  have hP : va_P D vwCl [(h0, .inr (2, zf 19 f0))] H := hP
  have hD : va_D A [(h0, .inr (2, zf 19 f0))] := hD
  refine W.widen (k := 0) (n := 0) (by omega) (by omega) ?_
  obtain rfl : r_1 = 0 := hw_1
  refine lv_istore_n (lv' := [(1, .int 0), (0, .ref h0)]) hx hb dX2_choose_4 rfl hl (by decide) rfl (fun ls hl => ?_)
  refine lv_iload_n hx hb dX2_choose_5 rfl (lv_at hl 0 rfl) ?_
  refine lv_iconst (v := 1) hx hb dX2_choose_6 (by decide) ?_
  refine lv_icmp_ge (tgt := 12) hx hb dX2_choose_7 (by decide) (fun c9 => absurd c9 (by decide)) (fun _ => ?_)
  refine lv_iconst (v := (-1)) hx hb dX2_choose_10 (by decide) ?_
  refine W.widen (k := 0) (n := 0) (Nat.le_of_ble_eq_true rfl) (Nat.le_of_ble_eq_true rfl) ?_
  have hP9 := hP.sub (ws' := [(h0, .inr (2, zf 19 f0))]) [0] rfl
  have hD9 := hD.sub (ws' := [(h0, .inr (2, zf 19 f0))]) [0] (by decide) rfl
  exact W.iret (v := (-1)) hx hb hr (fun t ht hW => ⟨⟨_, (), rfl, rfl, ⟨by rw [ht]; exact hP9, hD9⟩⟩, hS.F ht⟩) hS.2.2 dX2_choose_11

set_option maxHeartbeats 8000000 in
set_option maxRecDepth 100000 in
/-- Row.at of an empty row -/
theorem c_at0 (l : Launch) (D : va_G) (x : Nat → ClassId) (n0 : Int32) (h0 : Nat) (f0 : Nat → Value) (sz : Nat) (h0_1 : f0 1 = .int 0) : Met l yX6_at (.code yX6_at cX6_at 2 (some .int) :: zW) ({ frames := 0, cells := (0), slots := (0), locals := 0 }) (va_Pc [.ref h0, .int n0] (fun U => U.heap.size = sz ∧ va_P D vwCl [(h0, .inr (6, zf 3 f0))] U.heap ∧ zK x D U ∧ va_D (fun _ => True) [(h0, .inr (6, zf 3 f0))])) (va_Qi (fun (r : Int32) (u : Unit) => r = (-1)) (fun u t => zB D vwCl (va_A [(h0, .inr (6, zf 3 f0))] sz) [(h0, .inr (6, zf 3 f0))] t) (va_A [(h0, .inr (6, zf 3 f0))] sz)) (0) (0) (va_A [(h0, .inr (6, zf 3 f0))] sz) := by
  refine Met.ofW (cc := cX6_at) (maxL := 2) (ret := (some .int)) (by decide) rfl ?_
  intro p e s m args below meth c s₁ B hml hv
  obtain ⟨rfl, hsz, hP, hZ, hD0⟩ := hv
  have hK := hZ.1
  have hx := B.exec
  have hb := B.bytes
  have hr := B.returns
  have hts := atoms_spec (ws := .code yX6_at cX6_at 2 (some .int) :: zW) B.pre
  have hown : s.vm.findClass RX6 = some m.cls := findClass_of_methodNamed B.named
  have hlocks := B.notSynchronized
  subst hsz
  have hD := hD0.self (sz := s.heap.size)
  generalize hAe : va_A [(h0, .inr (6, zf 3 f0))] s.heap.size = A at hD ⊢
  have hA : ∀ q : Nat, s.heap.size ≤ q → A q := fun q h => by rw [← hAe]; exact Or.inr h
  have hS : va_S A s.heap s.heap [] := va_S.rf
  have hP : va_P D vwCl [(h0, .inr (6, zf 3 f0))] s.heap := hP
  have hl := lv_entry ([.ref h0, .int n0]) (n := 2) (Nat.le_of_ble_eq_true rfl)
  rw [lg_entry_eq]
  generalize (lg_sl ([.ref h0, .int n0]) ++ List.replicate (2 - (lg_sl ([.ref h0, .int n0])).length) Slot.unset).toArray = ls at hl ⊢
  have hl : lv_has ls 2 [(0, .ref h0), (1, .int n0)] := hl
  refine lv_iload_n hx hb dX6_at_0 rfl (lv_at hl 1 rfl) ?_
  refine lv_if_lt (tgt := 34) hx hb dX6_at_1 (by decide) (fun c_1 => ?_) (fun c_1 => ?_)
  · skip
    refine lv_iconst (v := (-1)) hx hb dX6_at_34 (by decide) ?_
    refine W.widen (k := 0) (n := 0) (Nat.le_of_ble_eq_true rfl) (Nat.le_of_ble_eq_true rfl) ?_
    have hP9 := hP.sub (ws' := [(h0, .inr (6, zf 3 f0))]) [0] rfl
    have hD9 := hD.sub (ws' := [(h0, .inr (6, zf 3 f0))]) [0] (by decide) rfl
    exact W.iret (v := (-1)) hx hb hr (fun t ht hW => ⟨⟨_, (), rfl, rfl, ⟨by rw [ht]; exact hP9, hD9⟩⟩, hS.F ht⟩) hS.2.2 dX6_at_35
  · skip
    refine lv_iload_n hx hb dX6_at_4 rfl (lv_at hl 1 rfl) ?_
    refine lv_aload_n hx hb dX6_at_5 rfl (lv_at hl 0 rfl) ?_
    refine z_get (T := TX6) (N := 3) (ci := 6) hx hb hts (zi_6 _) hown hK hP 0 rfl rfl 1 (by decide) (hts _ (zm_184 _)) rfl h0_1 dX6_at_6 ?_
    refine lv_icmp_ge (tgt := 34) hx hb dX6_at_9 (by decide) (fun _ => ?_) (fun c9 => absurd ((z_ge0 c_1)) c9)
    refine lv_iconst (v := (-1)) hx hb dX6_at_34 (by decide) ?_
    refine W.widen (k := 0) (n := 0) (Nat.le_of_ble_eq_true rfl) (Nat.le_of_ble_eq_true rfl) ?_
    have hP9 := hP.sub (ws' := [(h0, .inr (6, zf 3 f0))]) [0] rfl
    have hD9 := hD.sub (ws' := [(h0, .inr (6, zf 3 f0))]) [0] (by decide) rfl
    exact W.iret (v := (-1)) hx hb hr (fun t ht hW => ⟨⟨_, (), rfl, rfl, ⟨by rw [ht]; exact hP9, hD9⟩⟩, hS.F ht⟩) hS.2.2 dX6_at_35

set_option maxHeartbeats 8000000 in
set_option maxRecDepth 100000 in
/-- House.lockAt -/
theorem c_lockAt0 (l : Launch) (D : va_G) (x : Nat → ClassId) (n0 : Int32) (h0 : Nat) (f0 : Nat → Value) (sz : Nat) (h0_14 : f0 14 = .int 0) : Met l yX0_lockAt (.code yX0_lockAt cX0_lockAt 8 (some (.object "MumpsHouse$Node")) :: zW) ({ frames := 0, cells := (0), slots := (0), locals := 0 }) (va_Pc [.ref h0, .int n0] (fun U => U.heap.size = sz ∧ va_P D vwCl [(h0, .inr (0, zf 18 f0))] U.heap ∧ zK x D U ∧ va_D (fun _ => True) [(h0, .inr (0, zf 18 f0))])) (va_Qq (fun (r : Option Nat) (u : Unit) => r = none) (fun u t => zB D vwCl (va_A [(h0, .inr (0, zf 18 f0))] sz) [(h0, .inr (0, zf 18 f0))] t) (va_A [(h0, .inr (0, zf 18 f0))] sz)) (0) (0) (va_A [(h0, .inr (0, zf 18 f0))] sz) := by
  refine Met.ofW (cc := cX0_lockAt) (maxL := 8) (ret := (some (.object "MumpsHouse$Node"))) (by decide) rfl ?_
  intro p e s m args below meth c s₁ B hml hv
  obtain ⟨rfl, hsz, hP, hZ, hD0⟩ := hv
  have hK := hZ.1
  have hx := B.exec
  have hb := B.bytes
  have hr := B.returns
  have hts := atoms_spec (ws := .code yX0_lockAt cX0_lockAt 8 (some (.object "MumpsHouse$Node")) :: zW) B.pre
  have hown : s.vm.findClass RX0 = some m.cls := findClass_of_methodNamed B.named
  have hlocks := B.notSynchronized
  subst hsz
  have hD := hD0.self (sz := s.heap.size)
  generalize hAe : va_A [(h0, .inr (0, zf 18 f0))] s.heap.size = A at hD ⊢
  have hA : ∀ q : Nat, s.heap.size ≤ q → A q := fun q h => by rw [← hAe]; exact Or.inr h
  have hS : va_S A s.heap s.heap [] := va_S.rf
  have hP : va_P D vwCl [(h0, .inr (0, zf 18 f0))] s.heap := hP
  have hl := lv_entry ([.ref h0, .int n0]) (n := 8) (Nat.le_of_ble_eq_true rfl)
  rw [lg_entry_eq]
  generalize (lg_sl ([.ref h0, .int n0]) ++ List.replicate (8 - (lg_sl ([.ref h0, .int n0])).length) Slot.unset).toArray = ls at hl ⊢
  have hl : lv_has ls 8 [(0, .ref h0), (1, .int n0)] := hl
  refine lv_iconst (v := 0) hx hb dX0_lockAt_0 (by decide) ?_
  refine lv_istore_n (lv' := [(2, .int 0), (0, .ref h0), (1, .int n0)]) hx hb dX0_lockAt_1 rfl hl (by decide) rfl (fun ls hl => ?_)
  refine lv_iload_n hx hb dX0_lockAt_2 rfl (lv_at hl 0 rfl) ?_
  refine lv_aload_n hx hb dX0_lockAt_3 rfl (lv_at hl 1 rfl) ?_
  refine z_get (T := TX0) (N := 18) (ci := 0) hx hb hts (zi_0 _) hown hK hP 0 rfl rfl 14 (by decide) (hts _ (zm_429 _)) rfl h0_14 dX0_lockAt_4 ?_
  refine lv_icmp_ge (tgt := 160) hx hb dX0_lockAt_7 (by decide) (fun _ => ?_) (fun c9 => absurd (by decide) c9)
  refine lv_null hx hb dX0_lockAt_160 ?_
  refine W.widen (k := 0) (n := 0) (Nat.le_of_ble_eq_true rfl) (Nat.le_of_ble_eq_true rfl) ?_
  have hP9 := hP.sub (ws' := [(h0, .inr (0, zf 18 f0))]) [0] rfl
  have hD9 := hD.sub (ws' := [(h0, .inr (0, zf 18 f0))]) [0] (by decide) rfl
  exact W.aret (v := .null) hx hb hr (Or.inl ⟨_, rfl⟩) (Or.inl rfl) (fun t ht hW => ⟨⟨none, (), rfl, rfl, ⟨by rw [ht]; exact hP9, hD9⟩⟩, hS.F ht⟩) hS.2.2 dX0_lockAt_161

set_option maxHeartbeats 8000000 in
set_option maxRecDepth 100000 in
/-- Tree.inOrder -/
theorem c_inOrder0 (l : Launch) (D : va_G) (x : Nat → ClassId) (h0 : Nat) (f0 : Nat → Value) (sz : Nat) (h0_5 : f0 5 = .int 0) : Met l yX9_inOrder (.code yX9_inOrder cX9_inOrder 3 (some .boolean) :: zW) ({ frames := 0, cells := (0), slots := (0), locals := 0 }) (va_Pc [.ref h0] (fun U => U.heap.size = sz ∧ va_P D vwCl [(h0, .inr (9, zf 8 f0))] U.heap ∧ zK x D U ∧ va_D (fun _ => True) [(h0, .inr (9, zf 8 f0))])) (va_Qi (fun (r : Int32) (u : Unit) => r = 1) (fun u t => zB D vwCl (va_A [(h0, .inr (9, zf 8 f0))] sz) [(h0, .inr (9, zf 8 f0))] t) (va_A [(h0, .inr (9, zf 8 f0))] sz)) (0) (0) (va_A [(h0, .inr (9, zf 8 f0))] sz) := by
  refine Met.ofW (cc := cX9_inOrder) (maxL := 3) (ret := (some .boolean)) (by decide) rfl ?_
  intro p e s m args below meth c s₁ B hml hv
  obtain ⟨rfl, hsz, hP, hZ, hD0⟩ := hv
  have hK := hZ.1
  have hx := B.exec
  have hb := B.bytes
  have hr := B.returns
  have hts := atoms_spec (ws := .code yX9_inOrder cX9_inOrder 3 (some .boolean) :: zW) B.pre
  have hown : s.vm.findClass RX9 = some m.cls := findClass_of_methodNamed B.named
  have hlocks := B.notSynchronized
  subst hsz
  have hD := hD0.self (sz := s.heap.size)
  generalize hAe : va_A [(h0, .inr (9, zf 8 f0))] s.heap.size = A at hD ⊢
  have hA : ∀ q : Nat, s.heap.size ≤ q → A q := fun q h => by rw [← hAe]; exact Or.inr h
  have hS : va_S A s.heap s.heap [] := va_S.rf
  have hP : va_P D vwCl [(h0, .inr (9, zf 8 f0))] s.heap := hP
  have hl := lv_entry ([.ref h0]) (n := 3) (Nat.le_of_ble_eq_true rfl)
  rw [lg_entry_eq]
  generalize (lg_sl ([.ref h0]) ++ List.replicate (3 - (lg_sl ([.ref h0])).length) Slot.unset).toArray = ls at hl ⊢
  have hl : lv_has ls 3 [(0, .ref h0)] := hl
  refine lv_iconst (v := 0) hx hb dX9_inOrder_0 (by decide) ?_
  refine lv_istore_n (lv' := [(1, .int 0), (0, .ref h0)]) hx hb dX9_inOrder_1 rfl hl (by decide) rfl (fun ls hl => ?_)
  refine lv_iload_n hx hb dX9_inOrder_2 rfl (lv_at hl 0 rfl) ?_
  refine lv_iconst (v := 1) hx hb dX9_inOrder_3 (by decide) ?_
  refine lv_iadd hx hb dX9_inOrder_4 ?_
  refine lv_topi (fun y_2 ex_1 => ?_)
  obtain rfl : y_2 = 1 := ex_1.trans (by decide)
  refine lv_aload_n hx hb dX9_inOrder_5 rfl (lv_at hl 1 rfl) ?_
  refine z_get (T := TX9) (N := 8) (ci := 9) hx hb hts (zi_9 _) hown hK hP 0 rfl rfl 5 (by decide) (hts _ (zm_126 _)) rfl h0_5 dX9_inOrder_6 ?_
  refine lv_icmp_ge (tgt := 41) hx hb dX9_inOrder_9 (by decide) (fun _ => ?_) (fun c9 => absurd (by decide) c9)
  refine lv_iconst (v := 1) hx hb dX9_inOrder_41 (by decide) ?_
  refine W.widen (k := 0) (n := 0) (Nat.le_of_ble_eq_true rfl) (Nat.le_of_ble_eq_true rfl) ?_
  have hP9 := hP.sub (ws' := [(h0, .inr (9, zf 8 f0))]) [0] rfl
  have hD9 := hD.sub (ws' := [(h0, .inr (9, zf 8 f0))]) [0] (by decide) rfl
  exact W.zret (v := 1) hx hb hr (by decide) (fun t ht hW => ⟨⟨_, (), rfl, rfl, ⟨by rw [ht]; exact hP9, hD9⟩⟩, hS.F ht⟩) hS.2.2 dX9_inOrder_42
