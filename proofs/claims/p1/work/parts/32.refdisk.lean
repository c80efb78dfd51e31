theorem dX12_octet_0 : decode cX12_octet 0 = .ok (.iload_n 1, 1) := by decide +kernel
theorem dX12_octet_1 : decode cX12_octet 1 = .ok (.iconst 1, 1) := by decide +kernel
theorem dX12_octet_2 : decode cX12_octet 2 = .ok (.if_icmp .lt 40, 3) := by decide +kernel
theorem dX12_octet_5 : decode cX12_octet 5 = .ok (.iload_n 1, 1) := by decide +kernel
theorem dX12_octet_6 : decode cX12_octet 6 = .ok (.sipush 400, 3) := by decide +kernel
theorem dX12_octet_9 : decode cX12_octet 9 = .ok (.if_icmp .gt 33, 3) := by decide +kernel
theorem dX12_octet_12 : decode cX12_octet 12 = .ok (.iload_n 2, 1) := by decide +kernel
theorem dX12_octet_13 : decode cX12_octet 13 = .ok (.ifCond .lt 29, 3) := by decide +kernel
theorem dX12_octet_16 : decode cX12_octet 16 = .ok (.iload_n 2, 1) := by decide +kernel
theorem dX12_octet_17 : decode cX12_octet 17 = .ok (.sipush 256, 3) := by decide +kernel
theorem dX12_octet_20 : decode cX12_octet 20 = .ok (.if_icmp .ge 22, 3) := by decide +kernel
theorem dX12_octet_23 : decode cX12_octet 23 = .ok (.aload_n 0, 1) := by decide +kernel
theorem dX12_octet_24 : decode cX12_octet 24 = .ok (.getfield 207, 3) := by decide +kernel
theorem dX12_octet_27 : decode cX12_octet 27 = .ok (.sipush 256, 3) := by decide +kernel
theorem dX12_octet_30 : decode cX12_octet 30 = .ok (.iload_n 1, 1) := by decide +kernel
theorem dX12_octet_31 : decode cX12_octet 31 = .ok (.imul, 1) := by decide +kernel
theorem dX12_octet_32 : decode cX12_octet 32 = .ok (.iload_n 2, 1) := by decide +kernel
theorem dX12_octet_33 : decode cX12_octet 33 = .ok (.iadd, 1) := by decide +kernel
theorem dX12_octet_34 : decode cX12_octet 34 = .ok (.baload, 1) := by decide +kernel
theorem dX12_octet_35 : decode cX12_octet 35 = .ok (.sipush 255, 3) := by decide +kernel
theorem dX12_octet_38 : decode cX12_octet 38 = .ok (.iand, 1) := by decide +kernel
theorem dX12_octet_39 : decode cX12_octet 39 = .ok (.goto 4, 3) := by decide +kernel
theorem dX12_octet_42 : decode cX12_octet 42 = .ok (.iconst (-1), 1) := by decide +kernel
theorem dX12_octet_43 : decode cX12_octet 43 = .ok (.ireturn, 1) := by decide +kernel
theorem dX12_poke_0 : decode cX12_poke 0 = .ok (.iload_n 1, 1) := by decide +kernel
theorem dX12_poke_1 : decode cX12_poke 1 = .ok (.iconst 1, 1) := by decide +kernel
theorem dX12_poke_2 : decode cX12_poke 2 = .ok (.if_icmp .lt 21, 3) := by decide +kernel
theorem dX12_poke_5 : decode cX12_poke 5 = .ok (.iload_n 1, 1) := by decide +kernel
theorem dX12_poke_6 : decode cX12_poke 6 = .ok (.sipush 400, 3) := by decide +kernel
theorem dX12_poke_9 : decode cX12_poke 9 = .ok (.if_icmp .gt 14, 3) := by decide +kernel
theorem dX12_poke_12 : decode cX12_poke 12 = .ok (.iload_n 2, 1) := by decide +kernel
theorem dX12_poke_13 : decode cX12_poke 13 = .ok (.ifCond .lt 10, 3) := by decide +kernel
theorem dX12_poke_16 : decode cX12_poke 16 = .ok (.iload_n 2, 1) := by decide +kernel
theorem dX12_poke_17 : decode cX12_poke 17 = .ok (.sipush 256, 3) := by decide +kernel
theorem dX12_poke_20 : decode cX12_poke 20 = .ok (.if_icmp .lt 5, 3) := by decide +kernel
theorem dX12_poke_23 : decode cX12_poke 23 = .ok (.iconst (-1), 1) := by decide +kernel
theorem dX12_poke_24 : decode cX12_poke 24 = .ok (.ireturn, 1) := by decide +kernel
theorem dX12_poke_25 : decode cX12_poke 25 = .ok (.aload_n 0, 1) := by decide +kernel
theorem dX12_poke_26 : decode cX12_poke 26 = .ok (.getfield 207, 3) := by decide +kernel
theorem dX12_poke_29 : decode cX12_poke 29 = .ok (.sipush 256, 3) := by decide +kernel
theorem dX12_poke_32 : decode cX12_poke 32 = .ok (.iload_n 1, 1) := by decide +kernel
theorem dX12_poke_33 : decode cX12_poke 33 = .ok (.imul, 1) := by decide +kernel
theorem dX12_poke_34 : decode cX12_poke 34 = .ok (.iload_n 2, 1) := by decide +kernel
theorem dX12_poke_35 : decode cX12_poke 35 = .ok (.iadd, 1) := by decide +kernel
theorem dX12_poke_36 : decode cX12_poke 36 = .ok (.dup2, 1) := by decide +kernel
theorem dX12_poke_37 : decode cX12_poke 37 = .ok (.baload, 1) := by decide +kernel
theorem dX12_poke_38 : decode cX12_poke 38 = .ok (.iload_n 3, 1) := by decide +kernel
theorem dX12_poke_39 : decode cX12_poke 39 = .ok (.i2b, 1) := by decide +kernel
theorem dX12_poke_40 : decode cX12_poke 40 = .ok (.ixor, 1) := by decide +kernel
theorem dX12_poke_41 : decode cX12_poke 41 = .ok (.i2b, 1) := by decide +kernel
theorem dX12_poke_42 : decode cX12_poke 42 = .ok (.bastore, 1) := by decide +kernel
theorem dX12_poke_43 : decode cX12_poke 43 = .ok (.aload_n 0, 1) := by decide +kernel
theorem dX12_poke_44 : decode cX12_poke 44 = .ok (.getfield 207, 3) := by decide +kernel
theorem dX12_poke_47 : decode cX12_poke 47 = .ok (.sipush 256, 3) := by decide +kernel
theorem dX12_poke_50 : decode cX12_poke 50 = .ok (.iload_n 1, 1) := by decide +kernel
theorem dX12_poke_51 : decode cX12_poke 51 = .ok (.imul, 1) := by decide +kernel
theorem dX12_poke_52 : decode cX12_poke 52 = .ok (.iload_n 2, 1) := by decide +kernel
theorem dX12_poke_53 : decode cX12_poke 53 = .ok (.iadd, 1) := by decide +kernel
theorem dX12_poke_54 : decode cX12_poke 54 = .ok (.baload, 1) := by decide +kernel
theorem dX12_poke_55 : decode cX12_poke 55 = .ok (.sipush 255, 3) := by decide +kernel
theorem dX12_poke_58 : decode cX12_poke 58 = .ok (.iand, 1) := by decide +kernel
theorem dX12_poke_59 : decode cX12_poke 59 = .ok (.ireturn, 1) := by decide +kernel

theorem r_byte0 (x : BitVec 32) : ((x.signExtend 8).signExtend 32) &&& 255#32 = x &&& 255#32 := by
  have h : ∀ i, (h : i < 32) → (255#32)[i] = decide (i < 8) := by decide
  ext i hi
  rw [BitVec.getElem_and, BitVec.getElem_and, h i hi]
  by_cases c : i < 8
  · simp [BitVec.getElem_signExtend, c, hi]
  · simp [c]
theorem r_byte (m : Int32) : m.toInt8.toInt32 &&& 255 = m &&& 255 := by
  apply Int32.toBitVec_inj.mp
  exact r_byte0 m.toBitVec
theorem r_oct {b i : Int32} (h1 : ¬ b < 1) (h2 : ¬ 400 < b) (h3 : ¬ i < 0) (h4 : ¬ 256 ≤ i) : ∃ n : Nat, n < 102656 ∧ 256 * b + i = nI n := by
  have h0 : (0 : Int32).toInt = 0 := by decide
  have e1 : (1 : Int32).toInt = 1 := by decide
  have e4 : (400 : Int32).toInt = 400 := by decide
  have e2 : (256 : Int32).toInt = 256 := by decide
  rw [Int32.lt_iff_toInt_lt] at h1 h2 h3
  rw [Int32.le_iff_toInt_le] at h4
  have hb0 : ¬ b < 0 := by rw [Int32.lt_iff_toInt_lt]; omega
  have hi0 : ¬ i < 0 := by rw [Int32.lt_iff_toInt_lt]; omega
  obtain ⟨B, hB, rfl⟩ := nI_of hb0
  obtain ⟨I, hI, rfl⟩ := nI_of hi0
  rw [nI_toInt hB] at h1 h2
  rw [nI_toInt hI] at h4
  refine ⟨256 * B + I, by omega, ?_⟩
  rw [show (256 : Int32) = nI 256 from rfl, pk_mul, nI_add]
theorem r_octI {b i : Int32} (h1 : ¬ b < 1) (h2 : ¬ 400 < b) (h3 : ¬ i < 0) (h4 : ¬ 256 ≤ i) : vp_in (256 * b + i) 102656 := by
  obtain ⟨n, hn, e⟩ := r_oct h1 h2 h3 h4
  rw [e]
  exact vp_in_nI hn (by decide)
theorem r_lt {i : Int32} (h : i < 256) : ¬ 256 ≤ i := by
  rw [Int32.lt_iff_toInt_lt] at h
  rw [Int32.le_iff_toInt_le]
  omega
theorem r_nlt {i : Int32} (h : ¬ i < 256) : 256 ≤ i := by
  rw [Int32.lt_iff_toInt_lt] at h
  rw [Int32.le_iff_toInt_le]
  omega
theorem r_ok {b i : Int32} (h1 : ¬ b < 1) (h2 : ¬ 400 < b) (h3 : ¬ i < 0) (h4 : ¬ 256 ≤ i) : ¬ zOct (fun _ => 0) b i = -1 := by
  rw [zOct, if_neg h1, if_neg h2, if_neg h3, if_neg h4]
  decide
theorem r_pokeV {g : Nat → Int32} {b i m y y2 v : Int32} (h1 : ¬ b < 1) (h2 : ¬ 400 < b) (h3 : ¬ i < 0) (h4 : ¬ 256 ≤ i) (ey : y = 256 * b + i) (ey2 : y2 = 256 * b + i) (ek : g y.toNatClampNeg = vp_nar .byte v) (ev : v = (0 ^^^ m.toInt8.toInt32).toInt8.toInt32) : g y2.toNatClampNeg &&& 255 = zPoke b i m := by
  rw [ey2, ← ey, ek, ev, pk_vb, r_byte, Int32.zero_xor, r_byte, zPoke, if_neg (r_ok h1 h2 h3 h4)]

set_option maxHeartbeats 8000000 in
set_option maxRecDepth 100000 in
/-- octet on a fresh model -/
theorem r_octet (l : Launch) (D : va_G) (x : Nat → ClassId) (n0 : Int32) (n1 : Int32) (h0 : Nat) (f0 : Nat → Value) (q : Nat) (sz : Nat) (h0_82 : f0 82 = .ref q) : Met l yX12_octet (.code yX12_octet cX12_octet 3 (some .int) :: zW) ({ frames := 0, cells := (0), slots := (0), locals := 0 }) (va_Pc [.ref h0, .int n0, .int n1] (fun U => U.heap.size = sz ∧ va_P D vwCl [(h0, .inr (12, zf 212 f0)), (q, .inl (x 1, 102656, .inl (fun _ => 0)))] U.heap ∧ zK x D U ∧ va_D (fun _ => True) [(h0, .inr (12, zf 212 f0)), (q, .inl (x 1, 102656, .inl (fun _ => 0)))])) (va_Qi (fun (r : Int32) (u : Unit) => r = (zOct (fun _ => 0) n0 n1)) (fun u t => True) (va_A [(h0, .inr (12, zf 212 f0)), (q, .inl (x 1, 102656, .inl (fun _ => 0)))] sz)) (0) (0) (va_A [(h0, .inr (12, zf 212 f0)), (q, .inl (x 1, 102656, .inl (fun _ => 0)))] sz) := by
  refine Met.ofW (cc := cX12_octet) (maxL := 3) (ret := (some .int)) (by decide) rfl ?_
  intro p e s m args below meth c s₁ B hml hv
  obtain ⟨rfl, hsz, hP, hZ, hD0⟩ := hv
  have hK := hZ.1
  have hx := B.exec
  have hb := B.bytes
  have hr := B.returns
  have hts := atoms_spec (ws := .code yX12_octet cX12_octet 3 (some .int) :: zW) B.pre
  have hown : s.vm.findClass RX12 = some m.cls := findClass_of_methodNamed B.named
  have hlocks := B.notSynchronized
  subst hsz
  have hD := hD0.self (sz := s.heap.size)
  generalize hAe : va_A [(h0, .inr (12, zf 212 f0)), (q, .inl (x 1, 102656, .inl (fun _ => 0)))] s.heap.size = A at hD ⊢
  have hA : ∀ q : Nat, s.heap.size ≤ q → A q := fun q h => by rw [← hAe]; exact Or.inr h
  have hS : va_S A s.heap s.heap [] := va_S.rf
  have hP : va_P D vwCl [(h0, .inr (12, zf 212 f0)), (q, .inl (x 1, 102656, .inl (fun _ => 0)))] s.heap := hP
  have hl := lv_entry ([.ref h0, .int n0, .int n1]) (n := 3) (Nat.le_of_ble_eq_true rfl)
  rw [lg_entry_eq]
  generalize (lg_sl ([.ref h0, .int n0, .int n1]) ++ List.replicate (3 - (lg_sl ([.ref h0, .int n0, .int n1])).length) Slot.unset).toArray = ls at hl ⊢
  have hl : lv_has ls 3 [(0, .ref h0), (1, .int n0), (2, .int n1)] := hl
  refine lv_iload_n hx hb dX12_octet_0 rfl (lv_at hl 1 rfl) ?_
  refine lv_iconst (v := 1) hx hb dX12_octet_1 (by decide) ?_
  refine lv_icmp_lt (tgt := 42) hx hb dX12_octet_2 (by decide) (fun c_1 => ?_) (fun c_1 => ?_)
  · skip
    refine lv_iconst (v := (-1)) hx hb dX12_octet_42 (by decide) ?_
    refine W.widen (k := 0) (n := 0) (Nat.le_of_ble_eq_true rfl) (Nat.le_of_ble_eq_true rfl) ?_
    exact W.iret (v := (-1)) hx hb hr (fun t ht hW => ⟨⟨_, (), rfl, (by simp [zOct, c_1]), trivial⟩, hS.F ht⟩) hS.2.2 dX12_octet_43
  · skip
    refine lv_iload_n hx hb dX12_octet_5 rfl (lv_at hl 1 rfl) ?_
    refine lv_sipush (v := 400) hx hb dX12_octet_6 (by decide) ?_
    refine lv_icmp_gt (tgt := 42) hx hb dX12_octet_9 (by decide) (fun c_2 => ?_) (fun c_2 => ?_)
    · skip
      refine lv_iconst (v := (-1)) hx hb dX12_octet_42 (by decide) ?_
      refine W.widen (k := 0) (n := 0) (Nat.le_of_ble_eq_true rfl) (Nat.le_of_ble_eq_true rfl) ?_
      exact W.iret (v := (-1)) hx hb hr (fun t ht hW => ⟨⟨_, (), rfl, (by simp [zOct, c_1, c_2]), trivial⟩, hS.F ht⟩) hS.2.2 dX12_octet_43
    · skip
      refine lv_iload_n hx hb dX12_octet_12 rfl (lv_at hl 2 rfl) ?_
      refine lv_if_lt (tgt := 42) hx hb dX12_octet_13 (by decide) (fun c_3 => ?_) (fun c_3 => ?_)
      · skip
        refine lv_iconst (v := (-1)) hx hb dX12_octet_42 (by decide) ?_
        refine W.widen (k := 0) (n := 0) (Nat.le_of_ble_eq_true rfl) (Nat.le_of_ble_eq_true rfl) ?_
        exact W.iret (v := (-1)) hx hb hr (fun t ht hW => ⟨⟨_, (), rfl, (by simp [zOct, c_1, c_2, c_3]), trivial⟩, hS.F ht⟩) hS.2.2 dX12_octet_43
      · skip
        refine lv_iload_n hx hb dX12_octet_16 rfl (lv_at hl 2 rfl) ?_
        refine lv_sipush (v := 256) hx hb dX12_octet_17 (by decide) ?_
        refine lv_icmp_ge (tgt := 42) hx hb dX12_octet_20 (by decide) (fun c_4 => ?_) (fun c_4 => ?_)
        · skip
          refine lv_iconst (v := (-1)) hx hb dX12_octet_42 (by decide) ?_
          refine W.widen (k := 0) (n := 0) (Nat.le_of_ble_eq_true rfl) (Nat.le_of_ble_eq_true rfl) ?_
          exact W.iret (v := (-1)) hx hb hr (fun t ht hW => ⟨⟨_, (), rfl, (by simp [zOct, c_1, c_2, c_3, c_4]), trivial⟩, hS.F ht⟩) hS.2.2 dX12_octet_43
        · skip
          refine lv_aload_n hx hb dX12_octet_23 rfl (lv_at hl 0 rfl) ?_
          refine y_get (T := TX12) (N := 212) (ci := 12) hx hb hts (zi_12 _) hown hK hP 0 rfl rfl 82 (by decide) tX12_82 (hts _ (zm_532 _)) rfl h0_82 dX12_octet_24 ?_
          refine lv_sipush (v := 256) hx hb dX12_octet_27 (by decide) ?_
          refine lv_iload_n hx hb dX12_octet_30 rfl (lv_at hl 1 rfl) ?_
          refine lv_imul hx hb dX12_octet_31 ?_
          refine lv_topi (fun y_6 ex_5 => ?_)
          refine lv_iload_n hx hb dX12_octet_32 rfl (lv_at hl 2 rfl) ?_
          refine lv_iadd hx hb dX12_octet_33 ?_
          refine lv_topi (fun y_8 ex_7 => ?_)
          refine z_bald hx hb hK hP 1 1 rfl rfl (by rw [ex_7, ex_5]; exact r_octI c_1 c_2 c_3 c_4) rfl dX12_octet_34 ?_
          refine lv_sipush (v := 255) hx hb dX12_octet_35 (by decide) ?_
          refine lv_iand hx hb dX12_octet_38 ?_
          refine lv_topi (fun y_10 ex_9 => ?_)
          obtain rfl : y_10 = 0 := ex_9.trans (by decide)
          refine lv_goto (tgt := 43) hx hb dX12_octet_39 (by decide) ?_
          refine W.widen (k := 0) (n := 0) (Nat.le_of_ble_eq_true rfl) (Nat.le_of_ble_eq_true rfl) ?_
          exact W.iret (v := 0) hx hb hr (fun t ht hW => ⟨⟨_, (), rfl, (by simp [zOct, c_1, c_2, c_3, c_4]), trivial⟩, hS.F ht⟩) hS.2.2 dX12_octet_43

set_option maxHeartbeats 8000000 in
set_option maxRecDepth 100000 in
/-- poke on a fresh model -/
theorem r_poke (l : Launch) (D : va_G) (x : Nat → ClassId) (n0 : Int32) (n1 : Int32) (n2 : Int32) (h0 : Nat) (f0 : Nat → Value) (q : Nat) (sz : Nat) (h0_82 : f0 82 = .ref q) : Met l yX12_poke (.code yX12_poke cX12_poke 4 (some .int) :: zW) ({ frames := 0, cells := (0), slots := (0), locals := 0 }) (va_Pc [.ref h0, .int n0, .int n1, .int n2] (fun U => U.heap.size = sz ∧ va_P D vwCl [(h0, .inr (12, zf 212 f0)), (q, .inl (x 1, 102656, .inl (fun _ => 0)))] U.heap ∧ zK x D U ∧ va_D (fun _ => True) [(h0, .inr (12, zf 212 f0)), (q, .inl (x 1, 102656, .inl (fun _ => 0)))])) (va_Qi (fun (r : Int32) (u : Unit) => r = (zPoke n0 n1 n2)) (fun u t => True) (va_A [(h0, .inr (12, zf 212 f0)), (q, .inl (x 1, 102656, .inl (fun _ => 0)))] sz)) (0) (0) (va_A [(h0, .inr (12, zf 212 f0)), (q, .inl (x 1, 102656, .inl (fun _ => 0)))] sz) := by
  refine Met.ofW (cc := cX12_poke) (maxL := 4) (ret := (some .int)) (by decide) rfl ?_
  intro p e s m args below meth c s₁ B hml hv
  obtain ⟨rfl, hsz, hP, hZ, hD0⟩ := hv
  have hK := hZ.1
  have hx := B.exec
  have hb := B.bytes
  have hr := B.returns
  have hts := atoms_spec (ws := .code yX12_poke cX12_poke 4 (some .int) :: zW) B.pre
  have hown : s.vm.findClass RX12 = some m.cls := findClass_of_methodNamed B.named
  have hlocks := B.notSynchronized
  subst hsz
  have hD := hD0.self (sz := s.heap.size)
  generalize hAe : va_A [(h0, .inr (12, zf 212 f0)), (q, .inl (x 1, 102656, .inl (fun _ => 0)))] s.heap.size = A at hD ⊢
  have hA : ∀ q : Nat, s.heap.size ≤ q → A q := fun q h => by rw [← hAe]; exact Or.inr h
  have hS : va_S A s.heap s.heap [] := va_S.rf
  have hP : va_P D vwCl [(h0, .inr (12, zf 212 f0)), (q, .inl (x 1, 102656, .inl (fun _ => 0)))] s.heap := hP
  have hl := lv_entry ([.ref h0, .int n0, .int n1, .int n2]) (n := 4) (Nat.le_of_ble_eq_true rfl)
  rw [lg_entry_eq]
  generalize (lg_sl ([.ref h0, .int n0, .int n1, .int n2]) ++ List.replicate (4 - (lg_sl ([.ref h0, .int n0, .int n1, .int n2])).length) Slot.unset).toArray = ls at hl ⊢
  have hl : lv_has ls 4 [(0, .ref h0), (1, .int n0), (2, .int n1), (3, .int n2)] := hl
  refine lv_iload_n hx hb dX12_poke_0 rfl (lv_at hl 1 rfl) ?_
  refine lv_iconst (v := 1) hx hb dX12_poke_1 (by decide) ?_
  refine lv_icmp_lt (tgt := 23) hx hb dX12_poke_2 (by decide) (fun c_1 => ?_) (fun c_1 => ?_)
  · skip
    refine lv_iconst (v := (-1)) hx hb dX12_poke_23 (by decide) ?_
    refine W.widen (k := 0) (n := 0) (Nat.le_of_ble_eq_true rfl) (Nat.le_of_ble_eq_true rfl) ?_
    exact W.iret (v := (-1)) hx hb hr (fun t ht hW => ⟨⟨_, (), rfl, (by simp [zPoke, zOct, c_1]), trivial⟩, hS.F ht⟩) hS.2.2 dX12_poke_24
  · skip
    refine lv_iload_n hx hb dX12_poke_5 rfl (lv_at hl 1 rfl) ?_
    refine lv_sipush (v := 400) hx hb dX12_poke_6 (by decide) ?_
    refine lv_icmp_gt (tgt := 23) hx hb dX12_poke_9 (by decide) (fun c_2 => ?_) (fun c_2 => ?_)
    · skip
      refine lv_iconst (v := (-1)) hx hb dX12_poke_23 (by decide) ?_
      refine W.widen (k := 0) (n := 0) (Nat.le_of_ble_eq_true rfl) (Nat.le_of_ble_eq_true rfl) ?_
      exact W.iret (v := (-1)) hx hb hr (fun t ht hW => ⟨⟨_, (), rfl, (by simp [zPoke, zOct, c_1, c_2]), trivial⟩, hS.F ht⟩) hS.2.2 dX12_poke_24
    · skip
      refine lv_iload_n hx hb dX12_poke_12 rfl (lv_at hl 2 rfl) ?_
      refine lv_if_lt (tgt := 23) hx hb dX12_poke_13 (by decide) (fun c_3 => ?_) (fun c_3 => ?_)
      · skip
        refine lv_iconst (v := (-1)) hx hb dX12_poke_23 (by decide) ?_
        refine W.widen (k := 0) (n := 0) (Nat.le_of_ble_eq_true rfl) (Nat.le_of_ble_eq_true rfl) ?_
        exact W.iret (v := (-1)) hx hb hr (fun t ht hW => ⟨⟨_, (), rfl, (by simp [zPoke, zOct, c_1, c_2, c_3]), trivial⟩, hS.F ht⟩) hS.2.2 dX12_poke_24
      · skip
        refine lv_iload_n hx hb dX12_poke_16 rfl (lv_at hl 2 rfl) ?_
        refine lv_sipush (v := 256) hx hb dX12_poke_17 (by decide) ?_
        refine lv_icmp_lt (tgt := 25) hx hb dX12_poke_20 (by decide) (fun c_4 => ?_) (fun c_4 => ?_)
        · skip
          refine lv_aload_n hx hb dX12_poke_25 rfl (lv_at hl 0 rfl) ?_
          refine y_get (T := TX12) (N := 212) (ci := 12) hx hb hts (zi_12 _) hown hK hP 0 rfl rfl 82 (by decide) tX12_82 (hts _ (zm_532 _)) rfl h0_82 dX12_poke_26 ?_
          refine lv_sipush (v := 256) hx hb dX12_poke_29 (by decide) ?_
          refine lv_iload_n hx hb dX12_poke_32 rfl (lv_at hl 1 rfl) ?_
          refine lv_imul hx hb dX12_poke_33 ?_
          refine lv_topi (fun y_6 ex_5 => ?_)
          refine lv_iload_n hx hb dX12_poke_34 rfl (lv_at hl 2 rfl) ?_
          refine lv_iadd hx hb dX12_poke_35 ?_
          refine lv_topi (fun y_8 ex_7 => ?_)
          refine lv_dup2_11 hx hb dX12_poke_36 rfl rfl ?_
          refine z_bald hx hb hK hP 1 1 rfl rfl (by rw [ex_7, ex_5]; exact r_octI c_1 c_2 c_3 (r_lt c_4)) rfl dX12_poke_37 ?_
          refine lv_iload_n hx hb dX12_poke_38 rfl (lv_at hl 3 rfl) ?_
          refine lv_i2b hx hb dX12_poke_39 rfl ?_
          refine lv_topi (fun y_9 ex_10 => ?_)
          refine lv_ixor hx hb dX12_poke_40 ?_
          refine lv_topi (fun y_12 ex_11 => ?_)
          refine lv_i2b hx hb dX12_poke_41 rfl ?_
          refine lv_topi (fun y_13 ex_14 => ?_)
          refine z_bast hx hb hK hP hD hS 1 1 rfl rfl (by rw [ex_7, ex_5]; exact r_octI c_1 c_2 c_3 (r_lt c_4)) dX12_poke_42 (fun H locs g_15 ek_16 ok_17 hP hD hS => ?_)
          have hP : va_P D vwCl [(h0, .inr (12, zf 212 f0)), (q, .inl (x 1, 102656, .inl g_15))] H := hP
          have hD : va_D A [(h0, .inr (12, zf 212 f0)), (q, .inl (x 1, 102656, .inl g_15))] := hD
          refine lv_aload_n hx hb dX12_poke_43 rfl (lv_at hl 0 rfl) ?_
          refine y_get (T := TX12) (N := 212) (ci := 12) hx hb hts (zi_12 _) hown hK hP 0 rfl rfl 82 (by decide) tX12_82 (hts _ (zm_532 _)) rfl h0_82 dX12_poke_44 ?_
          refine lv_sipush (v := 256) hx hb dX12_poke_47 (by decide) ?_
          refine lv_iload_n hx hb dX12_poke_50 rfl (lv_at hl 1 rfl) ?_
          refine lv_imul hx hb dX12_poke_51 ?_
          refine lv_topi (fun y_19 ex_18 => ?_)
          refine lv_iload_n hx hb dX12_poke_52 rfl (lv_at hl 2 rfl) ?_
          refine lv_iadd hx hb dX12_poke_53 ?_
          refine lv_topi (fun y_21 ex_20 => ?_)
          obtain ⟨y_22, ex_23⟩ : ∃ z, g_15 (y_21 : Int32).toNatClampNeg = z := ⟨_, rfl⟩
          refine z_bald hx hb hK hP 1 1 rfl rfl (by rw [ex_20, ex_18]; exact r_octI c_1 c_2 c_3 (r_lt c_4)) ex_23 dX12_poke_54 ?_
          refine lv_sipush (v := 255) hx hb dX12_poke_55 (by decide) ?_
          refine lv_iand hx hb dX12_poke_58 ?_
          refine lv_topi (fun y_25 ex_24 => ?_)
          refine W.widen (k := 0) (n := 0) (Nat.le_of_ble_eq_true rfl) (Nat.le_of_ble_eq_true rfl) ?_
          exact W.iret (v := y_25) hx hb hr (fun t ht hW => ⟨⟨_, (), rfl, (by rw [ex_24, ← ex_23]; exact r_pokeV c_1 c_2 c_3 (r_lt c_4) (by rw [ex_7, ex_5]) (by rw [ex_20, ex_18]) ek_16 (by rw [ex_14, ex_11, ex_10])), trivial⟩, hS.F ht⟩) hS.2.2 dX12_poke_59
        · skip
          refine lv_iconst (v := (-1)) hx hb dX12_poke_23 (by decide) ?_
          refine W.widen (k := 0) (n := 0) (Nat.le_of_ble_eq_true rfl) (Nat.le_of_ble_eq_true rfl) ?_
          exact W.iret (v := (-1)) hx hb hr (fun t ht hW => ⟨⟨_, (), rfl, (by simp [zPoke, zOct, c_1, c_2, c_3, (r_nlt c_4)]), trivial⟩, hS.F ht⟩) hS.2.2 dX12_poke_24
