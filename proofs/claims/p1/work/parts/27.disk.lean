theorem dX0_write_0 : decode cX0_write 0 = .ok (.aload_n 0, 1) := by decide +kernel
theorem dX0_write_1 : decode cX0_write 1 = .ok (.getfield 51, 3) := by decide +kernel
theorem dX0_write_4 : decode cX0_write 4 = .ok (.getfield 87, 3) := by decide +kernel
theorem dX0_write_7 : decode cX0_write 7 = .ok (.sipush 248, 3) := by decide +kernel
theorem dX0_write_10 : decode cX0_write 10 = .ok (.iadd, 1) := by decide +kernel
theorem dX0_write_11 : decode cX0_write 11 = .ok (.iconst 1, 1) := by decide +kernel
theorem dX0_write_12 : decode cX0_write 12 = .ok (.isub, 1) := by decide +kernel
theorem dX0_write_13 : decode cX0_write 13 = .ok (.sipush 248, 3) := by decide +kernel
theorem dX0_write_16 : decode cX0_write 16 = .ok (.idiv, 1) := by decide +kernel
theorem dX0_write_17 : decode cX0_write 17 = .ok (.istore_n 1, 1) := by decide +kernel
theorem dX0_write_18 : decode cX0_write 18 = .ok (.iconst 0, 1) := by decide +kernel
theorem dX0_write_19 : decode cX0_write 19 = .ok (.istore_n 2, 1) := by decide +kernel
theorem dX0_write_20 : decode cX0_write 20 = .ok (.iload_n 2, 1) := by decide +kernel
theorem dX0_write_21 : decode cX0_write 21 = .ok (.iload_n 1, 1) := by decide +kernel
theorem dX0_write_22 : decode cX0_write 22 = .ok (.if_icmp .ge 160, 3) := by decide +kernel
theorem dX0_write_182 : decode cX0_write 182 = .ok (.aload_n 0, 1) := by decide +kernel
theorem dX0_write_183 : decode cX0_write 183 = .ok (.dup, 1) := by decide +kernel
theorem dX0_write_184 : decode cX0_write 184 = .ok (.getfield 90, 3) := by decide +kernel
theorem dX0_write_187 : decode cX0_write 187 = .ok (.iload_n 1, 1) := by decide +kernel
theorem dX0_write_188 : decode cX0_write 188 = .ok (.iadd, 1) := by decide +kernel
theorem dX0_write_189 : decode cX0_write 189 = .ok (.putfield 90, 3) := by decide +kernel
theorem dX0_write_192 : decode cX0_write 192 = .ok (.aload_n 0, 1) := by decide +kernel
theorem dX0_write_193 : decode cX0_write 193 = .ok (.getfield 51, 3) := by decide +kernel
theorem dX0_write_196 : decode cX0_write 196 = .ok (.invokevirtual 178, 3) := by decide +kernel
theorem dX0_write_199 : decode cX0_write 199 = .ok (.aload_n 0, 1) := by decide +kernel
theorem dX0_write_200 : decode cX0_write 200 = .ok (.iconst 0, 1) := by decide +kernel
theorem dX0_write_201 : decode cX0_write 201 = .ok (.putfield 123, 3) := by decide +kernel
theorem dX0_write_204 : decode cX0_write 204 = .ok (.iload_n 1, 1) := by decide +kernel
theorem dX0_write_205 : decode cX0_write 205 = .ok (.ireturn, 1) := by decide +kernel
theorem dX11_sync_0 : decode cX11_sync 0 = .ok (.aload_n 0, 1) := by decide +kernel
theorem dX11_sync_1 : decode cX11_sync 1 = .ok (.getfield 24, 3) := by decide +kernel
theorem dX11_sync_4 : decode cX11_sync 4 = .ok (.getfield 57, 3) := by decide +kernel
theorem dX11_sync_7 : decode cX11_sync 7 = .ok (.ifCond .eq 8, 3) := by decide +kernel
theorem dX11_sync_15 : decode cX11_sync 15 = .ok (.aload_n 0, 1) := by decide +kernel
theorem dX11_sync_16 : decode cX11_sync 16 = .ok (.getfield 24, 3) := by decide +kernel
theorem dX11_sync_19 : decode cX11_sync 19 = .ok (.invokevirtual 366, 3) := by decide +kernel
theorem dX11_sync_22 : decode cX11_sync 22 = .ok (.ireturn, 1) := by decide +kernel
theorem dX0_octetAt_0 : decode cX0_octetAt 0 = .ok (.iload_n 1, 1) := by decide +kernel
theorem dX0_octetAt_1 : decode cX0_octetAt 1 = .ok (.iconst 1, 1) := by decide +kernel
theorem dX0_octetAt_2 : decode cX0_octetAt 2 = .ok (.isub, 1) := by decide +kernel
theorem dX0_octetAt_3 : decode cX0_octetAt 3 = .ok (.sipush 256, 3) := by decide +kernel
theorem dX0_octetAt_6 : decode cX0_octetAt 6 = .ok (.imul, 1) := by decide +kernel
theorem dX0_octetAt_7 : decode cX0_octetAt 7 = .ok (.iload_n 2, 1) := by decide +kernel
theorem dX0_octetAt_8 : decode cX0_octetAt 8 = .ok (.iadd, 1) := by decide +kernel
theorem dX0_octetAt_9 : decode cX0_octetAt 9 = .ok (.istore_n 3, 1) := by decide +kernel
theorem dX0_octetAt_10 : decode cX0_octetAt 10 = .ok (.iload_n 1, 1) := by decide +kernel
theorem dX0_octetAt_11 : decode cX0_octetAt 11 = .ok (.iconst 1, 1) := by decide +kernel
theorem dX0_octetAt_12 : decode cX0_octetAt 12 = .ok (.if_icmp .lt 43, 3) := by decide +kernel
theorem dX0_octetAt_15 : decode cX0_octetAt 15 = .ok (.iload_n 1, 1) := by decide +kernel
theorem dX0_octetAt_16 : decode cX0_octetAt 16 = .ok (.sipush 400, 3) := by decide +kernel
theorem dX0_octetAt_19 : decode cX0_octetAt 19 = .ok (.if_icmp .gt 36, 3) := by decide +kernel
theorem dX0_octetAt_22 : decode cX0_octetAt 22 = .ok (.iload_n 2, 1) := by decide +kernel
theorem dX0_octetAt_23 : decode cX0_octetAt 23 = .ok (.ifCond .lt 32, 3) := by decide +kernel
theorem dX0_octetAt_26 : decode cX0_octetAt 26 = .ok (.iload_n 2, 1) := by decide +kernel
theorem dX0_octetAt_27 : decode cX0_octetAt 27 = .ok (.sipush 256, 3) := by decide +kernel
theorem dX0_octetAt_30 : decode cX0_octetAt 30 = .ok (.if_icmp .ge 25, 3) := by decide +kernel
theorem dX0_octetAt_33 : decode cX0_octetAt 33 = .ok (.iload_n 3, 1) := by decide +kernel
theorem dX0_octetAt_34 : decode cX0_octetAt 34 = .ok (.aload_n 0, 1) := by decide +kernel
theorem dX0_octetAt_35 : decode cX0_octetAt 35 = .ok (.getfield 38, 3) := by decide +kernel
theorem dX0_octetAt_38 : decode cX0_octetAt 38 = .ok (.arraylength, 1) := by decide +kernel
theorem dX0_octetAt_39 : decode cX0_octetAt 39 = .ok (.if_icmp .ge 16, 3) := by decide +kernel
theorem dX0_octetAt_42 : decode cX0_octetAt 42 = .ok (.aload_n 0, 1) := by decide +kernel
theorem dX0_octetAt_43 : decode cX0_octetAt 43 = .ok (.getfield 38, 3) := by decide +kernel
theorem dX0_octetAt_46 : decode cX0_octetAt 46 = .ok (.iload_n 3, 1) := by decide +kernel
theorem dX0_octetAt_47 : decode cX0_octetAt 47 = .ok (.baload, 1) := by decide +kernel
theorem dX0_octetAt_48 : decode cX0_octetAt 48 = .ok (.sipush 255, 3) := by decide +kernel
theorem dX0_octetAt_51 : decode cX0_octetAt 51 = .ok (.iand, 1) := by decide +kernel
theorem dX0_octetAt_52 : decode cX0_octetAt 52 = .ok (.goto 4, 3) := by decide +kernel
theorem dX0_octetAt_55 : decode cX0_octetAt 55 = .ok (.iconst (-1), 1) := by decide +kernel
theorem dX0_octetAt_56 : decode cX0_octetAt 56 = .ok (.ireturn, 1) := by decide +kernel
theorem dX11_octet_0 : decode cX11_octet 0 = .ok (.aload_n 0, 1) := by decide +kernel
theorem dX11_octet_1 : decode cX11_octet 1 = .ok (.getfield 24, 3) := by decide +kernel
theorem dX11_octet_4 : decode cX11_octet 4 = .ok (.iload_n 1, 1) := by decide +kernel
theorem dX11_octet_5 : decode cX11_octet 5 = .ok (.iload_n 2, 1) := by decide +kernel
theorem dX11_octet_6 : decode cX11_octet 6 = .ok (.invokevirtual 414, 3) := by decide +kernel
theorem dX11_octet_9 : decode cX11_octet 9 = .ok (.ireturn, 1) := by decide +kernel
theorem dX11_poke_0 : decode cX11_poke 0 = .ok (.aload_n 0, 1) := by decide +kernel
theorem dX11_poke_1 : decode cX11_poke 1 = .ok (.getfield 24, 3) := by decide +kernel
theorem dX11_poke_4 : decode cX11_poke 4 = .ok (.iload_n 1, 1) := by decide +kernel
theorem dX11_poke_5 : decode cX11_poke 5 = .ok (.iload_n 2, 1) := by decide +kernel
theorem dX11_poke_6 : decode cX11_poke 6 = .ok (.invokevirtual 414, 3) := by decide +kernel
theorem dX11_poke_9 : decode cX11_poke 9 = .ok (.istore 4, 2) := by decide +kernel
theorem dX11_poke_11 : decode cX11_poke 11 = .ok (.iload_n 1, 1) := by decide +kernel
theorem dX11_poke_12 : decode cX11_poke 12 = .ok (.iconst 1, 1) := by decide +kernel
theorem dX11_poke_13 : decode cX11_poke 13 = .ok (.isub, 1) := by decide +kernel
theorem dX11_poke_14 : decode cX11_poke 14 = .ok (.sipush 256, 3) := by decide +kernel
theorem dX11_poke_17 : decode cX11_poke 17 = .ok (.imul, 1) := by decide +kernel
theorem dX11_poke_18 : decode cX11_poke 18 = .ok (.iload_n 2, 1) := by decide +kernel
theorem dX11_poke_19 : decode cX11_poke 19 = .ok (.iadd, 1) := by decide +kernel
theorem dX11_poke_20 : decode cX11_poke 20 = .ok (.istore 5, 2) := by decide +kernel
theorem dX11_poke_22 : decode cX11_poke 22 = .ok (.iload 4, 2) := by decide +kernel
theorem dX11_poke_24 : decode cX11_poke 24 = .ok (.iconst (-1), 1) := by decide +kernel
theorem dX11_poke_25 : decode cX11_poke 25 = .ok (.if_icmp .eq 21, 3) := by decide +kernel
theorem dX11_poke_28 : decode cX11_poke 28 = .ok (.iload 5, 2) := by decide +kernel
theorem dX11_poke_30 : decode cX11_poke 30 = .ok (.ifCond .lt 16, 3) := by decide +kernel
theorem dX11_poke_33 : decode cX11_poke 33 = .ok (.iload 5, 2) := by decide +kernel
theorem dX11_poke_35 : decode cX11_poke 35 = .ok (.aload_n 0, 1) := by decide +kernel
theorem dX11_poke_36 : decode cX11_poke 36 = .ok (.getfield 24, 3) := by decide +kernel
theorem dX11_poke_39 : decode cX11_poke 39 = .ok (.getfield 417, 3) := by decide +kernel
theorem dX11_poke_42 : decode cX11_poke 42 = .ok (.arraylength, 1) := by decide +kernel
theorem dX11_poke_43 : decode cX11_poke 43 = .ok (.if_icmp .lt 5, 3) := by decide +kernel
theorem dX11_poke_46 : decode cX11_poke 46 = .ok (.iconst (-1), 1) := by decide +kernel
theorem dX11_poke_47 : decode cX11_poke 47 = .ok (.ireturn, 1) := by decide +kernel
theorem dX11_poke_48 : decode cX11_poke 48 = .ok (.aload_n 0, 1) := by decide +kernel
theorem dX11_poke_49 : decode cX11_poke 49 = .ok (.getfield 24, 3) := by decide +kernel
theorem dX11_poke_52 : decode cX11_poke 52 = .ok (.getfield 417, 3) := by decide +kernel
theorem dX11_poke_55 : decode cX11_poke 55 = .ok (.iload 5, 2) := by decide +kernel
theorem dX11_poke_57 : decode cX11_poke 57 = .ok (.iload 4, 2) := by decide +kernel
theorem dX11_poke_59 : decode cX11_poke 59 = .ok (.iload_n 3, 1) := by decide +kernel
theorem dX11_poke_60 : decode cX11_poke 60 = .ok (.sipush 255, 3) := by decide +kernel
theorem dX11_poke_63 : decode cX11_poke 63 = .ok (.iand, 1) := by decide +kernel
theorem dX11_poke_64 : decode cX11_poke 64 = .ok (.ixor, 1) := by decide +kernel
theorem dX11_poke_65 : decode cX11_poke 65 = .ok (.i2b, 1) := by decide +kernel
theorem dX11_poke_66 : decode cX11_poke 66 = .ok (.bastore, 1) := by decide +kernel
theorem dX11_poke_67 : decode cX11_poke 67 = .ok (.aload_n 0, 1) := by decide +kernel
theorem dX11_poke_68 : decode cX11_poke 68 = .ok (.getfield 24, 3) := by decide +kernel
theorem dX11_poke_71 : decode cX11_poke 71 = .ok (.iload_n 1, 1) := by decide +kernel
theorem dX11_poke_72 : decode cX11_poke 72 = .ok (.iload_n 2, 1) := by decide +kernel
theorem dX11_poke_73 : decode cX11_poke 73 = .ok (.invokevirtual 414, 3) := by decide +kernel
theorem dX11_poke_76 : decode cX11_poke 76 = .ok (.ireturn, 1) := by decide +kernel

def zOct (g : Nat → Int32) (b i : Int32) : Int32 := if b < 1 then -1 else if 400 < b then -1 else if i < 0 then -1 else if 256 ≤ i then -1 else g ((b - 1) * 256 + i).toNatClampNeg &&& 255
theorem z_oct {b i : Int32} (h1 : ¬ b < 1) (h2 : ¬ 400 < b) (h3 : ¬ i < 0) (h4 : ¬ 256 ≤ i) : ∃ n : Nat, n < 102400 ∧ (b - 1) * 256 + i = nI n := by
  have h0 : (0 : Int32).toInt = 0 := by decide
  have e1 : (1 : Int32).toInt = 1 := by decide
  have e4 : (400 : Int32).toInt = 400 := by decide
  have e2 : (256 : Int32).toInt = 256 := by decide
  rw [Int32.lt_iff_toInt_lt] at h1 h2 h3
  rw [Int32.le_iff_toInt_le] at h4
  have hb0 : ¬ b < 0 := by rw [Int32.lt_iff_toInt_lt]; omega
  have hi0 : ¬ i < 0 := by rw [Int32.lt_iff_toInt_lt]; omega
  obtain ⟨B, hB, rfl⟩ := nI_of hb0
  obtain ⟨I, hI, rfl⟩ := nI_of hi0
  rw [nI_toInt hB] at h1 h2
  rw [nI_toInt hI] at h4
  refine ⟨(B - 1) * 256 + I, by omega, ?_⟩
  rw [show (1 : Int32) = nI 1 from rfl, show (256 : Int32) = nI 256 from rfl, pk_sub (by omega), pk_mul, nI_add]
def zPoke (b i m : Int32) : Int32 := if zOct (fun _ => 0) b i = -1 then -1 else m &&& 255
theorem z_okB {b i : Int32} (h : ¬ zOct (fun _ => 0) b i = -1) : ¬ b < 1 ∧ ¬ 400 < b ∧ ¬ i < 0 ∧ ¬ 256 ≤ i := by
  unfold zOct at h
  refine ⟨fun c => h ?_, fun c => h ?_, fun c => h ?_, fun c => h ?_⟩ <;> (repeat' split) <;> first | rfl | contradiction
theorem z_okE {b i : Int32} (h : ¬ zOct (fun _ => 0) b i = -1) : ∃ n : Nat, n < 102400 ∧ (b - 1) * 256 + i = nI n := by
  obtain ⟨h1, h2, h3, h4⟩ := z_okB h
  exact z_oct h1 h2 h3 h4
theorem z_okN {b i : Int32} (h : ¬ zOct (fun _ => 0) b i = -1) : ¬ (b - 1) * 256 + i < 0 := by
  obtain ⟨n, hn, e⟩ := z_okE h
  rw [e]
  exact nI_pos (by omega)
theorem z_okL {b i : Int32} (h : ¬ zOct (fun _ => 0) b i = -1) : (b - 1) * 256 + i < 102400 := by
  obtain ⟨n, hn, e⟩ := z_okE h
  rw [e, show (102400 : Int32) = nI 102400 from rfl]
  exact nI_lt hn (by decide)
theorem z_okI {b i : Int32} (h : ¬ zOct (fun _ => 0) b i = -1) : vp_in ((b - 1) * 256 + i) 102400 := by
  obtain ⟨n, hn, e⟩ := z_okE h
  rw [e]
  exact vp_in_nI hn (by decide)
theorem z_okV {g : Nat → Int32} {b i : Int32} (h : ¬ zOct (fun _ => 0) b i = -1) : zOct g b i = g ((b - 1) * 256 + i).toNatClampNeg &&& 255 := by
  obtain ⟨h1, h2, h3, h4⟩ := z_okB h
  simp [zOct, h1, h2, h3, h4]
theorem z_byte (m : Int32) : vp_nar .byte (m &&& 255).toInt8.toInt32 &&& 255 = m &&& 255 := by
  obtain ⟨j, hj, e⟩ := pk_andE m (m := 255) 8 (by decide)
  rw [e, pk_vb]
  exact sc_k8 j (by omega)
theorem z_pokeV {g : Nat → Int32} {b i m y v : Int32} (h : ¬ zOct (fun _ => 0) b i = -1) (ey : y = (b - 1) * 256 + i) (ek : g y.toNatClampNeg = vp_nar .byte v) (ev : v = (zOct (fun _ => 0) b i ^^^ (m &&& 255)).toInt8.toInt32) : zOct g b i = zPoke b i m := by
  rw [z_okV h, ← ey, ek, ev, z_okV h, zPoke, if_neg h]
  rw [show ((0 : Int32) &&& 255) = 0 from by decide, Int32.zero_xor, z_byte]
theorem z_octN {b i : Int32} (h1 : ¬ b < 1) (h2 : ¬ 400 < b) (h3 : ¬ i < 0) (h4 : ¬ 256 ≤ i) : ¬ (102400 : Int32) ≤ (b - 1) * 256 + i := by
  obtain ⟨n, hn, e⟩ := z_oct h1 h2 h3 h4
  rw [e, show (102400 : Int32) = nI 102400 from rfl]
  exact nI_ge hn (by decide)
theorem z_octI {b i : Int32} (h1 : ¬ b < 1) (h2 : ¬ 400 < b) (h3 : ¬ i < 0) (h4 : ¬ 256 ≤ i) : vp_in ((b - 1) * 256 + i) 102400 := by
  obtain ⟨n, hn, e⟩ := z_oct h1 h2 h3 h4
  rw [e]
  exact vp_in_nI hn (by decide)

set_option maxHeartbeats 8000000 in
set_option maxRecDepth 100000 in
/-- House.write of nothing -/
theorem c_write0 (l : Launch) (D : va_G) (x : Nat → ClassId) (h0 : Nat) (f0 : Nat → Value) (wa : Nat) (f1 : Nat → Value) (sz : Nat) (h0_7 : f0 7 = .ref wa) (h0_6 : f0 6 = .int 0) (h1_1 : f1 1 = .int 0) : Met l yX0_write (.code yX0_write cX0_write 5 (some .int) :: zW) ({ frames := 1, cells := (0), slots := (0), locals := 20 }) (va_Pc [.ref h0] (fun U => U.heap.size = sz ∧ va_P D vwCl [(h0, .inr (0, zf 18 f0)), (wa, .inr (6, zf 3 f1))] U.heap ∧ zK x D U ∧ va_D (fun _ => True) [(h0, .inr (0, zf 18 f0)), (wa, .inr (6, zf 3 f1))])) (va_Qi (fun (r : Int32) (u : Unit) => r = 0) (fun u t => True) (va_A [(h0, .inr (0, zf 18 f0)), (wa, .inr (6, zf 3 f1))] sz)) (0) (0) (va_A [(h0, .inr (0, zf 18 f0)), (wa, .inr (6, zf 3 f1))] sz) := by
  refine Met.ofW (cc := cX0_write) (maxL := 5) (ret := (some .int)) (by decide) rfl ?_
  intro p e s m args below meth c s₁ B hml hv
  obtain ⟨rfl, hsz, hP, hZ, hD0⟩ := hv
  have hK := hZ.1
  have hx := B.exec
  have hb := B.bytes
  have hr := B.returns
  have hts := atoms_spec (ws := .code yX0_write cX0_write 5 (some .int) :: zW) B.pre
  have hown : s.vm.findClass RX0 = some m.cls := findClass_of_methodNamed B.named
  have hlocks := B.notSynchronized
  subst hsz
  have hD := hD0.self (sz := s.heap.size)
  generalize hAe : va_A [(h0, .inr (0, zf 18 f0)), (wa, .inr (6, zf 3 f1))] s.heap.size = A at hD ⊢
  have hA : ∀ q : Nat, s.heap.size ≤ q → A q := fun q h => by rw [← hAe]; exact Or.inr h
  have hS : va_S A s.heap s.heap [] := va_S.rf
  have hP : va_P D vwCl [(h0, .inr (0, zf 18 f0)), (wa, .inr (6, zf 3 f1))] s.heap := hP
  have hl := lv_entry ([.ref h0]) (n := 5) (Nat.le_of_ble_eq_true rfl)
  rw [lg_entry_eq]
  generalize (lg_sl ([.ref h0]) ++ List.replicate (5 - (lg_sl ([.ref h0])).length) Slot.unset).toArray = ls at hl ⊢
  have hl : lv_has ls 5 [(0, .ref h0)] := hl
  refine lv_aload_n hx hb dX0_write_0 rfl (lv_at hl 0 rfl) ?_
  refine z_get (T := TX0) (N := 18) (ci := 0) hx hb hts (zi_0 _) hown hK hP 0 rfl rfl 7 (by decide) (hts _ (zm_141 _)) rfl h0_7 dX0_write_1 ?_
  refine z_getN (T := TX6) (N := 3) (ci := 6) hx hb hts (zi_6 _) hown hK hP 1 rfl rfl 1 (by decide) (hZ.2.1 _ zn_163) rfl h1_1 dX0_write_4 ?_
  refine lv_sipush (v := 248) hx hb dX0_write_7 (by decide) ?_
  refine lv_iadd hx hb dX0_write_10 ?_
  refine lv_topi (fun y_2 ex_1 => ?_)
  obtain rfl : y_2 = 248 := ex_1.trans (by decide)
  refine lv_iconst (v := 1) hx hb dX0_write_11 (by decide) ?_
  refine lv_isub hx hb dX0_write_12 ?_
  refine lv_topi (fun y_4 ex_3 => ?_)
  obtain rfl : y_4 = 247 := ex_3.trans (by decide)
  refine lv_sipush (v := 248) hx hb dX0_write_13 (by decide) ?_
  refine lv_idiv hx hb dX0_write_16 (by decide) ?_
  refine lv_topi (fun y_6 ex_5 => ?_)
  obtain rfl : y_6 = 0 := ex_5.trans (by decide)
  refine lv_istore_n (lv' := [(1, .int 0), (0, .ref h0)]) hx hb dX0_write_17 rfl hl (by decide) rfl (fun ls hl => ?_)
  refine lv_iconst (v := 0) hx hb dX0_write_18 (by decide) ?_
  refine lv_istore_n (lv' := [(2, .int 0), (1, .int 0), (0, .ref h0)]) hx hb dX0_write_19 rfl hl (by decide) rfl (fun ls hl => ?_)
  refine lv_iload_n hx hb dX0_write_20 rfl (lv_at hl 0 rfl) ?_
  refine lv_iload_n hx hb dX0_write_21 rfl (lv_at hl 1 rfl) ?_
  refine lv_icmp_ge (tgt := 182) hx hb dX0_write_22 (by decide) (fun _ => ?_) (fun c9 => absurd (by decide) c9)
  refine lv_aload_n hx hb dX0_write_182 rfl (lv_at hl 2 rfl) ?_
  refine lv_dup hx hb dX0_write_183 rfl ?_
  refine z_get (T := TX0) (N := 18) (ci := 0) hx hb hts (zi_0 _) hown hK hP 0 rfl rfl 6 (by decide) (hts _ (zm_434 _)) rfl h0_6 dX0_write_184 ?_
  refine lv_iload_n hx hb dX0_write_187 rfl (lv_at hl 1 rfl) ?_
  refine lv_iadd hx hb dX0_write_188 ?_
  refine lv_topi (fun y_8 ex_7 => ?_)
  obtain rfl : y_8 = 0 := ex_7.trans (by decide)
  refine z_put (T := TX0) (N := 18) (ci := 0) hx hb hts (zi_0 _) hown hK hP hD hS 0 rfl rfl 6 (by decide) (hts _ (zm_434 _)) rfl rfl rfl rfl dX0_write_189 (fun H locs f_9 ek_10 ok_11 hP hD hS => ?_)
  have hP : va_P D vwCl [(h0, .inr (0, zf 18 f_9)), (wa, .inr (6, zf 3 f1))] H := hP
  have hD : va_D A [(h0, .inr (0, zf 18 f_9)), (wa, .inr (6, zf 3 f1))] := hD
  refine lv_aload_n hx hb dX0_write_192 rfl (lv_at hl 2 rfl) ?_
  refine z_get (T := TX0) (N := 18) (ci := 0) hx hb hts (zi_0 _) hown hK hP 0 rfl rfl 7 (by decide) (hts _ (zm_141 _)) rfl ((ok_11 7 (by decide)).trans h0_7) dX0_write_193 ?_
  have hPc := hP.sub (ws' := [(wa, .inr (6, zf 3 f1))]) [1] rfl
  have hDc := hD.sub (ws' := [(wa, .inr (6, zf 3 f1))]) [1] (by decide) rfl
  have hFc := va_free (wc := [(wa, .inr (6, zf 3 f1))]) hD hS hA [1] rfl
  have h_13 : 0 + 0 ≤ 0 ∧ 0 + 0 ≤ 0 := by omega
  refine va_callv (va_runVN (As := []) (rest := []) ⟨hx, hb, hml, hown, hts⟩ (c_Row_clear0 l D x wa f1 H.size) ⟨va_cnB 0 hts (zgood (zm_181 _) rfl) rfl rfl rfl (hZ.2.1 _ zn_164) (hts _ (zm_7 _)) ⟨by decide, by decide, by decide +kernel⟩ ⟨Nat.le_of_ble_eq_true rfl, Nat.le_of_ble_eq_true rfl⟩, hts _ (zm_182 _), hts _ (zm_183 _)⟩ ⟨fun a U g mk q => by obtain ⟨q0, q1, qP, qK, qD⟩ := q; exact ⟨q0, q1, qP, ZK.calling (u := U) zN_ok rfl qK, qD⟩, va_recv hK hPc (ci := 6) (q0 := 0) rfl rfl, fun U hU hW => ⟨rfl, by rw [hU], by rw [hU]; exact hPc, ZK.warm zN_ok hW hZ, hDc.weaken (fun _ _ _ _ => trivial)⟩⟩ rfl rfl hl.1 rfl (lv_room (Nat.le_of_ble_eq_true rfl)) dX0_write_196 h_13) hS (fun q _ h => hFc q h) hFc (fun c0_12 t H1 locs ht hvm hw_12 hB hz1 hk1 hS => ?_)
  obtain ⟨hP1, hD1⟩ := hB
  rw [ht] at hP1
  try dsimp only at hw_12
  obtain ⟨hP, hD⟩ := va_join (wr := [(h0, .inr (0, zf 18 f_9))]) (w1 := [(wa, .inr (6, zf 3 c0_12))]) hP hD [1] [0] rfl rfl (by decide) (by decide) hk1 hFc hP1 hD1
  generalize H1 = H at hP hS ⊢
  have hP : va_P D vwCl [(h0, .inr (0, zf 18 f_9)), (wa, .inr (6, zf 3 c0_12))] H := hP
  have hD : va_D A [(h0, .inr (0, zf 18 f_9)), (wa, .inr (6, zf 3 c0_12))] := hD
  refine W.widen (k := 0) (n := 0) (by omega) (by omega) ?_
  refine lv_aload_n hx hb dX0_write_199 rfl (lv_at hl 2 rfl) ?_
  refine lv_iconst (v := 0) hx hb dX0_write_200 (by decide) ?_
  refine z_put (T := TX0) (N := 18) (ci := 0) hx hb hts (zi_0 _) hown hK hP hD hS 0 rfl rfl 8 (by decide) (hts _ (zm_440 _)) rfl rfl rfl rfl dX0_write_201 (fun H locs f_14 ek_15 ok_16 hP hD hS => ?_)
  have hP : va_P D vwCl [(h0, .inr (0, zf 18 f_14)), (wa, .inr (6, zf 3 c0_12))] H := hP
  have hD : va_D A [(h0, .inr (0, zf 18 f_14)), (wa, .inr (6, zf 3 c0_12))] := hD
  refine lv_iload_n hx hb dX0_write_204 rfl (lv_at hl 1 rfl) ?_
  exact W.iret (v := 0) hx hb hr (fun t ht hW => ⟨⟨_, (), rfl, rfl, trivial⟩, hS.F ht⟩) hS.2.2 dX0_write_205

set_option maxHeartbeats 8000000 in
set_option maxRecDepth 100000 in
/-- MumpsHouse.sync on a fresh object -/
theorem c_sync (l : Launch) (D : va_G) (x : Nat → ClassId) (h0 : Nat) (f0 : Nat → Value) (ho : Nat) (fh : Nat → Value) (wa : Nat) (f1 : Nat → Value) (sz : Nat) (h0_2 : f0 2 = .ref ho) (h1_12 : fh 12 = .int 0) (h1_7 : fh 7 = .ref wa) (h1_6 : fh 6 = .int 0) (h2_1 : f1 1 = .int 0) : Met l yX11_sync (.code yX11_sync cX11_sync 1 (some .int) :: zW) ({ frames := 2, cells := (0), slots := (0), locals := 44 }) (va_Pc [.ref h0] (fun U => U.heap.size = sz ∧ va_P D vwCl [(h0, .inr (11, zf 6 f0)), (ho, .inr (0, zf 18 fh)), (wa, .inr (6, zf 3 f1))] U.heap ∧ zK x D U ∧ va_D (fun _ => True) [(h0, .inr (11, zf 6 f0)), (ho, .inr (0, zf 18 fh)), (wa, .inr (6, zf 3 f1))])) (va_Qi (fun (r : Int32) (u : Unit) => r = 0) (fun u t => True) (va_A [(h0, .inr (11, zf 6 f0)), (ho, .inr (0, zf 18 fh)), (wa, .inr (6, zf 3 f1))] sz)) (0) (0) (va_A [(h0, .inr (11, zf 6 f0)), (ho, .inr (0, zf 18 fh)), (wa, .inr (6, zf 3 f1))] sz) := by
  refine Met.ofW (cc := cX11_sync) (maxL := 1) (ret := (some .int)) (by decide) rfl ?_
  intro p e s m args below meth c s₁ B hml hv
  obtain ⟨rfl, hsz, hP, hZ, hD0⟩ := hv
  have hK := hZ.1
  have hx := B.exec
  have hb := B.bytes
  have hr := B.returns
  have hts := atoms_spec (ws := .code yX11_sync cX11_sync 1 (some .int) :: zW) B.pre
  have hown : s.vm.findClass RX11 = some m.cls := findClass_of_methodNamed B.named
  have hlocks := B.notSynchronized
  subst hsz
  have hD := hD0.self (sz := s.heap.size)
  generalize hAe : va_A [(h0, .inr (11, zf 6 f0)), (ho, .inr (0, zf 18 fh)), (wa, .inr (6, zf 3 f1))] s.heap.size = A at hD ⊢
  have hA : ∀ q : Nat, s.heap.size ≤ q → A q := fun q h => by rw [← hAe]; exact Or.inr h
  have hS : va_S A s.heap s.heap [] := va_S.rf
  have hP : va_P D vwCl [(h0, .inr (11, zf 6 f0)), (ho, .inr (0, zf 18 fh)), (wa, .inr (6, zf 3 f1))] s.heap := hP
  have hl := lv_entry ([.ref h0]) (n := 1) (Nat.le_of_ble_eq_true rfl)
  rw [lg_entry_eq]
  generalize (lg_sl ([.ref h0]) ++ List.replicate (1 - (lg_sl ([.ref h0])).length) Slot.unset).toArray = ls at hl ⊢
  have hl : lv_has ls 1 [(0, .ref h0)] := hl
  refine lv_aload_n hx hb dX11_sync_0 rfl (lv_at hl 0 rfl) ?_
  refine z_get (T := TX11) (N := 6) (ci := 11) hx hb hts (zi_11 _) hown hK hP 0 rfl rfl 2 (by decide) (hts _ (zm_175 _)) rfl h0_2 dX11_sync_1 ?_
  refine z_getN (T := TX0) (N := 18) (ci := 0) hx hb hts (zi_0 _) hown hK hP 1 rfl rfl 12 (by decide) (hZ.2.1 _ zn_30) rfl h1_12 dX11_sync_4 ?_
  refine lv_if_eq (tgt := 15) hx hb dX11_sync_7 (by decide) (fun _ => ?_) (fun c9 => absurd (by decide) c9)
  refine lv_aload_n hx hb dX11_sync_15 rfl (lv_at hl 0 rfl) ?_
  refine z_get (T := TX11) (N := 6) (ci := 11) hx hb hts (zi_11 _) hown hK hP 0 rfl rfl 2 (by decide) (hts _ (zm_175 _)) rfl h0_2 dX11_sync_16 ?_
  have hPc := hP.sub (ws' := [(ho, .inr (0, zf 18 fh)), (wa, .inr (6, zf 3 f1))]) [1, 2] rfl
  have hDc := hD.sub (ws' := [(ho, .inr (0, zf 18 fh)), (wa, .inr (6, zf 3 f1))]) [1, 2] (by decide) rfl
  have hFc := va_free (wc := [(ho, .inr (0, zf 18 fh)), (wa, .inr (6, zf 3 f1))]) hD hS hA [1, 2] rfl
  have h_2 : 0 + 0 ≤ 0 ∧ 0 + 0 ≤ 0 := by omega
  refine va_calli (va_runVN (As := []) (rest := []) ⟨hx, hb, hml, hown, hts⟩ (c_write0 l D x ho fh wa f1 s.heap.size h1_7 h1_6 h2_1) ⟨va_cnB 0 hts (zgood (zm_431 _) rfl) rfl rfl rfl (hZ.2.1 _ zn_113) (hts _ (zm_128 _)) ⟨by decide, by decide, by decide +kernel⟩ ⟨Nat.le_of_ble_eq_true rfl, Nat.le_of_ble_eq_true rfl⟩, hts _ (zm_432 _), hts _ (zm_433 _)⟩ ⟨fun a U g mk q => by obtain ⟨q0, q1, qP, qK, qD⟩ := q; exact ⟨q0, q1, qP, ZK.calling (u := U) zN_ok rfl qK, qD⟩, va_recv hK hPc (ci := 0) (q0 := 0) rfl rfl, fun U hU hW => ⟨rfl, by rw [hU], by rw [hU]; exact hPc, ZK.warm zN_ok hW hZ, hDc.weaken (fun _ _ _ _ => trivial)⟩⟩ rfl rfl hl.1 rfl (lv_room (Nat.le_of_ble_eq_true rfl)) dX11_sync_19 h_2) hS (fun q _ h => hFc q h) hFc (fun r_1 u t H1 locs ht hvm hw_1 hB hz1 hk1 hS => ?_)
  have hP1 : va_P D vwCl [] H1 := z_P0
  have hD1 : va_D (va_A [(ho, .inr (0, zf 18 fh)), (wa, .inr (6, zf 3 f1))] s.heap.size) [] := z_D0
  try dsimp only at hw_1
  obtain ⟨hP, hD⟩ := va_join (wr := [(h0, .inr (11, zf 6 f0))]) (w1 := []) hP hD [1, 2] [0] rfl rfl (by decide) (by decide) hk1 hFc hP1 hD1
  generalize H1 = H at hP hS ⊢
  have hP : va_P D vwCl [(h0, .inr (11, zf 6 f0))] H := hP
  have hD : va_D A [(h0, .inr (11, zf 6 f0))] := hD
  refine W.widen (k := 0) (n := 0) (by omega) (by omega) ?_
  obtain rfl : r_1 = 0 := hw_1
  exact W.iret (v := 0) hx hb hr (fun t ht hW => ⟨⟨_, (), rfl, rfl, trivial⟩, hS.F ht⟩) hS.2.2 dX11_sync_22

set_option maxHeartbeats 8000000 in
set_option maxRecDepth 100000 in
/-- House.octetAt -/
theorem c_octetAt (l : Launch) (D : va_G) (x : Nat → ClassId) (n0 : Int32) (n1 : Int32) (h0 : Nat) (f0 : Nat → Value) (q : Nat) (g : Nat → Int32) (sz : Nat) (h0_4 : f0 4 = .ref q) : Met l yX0_octetAt (.code yX0_octetAt cX0_octetAt 4 (some .int) :: zW) ({ frames := 0, cells := (0), slots := (0), locals := 0 }) (va_Pc [.ref h0, .int n0, .int n1] (fun U => U.heap.size = sz ∧ va_P D vwCl [(h0, .inr (0, zf 18 f0)), (q, .inl (x 1, 102400, .inl g))] U.heap ∧ zK x D U ∧ va_D (fun _ => True) [(h0, .inr (0, zf 18 f0)), (q, .inl (x 1, 102400, .inl g))])) (va_Qi (fun (r : Int32) (u : Unit) => r = (zOct g n0 n1)) (fun u t => zB D vwCl (va_A [(h0, .inr (0, zf 18 f0)), (q, .inl (x 1, 102400, .inl g))] sz) [(h0, .inr (0, zf 18 f0)), (q, .inl (x 1, 102400, .inl g))] t) (va_A [(h0, .inr (0, zf 18 f0)), (q, .inl (x 1, 102400, .inl g))] sz)) (0) (0) (va_A [(h0, .inr (0, zf 18 f0)), (q, .inl (x 1, 102400, .inl g))] sz) := by
  refine Met.ofW (cc := cX0_octetAt) (maxL := 4) (ret := (some .int)) (by decide) rfl ?_
  intro p e s m args below meth c s₁ B hml hv
  obtain ⟨rfl, hsz, hP, hZ, hD0⟩ := hv
  have hK := hZ.1
  have hx := B.exec
  have hb := B.bytes
  have hr := B.returns
  have hts := atoms_spec (ws := .code yX0_octetAt cX0_octetAt 4 (some .int) :: zW) B.pre
  have hown : s.vm.findClass RX0 = some m.cls := findClass_of_methodNamed B.named
  have hlocks := B.notSynchronized
  subst hsz
  have hD := hD0.self (sz := s.heap.size)
  generalize hAe : va_A [(h0, .inr (0, zf 18 f0)), (q, .inl (x 1, 102400, .inl g))] s.heap.size = A at hD ⊢
  have hA : ∀ q : Nat, s.heap.size ≤ q → A q := fun q h => by rw [← hAe]; exact Or.inr h
  have hS : va_S A s.heap s.heap [] := va_S.rf
  have hP : va_P D vwCl [(h0, .inr (0, zf 18 f0)), (q, .inl (x 1, 102400, .inl g))] s.heap := hP
  have hl := lv_entry ([.ref h0, .int n0, .int n1]) (n := 4) (Nat.le_of_ble_eq_true rfl)
  rw [lg_entry_eq]
  generalize (lg_sl ([.ref h0, .int n0, .int n1]) ++ List.replicate (4 - (lg_sl ([.ref h0, .int n0, .int n1])).length) Slot.unset).toArray = ls at hl ⊢
  have hl : lv_has ls 4 [(0, .ref h0), (1, .int n0), (2, .int n1)] := hl
  refine lv_iload_n hx hb dX0_octetAt_0 rfl (lv_at hl 1 rfl) ?_
  refine lv_iconst (v := 1) hx hb dX0_octetAt_1 (by decide) ?_
  refine lv_isub hx hb dX0_octetAt_2 ?_
  refine lv_topi (fun y_2 ex_1 => ?_)
  refine lv_sipush (v := 256) hx hb dX0_octetAt_3 (by decide) ?_
  refine lv_imul hx hb dX0_octetAt_6 ?_
  refine lv_topi (fun y_4 ex_3 => ?_)
  refine lv_iload_n hx hb dX0_octetAt_7 rfl (lv_at hl 2 rfl) ?_
  refine lv_iadd hx hb dX0_octetAt_8 ?_
  refine lv_topi (fun y_6 ex_5 => ?_)
  refine lv_istore_n (lv' := [(3, .int y_6), (0, .ref h0), (1, .int n0), (2, .int n1)]) hx hb dX0_octetAt_9 rfl hl (by decide) rfl (fun ls hl => ?_)
  refine lv_iload_n hx hb dX0_octetAt_10 rfl (lv_at hl 2 rfl) ?_
  refine lv_iconst (v := 1) hx hb dX0_octetAt_11 (by decide) ?_
  refine lv_icmp_lt (tgt := 55) hx hb dX0_octetAt_12 (by decide) (fun c_7 => ?_) (fun c_7 => ?_)
  · skip
    refine lv_iconst (v := (-1)) hx hb dX0_octetAt_55 (by decide) ?_
    refine W.widen (k := 0) (n := 0) (Nat.le_of_ble_eq_true rfl) (Nat.le_of_ble_eq_true rfl) ?_
    have hP9 := hP.sub (ws' := [(h0, .inr (0, zf 18 f0)), (q, .inl (x 1, 102400, .inl g))]) [0, 1] rfl
    have hD9 := hD.sub (ws' := [(h0, .inr (0, zf 18 f0)), (q, .inl (x 1, 102400, .inl g))]) [0, 1] (by decide) rfl
    exact W.iret (v := (-1)) hx hb hr (fun t ht hW => ⟨⟨_, (), rfl, (by simp [zOct, c_7]), ⟨by rw [ht]; exact hP9, hD9⟩⟩, hS.F ht⟩) hS.2.2 dX0_octetAt_56
  · skip
    refine lv_iload_n hx hb dX0_octetAt_15 rfl (lv_at hl 2 rfl) ?_
    refine lv_sipush (v := 400) hx hb dX0_octetAt_16 (by decide) ?_
    refine lv_icmp_gt (tgt := 55) hx hb dX0_octetAt_19 (by decide) (fun c_8 => ?_) (fun c_8 => ?_)
    · skip
      refine lv_iconst (v := (-1)) hx hb dX0_octetAt_55 (by decide) ?_
      refine W.widen (k := 0) (n := 0) (Nat.le_of_ble_eq_true rfl) (Nat.le_of_ble_eq_true rfl) ?_
      have hP9 := hP.sub (ws' := [(h0, .inr (0, zf 18 f0)), (q, .inl (x 1, 102400, .inl g))]) [0, 1] rfl
      have hD9 := hD.sub (ws' := [(h0, .inr (0, zf 18 f0)), (q, .inl (x 1, 102400, .inl g))]) [0, 1] (by decide) rfl
      exact W.iret (v := (-1)) hx hb hr (fun t ht hW => ⟨⟨_, (), rfl, (by simp [zOct, c_7, c_8]), ⟨by rw [ht]; exact hP9, hD9⟩⟩, hS.F ht⟩) hS.2.2 dX0_octetAt_56
    · skip
      refine lv_iload_n hx hb dX0_octetAt_22 rfl (lv_at hl 3 rfl) ?_
      refine lv_if_lt (tgt := 55) hx hb dX0_octetAt_23 (by decide) (fun c_9 => ?_) (fun c_9 => ?_)
      · skip
        refine lv_iconst (v := (-1)) hx hb dX0_octetAt_55 (by decide) ?_
        refine W.widen (k := 0) (n := 0) (Nat.le_of_ble_eq_true rfl) (Nat.le_of_ble_eq_true rfl) ?_
        have hP9 := hP.sub (ws' := [(h0, .inr (0, zf 18 f0)), (q, .inl (x 1, 102400, .inl g))]) [0, 1] rfl
        have hD9 := hD.sub (ws' := [(h0, .inr (0, zf 18 f0)), (q, .inl (x 1, 102400, .inl g))]) [0, 1] (by decide) rfl
        exact W.iret (v := (-1)) hx hb hr (fun t ht hW => ⟨⟨_, (), rfl, (by simp [zOct, c_7, c_8, c_9]), ⟨by rw [ht]; exact hP9, hD9⟩⟩, hS.F ht⟩) hS.2.2 dX0_octetAt_56
      · skip
        refine lv_iload_n hx hb dX0_octetAt_26 rfl (lv_at hl 3 rfl) ?_
        refine lv_sipush (v := 256) hx hb dX0_octetAt_27 (by decide) ?_
        refine lv_icmp_ge (tgt := 55) hx hb dX0_octetAt_30 (by decide) (fun c_10 => ?_) (fun c_10 => ?_)
        · skip
          refine lv_iconst (v := (-1)) hx hb dX0_octetAt_55 (by decide) ?_
          refine W.widen (k := 0) (n := 0) (Nat.le_of_ble_eq_true rfl) (Nat.le_of_ble_eq_true rfl) ?_
          have hP9 := hP.sub (ws' := [(h0, .inr (0, zf 18 f0)), (q, .inl (x 1, 102400, .inl g))]) [0, 1] rfl
          have hD9 := hD.sub (ws' := [(h0, .inr (0, zf 18 f0)), (q, .inl (x 1, 102400, .inl g))]) [0, 1] (by decide) rfl
          exact W.iret (v := (-1)) hx hb hr (fun t ht hW => ⟨⟨_, (), rfl, (by simp [zOct, c_7, c_8, c_9, c_10]), ⟨by rw [ht]; exact hP9, hD9⟩⟩, hS.F ht⟩) hS.2.2 dX0_octetAt_56
        · skip
          refine lv_iload_n hx hb dX0_octetAt_33 rfl (lv_at hl 0 rfl) ?_
          refine lv_aload_n hx hb dX0_octetAt_34 rfl (lv_at hl 1 rfl) ?_
          refine z_get (T := TX0) (N := 18) (ci := 0) hx hb hts (zi_0 _) hown hK hP 0 rfl rfl 4 (by decide) (hts _ (zm_137 _)) rfl h0_4 dX0_octetAt_35 ?_
          refine va_alen (v := 102400) hx hb hK hP 1 1 rfl rfl rfl dX0_octetAt_38 ?_
          refine lv_icmp_ge (tgt := 55) hx hb dX0_octetAt_39 (by decide) (fun c9 => absurd c9 ((by rw [ex_5, ex_3, ex_1]; exact z_octN c_7 c_8 c_9 c_10))) (fun _ => ?_)
          refine lv_aload_n hx hb dX0_octetAt_42 rfl (lv_at hl 1 rfl) ?_
          refine z_get (T := TX0) (N := 18) (ci := 0) hx hb hts (zi_0 _) hown hK hP 0 rfl rfl 4 (by decide) (hts _ (zm_137 _)) rfl h0_4 dX0_octetAt_43 ?_
          refine lv_iload_n hx hb dX0_octetAt_46 rfl (lv_at hl 0 rfl) ?_
          obtain ⟨y_11, ex_12⟩ : ∃ z, g (y_6 : Int32).toNatClampNeg = z := ⟨_, rfl⟩
          refine z_bald hx hb hK hP 1 1 rfl rfl (by rw [ex_5, ex_3, ex_1]; exact z_octI c_7 c_8 c_9 c_10) ex_12 dX0_octetAt_47 ?_
          refine lv_sipush (v := 255) hx hb dX0_octetAt_48 (by decide) ?_
          refine lv_iand hx hb dX0_octetAt_51 ?_
          refine lv_topi (fun y_14 ex_13 => ?_)
          refine lv_goto (tgt := 56) hx hb dX0_octetAt_52 (by decide) ?_
          refine W.widen (k := 0) (n := 0) (Nat.le_of_ble_eq_true rfl) (Nat.le_of_ble_eq_true rfl) ?_
          have hP9 := hP.sub (ws' := [(h0, .inr (0, zf 18 f0)), (q, .inl (x 1, 102400, .inl g))]) [0, 1] rfl
          have hD9 := hD.sub (ws' := [(h0, .inr (0, zf 18 f0)), (q, .inl (x 1, 102400, .inl g))]) [0, 1] (by decide) rfl
          exact W.iret (v := y_14) hx hb hr (fun t ht hW => ⟨⟨_, (), rfl, (by rw [ex_13, ← ex_12, ex_5, ex_3, ex_1]; simp [zOct, c_7, c_8, c_9, c_10]), ⟨by rw [ht]; exact hP9, hD9⟩⟩, hS.F ht⟩) hS.2.2 dX0_octetAt_56

set_option maxHeartbeats 8000000 in
set_option maxRecDepth 100000 in
/-- MumpsHouse.octet -/
theorem c_octet (l : Launch) (D : va_G) (x : Nat → ClassId) (n0 : Int32) (n1 : Int32) (h0 : Nat) (f0 : Nat → Value) (ho : Nat) (fh : Nat → Value) (q : Nat) (g : Nat → Int32) (sz : Nat) (h0_2 : f0 2 = .ref ho) (h1_4 : fh 4 = .ref q) : Met l yX11_octet (.code yX11_octet cX11_octet 3 (some .int) :: zW) ({ frames := 1, cells := (0), slots := (0), locals := 23 }) (va_Pc [.ref h0, .int n0, .int n1] (fun U => U.heap.size = sz ∧ va_P D vwCl [(h0, .inr (11, zf 6 f0)), (ho, .inr (0, zf 18 fh)), (q, .inl (x 1, 102400, .inl g))] U.heap ∧ zK x D U ∧ va_D (fun _ => True) [(h0, .inr (11, zf 6 f0)), (ho, .inr (0, zf 18 fh)), (q, .inl (x 1, 102400, .inl g))])) (va_Qi (fun (r : Int32) (u : Unit) => r = (zOct g n0 n1)) (fun u t => True) (va_A [(h0, .inr (11, zf 6 f0)), (ho, .inr (0, zf 18 fh)), (q, .inl (x 1, 102400, .inl g))] sz)) (0) (0) (va_A [(h0, .inr (11, zf 6 f0)), (ho, .inr (0, zf 18 fh)), (q, .inl (x 1, 102400, .inl g))] sz) := by
  refine Met.ofW (cc := cX11_octet) (maxL := 3) (ret := (some .int)) (by decide) rfl ?_
  intro p e s m args below meth c s₁ B hml hv
  obtain ⟨rfl, hsz, hP, hZ, hD0⟩ := hv
  have hK := hZ.1
  have hx := B.exec
  have hb := B.bytes
  have hr := B.returns
  have hts := atoms_spec (ws := .code yX11_octet cX11_octet 3 (some .int) :: zW) B.pre
  have hown : s.vm.findClass RX11 = some m.cls := findClass_of_methodNamed B.named
  have hlocks := B.notSynchronized
  subst hsz
  have hD := hD0.self (sz := s.heap.size)
  generalize hAe : va_A [(h0, .inr (11, zf 6 f0)), (ho, .inr (0, zf 18 fh)), (q, .inl (x 1, 102400, .inl g))] s.heap.size = A at hD ⊢
  have hA : ∀ q : Nat, s.heap.size ≤ q → A q := fun q h => by rw [← hAe]; exact Or.inr h
  have hS : va_S A s.heap s.heap [] := va_S.rf
  have hP : va_P D vwCl [(h0, .inr (11, zf 6 f0)), (ho, .inr (0, zf 18 fh)), (q, .inl (x 1, 102400, .inl g))] s.heap := hP
  have hl := lv_entry ([.ref h0, .int n0, .int n1]) (n := 3) (Nat.le_of_ble_eq_true rfl)
  rw [lg_entry_eq]
  generalize (lg_sl ([.ref h0, .int n0, .int n1]) ++ List.replicate (3 - (lg_sl ([.ref h0, .int n0, .int n1])).length) Slot.unset).toArray = ls at hl ⊢
  have hl : lv_has ls 3 [(0, .ref h0), (1, .int n0), (2, .int n1)] := hl
  refine lv_aload_n hx hb dX11_octet_0 rfl (lv_at hl 0 rfl) ?_
  refine z_get (T := TX11) (N := 6) (ci := 11) hx hb hts (zi_11 _) hown hK hP 0 rfl rfl 2 (by decide) (hts _ (zm_175 _)) rfl h0_2 dX11_octet_1 ?_
  refine lv_iload_n hx hb dX11_octet_4 rfl (lv_at hl 1 rfl) ?_
  refine lv_iload_n hx hb dX11_octet_5 rfl (lv_at hl 2 rfl) ?_
  have hPc := hP.sub (ws' := [(ho, .inr (0, zf 18 fh)), (q, .inl (x 1, 102400, .inl g))]) [1, 2] rfl
  have hDc := hD.sub (ws' := [(ho, .inr (0, zf 18 fh)), (q, .inl (x 1, 102400, .inl g))]) [1, 2] (by decide) rfl
  have hFc := va_free (wc := [(ho, .inr (0, zf 18 fh)), (q, .inl (x 1, 102400, .inl g))]) hD hS hA [1, 2] rfl
  have h_2 : 0 + 0 ≤ 0 ∧ 0 + 0 ≤ 0 := by omega
  refine va_calli (va_runVN (As := [.int n0, .int n1]) (rest := []) ⟨hx, hb, hml, hown, hts⟩ (c_octetAt l D x n0 n1 ho fh q g s.heap.size h1_4) ⟨va_cnB 2 hts (zgood (zm_441 _) rfl) rfl rfl rfl (hZ.2.1 _ zn_120) (hts _ (zm_128 _)) ⟨by decide, by decide, by decide +kernel⟩ ⟨Nat.le_of_ble_eq_true rfl, Nat.le_of_ble_eq_true rfl⟩, hts _ (zm_442 _), hts _ (zm_443 _)⟩ ⟨fun a U g mk q => by obtain ⟨q0, q1, qP, qK, qD⟩ := q; exact ⟨q0, q1, qP, ZK.calling (u := U) zN_ok rfl qK, qD⟩, va_recv hK hPc (ci := 0) (q0 := 0) rfl rfl, fun U hU hW => ⟨rfl, by rw [hU], by rw [hU]; exact hPc, ZK.warm zN_ok hW hZ, hDc.weaken (fun _ _ _ _ => trivial)⟩⟩ rfl rfl hl.1 rfl (lv_room (Nat.le_of_ble_eq_true rfl)) dX11_octet_6 h_2) hS (fun q _ h => hFc q h) hFc (fun r_1 u t H1 locs ht hvm hw_1 hB hz1 hk1 hS => ?_)
  obtain ⟨hP1, hD1⟩ := hB
  rw [ht] at hP1
  try dsimp only at hw_1
  obtain ⟨hP, hD⟩ := va_join (wr := [(h0, .inr (11, zf 6 f0))]) (w1 := [(ho, .inr (0, zf 18 fh)), (q, .inl (x 1, 102400, .inl g))]) hP hD [1, 2] [0] rfl rfl (by decide) (by decide) hk1 hFc hP1 hD1
  generalize H1 = H at hP hS ⊢
  have hP : va_P D vwCl [(h0, .inr (11, zf 6 f0)), (ho, .inr (0, zf 18 fh)), (q, .inl (x 1, 102400, .inl g))] H := hP
  have hD : va_D A [(h0, .inr (11, zf 6 f0)), (ho, .inr (0, zf 18 fh)), (q, .inl (x 1, 102400, .inl g))] := hD
  refine W.widen (k := 0) (n := 0) (by omega) (by omega) ?_
  obtain rfl : r_1 = (zOct g n0 n1) := hw_1
  refine W.widen (k := 0) (n := 0) (Nat.le_of_ble_eq_true rfl) (Nat.le_of_ble_eq_true rfl) ?_
  exact W.iret (v := (zOct g n0 n1)) hx hb hr (fun t ht hW => ⟨⟨_, (), rfl, rfl, trivial⟩, hS.F ht⟩) hS.2.2 dX11_octet_9

set_option maxHeartbeats 8000000 in
set_option maxRecDepth 100000 in
/-- MumpsHouse.poke on a fresh object -/
theorem c_poke (l : Launch) (D : va_G) (x : Nat → ClassId) (n0 : Int32) (n1 : Int32) (n2 : Int32) (h0 : Nat) (f0 : Nat → Value) (ho : Nat) (fh : Nat → Value) (q : Nat) (sz : Nat) (h0_2 : f0 2 = .ref ho) (h1_4 : fh 4 = .ref q) : Met l yX11_poke (.code yX11_poke cX11_poke 6 (some .int) :: zW) ({ frames := 1, cells := (0), slots := (0), locals := 23 }) (va_Pc [.ref h0, .int n0, .int n1, .int n2] (fun U => U.heap.size = sz ∧ va_P D vwCl [(h0, .inr (11, zf 6 f0)), (ho, .inr (0, zf 18 fh)), (q, .inl (x 1, 102400, .inl (fun _ => 0)))] U.heap ∧ zK x D U ∧ va_D (fun _ => True) [(h0, .inr (11, zf 6 f0)), (ho, .inr (0, zf 18 fh)), (q, .inl (x 1, 102400, .inl (fun _ => 0)))])) (va_Qi (fun (r : Int32) (u : Unit) => r = (zPoke n0 n1 n2)) (fun u t => True) (va_A [(h0, .inr (11, zf 6 f0)), (ho, .inr (0, zf 18 fh)), (q, .inl (x 1, 102400, .inl (fun _ => 0)))] sz)) (0) (0) (va_A [(h0, .inr (11, zf 6 f0)), (ho, .inr (0, zf 18 fh)), (q, .inl (x 1, 102400, .inl (fun _ => 0)))] sz) := by
  refine Met.ofW (cc := cX11_poke) (maxL := 6) (ret := (some .int)) (by decide) rfl ?_
  intro p e s m args below meth c s₁ B hml hv
  obtain ⟨rfl, hsz, hP, hZ, hD0⟩ := hv
  have hK := hZ.1
  have hx := B.exec
  have hb := B.bytes
  have hr := B.returns
  have hts := atoms_spec (ws := .code yX11_poke cX11_poke 6 (some .int) :: zW) B.pre
  have hown : s.vm.findClass RX11 = some m.cls := findClass_of_methodNamed B.named
  have hlocks := B.notSynchronized
  subst hsz
  have hD := hD0.self (sz := s.heap.size)
  generalize hAe : va_A [(h0, .inr (11, zf 6 f0)), (ho, .inr (0, zf 18 fh)), (q, .inl (x 1, 102400, .inl (fun _ => 0)))] s.heap.size = A at hD ⊢
  have hA : ∀ q : Nat, s.heap.size ≤ q → A q := fun q h => by rw [← hAe]; exact Or.inr h
  have hS : va_S A s.heap s.heap [] := va_S.rf
  have hP : va_P D vwCl [(h0, .inr (11, zf 6 f0)), (ho, .inr (0, zf 18 fh)), (q, .inl (x 1, 102400, .inl (fun _ => 0)))] s.heap := hP
  have hl := lv_entry ([.ref h0, .int n0, .int n1, .int n2]) (n := 6) (Nat.le_of_ble_eq_true rfl)
  rw [lg_entry_eq]
  generalize (lg_sl ([.ref h0, .int n0, .int n1, .int n2]) ++ List.replicate (6 - (lg_sl ([.ref h0, .int n0, .int n1, .int n2])).length) Slot.unset).toArray = ls at hl ⊢
  have hl : lv_has ls 6 [(0, .ref h0), (1, .int n0), (2, .int n1), (3, .int n2)] := hl
  refine lv_aload_n hx hb dX11_poke_0 rfl (lv_at hl 0 rfl) ?_
  refine z_get (T := TX11) (N := 6) (ci := 11) hx hb hts (zi_11 _) hown hK hP 0 rfl rfl 2 (by decide) (hts _ (zm_175 _)) rfl h0_2 dX11_poke_1 ?_
  refine lv_iload_n hx hb dX11_poke_4 rfl (lv_at hl 1 rfl) ?_
  refine lv_iload_n hx hb dX11_poke_5 rfl (lv_at hl 2 rfl) ?_
  have hPc := hP.sub (ws' := [(ho, .inr (0, zf 18 fh)), (q, .inl (x 1, 102400, .inl (fun _ => 0)))]) [1, 2] rfl
  have hDc := hD.sub (ws' := [(ho, .inr (0, zf 18 fh)), (q, .inl (x 1, 102400, .inl (fun _ => 0)))]) [1, 2] (by decide) rfl
  have hFc := va_free (wc := [(ho, .inr (0, zf 18 fh)), (q, .inl (x 1, 102400, .inl (fun _ => 0)))]) hD hS hA [1, 2] rfl
  have h_2 : 0 + 0 ≤ 0 ∧ 0 + 0 ≤ 0 := by omega
  refine va_calli (va_runVN (As := [.int n0, .int n1]) (rest := []) ⟨hx, hb, hml, hown, hts⟩ (c_octetAt l D x n0 n1 ho fh q ((fun _ => 0)) s.heap.size h1_4) ⟨va_cnB 2 hts (zgood (zm_441 _) rfl) rfl rfl rfl (hZ.2.1 _ zn_120) (hts _ (zm_128 _)) ⟨by decide, by decide, by decide +kernel⟩ ⟨Nat.le_of_ble_eq_true rfl, Nat.le_of_ble_eq_true rfl⟩, hts _ (zm_442 _), hts _ (zm_443 _)⟩ ⟨fun a U g mk q => by obtain ⟨q0, q1, qP, qK, qD⟩ := q; exact ⟨q0, q1, qP, ZK.calling (u := U) zN_ok rfl qK, qD⟩, va_recv hK hPc (ci := 0) (q0 := 0) rfl rfl, fun U hU hW => ⟨rfl, by rw [hU], by rw [hU]; exact hPc, ZK.warm zN_ok hW hZ, hDc.weaken (fun _ _ _ _ => trivial)⟩⟩ rfl rfl hl.1 rfl (lv_room (Nat.le_of_ble_eq_true rfl)) dX11_poke_6 h_2) hS (fun q _ h => hFc q h) hFc (fun r_1 u t H1 locs ht hvm hw_1 hB hz1 hk1 hS => ?_)
  obtain ⟨hP1, hD1⟩ := hB
  rw [ht] at hP1
  try dsimp only at hw_1
  obtain ⟨hP, hD⟩ := va_join (wr := [(h0, .inr (11, zf 6 f0))]) (w1 := [(ho, .inr (0, zf 18 fh)), (q, .inl (x 1, 102400, .inl (fun _ => 0)))]) hP hD [1, 2] [0] rfl rfl (by decide) (by decide) hk1 hFc hP1 hD1
  generalize H1 = H at hP hS ⊢
  have hP : va_P D vwCl [(h0, .inr (11, zf 6 f0)), (ho, .inr (0, zf 18 fh)), (q, .inl (x 1, 102400, .inl (fun _ => 0)))] H := hP
  have hD : va_D A [(h0, .inr (11, zf 6 f0)), (ho, .inr (0, zf 18 fh)), (q, .inl (x 1, 102400, .inl (fun _ => 0)))] := hD
  refine W.widen (k := 0) (n := 0) (by omega) (by omega) ?_
  obtain rfl : r_1 = (zOct ((fun _ => 0)) n0 n1) := hw_1
  refine lv_istore (lv' := [(4, .int (zOct ((fun _ => 0)) n0 n1)), (0, .ref h0), (1, .int n0), (2, .int n1), (3, .int n2)]) hx hb dX11_poke_9 hl (by decide) rfl (fun ls hl => ?_)
  refine lv_iload_n hx hb dX11_poke_11 rfl (lv_at hl 2 rfl) ?_
  refine lv_iconst (v := 1) hx hb dX11_poke_12 (by decide) ?_
  refine lv_isub hx hb dX11_poke_13 ?_
  refine lv_topi (fun y_4 ex_3 => ?_)
  refine lv_sipush (v := 256) hx hb dX11_poke_14 (by decide) ?_
  refine lv_imul hx hb dX11_poke_17 ?_
  refine lv_topi (fun y_6 ex_5 => ?_)
  refine lv_iload_n hx hb dX11_poke_18 rfl (lv_at hl 3 rfl) ?_
  refine lv_iadd hx hb dX11_poke_19 ?_
  refine lv_topi (fun y_8 ex_7 => ?_)
  refine lv_istore (lv' := [(5, .int y_8), (4, .int (zOct ((fun _ => 0)) n0 n1)), (0, .ref h0), (1, .int n0), (2, .int n1), (3, .int n2)]) hx hb dX11_poke_20 hl (by decide) rfl (fun ls hl => ?_)
  refine lv_iload hx hb dX11_poke_22 (lv_at hl 1 rfl) ?_
  refine lv_iconst (v := (-1)) hx hb dX11_poke_24 (by decide) ?_
  refine lv_icmp_eq (tgt := 46) hx hb dX11_poke_25 (by decide) (fun c_9 => ?_) (fun c_9 => ?_)
  · skip
    refine lv_iconst (v := (-1)) hx hb dX11_poke_46 (by decide) ?_
    refine W.widen (k := 0) (n := 0) (Nat.le_of_ble_eq_true rfl) (Nat.le_of_ble_eq_true rfl) ?_
    exact W.iret (v := (-1)) hx hb hr (fun t ht hW => ⟨⟨_, (), rfl, (by simp [zPoke, c_9]), trivial⟩, hS.F ht⟩) hS.2.2 dX11_poke_47
  · skip
    refine lv_iload hx hb dX11_poke_28 (lv_at hl 0 rfl) ?_
    refine lv_if_lt (tgt := 46) hx hb dX11_poke_30 (by decide) (fun c9 => absurd c9 ((by rw [ex_7, ex_5, ex_3]; exact z_okN c_9))) (fun _ => ?_)
    refine lv_iload hx hb dX11_poke_33 (lv_at hl 0 rfl) ?_
    refine lv_aload_n hx hb dX11_poke_35 rfl (lv_at hl 2 rfl) ?_
    refine z_get (T := TX11) (N := 6) (ci := 11) hx hb hts (zi_11 _) hown hK hP 0 rfl rfl 2 (by decide) (hts _ (zm_175 _)) rfl h0_2 dX11_poke_36 ?_
    refine z_getN (T := TX0) (N := 18) (ci := 0) hx hb hts (zi_0 _) hown hK hP 1 rfl rfl 4 (by decide) (hZ.2.1 _ zn_121) rfl h1_4 dX11_poke_39 ?_
    refine va_alen (v := 102400) hx hb hK hP 2 1 rfl rfl rfl dX11_poke_42 ?_
    refine lv_icmp_lt (tgt := 48) hx hb dX11_poke_43 (by decide) (fun _ => ?_) (fun c9 => absurd ((by rw [ex_7, ex_5, ex_3]; exact z_okL c_9)) c9)
    refine lv_aload_n hx hb dX11_poke_48 rfl (lv_at hl 2 rfl) ?_
    refine z_get (T := TX11) (N := 6) (ci := 11) hx hb hts (zi_11 _) hown hK hP 0 rfl rfl 2 (by decide) (hts _ (zm_175 _)) rfl h0_2 dX11_poke_49 ?_
    refine z_getN (T := TX0) (N := 18) (ci := 0) hx hb hts (zi_0 _) hown hK hP 1 rfl rfl 4 (by decide) (hZ.2.1 _ zn_121) rfl h1_4 dX11_poke_52 ?_
    refine lv_iload hx hb dX11_poke_55 (lv_at hl 0 rfl) ?_
    refine lv_iload hx hb dX11_poke_57 (lv_at hl 1 rfl) ?_
    refine lv_iload_n hx hb dX11_poke_59 rfl (lv_at hl 5 rfl) ?_
    refine lv_sipush (v := 255) hx hb dX11_poke_60 (by decide) ?_
    refine lv_iand hx hb dX11_poke_63 ?_
    refine lv_topi (fun y_11 ex_10 => ?_)
    refine lv_ixor hx hb dX11_poke_64 ?_
    refine lv_topi (fun y_13 ex_12 => ?_)
    refine lv_i2b hx hb dX11_poke_65 rfl ?_
    refine lv_topi (fun y_14 ex_15 => ?_)
    refine z_bast hx hb hK hP hD hS 2 1 rfl rfl (by rw [ex_7, ex_5, ex_3]; exact z_okI c_9) dX11_poke_66 (fun H locs g_16 ek_17 ok_18 hP hD hS => ?_)
    have hP : va_P D vwCl [(h0, .inr (11, zf 6 f0)), (ho, .inr (0, zf 18 fh)), (q, .inl (x 1, 102400, .inl g_16))] H := hP
    have hD : va_D A [(h0, .inr (11, zf 6 f0)), (ho, .inr (0, zf 18 fh)), (q, .inl (x 1, 102400, .inl g_16))] := hD
    refine lv_aload_n hx hb dX11_poke_67 rfl (lv_at hl 2 rfl) ?_
    refine z_get (T := TX11) (N := 6) (ci := 11) hx hb hts (zi_11 _) hown hK hP 0 rfl rfl 2 (by decide) (hts _ (zm_175 _)) rfl h0_2 dX11_poke_68 ?_
    refine lv_iload_n hx hb dX11_poke_71 rfl (lv_at hl 3 rfl) ?_
    refine lv_iload_n hx hb dX11_poke_72 rfl (lv_at hl 4 rfl) ?_
    have hPc := hP.sub (ws' := [(ho, .inr (0, zf 18 fh)), (q, .inl (x 1, 102400, .inl g_16))]) [1, 2] rfl
    have hDc := hD.sub (ws' := [(ho, .inr (0, zf 18 fh)), (q, .inl (x 1, 102400, .inl g_16))]) [1, 2] (by decide) rfl
    have hFc := va_free (wc := [(ho, .inr (0, zf 18 fh)), (q, .inl (x 1, 102400, .inl g_16))]) hD hS hA [1, 2] rfl
    have h_20 : 0 + 0 ≤ 0 ∧ 0 + 0 ≤ 0 := by omega
    refine va_calli (va_runVN (As := [.int n0, .int n1]) (rest := []) ⟨hx, hb, hml, hown, hts⟩ (c_octetAt l D x n0 n1 ho fh q g_16 H.size h1_4) ⟨va_cnB 2 hts (zgood (zm_441 _) rfl) rfl rfl rfl (hZ.2.1 _ zn_120) (hts _ (zm_128 _)) ⟨by decide, by decide, by decide +kernel⟩ ⟨Nat.le_of_ble_eq_true rfl, Nat.le_of_ble_eq_true rfl⟩, hts _ (zm_442 _), hts _ (zm_443 _)⟩ ⟨fun a U g mk q => by obtain ⟨q0, q1, qP, qK, qD⟩ := q; exact ⟨q0, q1, qP, ZK.calling (u := U) zN_ok rfl qK, qD⟩, va_recv hK hPc (ci := 0) (q0 := 0) rfl rfl, fun U hU hW => ⟨rfl, by rw [hU], by rw [hU]; exact hPc, ZK.warm zN_ok hW hZ, hDc.weaken (fun _ _ _ _ => trivial)⟩⟩ rfl rfl hl.1 rfl (lv_room (Nat.le_of_ble_eq_true rfl)) dX11_poke_73 h_20) hS (fun q _ h => hFc q h) hFc (fun r_19 u t H1 locs ht hvm hw_19 hB hz1 hk1 hS => ?_)
    obtain ⟨hP1, hD1⟩ := hB
    rw [ht] at hP1
    try dsimp only at hw_19
    obtain ⟨hP, hD⟩ := va_join (wr := [(h0, .inr (11, zf 6 f0))]) (w1 := [(ho, .inr (0, zf 18 fh)), (q, .inl (x 1, 102400, .inl g_16))]) hP hD [1, 2] [0] rfl rfl (by decide) (by decide) hk1 hFc hP1 hD1
    generalize H1 = H at hP hS ⊢
    have hP : va_P D vwCl [(h0, .inr (11, zf 6 f0)), (ho, .inr (0, zf 18 fh)), (q, .inl (x 1, 102400, .inl g_16))] H := hP
    have hD : va_D A [(h0, .inr (11, zf 6 f0)), (ho, .inr (0, zf 18 fh)), (q, .inl (x 1, 102400, .inl g_16))] := hD
    refine W.widen (k := 0) (n := 0) (by omega) (by omega) ?_
    obtain rfl : r_19 = (zOct g_16 n0 n1) := hw_19
    refine W.widen (k := 0) (n := 0) (Nat.le_of_ble_eq_true rfl) (Nat.le_of_ble_eq_true rfl) ?_
    exact W.iret (v := (zOct g_16 n0 n1)) hx hb hr (fun t ht hW => ⟨⟨_, (), rfl, (z_pokeV c_9 (by rw [ex_7, ex_5, ex_3]) ek_17 (by rw [ex_15, ex_12, ex_10])), trivial⟩, hS.F ht⟩) hS.2.2 dX11_poke_76
