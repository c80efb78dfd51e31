theorem dX12_feed_0 : decode cX12_feed 0 = .ok (.aload_n 0, 1) := by decide +kernel
theorem dX12_feed_1 : decode cX12_feed 1 = .ok (.getfield 1530, 3) := by decide +kernel
theorem dX12_feed_4 : decode cX12_feed 4 = .ok (.bipush 20, 2) := by decide +kernel
theorem dX12_feed_6 : decode cX12_feed 6 = .ok (.iadd, 1) := by decide +kernel
theorem dX12_feed_7 : decode cX12_feed 7 = .ok (.sipush 4000, 3) := by decide +kernel
theorem dX12_feed_10 : decode cX12_feed 10 = .ok (.if_icmp .le 6, 3) := by decide +kernel
theorem dX12_feed_16 : decode cX12_feed 16 = .ok (.iconst 0, 1) := by decide +kernel
theorem dX12_feed_17 : decode cX12_feed 17 = .ok (.istore 6, 2) := by decide +kernel
theorem dX12_feed_19 : decode cX12_feed 19 = .ok (.iload 6, 2) := by decide +kernel
theorem dX12_feed_21 : decode cX12_feed 21 = .ok (.bipush 20, 2) := by decide +kernel
theorem dX12_feed_23 : decode cX12_feed 23 = .ok (.if_icmp .ge 90, 3) := by decide +kernel
theorem dX12_feed_26 : decode cX12_feed 26 = .ok (.iload 6, 2) := by decide +kernel
theorem dX12_feed_28 : decode cX12_feed 28 = .ok (.iconst 4, 1) := by decide +kernel
theorem dX12_feed_29 : decode cX12_feed 29 = .ok (.if_icmp .ge 7, 3) := by decide +kernel
theorem dX12_feed_32 : decode cX12_feed 32 = .ok (.iload_n 1, 1) := by decide +kernel
theorem dX12_feed_33 : decode cX12_feed 33 = .ok (.goto 39, 3) := by decide +kernel
theorem dX12_feed_36 : decode cX12_feed 36 = .ok (.iload 6, 2) := by decide +kernel
theorem dX12_feed_38 : decode cX12_feed 38 = .ok (.bipush 8, 2) := by decide +kernel
theorem dX12_feed_40 : decode cX12_feed 40 = .ok (.if_icmp .ge 7, 3) := by decide +kernel
theorem dX12_feed_43 : decode cX12_feed 43 = .ok (.iload_n 2, 1) := by decide +kernel
theorem dX12_feed_44 : decode cX12_feed 44 = .ok (.goto 28, 3) := by decide +kernel
theorem dX12_feed_47 : decode cX12_feed 47 = .ok (.iload 6, 2) := by decide +kernel
theorem dX12_feed_49 : decode cX12_feed 49 = .ok (.bipush 12, 2) := by decide +kernel
theorem dX12_feed_51 : decode cX12_feed 51 = .ok (.if_icmp .ge 7, 3) := by decide +kernel
theorem dX12_feed_54 : decode cX12_feed 54 = .ok (.iload_n 3, 1) := by decide +kernel
theorem dX12_feed_55 : decode cX12_feed 55 = .ok (.goto 17, 3) := by decide +kernel
theorem dX12_feed_58 : decode cX12_feed 58 = .ok (.iload 6, 2) := by decide +kernel
theorem dX12_feed_60 : decode cX12_feed 60 = .ok (.bipush 16, 2) := by decide +kernel
theorem dX12_feed_62 : decode cX12_feed 62 = .ok (.if_icmp .ge 8, 3) := by decide +kernel
theorem dX12_feed_65 : decode cX12_feed 65 = .ok (.iload 4, 2) := by decide +kernel
theorem dX12_feed_67 : decode cX12_feed 67 = .ok (.goto 5, 3) := by decide +kernel
theorem dX12_feed_70 : decode cX12_feed 70 = .ok (.iload 5, 2) := by decide +kernel
theorem dX12_feed_72 : decode cX12_feed 72 = .ok (.istore 7, 2) := by decide +kernel
theorem dX12_feed_74 : decode cX12_feed 74 = .ok (.aload_n 0, 1) := by decide +kernel
theorem dX12_feed_75 : decode cX12_feed 75 = .ok (.getfield 456, 3) := by decide +kernel
theorem dX12_feed_78 : decode cX12_feed 78 = .ok (.aload_n 0, 1) := by decide +kernel
theorem dX12_feed_79 : decode cX12_feed 79 = .ok (.getfield 1530, 3) := by decide +kernel
theorem dX12_feed_82 : decode cX12_feed 82 = .ok (.iload 7, 2) := by decide +kernel
theorem dX12_feed_84 : decode cX12_feed 84 = .ok (.bipush 24, 2) := by decide +kernel
theorem dX12_feed_86 : decode cX12_feed 86 = .ok (.bipush 8, 2) := by decide +kernel
theorem dX12_feed_88 : decode cX12_feed 88 = .ok (.iload 6, 2) := by decide +kernel
theorem dX12_feed_90 : decode cX12_feed 90 = .ok (.iconst 4, 1) := by decide +kernel
theorem dX12_feed_91 : decode cX12_feed 91 = .ok (.irem, 1) := by decide +kernel
theorem dX12_feed_92 : decode cX12_feed 92 = .ok (.imul, 1) := by decide +kernel
theorem dX12_feed_93 : decode cX12_feed 93 = .ok (.isub, 1) := by decide +kernel
theorem dX12_feed_94 : decode cX12_feed 94 = .ok (.ishr, 1) := by decide +kernel
theorem dX12_feed_95 : decode cX12_feed 95 = .ok (.i2b, 1) := by decide +kernel
theorem dX12_feed_96 : decode cX12_feed 96 = .ok (.bastore, 1) := by decide +kernel
theorem dX12_feed_97 : decode cX12_feed 97 = .ok (.aload_n 0, 1) := by decide +kernel
theorem dX12_feed_98 : decode cX12_feed 98 = .ok (.dup, 1) := by decide +kernel
theorem dX12_feed_99 : decode cX12_feed 99 = .ok (.getfield 1530, 3) := by decide +kernel
theorem dX12_feed_102 : decode cX12_feed 102 = .ok (.iconst 1, 1) := by decide +kernel
theorem dX12_feed_103 : decode cX12_feed 103 = .ok (.iadd, 1) := by decide +kernel
theorem dX12_feed_104 : decode cX12_feed 104 = .ok (.putfield 1530, 3) := by decide +kernel
theorem dX12_feed_107 : decode cX12_feed 107 = .ok (.iinc 6 1, 3) := by decide +kernel
theorem dX12_feed_110 : decode cX12_feed 110 = .ok (.goto (-91), 3) := by decide +kernel
theorem dX12_feed_113 : decode cX12_feed 113 = .ok (.aload_n 0, 1) := by decide +kernel
theorem dX12_feed_114 : decode cX12_feed 114 = .ok (.getfield 1530, 3) := by decide +kernel
theorem dX12_feed_117 : decode cX12_feed 117 = .ok (.ireturn, 1) := by decide +kernel
set_option maxHeartbeats 8000000 in
set_option maxRecDepth 100000 in
/-- feed on a fresh model -/
theorem r_feed (l : Launch) (D : va_G) (x : Nat → ClassId) (n0 : Int32) (n1 : Int32) (n2 : Int32) (n3 : Int32) (n4 : Int32) (h0 : Nat) (f0 : Nat → Value) (atape : Nat) (gtape : Nat → Int32) (sz : Nat) (h0_195 : f0 195 = .int 0) (h0_194 : f0 194 = .ref atape) : Met l yX12_feed (.code yX12_feed cX12_feed 8 (some .int) :: zW) ({ frames := 0, cells := (0), slots := (0), locals := 0 }) (va_Pc [.ref h0, .int n0, .int n1, .int n2, .int n3, .int n4] (fun U => U.heap.size = sz ∧ va_P D vwCl [(h0, .inr (12, zf 212 f0)), (atape, .inl (x 1, 4100, .inl gtape))] U.heap ∧ zK x D U ∧ va_D (fun _ => True) [(h0, .inr (12, zf 212 f0)), (atape, .inl (x 1, 4100, .inl gtape))])) (va_Qi (fun (r : Int32) (u : Unit) => r = 20) (fun u t => True) (va_A [(h0, .inr (12, zf 212 f0)), (atape, .inl (x 1, 4100, .inl gtape))] sz)) (0) (0) (va_A [(h0, .inr (12, zf 212 f0)), (atape, .inl (x 1, 4100, .inl gtape))] sz) := by
  refine Met.ofW (cc := cX12_feed) (maxL := 8) (ret := (some .int)) (by decide) rfl ?_
  intro p e s m args below meth c s₁ B hml hv
  obtain ⟨rfl, hsz, hP, hZ, hD0⟩ := hv
  have hK := hZ.1
  have hx := B.exec
  have hb := B.bytes
  have hr := B.returns
  have hts := atoms_spec (ws := .code yX12_feed cX12_feed 8 (some .int) :: zW) B.pre
  have hown : s.vm.findClass RX12 = some m.cls := findClass_of_methodNamed B.named
  have hlocks := B.notSynchronized
  subst hsz
  have hD := hD0.self (sz := s.heap.size)
  generalize hAe : va_A [(h0, .inr (12, zf 212 f0)), (atape, .inl (x 1, 4100, .inl gtape))] s.heap.size = A at hD ⊢
  have hA : ∀ q : Nat, s.heap.size ≤ q → A q := fun q h => by rw [← hAe]; exact Or.inr h
  have hS : va_S A s.heap s.heap [] := va_S.rf
  have hP : va_P D vwCl [(h0, .inr (12, zf 212 f0)), (atape, .inl (x 1, 4100, .inl gtape))] s.heap := hP
  have hl := lv_entry ([.ref h0, .int n0, .int n1, .int n2, .int n3, .int n4]) (n := 8) (Nat.le_of_ble_eq_true rfl)
  rw [lg_entry_eq]
  generalize (lg_sl ([.ref h0, .int n0, .int n1, .int n2, .int n3, .int n4]) ++ List.replicate (8 - (lg_sl ([.ref h0, .int n0, .int n1, .int n2, .int n3, .int n4])).length) Slot.unset).toArray = ls at hl ⊢
  have hl : lv_has ls 8 [(0, .ref h0), (1, .int n0), (2, .int n1), (3, .int n2), (4, .int n3), (5, .int n4)] := hl
  refine lv_aload_n hx hb dX12_feed_0 rfl (lv_at hl 0 rfl) ?_
  refine y_get (T := TX12) (N := 212) (ci := 12) hx hb hts (zi_12 _) hown hK hP 0 rfl rfl 195 (by decide) tX12_195 (hts _ (zm_630 _)) rfl h0_195 dX12_feed_1 ?_
  refine lv_bipush (v := 20) hx hb dX12_feed_4 (by decide) ?_
  refine lv_iadd hx hb dX12_feed_6 ?_
  refine lv_topi (fun y_2 ex_1 => ?_)
  obtain rfl : y_2 = 20 := ex_1.trans (by decide)
  refine lv_sipush (v := 4000) hx hb dX12_feed_7 (by decide) ?_
  refine lv_icmp_le (tgt := 16) hx hb dX12_feed_10 (by decide) (fun _ => ?_) (fun c9 => absurd (by decide) c9)
  refine lv_iconst (v := 0) hx hb dX12_feed_16 (by decide) ?_
  refine lv_istore (lv' := [(6, .int 0), (0, .ref h0), (1, .int n0), (2, .int n1), (3, .int n2), (4, .int n3), (5, .int n4)]) hx hb dX12_feed_17 hl (by decide) rfl (fun ls hl => ?_)
  refine lv_iload hx hb dX12_feed_19 (lv_at hl 0 rfl) ?_
  refine lv_bipush (v := 20) hx hb dX12_feed_21 (by decide) ?_
  refine lv_icmp_ge (tgt := 113) hx hb dX12_feed_23 (by decide) (fun c9 => absurd c9 (by decide)) (fun _ => ?_)
  refine lv_iload hx hb dX12_feed_26 (lv_at hl 0 rfl) ?_
  refine lv_iconst (v := 4) hx hb dX12_feed_28 (by decide) ?_
  refine lv_icmp_ge (tgt := 36) hx hb dX12_feed_29 (by decide) (fun c9 => absurd c9 (by decide)) (fun _ => ?_)
  refine lv_iload_n hx hb dX12_feed_32 rfl (lv_at hl 2 rfl) ?_
  refine lv_goto (tgt := 72) hx hb dX12_feed_33 (by decide) ?_
  refine lv_istore (lv' := [(7, .int n0), (6, .int 0), (0, .ref h0), (1, .int n0), (2, .int n1), (3, .int n2), (4, .int n3), (5, .int n4)]) hx hb dX12_feed_72 hl (by decide) rfl (fun ls hl => ?_)
  refine lv_aload_n hx hb dX12_feed_74 rfl (lv_at hl 2 rfl) ?_
  refine y_get (T := TX12) (N := 212) (ci := 12) hx hb hts (zi_12 _) hown hK hP 0 rfl rfl 194 (by decide) tX12_194 (hts _ (zm_617 _)) rfl h0_194 dX12_feed_75 ?_
  refine lv_aload_n hx hb dX12_feed_78 rfl (lv_at hl 2 rfl) ?_
  refine y_get (T := TX12) (N := 212) (ci := 12) hx hb hts (zi_12 _) hown hK hP 0 rfl rfl 195 (by decide) tX12_195 (hts _ (zm_630 _)) rfl h0_195 dX12_feed_79 ?_
  refine lv_iload hx hb dX12_feed_82 (lv_at hl 0 rfl) ?_
  refine lv_bipush (v := 24) hx hb dX12_feed_84 (by decide) ?_
  refine lv_bipush (v := 8) hx hb dX12_feed_86 (by decide) ?_
  refine lv_iload hx hb dX12_feed_88 (lv_at hl 1 rfl) ?_
  refine lv_iconst (v := 4) hx hb dX12_feed_90 (by decide) ?_
  refine lv_irem hx hb dX12_feed_91 (by decide) ?_
  refine lv_topi (fun y_4 ex_3 => ?_)
  obtain rfl : y_4 = 0 := ex_3.trans (by decide)
  refine lv_imul hx hb dX12_feed_92 ?_
  refine lv_topi (fun y_6 ex_5 => ?_)
  obtain rfl : y_6 = 0 := ex_5.trans (by decide)
  refine lv_isub hx hb dX12_feed_93 ?_
  refine lv_topi (fun y_8 ex_7 => ?_)
  obtain rfl : y_8 = 24 := ex_7.trans (by decide)
  refine lv_ishr hx hb dX12_feed_94 ?_
  refine lv_topi (fun y_10 ex_9 => ?_)
  refine lv_i2b hx hb dX12_feed_95 rfl ?_
  refine lv_topi (fun y_11 ex_12 => ?_)
  refine z_bast hx hb hK hP hD hS 1 1 rfl rfl (z_in (by decide)) dX12_feed_96 (fun H locs g_13 ek_14 ok_15 hPn hDn hSn => ?_)
  clear hP hD hS
  have hP : va_P D vwCl [(h0, .inr (12, zf 212 f0)), (atape, .inl (x 1, 4100, .inl g_13))] H := hPn
  have hD : va_D A [(h0, .inr (12, zf 212 f0)), (atape, .inl (x 1, 4100, .inl g_13))] := hDn
  have hS := hSn
  clear hPn hDn hSn
  refine lv_aload_n hx hb dX12_feed_97 rfl (lv_at hl 2 rfl) ?_
  refine lv_dup hx hb dX12_feed_98 rfl ?_
  refine y_get (T := TX12) (N := 212) (ci := 12) hx hb hts (zi_12 _) hown hK hP 0 rfl rfl 195 (by decide) tX12_195 (hts _ (zm_630 _)) rfl h0_195 dX12_feed_99 ?_
  refine lv_iconst (v := 1) hx hb dX12_feed_102 (by decide) ?_
  refine lv_iadd hx hb dX12_feed_103 ?_
  refine lv_topi (fun y_17 ex_16 => ?_)
  obtain rfl : y_17 = 1 := ex_16.trans (by decide)
  refine y_put (T := TX12) (N := 212) (ci := 12) hx hb hts (zi_12 _) hown hK hP hD hS 0 rfl rfl 195 (by decide) tX12_195 uX12_195 (hts _ (zm_630 _)) rfl rfl rfl dX12_feed_104 (fun H locs f_18 ek_19 ok_20 hPn hDn hSn => ?_)
  clear hP hD hS
  have hP : va_P D vwCl [(h0, .inr (12, zf 212 f_18)), (atape, .inl (x 1, 4100, .inl g_13))] H := hPn
  have hD : va_D A [(h0, .inr (12, zf 212 f_18)), (atape, .inl (x 1, 4100, .inl g_13))] := hDn
  have hS := hSn
  clear hPn hDn hSn
  refine lv_iinc (v := 1) (lv' := [(6, .int 1), (7, .int n0), (0, .ref h0), (1, .int n0), (2, .int n1), (3, .int n2), (4, .int n3), (5, .int n4)]) hx hb dX12_feed_107 hl (k := 1) rfl (by decide) (by decide) rfl (fun ls hl => ?_)
  refine lv_goto (tgt := 19) hx hb dX12_feed_110 (by decide) ?_
  refine lv_iload hx hb dX12_feed_19 (lv_at hl 0 rfl) ?_
  refine lv_bipush (v := 20) hx hb dX12_feed_21 (by decide) ?_
  refine lv_icmp_ge (tgt := 113) hx hb dX12_feed_23 (by decide) (fun c9 => absurd c9 (by decide)) (fun _ => ?_)
  refine lv_iload hx hb dX12_feed_26 (lv_at hl 0 rfl) ?_
  refine lv_iconst (v := 4) hx hb dX12_feed_28 (by decide) ?_
  refine lv_icmp_ge (tgt := 36) hx hb dX12_feed_29 (by decide) (fun c9 => absurd c9 (by decide)) (fun _ => ?_)
  refine lv_iload_n hx hb dX12_feed_32 rfl (lv_at hl 3 rfl) ?_
  refine lv_goto (tgt := 72) hx hb dX12_feed_33 (by decide) ?_
  refine lv_istore (lv' := [(7, .int n0), (6, .int 1), (0, .ref h0), (1, .int n0), (2, .int n1), (3, .int n2), (4, .int n3), (5, .int n4)]) hx hb dX12_feed_72 hl (by decide) rfl (fun ls hl => ?_)
  refine lv_aload_n hx hb dX12_feed_74 rfl (lv_at hl 2 rfl) ?_
  refine y_get (T := TX12) (N := 212) (ci := 12) hx hb hts (zi_12 _) hown hK hP 0 rfl rfl 194 (by decide) tX12_194 (hts _ (zm_617 _)) rfl ((ok_20 194 (by decide)).trans h0_194) dX12_feed_75 ?_
  refine lv_aload_n hx hb dX12_feed_78 rfl (lv_at hl 2 rfl) ?_
  refine y_get (T := TX12) (N := 212) (ci := 12) hx hb hts (zi_12 _) hown hK hP 0 rfl rfl 195 (by decide) tX12_195 (hts _ (zm_630 _)) rfl ek_19 dX12_feed_79 ?_
  refine lv_iload hx hb dX12_feed_82 (lv_at hl 0 rfl) ?_
  refine lv_bipush (v := 24) hx hb dX12_feed_84 (by decide) ?_
  refine lv_bipush (v := 8) hx hb dX12_feed_86 (by decide) ?_
  refine lv_iload hx hb dX12_feed_88 (lv_at hl 1 rfl) ?_
  refine lv_iconst (v := 4) hx hb dX12_feed_90 (by decide) ?_
  refine lv_irem hx hb dX12_feed_91 (by decide) ?_
  refine lv_topi (fun y_22 ex_21 => ?_)
  obtain rfl : y_22 = 1 := ex_21.trans (by decide)
  refine lv_imul hx hb dX12_feed_92 ?_
  refine lv_topi (fun y_24 ex_23 => ?_)
  obtain rfl : y_24 = 8 := ex_23.trans (by decide)
  refine lv_isub hx hb dX12_feed_93 ?_
  refine lv_topi (fun y_26 ex_25 => ?_)
  obtain rfl : y_26 = 16 := ex_25.trans (by decide)
  refine lv_ishr hx hb dX12_feed_94 ?_
  refine lv_topi (fun y_28 ex_27 => ?_)
  refine lv_i2b hx hb dX12_feed_95 rfl ?_
  refine lv_topi (fun y_29 ex_30 => ?_)
  refine z_bast hx hb hK hP hD hS 1 1 rfl rfl (z_in (by decide)) dX12_feed_96 (fun H locs g_31 ek_32 ok_33 hPn hDn hSn => ?_)
  clear hP hD hS
  have hP : va_P D vwCl [(h0, .inr (12, zf 212 f_18)), (atape, .inl (x 1, 4100, .inl g_31))] H := hPn
  have hD : va_D A [(h0, .inr (12, zf 212 f_18)), (atape, .inl (x 1, 4100, .inl g_31))] := hDn
  have hS := hSn
  clear hPn hDn hSn
  refine lv_aload_n hx hb dX12_feed_97 rfl (lv_at hl 2 rfl) ?_
  refine lv_dup hx hb dX12_feed_98 rfl ?_
  refine y_get (T := TX12) (N := 212) (ci := 12) hx hb hts (zi_12 _) hown hK hP 0 rfl rfl 195 (by decide) tX12_195 (hts _ (zm_630 _)) rfl ek_19 dX12_feed_99 ?_
  refine lv_iconst (v := 1) hx hb dX12_feed_102 (by decide) ?_
  refine lv_iadd hx hb dX12_feed_103 ?_
  refine lv_topi (fun y_35 ex_34 => ?_)
  obtain rfl : y_35 = 2 := ex_34.trans (by decide)
  refine y_put (T := TX12) (N := 212) (ci := 12) hx hb hts (zi_12 _) hown hK hP hD hS 0 rfl rfl 195 (by decide) tX12_195 uX12_195 (hts _ (zm_630 _)) rfl rfl rfl dX12_feed_104 (fun H locs f_36 ek_37 ok_38 hPn hDn hSn => ?_)
  clear hP hD hS
  have hP : va_P D vwCl [(h0, .inr (12, zf 212 f_36)), (atape, .inl (x 1, 4100, .inl g_31))] H := hPn
  have hD : va_D A [(h0, .inr (12, zf 212 f_36)), (atape, .inl (x 1, 4100, .inl g_31))] := hDn
  have hS := hSn
  clear hPn hDn hSn
  refine lv_iinc (v := 2) (lv' := [(6, .int 2), (7, .int n0), (0, .ref h0), (1, .int n0), (2, .int n1), (3, .int n2), (4, .int n3), (5, .int n4)]) hx hb dX12_feed_107 hl (k := 1) rfl (by decide) (by decide) rfl (fun ls hl => ?_)
  refine lv_goto (tgt := 19) hx hb dX12_feed_110 (by decide) ?_
  refine lv_iload hx hb dX12_feed_19 (lv_at hl 0 rfl) ?_
  refine lv_bipush (v := 20) hx hb dX12_feed_21 (by decide) ?_
  refine lv_icmp_ge (tgt := 113) hx hb dX12_feed_23 (by decide) (fun c9 => absurd c9 (by decide)) (fun _ => ?_)
  refine lv_iload hx hb dX12_feed_26 (lv_at hl 0 rfl) ?_
  refine lv_iconst (v := 4) hx hb dX12_feed_28 (by decide) ?_
  refine lv_icmp_ge (tgt := 36) hx hb dX12_feed_29 (by decide) (fun c9 => absurd c9 (by decide)) (fun _ => ?_)
  refine lv_iload_n hx hb dX12_feed_32 rfl (lv_at hl 3 rfl) ?_
  refine lv_goto (tgt := 72) hx hb dX12_feed_33 (by decide) ?_
  refine lv_istore (lv' := [(7, .int n0), (6, .int 2), (0, .ref h0), (1, .int n0), (2, .int n1), (3, .int n2), (4, .int n3), (5, .int n4)]) hx hb dX12_feed_72 hl (by decide) rfl (fun ls hl => ?_)
  refine lv_aload_n hx hb dX12_feed_74 rfl (lv_at hl 2 rfl) ?_
  refine y_get (T := TX12) (N := 212) (ci := 12) hx hb hts (zi_12 _) hown hK hP 0 rfl rfl 194 (by decide) tX12_194 (hts _ (zm_617 _)) rfl ((ok_38 194 (by decide)).trans ((ok_20 194 (by decide)).trans h0_194)) dX12_feed_75 ?_
  refine lv_aload_n hx hb dX12_feed_78 rfl (lv_at hl 2 rfl) ?_
  refine y_get (T := TX12) (N := 212) (ci := 12) hx hb hts (zi_12 _) hown hK hP 0 rfl rfl 195 (by decide) tX12_195 (hts _ (zm_630 _)) rfl ek_37 dX12_feed_79 ?_
  refine lv_iload hx hb dX12_feed_82 (lv_at hl 0 rfl) ?_
  refine lv_bipush (v := 24) hx hb dX12_feed_84 (by decide) ?_
  refine lv_bipush (v := 8) hx hb dX12_feed_86 (by decide) ?_
  refine lv_iload hx hb dX12_feed_88 (lv_at hl 1 rfl) ?_
  refine lv_iconst (v := 4) hx hb dX12_feed_90 (by decide) ?_
  refine lv_irem hx hb dX12_feed_91 (by decide) ?_
  refine lv_topi (fun y_40 ex_39 => ?_)
  obtain rfl : y_40 = 2 := ex_39.trans (by decide)
  refine lv_imul hx hb dX12_feed_92 ?_
  refine lv_topi (fun y_42 ex_41 => ?_)
  obtain rfl : y_42 = 16 := ex_41.trans (by decide)
  refine lv_isub hx hb dX12_feed_93 ?_
  refine lv_topi (fun y_44 ex_43 => ?_)
  obtain rfl : y_44 = 8 := ex_43.trans (by decide)
  refine lv_ishr hx hb dX12_feed_94 ?_
  refine lv_topi (fun y_46 ex_45 => ?_)
  refine lv_i2b hx hb dX12_feed_95 rfl ?_
  refine lv_topi (fun y_47 ex_48 => ?_)
  refine z_bast hx hb hK hP hD hS 1 1 rfl rfl (z_in (by decide)) dX12_feed_96 (fun H locs g_49 ek_50 ok_51 hPn hDn hSn => ?_)
  clear hP hD hS
  have hP : va_P D vwCl [(h0, .inr (12, zf 212 f_36)), (atape, .inl (x 1, 4100, .inl g_49))] H := hPn
  have hD : va_D A [(h0, .inr (12, zf 212 f_36)), (atape, .inl (x 1, 4100, .inl g_49))] := hDn
  have hS := hSn
  clear hPn hDn hSn
  refine lv_aload_n hx hb dX12_feed_97 rfl (lv_at hl 2 rfl) ?_
  refine lv_dup hx hb dX12_feed_98 rfl ?_
  refine y_get (T := TX12) (N := 212) (ci := 12) hx hb hts (zi_12 _) hown hK hP 0 rfl rfl 195 (by decide) tX12_195 (hts _ (zm_630 _)) rfl ek_37 dX12_feed_99 ?_
  refine lv_iconst (v := 1) hx hb dX12_feed_102 (by decide) ?_
  refine lv_iadd hx hb dX12_feed_103 ?_
  refine lv_topi (fun y_53 ex_52 => ?_)
  obtain rfl : y_53 = 3 := ex_52.trans (by decide)
  refine y_put (T := TX12) (N := 212) (ci := 12) hx hb hts (zi_12 _) hown hK hP hD hS 0 rfl rfl 195 (by decide) tX12_195 uX12_195 (hts _ (zm_630 _)) rfl rfl rfl dX12_feed_104 (fun H locs f_54 ek_55 ok_56 hPn hDn hSn => ?_)
  clear hP hD hS
  have hP : va_P D vwCl [(h0, .inr (12, zf 212 f_54)), (atape, .inl (x 1, 4100, .inl g_49))] H := hPn
  have hD : va_D A [(h0, .inr (12, zf 212 f_54)), (atape, .inl (x 1, 4100, .inl g_49))] := hDn
  have hS := hSn
  clear hPn hDn hSn
  refine lv_iinc (v := 3) (lv' := [(6, .int 3), (7, .int n0), (0, .ref h0), (1, .int n0), (2, .int n1), (3, .int n2), (4, .int n3), (5, .int n4)]) hx hb dX12_feed_107 hl (k := 1) rfl (by decide) (by decide) rfl (fun ls hl => ?_)
  refine lv_goto (tgt := 19) hx hb dX12_feed_110 (by decide) ?_
  refine lv_iload hx hb dX12_feed_19 (lv_at hl 0 rfl) ?_
  refine lv_bipush (v := 20) hx hb dX12_feed_21 (by decide) ?_
  refine lv_icmp_ge (tgt := 113) hx hb dX12_feed_23 (by decide) (fun c9 => absurd c9 (by decide)) (fun _ => ?_)
  refine lv_iload hx hb dX12_feed_26 (lv_at hl 0 rfl) ?_
  refine lv_iconst (v := 4) hx hb dX12_feed_28 (by decide) ?_
  refine lv_icmp_ge (tgt := 36) hx hb dX12_feed_29 (by decide) (fun c9 => absurd c9 (by decide)) (fun _ => ?_)
  refine lv_iload_n hx hb dX12_feed_32 rfl (lv_at hl 3 rfl) ?_
  refine lv_goto (tgt := 72) hx hb dX12_feed_33 (by decide) ?_
  refine lv_istore (lv' := [(7, .int n0), (6, .int 3), (0, .ref h0), (1, .int n0), (2, .int n1), (3, .int n2), (4, .int n3), (5, .int n4)]) hx hb dX12_feed_72 hl (by decide) rfl (fun ls hl => ?_)
  refine lv_aload_n hx hb dX12_feed_74 rfl (lv_at hl 2 rfl) ?_
  refine y_get (T := TX12) (N := 212) (ci := 12) hx hb hts (zi_12 _) hown hK hP 0 rfl rfl 194 (by decide) tX12_194 (hts _ (zm_617 _)) rfl ((ok_56 194 (by decide)).trans ((ok_38 194 (by decide)).trans ((ok_20 194 (by decide)).trans h0_194))) dX12_feed_75 ?_
  refine lv_aload_n hx hb dX12_feed_78 rfl (lv_at hl 2 rfl) ?_
  refine y_get (T := TX12) (N := 212) (ci := 12) hx hb hts (zi_12 _) hown hK hP 0 rfl rfl 195 (by decide) tX12_195 (hts _ (zm_630 _)) rfl ek_55 dX12_feed_79 ?_
  refine lv_iload hx hb dX12_feed_82 (lv_at hl 0 rfl) ?_
  refine lv_bipush (v := 24) hx hb dX12_feed_84 (by decide) ?_
  refine lv_bipush (v := 8) hx hb dX12_feed_86 (by decide) ?_
  refine lv_iload hx hb dX12_feed_88 (lv_at hl 1 rfl) ?_
  refine lv_iconst (v := 4) hx hb dX12_feed_90 (by decide) ?_
  refine lv_irem hx hb dX12_feed_91 (by decide) ?_
  refine lv_topi (fun y_58 ex_57 => ?_)
  obtain rfl : y_58 = 3 := ex_57.trans (by decide)
  refine lv_imul hx hb dX12_feed_92 ?_
  refine lv_topi (fun y_60 ex_59 => ?_)
  obtain rfl : y_60 = 24 := ex_59.trans (by decide)
  refine lv_isub hx hb dX12_feed_93 ?_
  refine lv_topi (fun y_62 ex_61 => ?_)
  obtain rfl : y_62 = 0 := ex_61.trans (by decide)
  refine lv_ishr hx hb dX12_feed_94 ?_
  refine lv_topi (fun y_64 ex_63 => ?_)
  refine lv_i2b hx hb dX12_feed_95 rfl ?_
  refine lv_topi (fun y_65 ex_66 => ?_)
  refine z_bast hx hb hK hP hD hS 1 1 rfl rfl (z_in (by decide)) dX12_feed_96 (fun H locs g_67 ek_68 ok_69 hPn hDn hSn => ?_)
  clear hP hD hS
  have hP : va_P D vwCl [(h0, .inr (12, zf 212 f_54)), (atape, .inl (x 1, 4100, .inl g_67))] H := hPn
  have hD : va_D A [(h0, .inr (12, zf 212 f_54)), (atape, .inl (x 1, 4100, .inl g_67))] := hDn
  have hS := hSn
  clear hPn hDn hSn
  refine lv_aload_n hx hb dX12_feed_97 rfl (lv_at hl 2 rfl) ?_
  refine lv_dup hx hb dX12_feed_98 rfl ?_
  refine y_get (T := TX12) (N := 212) (ci := 12) hx hb hts (zi_12 _) hown hK hP 0 rfl rfl 195 (by decide) tX12_195 (hts _ (zm_630 _)) rfl ek_55 dX12_feed_99 ?_
  refine lv_iconst (v := 1) hx hb dX12_feed_102 (by decide) ?_
  refine lv_iadd hx hb dX12_feed_103 ?_
  refine lv_topi (fun y_71 ex_70 => ?_)
  obtain rfl : y_71 = 4 := ex_70.trans (by decide)
  refine y_put (T := TX12) (N := 212) (ci := 12) hx hb hts (zi_12 _) hown hK hP hD hS 0 rfl rfl 195 (by decide) tX12_195 uX12_195 (hts _ (zm_630 _)) rfl rfl rfl dX12_feed_104 (fun H locs f_72 ek_73 ok_74 hPn hDn hSn => ?_)
  clear hP hD hS
  have hP : va_P D vwCl [(h0, .inr (12, zf 212 f_72)), (atape, .inl (x 1, 4100, .inl g_67))] H := hPn
  have hD : va_D A [(h0, .inr (12, zf 212 f_72)), (atape, .inl (x 1, 4100, .inl g_67))] := hDn
  have hS := hSn
  clear hPn hDn hSn
  refine lv_iinc (v := 4) (lv' := [(6, .int 4), (7, .int n0), (0, .ref h0), (1, .int n0), (2, .int n1), (3, .int n2), (4, .int n3), (5, .int n4)]) hx hb dX12_feed_107 hl (k := 1) rfl (by decide) (by decide) rfl (fun ls hl => ?_)
  refine lv_goto (tgt := 19) hx hb dX12_feed_110 (by decide) ?_
  refine lv_iload hx hb dX12_feed_19 (lv_at hl 0 rfl) ?_
  refine lv_bipush (v := 20) hx hb dX12_feed_21 (by decide) ?_
  refine lv_icmp_ge (tgt := 113) hx hb dX12_feed_23 (by decide) (fun c9 => absurd c9 (by decide)) (fun _ => ?_)
  refine lv_iload hx hb dX12_feed_26 (lv_at hl 0 rfl) ?_
  refine lv_iconst (v := 4) hx hb dX12_feed_28 (by decide) ?_
  refine lv_icmp_ge (tgt := 36) hx hb dX12_feed_29 (by decide) (fun _ => ?_) (fun c9 => absurd (by decide) c9)
  refine lv_iload hx hb dX12_feed_36 (lv_at hl 0 rfl) ?_
  refine lv_bipush (v := 8) hx hb dX12_feed_38 (by decide) ?_
  refine lv_icmp_ge (tgt := 47) hx hb dX12_feed_40 (by decide) (fun c9 => absurd c9 (by decide)) (fun _ => ?_)
  refine lv_iload_n hx hb dX12_feed_43 rfl (lv_at hl 4 rfl) ?_
  refine lv_goto (tgt := 72) hx hb dX12_feed_44 (by decide) ?_
  refine lv_istore (lv' := [(7, .int n1), (6, .int 4), (0, .ref h0), (1, .int n0), (2, .int n1), (3, .int n2), (4, .int n3), (5, .int n4)]) hx hb dX12_feed_72 hl (by decide) rfl (fun ls hl => ?_)
  refine lv_aload_n hx hb dX12_feed_74 rfl (lv_at hl 2 rfl) ?_
  refine y_get (T := TX12) (N := 212) (ci := 12) hx hb hts (zi_12 _) hown hK hP 0 rfl rfl 194 (by decide) tX12_194 (hts _ (zm_617 _)) rfl ((ok_74 194 (by decide)).trans ((ok_56 194 (by decide)).trans ((ok_38 194 (by decide)).trans ((ok_20 194 (by decide)).trans h0_194)))) dX12_feed_75 ?_
  refine lv_aload_n hx hb dX12_feed_78 rfl (lv_at hl 2 rfl) ?_
  refine y_get (T := TX12) (N := 212) (ci := 12) hx hb hts (zi_12 _) hown hK hP 0 rfl rfl 195 (by decide) tX12_195 (hts _ (zm_630 _)) rfl ek_73 dX12_feed_79 ?_
  refine lv_iload hx hb dX12_feed_82 (lv_at hl 0 rfl) ?_
  refine lv_bipush (v := 24) hx hb dX12_feed_84 (by decide) ?_
  refine lv_bipush (v := 8) hx hb dX12_feed_86 (by decide) ?_
  refine lv_iload hx hb dX12_feed_88 (lv_at hl 1 rfl) ?_
  refine lv_iconst (v := 4) hx hb dX12_feed_90 (by decide) ?_
  refine lv_irem hx hb dX12_feed_91 (by decide) ?_
  refine lv_topi (fun y_76 ex_75 => ?_)
  obtain rfl : y_76 = 0 := ex_75.trans (by decide)
  refine lv_imul hx hb dX12_feed_92 ?_
  refine lv_topi (fun y_78 ex_77 => ?_)
  obtain rfl : y_78 = 0 := ex_77.trans (by decide)
  refine lv_isub hx hb dX12_feed_93 ?_
  refine lv_topi (fun y_80 ex_79 => ?_)
  obtain rfl : y_80 = 24 := ex_79.trans (by decide)
  refine lv_ishr hx hb dX12_feed_94 ?_
  refine lv_topi (fun y_82 ex_81 => ?_)
  refine lv_i2b hx hb dX12_feed_95 rfl ?_
  refine lv_topi (fun y_83 ex_84 => ?_)
  refine z_bast hx hb hK hP hD hS 1 1 rfl rfl (z_in (by decide)) dX12_feed_96 (fun H locs g_85 ek_86 ok_87 hPn hDn hSn => ?_)
  clear hP hD hS
  have hP : va_P D vwCl [(h0, .inr (12, zf 212 f_72)), (atape, .inl (x 1, 4100, .inl g_85))] H := hPn
  have hD : va_D A [(h0, .inr (12, zf 212 f_72)), (atape, .inl (x 1, 4100, .inl g_85))] := hDn
  have hS := hSn
  clear hPn hDn hSn
  refine lv_aload_n hx hb dX12_feed_97 rfl (lv_at hl 2 rfl) ?_
  refine lv_dup hx hb dX12_feed_98 rfl ?_
  refine y_get (T := TX12) (N := 212) (ci := 12) hx hb hts (zi_12 _) hown hK hP 0 rfl rfl 195 (by decide) tX12_195 (hts _ (zm_630 _)) rfl ek_73 dX12_feed_99 ?_
  refine lv_iconst (v := 1) hx hb dX12_feed_102 (by decide) ?_
  refine lv_iadd hx hb dX12_feed_103 ?_
  refine lv_topi (fun y_89 ex_88 => ?_)
  obtain rfl : y_89 = 5 := ex_88.trans (by decide)
  refine y_put (T := TX12) (N := 212) (ci := 12) hx hb hts (zi_12 _) hown hK hP hD hS 0 rfl rfl 195 (by decide) tX12_195 uX12_195 (hts _ (zm_630 _)) rfl rfl rfl dX12_feed_104 (fun H locs f_90 ek_91 ok_92 hPn hDn hSn => ?_)
  clear hP hD hS
  have hP : va_P D vwCl [(h0, .inr (12, zf 212 f_90)), (atape, .inl (x 1, 4100, .inl g_85))] H := hPn
  have hD : va_D A [(h0, .inr (12, zf 212 f_90)), (atape, .inl (x 1, 4100, .inl g_85))] := hDn
  have hS := hSn
  clear hPn hDn hSn
  refine lv_iinc (v := 5) (lv' := [(6, .int 5), (7, .int n1), (0, .ref h0), (1, .int n0), (2, .int n1), (3, .int n2), (4, .int n3), (5, .int n4)]) hx hb dX12_feed_107 hl (k := 1) rfl (by decide) (by decide) rfl (fun ls hl => ?_)
  refine lv_goto (tgt := 19) hx hb dX12_feed_110 (by decide) ?_
  refine lv_iload hx hb dX12_feed_19 (lv_at hl 0 rfl) ?_
  refine lv_bipush (v := 20) hx hb dX12_feed_21 (by decide) ?_
  refine lv_icmp_ge (tgt := 113) hx hb dX12_feed_23 (by decide) (fun c9 => absurd c9 (by decide)) (fun _ => ?_)
  refine lv_iload hx hb dX12_feed_26 (lv_at hl 0 rfl) ?_
  refine lv_iconst (v := 4) hx hb dX12_feed_28 (by decide) ?_
  refine lv_icmp_ge (tgt := 36) hx hb dX12_feed_29 (by decide) (fun _ => ?_) (fun c9 => absurd (by decide) c9)
  refine lv_iload hx hb dX12_feed_36 (lv_at hl 0 rfl) ?_
  refine lv_bipush (v := 8) hx hb dX12_feed_38 (by decide) ?_
  refine lv_icmp_ge (tgt := 47) hx hb dX12_feed_40 (by decide) (fun c9 => absurd c9 (by decide)) (fun _ => ?_)
  refine lv_iload_n hx hb dX12_feed_43 rfl (lv_at hl 4 rfl) ?_
  refine lv_goto (tgt := 72) hx hb dX12_feed_44 (by decide) ?_
  refine lv_istore (lv' := [(7, .int n1), (6, .int 5), (0, .ref h0), (1, .int n0), (2, .int n1), (3, .int n2), (4, .int n3), (5, .int n4)]) hx hb dX12_feed_72 hl (by decide) rfl (fun ls hl => ?_)
  refine lv_aload_n hx hb dX12_feed_74 rfl (lv_at hl 2 rfl) ?_
  have e_93 : f_90 194 = .ref atape := ((ok_92 194 (by decide)).trans ((ok_74 194 (by decide)).trans ((ok_56 194 (by decide)).trans ((ok_38 194 (by decide)).trans ((ok_20 194 (by decide)).trans h0_194)))))
  refine y_get (T := TX12) (N := 212) (ci := 12) hx hb hts (zi_12 _) hown hK hP 0 rfl rfl 194 (by decide) tX12_194 (hts _ (zm_617 _)) rfl e_93 dX12_feed_75 ?_
  refine lv_aload_n hx hb dX12_feed_78 rfl (lv_at hl 2 rfl) ?_
  refine y_get (T := TX12) (N := 212) (ci := 12) hx hb hts (zi_12 _) hown hK hP 0 rfl rfl 195 (by decide) tX12_195 (hts _ (zm_630 _)) rfl ek_91 dX12_feed_79 ?_
  refine lv_iload hx hb dX12_feed_82 (lv_at hl 0 rfl) ?_
  refine lv_bipush (v := 24) hx hb dX12_feed_84 (by decide) ?_
  refine lv_bipush (v := 8) hx hb dX12_feed_86 (by decide) ?_
  refine lv_iload hx hb dX12_feed_88 (lv_at hl 1 rfl) ?_
  refine lv_iconst (v := 4) hx hb dX12_feed_90 (by decide) ?_
  refine lv_irem hx hb dX12_feed_91 (by decide) ?_
  refine lv_topi (fun y_95 ex_94 => ?_)
  obtain rfl : y_95 = 1 := ex_94.trans (by decide)
  refine lv_imul hx hb dX12_feed_92 ?_
  refine lv_topi (fun y_97 ex_96 => ?_)
  obtain rfl : y_97 = 8 := ex_96.trans (by decide)
  refine lv_isub hx hb dX12_feed_93 ?_
  refine lv_topi (fun y_99 ex_98 => ?_)
  obtain rfl : y_99 = 16 := ex_98.trans (by decide)
  refine lv_ishr hx hb dX12_feed_94 ?_
  refine lv_topi (fun y_101 ex_100 => ?_)
  refine lv_i2b hx hb dX12_feed_95 rfl ?_
  refine lv_topi (fun y_102 ex_103 => ?_)
  refine z_bast hx hb hK hP hD hS 1 1 rfl rfl (z_in (by decide)) dX12_feed_96 (fun H locs g_104 ek_105 ok_106 hPn hDn hSn => ?_)
  clear hP hD hS
  have hP : va_P D vwCl [(h0, .inr (12, zf 212 f_90)), (atape, .inl (x 1, 4100, .inl g_104))] H := hPn
  have hD : va_D A [(h0, .inr (12, zf 212 f_90)), (atape, .inl (x 1, 4100, .inl g_104))] := hDn
  have hS := hSn
  clear hPn hDn hSn
  refine lv_aload_n hx hb dX12_feed_97 rfl (lv_at hl 2 rfl) ?_
  refine lv_dup hx hb dX12_feed_98 rfl ?_
  refine y_get (T := TX12) (N := 212) (ci := 12) hx hb hts (zi_12 _) hown hK hP 0 rfl rfl 195 (by decide) tX12_195 (hts _ (zm_630 _)) rfl ek_91 dX12_feed_99 ?_
  refine lv_iconst (v := 1) hx hb dX12_feed_102 (by decide) ?_
  refine lv_iadd hx hb dX12_feed_103 ?_
  refine lv_topi (fun y_108 ex_107 => ?_)
  obtain rfl : y_108 = 6 := ex_107.trans (by decide)
  refine y_put (T := TX12) (N := 212) (ci := 12) hx hb hts (zi_12 _) hown hK hP hD hS 0 rfl rfl 195 (by decide) tX12_195 uX12_195 (hts _ (zm_630 _)) rfl rfl rfl dX12_feed_104 (fun H locs f_109 ek_110 ok_111 hPn hDn hSn => ?_)
  clear hP hD hS
  have hP : va_P D vwCl [(h0, .inr (12, zf 212 f_109)), (atape, .inl (x 1, 4100, .inl g_104))] H := hPn
  have hD : va_D A [(h0, .inr (12, zf 212 f_109)), (atape, .inl (x 1, 4100, .inl g_104))] := hDn
  have hS := hSn
  clear hPn hDn hSn
  refine lv_iinc (v := 6) (lv' := [(6, .int 6), (7, .int n1), (0, .ref h0), (1, .int n0), (2, .int n1), (3, .int n2), (4, .int n3), (5, .int n4)]) hx hb dX12_feed_107 hl (k := 1) rfl (by decide) (by decide) rfl (fun ls hl => ?_)
  refine lv_goto (tgt := 19) hx hb dX12_feed_110 (by decide) ?_
  refine lv_iload hx hb dX12_feed_19 (lv_at hl 0 rfl) ?_
  refine lv_bipush (v := 20) hx hb dX12_feed_21 (by decide) ?_
  refine lv_icmp_ge (tgt := 113) hx hb dX12_feed_23 (by decide) (fun c9 => absurd c9 (by decide)) (fun _ => ?_)
  refine lv_iload hx hb dX12_feed_26 (lv_at hl 0 rfl) ?_
  refine lv_iconst (v := 4) hx hb dX12_feed_28 (by decide) ?_
  refine lv_icmp_ge (tgt := 36) hx hb dX12_feed_29 (by decide) (fun _ => ?_) (fun c9 => absurd (by decide) c9)
  refine lv_iload hx hb dX12_feed_36 (lv_at hl 0 rfl) ?_
  refine lv_bipush (v := 8) hx hb dX12_feed_38 (by decide) ?_
  refine lv_icmp_ge (tgt := 47) hx hb dX12_feed_40 (by decide) (fun c9 => absurd c9 (by decide)) (fun _ => ?_)
  refine lv_iload_n hx hb dX12_feed_43 rfl (lv_at hl 4 rfl) ?_
  refine lv_goto (tgt := 72) hx hb dX12_feed_44 (by decide) ?_
  refine lv_istore (lv' := [(7, .int n1), (6, .int 6), (0, .ref h0), (1, .int n0), (2, .int n1), (3, .int n2), (4, .int n3), (5, .int n4)]) hx hb dX12_feed_72 hl (by decide) rfl (fun ls hl => ?_)
  refine lv_aload_n hx hb dX12_feed_74 rfl (lv_at hl 2 rfl) ?_
  refine y_get (T := TX12) (N := 212) (ci := 12) hx hb hts (zi_12 _) hown hK hP 0 rfl rfl 194 (by decide) tX12_194 (hts _ (zm_617 _)) rfl ((ok_111 194 (by decide)).trans e_93) dX12_feed_75 ?_
  refine lv_aload_n hx hb dX12_feed_78 rfl (lv_at hl 2 rfl) ?_
  refine y_get (T := TX12) (N := 212) (ci := 12) hx hb hts (zi_12 _) hown hK hP 0 rfl rfl 195 (by decide) tX12_195 (hts _ (zm_630 _)) rfl ek_110 dX12_feed_79 ?_
  refine lv_iload hx hb dX12_feed_82 (lv_at hl 0 rfl) ?_
  refine lv_bipush (v := 24) hx hb dX12_feed_84 (by decide) ?_
  refine lv_bipush (v := 8) hx hb dX12_feed_86 (by decide) ?_
  refine lv_iload hx hb dX12_feed_88 (lv_at hl 1 rfl) ?_
  refine lv_iconst (v := 4) hx hb dX12_feed_90 (by decide) ?_
  refine lv_irem hx hb dX12_feed_91 (by decide) ?_
  refine lv_topi (fun y_113 ex_112 => ?_)
  obtain rfl : y_113 = 2 := ex_112.trans (by decide)
  refine lv_imul hx hb dX12_feed_92 ?_
  refine lv_topi (fun y_115 ex_114 => ?_)
  obtain rfl : y_115 = 16 := ex_114.trans (by decide)
  refine lv_isub hx hb dX12_feed_93 ?_
  refine lv_topi (fun y_117 ex_116 => ?_)
  obtain rfl : y_117 = 8 := ex_116.trans (by decide)
  refine lv_ishr hx hb dX12_feed_94 ?_
  refine lv_topi (fun y_119 ex_118 => ?_)
  refine lv_i2b hx hb dX12_feed_95 rfl ?_
  refine lv_topi (fun y_120 ex_121 => ?_)
  refine z_bast hx hb hK hP hD hS 1 1 rfl rfl (z_in (by decide)) dX12_feed_96 (fun H locs g_122 ek_123 ok_124 hPn hDn hSn => ?_)
  clear hP hD hS
  have hP : va_P D vwCl [(h0, .inr (12, zf 212 f_109)), (atape, .inl (x 1, 4100, .inl g_122))] H := hPn
  have hD : va_D A [(h0, .inr (12, zf 212 f_109)), (atape, .inl (x 1, 4100, .inl g_122))] := hDn
  have hS := hSn
  clear hPn hDn hSn
  refine lv_aload_n hx hb dX12_feed_97 rfl (lv_at hl 2 rfl) ?_
  refine lv_dup hx hb dX12_feed_98 rfl ?_
  refine y_get (T := TX12) (N := 212) (ci := 12) hx hb hts (zi_12 _) hown hK hP 0 rfl rfl 195 (by decide) tX12_195 (hts _ (zm_630 _)) rfl ek_110 dX12_feed_99 ?_
  refine lv_iconst (v := 1) hx hb dX12_feed_102 (by decide) ?_
  refine lv_iadd hx hb dX12_feed_103 ?_
  refine lv_topi (fun y_126 ex_125 => ?_)
  obtain rfl : y_126 = 7 := ex_125.trans (by decide)
  refine y_put (T := TX12) (N := 212) (ci := 12) hx hb hts (zi_12 _) hown hK hP hD hS 0 rfl rfl 195 (by decide) tX12_195 uX12_195 (hts _ (zm_630 _)) rfl rfl rfl dX12_feed_104 (fun H locs f_127 ek_128 ok_129 hPn hDn hSn => ?_)
  clear hP hD hS
  have hP : va_P D vwCl [(h0, .inr (12, zf 212 f_127)), (atape, .inl (x 1, 4100, .inl g_122))] H := hPn
  have hD : va_D A [(h0, .inr (12, zf 212 f_127)), (atape, .inl (x 1, 4100, .inl g_122))] := hDn
  have hS := hSn
  clear hPn hDn hSn
  refine lv_iinc (v := 7) (lv' := [(6, .int 7), (7, .int n1), (0, .ref h0), (1, .int n0), (2, .int n1), (3, .int n2), (4, .int n3), (5, .int n4)]) hx hb dX12_feed_107 hl (k := 1) rfl (by decide) (by decide) rfl (fun ls hl => ?_)
  refine lv_goto (tgt := 19) hx hb dX12_feed_110 (by decide) ?_
  refine lv_iload hx hb dX12_feed_19 (lv_at hl 0 rfl) ?_
  refine lv_bipush (v := 20) hx hb dX12_feed_21 (by decide) ?_
  refine lv_icmp_ge (tgt := 113) hx hb dX12_feed_23 (by decide) (fun c9 => absurd c9 (by decide)) (fun _ => ?_)
  refine lv_iload hx hb dX12_feed_26 (lv_at hl 0 rfl) ?_
  refine lv_iconst (v := 4) hx hb dX12_feed_28 (by decide) ?_
  refine lv_icmp_ge (tgt := 36) hx hb dX12_feed_29 (by decide) (fun _ => ?_) (fun c9 => absurd (by decide) c9)
  refine lv_iload hx hb dX12_feed_36 (lv_at hl 0 rfl) ?_
  refine lv_bipush (v := 8) hx hb dX12_feed_38 (by decide) ?_
  refine lv_icmp_ge (tgt := 47) hx hb dX12_feed_40 (by decide) (fun c9 => absurd c9 (by decide)) (fun _ => ?_)
  refine lv_iload_n hx hb dX12_feed_43 rfl (lv_at hl 4 rfl) ?_
  refine lv_goto (tgt := 72) hx hb dX12_feed_44 (by decide) ?_
  refine lv_istore (lv' := [(7, .int n1), (6, .int 7), (0, .ref h0), (1, .int n0), (2, .int n1), (3, .int n2), (4, .int n3), (5, .int n4)]) hx hb dX12_feed_72 hl (by decide) rfl (fun ls hl => ?_)
  refine lv_aload_n hx hb dX12_feed_74 rfl (lv_at hl 2 rfl) ?_
  refine y_get (T := TX12) (N := 212) (ci := 12) hx hb hts (zi_12 _) hown hK hP 0 rfl rfl 194 (by decide) tX12_194 (hts _ (zm_617 _)) rfl ((ok_129 194 (by decide)).trans ((ok_111 194 (by decide)).trans e_93)) dX12_feed_75 ?_
  refine lv_aload_n hx hb dX12_feed_78 rfl (lv_at hl 2 rfl) ?_
  refine y_get (T := TX12) (N := 212) (ci := 12) hx hb hts (zi_12 _) hown hK hP 0 rfl rfl 195 (by decide) tX12_195 (hts _ (zm_630 _)) rfl ek_128 dX12_feed_79 ?_
  refine lv_iload hx hb dX12_feed_82 (lv_at hl 0 rfl) ?_
  refine lv_bipush (v := 24) hx hb dX12_feed_84 (by decide) ?_
  refine lv_bipush (v := 8) hx hb dX12_feed_86 (by decide) ?_
  refine lv_iload hx hb dX12_feed_88 (lv_at hl 1 rfl) ?_
  refine lv_iconst (v := 4) hx hb dX12_feed_90 (by decide) ?_
  refine lv_irem hx hb dX12_feed_91 (by decide) ?_
  refine lv_topi (fun y_131 ex_130 => ?_)
  obtain rfl : y_131 = 3 := ex_130.trans (by decide)
  refine lv_imul hx hb dX12_feed_92 ?_
  refine lv_topi (fun y_133 ex_132 => ?_)
  obtain rfl : y_133 = 24 := ex_132.trans (by decide)
  refine lv_isub hx hb dX12_feed_93 ?_
  refine lv_topi (fun y_135 ex_134 => ?_)
  obtain rfl : y_135 = 0 := ex_134.trans (by decide)
  refine lv_ishr hx hb dX12_feed_94 ?_
  refine lv_topi (fun y_137 ex_136 => ?_)
  refine lv_i2b hx hb dX12_feed_95 rfl ?_
  refine lv_topi (fun y_138 ex_139 => ?_)
  refine z_bast hx hb hK hP hD hS 1 1 rfl rfl (z_in (by decide)) dX12_feed_96 (fun H locs g_140 ek_141 ok_142 hPn hDn hSn => ?_)
  clear hP hD hS
  have hP : va_P D vwCl [(h0, .inr (12, zf 212 f_127)), (atape, .inl (x 1, 4100, .inl g_140))] H := hPn
  have hD : va_D A [(h0, .inr (12, zf 212 f_127)), (atape, .inl (x 1, 4100, .inl g_140))] := hDn
  have hS := hSn
  clear hPn hDn hSn
  refine lv_aload_n hx hb dX12_feed_97 rfl (lv_at hl 2 rfl) ?_
  refine lv_dup hx hb dX12_feed_98 rfl ?_
  refine y_get (T := TX12) (N := 212) (ci := 12) hx hb hts (zi_12 _) hown hK hP 0 rfl rfl 195 (by decide) tX12_195 (hts _ (zm_630 _)) rfl ek_128 dX12_feed_99 ?_
  refine lv_iconst (v := 1) hx hb dX12_feed_102 (by decide) ?_
  refine lv_iadd hx hb dX12_feed_103 ?_
  refine lv_topi (fun y_144 ex_143 => ?_)
  obtain rfl : y_144 = 8 := ex_143.trans (by decide)
  refine y_put (T := TX12) (N := 212) (ci := 12) hx hb hts (zi_12 _) hown hK hP hD hS 0 rfl rfl 195 (by decide) tX12_195 uX12_195 (hts _ (zm_630 _)) rfl rfl rfl dX12_feed_104 (fun H locs f_145 ek_146 ok_147 hPn hDn hSn => ?_)
  clear hP hD hS
  have hP : va_P D vwCl [(h0, .inr (12, zf 212 f_145)), (atape, .inl (x 1, 4100, .inl g_140))] H := hPn
  have hD : va_D A [(h0, .inr (12, zf 212 f_145)), (atape, .inl (x 1, 4100, .inl g_140))] := hDn
  have hS := hSn
  clear hPn hDn hSn
  refine lv_iinc (v := 8) (lv' := [(6, .int 8), (7, .int n1), (0, .ref h0), (1, .int n0), (2, .int n1), (3, .int n2), (4, .int n3), (5, .int n4)]) hx hb dX12_feed_107 hl (k := 1) rfl (by decide) (by decide) rfl (fun ls hl => ?_)
  refine lv_goto (tgt := 19) hx hb dX12_feed_110 (by decide) ?_
  refine lv_iload hx hb dX12_feed_19 (lv_at hl 0 rfl) ?_
  refine lv_bipush (v := 20) hx hb dX12_feed_21 (by decide) ?_
  refine lv_icmp_ge (tgt := 113) hx hb dX12_feed_23 (by decide) (fun c9 => absurd c9 (by decide)) (fun _ => ?_)
  refine lv_iload hx hb dX12_feed_26 (lv_at hl 0 rfl) ?_
  refine lv_iconst (v := 4) hx hb dX12_feed_28 (by decide) ?_
  refine lv_icmp_ge (tgt := 36) hx hb dX12_feed_29 (by decide) (fun _ => ?_) (fun c9 => absurd (by decide) c9)
  refine lv_iload hx hb dX12_feed_36 (lv_at hl 0 rfl) ?_
  refine lv_bipush (v := 8) hx hb dX12_feed_38 (by decide) ?_
  refine lv_icmp_ge (tgt := 47) hx hb dX12_feed_40 (by decide) (fun _ => ?_) (fun c9 => absurd (by decide) c9)
  refine lv_iload hx hb dX12_feed_47 (lv_at hl 0 rfl) ?_
  refine lv_bipush (v := 12) hx hb dX12_feed_49 (by decide) ?_
  refine lv_icmp_ge (tgt := 58) hx hb dX12_feed_51 (by decide) (fun c9 => absurd c9 (by decide)) (fun _ => ?_)
  refine lv_iload_n hx hb dX12_feed_54 rfl (lv_at hl 5 rfl) ?_
  refine lv_goto (tgt := 72) hx hb dX12_feed_55 (by decide) ?_
  refine lv_istore (lv' := [(7, .int n2), (6, .int 8), (0, .ref h0), (1, .int n0), (2, .int n1), (3, .int n2), (4, .int n3), (5, .int n4)]) hx hb dX12_feed_72 hl (by decide) rfl (fun ls hl => ?_)
  refine lv_aload_n hx hb dX12_feed_74 rfl (lv_at hl 2 rfl) ?_
  refine y_get (T := TX12) (N := 212) (ci := 12) hx hb hts (zi_12 _) hown hK hP 0 rfl rfl 194 (by decide) tX12_194 (hts _ (zm_617 _)) rfl ((ok_147 194 (by decide)).trans ((ok_129 194 (by decide)).trans ((ok_111 194 (by decide)).trans e_93))) dX12_feed_75 ?_
  refine lv_aload_n hx hb dX12_feed_78 rfl (lv_at hl 2 rfl) ?_
  refine y_get (T := TX12) (N := 212) (ci := 12) hx hb hts (zi_12 _) hown hK hP 0 rfl rfl 195 (by decide) tX12_195 (hts _ (zm_630 _)) rfl ek_146 dX12_feed_79 ?_
  refine lv_iload hx hb dX12_feed_82 (lv_at hl 0 rfl) ?_
  refine lv_bipush (v := 24) hx hb dX12_feed_84 (by decide) ?_
  refine lv_bipush (v := 8) hx hb dX12_feed_86 (by decide) ?_
  refine lv_iload hx hb dX12_feed_88 (lv_at hl 1 rfl) ?_
  refine lv_iconst (v := 4) hx hb dX12_feed_90 (by decide) ?_
  refine lv_irem hx hb dX12_feed_91 (by decide) ?_
  refine lv_topi (fun y_149 ex_148 => ?_)
  obtain rfl : y_149 = 0 := ex_148.trans (by decide)
  refine lv_imul hx hb dX12_feed_92 ?_
  refine lv_topi (fun y_151 ex_150 => ?_)
  obtain rfl : y_151 = 0 := ex_150.trans (by decide)
  refine lv_isub hx hb dX12_feed_93 ?_
  refine lv_topi (fun y_153 ex_152 => ?_)
  obtain rfl : y_153 = 24 := ex_152.trans (by decide)
  refine lv_ishr hx hb dX12_feed_94 ?_
  refine lv_topi (fun y_155 ex_154 => ?_)
  refine lv_i2b hx hb dX12_feed_95 rfl ?_
  refine lv_topi (fun y_156 ex_157 => ?_)
  refine z_bast hx hb hK hP hD hS 1 1 rfl rfl (z_in (by decide)) dX12_feed_96 (fun H locs g_158 ek_159 ok_160 hPn hDn hSn => ?_)
  clear hP hD hS
  have hP : va_P D vwCl [(h0, .inr (12, zf 212 f_145)), (atape, .inl (x 1, 4100, .inl g_158))] H := hPn
  have hD : va_D A [(h0, .inr (12, zf 212 f_145)), (atape, .inl (x 1, 4100, .inl g_158))] := hDn
  have hS := hSn
  clear hPn hDn hSn
  refine lv_aload_n hx hb dX12_feed_97 rfl (lv_at hl 2 rfl) ?_
  refine lv_dup hx hb dX12_feed_98 rfl ?_
  refine y_get (T := TX12) (N := 212) (ci := 12) hx hb hts (zi_12 _) hown hK hP 0 rfl rfl 195 (by decide) tX12_195 (hts _ (zm_630 _)) rfl ek_146 dX12_feed_99 ?_
  refine lv_iconst (v := 1) hx hb dX12_feed_102 (by decide) ?_
  refine lv_iadd hx hb dX12_feed_103 ?_
  refine lv_topi (fun y_162 ex_161 => ?_)
  obtain rfl : y_162 = 9 := ex_161.trans (by decide)
  refine y_put (T := TX12) (N := 212) (ci := 12) hx hb hts (zi_12 _) hown hK hP hD hS 0 rfl rfl 195 (by decide) tX12_195 uX12_195 (hts _ (zm_630 _)) rfl rfl rfl dX12_feed_104 (fun H locs f_163 ek_164 ok_165 hPn hDn hSn => ?_)
  clear hP hD hS
  have hP : va_P D vwCl [(h0, .inr (12, zf 212 f_163)), (atape, .inl (x 1, 4100, .inl g_158))] H := hPn
  have hD : va_D A [(h0, .inr (12, zf 212 f_163)), (atape, .inl (x 1, 4100, .inl g_158))] := hDn
  have hS := hSn
  clear hPn hDn hSn
  refine lv_iinc (v := 9) (lv' := [(6, .int 9), (7, .int n2), (0, .ref h0), (1, .int n0), (2, .int n1), (3, .int n2), (4, .int n3), (5, .int n4)]) hx hb dX12_feed_107 hl (k := 1) rfl (by decide) (by decide) rfl (fun ls hl => ?_)
  refine lv_goto (tgt := 19) hx hb dX12_feed_110 (by decide) ?_
  refine lv_iload hx hb dX12_feed_19 (lv_at hl 0 rfl) ?_
  refine lv_bipush (v := 20) hx hb dX12_feed_21 (by decide) ?_
  refine lv_icmp_ge (tgt := 113) hx hb dX12_feed_23 (by decide) (fun c9 => absurd c9 (by decide)) (fun _ => ?_)
  refine lv_iload hx hb dX12_feed_26 (lv_at hl 0 rfl) ?_
  refine lv_iconst (v := 4) hx hb dX12_feed_28 (by decide) ?_
  refine lv_icmp_ge (tgt := 36) hx hb dX12_feed_29 (by decide) (fun _ => ?_) (fun c9 => absurd (by decide) c9)
  refine lv_iload hx hb dX12_feed_36 (lv_at hl 0 rfl) ?_
  refine lv_bipush (v := 8) hx hb dX12_feed_38 (by decide) ?_
  refine lv_icmp_ge (tgt := 47) hx hb dX12_feed_40 (by decide) (fun _ => ?_) (fun c9 => absurd (by decide) c9)
  refine lv_iload hx hb dX12_feed_47 (lv_at hl 0 rfl) ?_
  refine lv_bipush (v := 12) hx hb dX12_feed_49 (by decide) ?_
  refine lv_icmp_ge (tgt := 58) hx hb dX12_feed_51 (by decide) (fun c9 => absurd c9 (by decide)) (fun _ => ?_)
  refine lv_iload_n hx hb dX12_feed_54 rfl (lv_at hl 5 rfl) ?_
  refine lv_goto (tgt := 72) hx hb dX12_feed_55 (by decide) ?_
  refine lv_istore (lv' := [(7, .int n2), (6, .int 9), (0, .ref h0), (1, .int n0), (2, .int n1), (3, .int n2), (4, .int n3), (5, .int n4)]) hx hb dX12_feed_72 hl (by decide) rfl (fun ls hl => ?_)
  refine lv_aload_n hx hb dX12_feed_74 rfl (lv_at hl 2 rfl) ?_
  refine y_get (T := TX12) (N := 212) (ci := 12) hx hb hts (zi_12 _) hown hK hP 0 rfl rfl 194 (by decide) tX12_194 (hts _ (zm_617 _)) rfl ((ok_165 194 (by decide)).trans ((ok_147 194 (by decide)).trans ((ok_129 194 (by decide)).trans ((ok_111 194 (by decide)).trans e_93)))) dX12_feed_75 ?_
  refine lv_aload_n hx hb dX12_feed_78 rfl (lv_at hl 2 rfl) ?_
  refine y_get (T := TX12) (N := 212) (ci := 12) hx hb hts (zi_12 _) hown hK hP 0 rfl rfl 195 (by decide) tX12_195 (hts _ (zm_630 _)) rfl ek_164 dX12_feed_79 ?_
  refine lv_iload hx hb dX12_feed_82 (lv_at hl 0 rfl) ?_
  refine lv_bipush (v := 24) hx hb dX12_feed_84 (by decide) ?_
  refine lv_bipush (v := 8) hx hb dX12_feed_86 (by decide) ?_
  refine lv_iload hx hb dX12_feed_88 (lv_at hl 1 rfl) ?_
  refine lv_iconst (v := 4) hx hb dX12_feed_90 (by decide) ?_
  refine lv_irem hx hb dX12_feed_91 (by decide) ?_
  refine lv_topi (fun y_167 ex_166 => ?_)
  obtain rfl : y_167 = 1 := ex_166.trans (by decide)
  refine lv_imul hx hb dX12_feed_92 ?_
  refine lv_topi (fun y_169 ex_168 => ?_)
  obtain rfl : y_169 = 8 := ex_168.trans (by decide)
  refine lv_isub hx hb dX12_feed_93 ?_
  refine lv_topi (fun y_171 ex_170 => ?_)
  obtain rfl : y_171 = 16 := ex_170.trans (by decide)
  refine lv_ishr hx hb dX12_feed_94 ?_
  refine lv_topi (fun y_173 ex_172 => ?_)
  refine lv_i2b hx hb dX12_feed_95 rfl ?_
  refine lv_topi (fun y_174 ex_175 => ?_)
  refine z_bast hx hb hK hP hD hS 1 1 rfl rfl (z_in (by decide)) dX12_feed_96 (fun H locs g_176 ek_177 ok_178 hPn hDn hSn => ?_)
  clear hP hD hS
  have hP : va_P D vwCl [(h0, .inr (12, zf 212 f_163)), (atape, .inl (x 1, 4100, .inl g_176))] H := hPn
  have hD : va_D A [(h0, .inr (12, zf 212 f_163)), (atape, .inl (x 1, 4100, .inl g_176))] := hDn
  have hS := hSn
  clear hPn hDn hSn
  refine lv_aload_n hx hb dX12_feed_97 rfl (lv_at hl 2 rfl) ?_
  refine lv_dup hx hb dX12_feed_98 rfl ?_
  refine y_get (T := TX12) (N := 212) (ci := 12) hx hb hts (zi_12 _) hown hK hP 0 rfl rfl 195 (by decide) tX12_195 (hts _ (zm_630 _)) rfl ek_164 dX12_feed_99 ?_
  refine lv_iconst (v := 1) hx hb dX12_feed_102 (by decide) ?_
  refine lv_iadd hx hb dX12_feed_103 ?_
  refine lv_topi (fun y_180 ex_179 => ?_)
  obtain rfl : y_180 = 10 := ex_179.trans (by decide)
  refine y_put (T := TX12) (N := 212) (ci := 12) hx hb hts (zi_12 _) hown hK hP hD hS 0 rfl rfl 195 (by decide) tX12_195 uX12_195 (hts _ (zm_630 _)) rfl rfl rfl dX12_feed_104 (fun H locs f_181 ek_182 ok_183 hPn hDn hSn => ?_)
  clear hP hD hS
  have hP : va_P D vwCl [(h0, .inr (12, zf 212 f_181)), (atape, .inl (x 1, 4100, .inl g_176))] H := hPn
  have hD : va_D A [(h0, .inr (12, zf 212 f_181)), (atape, .inl (x 1, 4100, .inl g_176))] := hDn
  have hS := hSn
  clear hPn hDn hSn
  refine lv_iinc (v := 10) (lv' := [(6, .int 10), (7, .int n2), (0, .ref h0), (1, .int n0), (2, .int n1), (3, .int n2), (4, .int n3), (5, .int n4)]) hx hb dX12_feed_107 hl (k := 1) rfl (by decide) (by decide) rfl (fun ls hl => ?_)
  refine lv_goto (tgt := 19) hx hb dX12_feed_110 (by decide) ?_
  refine lv_iload hx hb dX12_feed_19 (lv_at hl 0 rfl) ?_
  refine lv_bipush (v := 20) hx hb dX12_feed_21 (by decide) ?_
  refine lv_icmp_ge (tgt := 113) hx hb dX12_feed_23 (by decide) (fun c9 => absurd c9 (by decide)) (fun _ => ?_)
  refine lv_iload hx hb dX12_feed_26 (lv_at hl 0 rfl) ?_
  refine lv_iconst (v := 4) hx hb dX12_feed_28 (by decide) ?_
  refine lv_icmp_ge (tgt := 36) hx hb dX12_feed_29 (by decide) (fun _ => ?_) (fun c9 => absurd (by decide) c9)
  refine lv_iload hx hb dX12_feed_36 (lv_at hl 0 rfl) ?_
  refine lv_bipush (v := 8) hx hb dX12_feed_38 (by decide) ?_
  refine lv_icmp_ge (tgt := 47) hx hb dX12_feed_40 (by decide) (fun _ => ?_) (fun c9 => absurd (by decide) c9)
  refine lv_iload hx hb dX12_feed_47 (lv_at hl 0 rfl) ?_
  refine lv_bipush (v := 12) hx hb dX12_feed_49 (by decide) ?_
  refine lv_icmp_ge (tgt := 58) hx hb dX12_feed_51 (by decide) (fun c9 => absurd c9 (by decide)) (fun _ => ?_)
  refine lv_iload_n hx hb dX12_feed_54 rfl (lv_at hl 5 rfl) ?_
  refine lv_goto (tgt := 72) hx hb dX12_feed_55 (by decide) ?_
  refine lv_istore (lv' := [(7, .int n2), (6, .int 10), (0, .ref h0), (1, .int n0), (2, .int n1), (3, .int n2), (4, .int n3), (5, .int n4)]) hx hb dX12_feed_72 hl (by decide) rfl (fun ls hl => ?_)
  refine lv_aload_n hx hb dX12_feed_74 rfl (lv_at hl 2 rfl) ?_
  have e_184 : f_181 194 = .ref atape := ((ok_183 194 (by decide)).trans ((ok_165 194 (by decide)).trans ((ok_147 194 (by decide)).trans ((ok_129 194 (by decide)).trans ((ok_111 194 (by decide)).trans e_93)))))
  refine y_get (T := TX12) (N := 212) (ci := 12) hx hb hts (zi_12 _) hown hK hP 0 rfl rfl 194 (by decide) tX12_194 (hts _ (zm_617 _)) rfl e_184 dX12_feed_75 ?_
  refine lv_aload_n hx hb dX12_feed_78 rfl (lv_at hl 2 rfl) ?_
  refine y_get (T := TX12) (N := 212) (ci := 12) hx hb hts (zi_12 _) hown hK hP 0 rfl rfl 195 (by decide) tX12_195 (hts _ (zm_630 _)) rfl ek_182 dX12_feed_79 ?_
  refine lv_iload hx hb dX12_feed_82 (lv_at hl 0 rfl) ?_
  refine lv_bipush (v := 24) hx hb dX12_feed_84 (by decide) ?_
  refine lv_bipush (v := 8) hx hb dX12_feed_86 (by decide) ?_
  refine lv_iload hx hb dX12_feed_88 (lv_at hl 1 rfl) ?_
  refine lv_iconst (v := 4) hx hb dX12_feed_90 (by decide) ?_
  refine lv_irem hx hb dX12_feed_91 (by decide) ?_
  refine lv_topi (fun y_186 ex_185 => ?_)
  obtain rfl : y_186 = 2 := ex_185.trans (by decide)
  refine lv_imul hx hb dX12_feed_92 ?_
  refine lv_topi (fun y_188 ex_187 => ?_)
  obtain rfl : y_188 = 16 := ex_187.trans (by decide)
  refine lv_isub hx hb dX12_feed_93 ?_
  refine lv_topi (fun y_190 ex_189 => ?_)
  obtain rfl : y_190 = 8 := ex_189.trans (by decide)
  refine lv_ishr hx hb dX12_feed_94 ?_
  refine lv_topi (fun y_192 ex_191 => ?_)
  refine lv_i2b hx hb dX12_feed_95 rfl ?_
  refine lv_topi (fun y_193 ex_194 => ?_)
  refine z_bast hx hb hK hP hD hS 1 1 rfl rfl (z_in (by decide)) dX12_feed_96 (fun H locs g_195 ek_196 ok_197 hPn hDn hSn => ?_)
  clear hP hD hS
  have hP : va_P D vwCl [(h0, .inr (12, zf 212 f_181)), (atape, .inl (x 1, 4100, .inl g_195))] H := hPn
  have hD : va_D A [(h0, .inr (12, zf 212 f_181)), (atape, .inl (x 1, 4100, .inl g_195))] := hDn
  have hS := hSn
  clear hPn hDn hSn
  refine lv_aload_n hx hb dX12_feed_97 rfl (lv_at hl 2 rfl) ?_
  refine lv_dup hx hb dX12_feed_98 rfl ?_
  refine y_get (T := TX12) (N := 212) (ci := 12) hx hb hts (zi_12 _) hown hK hP 0 rfl rfl 195 (by decide) tX12_195 (hts _ (zm_630 _)) rfl ek_182 dX12_feed_99 ?_
  refine lv_iconst (v := 1) hx hb dX12_feed_102 (by decide) ?_
  refine lv_iadd hx hb dX12_feed_103 ?_
  refine lv_topi (fun y_199 ex_198 => ?_)
  obtain rfl : y_199 = 11 := ex_198.trans (by decide)
  refine y_put (T := TX12) (N := 212) (ci := 12) hx hb hts (zi_12 _) hown hK hP hD hS 0 rfl rfl 195 (by decide) tX12_195 uX12_195 (hts _ (zm_630 _)) rfl rfl rfl dX12_feed_104 (fun H locs f_200 ek_201 ok_202 hPn hDn hSn => ?_)
  clear hP hD hS
  have hP : va_P D vwCl [(h0, .inr (12, zf 212 f_200)), (atape, .inl (x 1, 4100, .inl g_195))] H := hPn
  have hD : va_D A [(h0, .inr (12, zf 212 f_200)), (atape, .inl (x 1, 4100, .inl g_195))] := hDn
  have hS := hSn
  clear hPn hDn hSn
  refine lv_iinc (v := 11) (lv' := [(6, .int 11), (7, .int n2), (0, .ref h0), (1, .int n0), (2, .int n1), (3, .int n2), (4, .int n3), (5, .int n4)]) hx hb dX12_feed_107 hl (k := 1) rfl (by decide) (by decide) rfl (fun ls hl => ?_)
  refine lv_goto (tgt := 19) hx hb dX12_feed_110 (by decide) ?_
  refine lv_iload hx hb dX12_feed_19 (lv_at hl 0 rfl) ?_
  refine lv_bipush (v := 20) hx hb dX12_feed_21 (by decide) ?_
  refine lv_icmp_ge (tgt := 113) hx hb dX12_feed_23 (by decide) (fun c9 => absurd c9 (by decide)) (fun _ => ?_)
  refine lv_iload hx hb dX12_feed_26 (lv_at hl 0 rfl) ?_
  refine lv_iconst (v := 4) hx hb dX12_feed_28 (by decide) ?_
  refine lv_icmp_ge (tgt := 36) hx hb dX12_feed_29 (by decide) (fun _ => ?_) (fun c9 => absurd (by decide) c9)
  refine lv_iload hx hb dX12_feed_36 (lv_at hl 0 rfl) ?_
  refine lv_bipush (v := 8) hx hb dX12_feed_38 (by decide) ?_
  refine lv_icmp_ge (tgt := 47) hx hb dX12_feed_40 (by decide) (fun _ => ?_) (fun c9 => absurd (by decide) c9)
  refine lv_iload hx hb dX12_feed_47 (lv_at hl 0 rfl) ?_
  refine lv_bipush (v := 12) hx hb dX12_feed_49 (by decide) ?_
  refine lv_icmp_ge (tgt := 58) hx hb dX12_feed_51 (by decide) (fun c9 => absurd c9 (by decide)) (fun _ => ?_)
  refine lv_iload_n hx hb dX12_feed_54 rfl (lv_at hl 5 rfl) ?_
  refine lv_goto (tgt := 72) hx hb dX12_feed_55 (by decide) ?_
  refine lv_istore (lv' := [(7, .int n2), (6, .int 11), (0, .ref h0), (1, .int n0), (2, .int n1), (3, .int n2), (4, .int n3), (5, .int n4)]) hx hb dX12_feed_72 hl (by decide) rfl (fun ls hl => ?_)
  refine lv_aload_n hx hb dX12_feed_74 rfl (lv_at hl 2 rfl) ?_
  refine y_get (T := TX12) (N := 212) (ci := 12) hx hb hts (zi_12 _) hown hK hP 0 rfl rfl 194 (by decide) tX12_194 (hts _ (zm_617 _)) rfl ((ok_202 194 (by decide)).trans e_184) dX12_feed_75 ?_
  refine lv_aload_n hx hb dX12_feed_78 rfl (lv_at hl 2 rfl) ?_
  refine y_get (T := TX12) (N := 212) (ci := 12) hx hb hts (zi_12 _) hown hK hP 0 rfl rfl 195 (by decide) tX12_195 (hts _ (zm_630 _)) rfl ek_201 dX12_feed_79 ?_
  refine lv_iload hx hb dX12_feed_82 (lv_at hl 0 rfl) ?_
  refine lv_bipush (v := 24) hx hb dX12_feed_84 (by decide) ?_
  refine lv_bipush (v := 8) hx hb dX12_feed_86 (by decide) ?_
  refine lv_iload hx hb dX12_feed_88 (lv_at hl 1 rfl) ?_
  refine lv_iconst (v := 4) hx hb dX12_feed_90 (by decide) ?_
  refine lv_irem hx hb dX12_feed_91 (by decide) ?_
  refine lv_topi (fun y_204 ex_203 => ?_)
  obtain rfl : y_204 = 3 := ex_203.trans (by decide)
  refine lv_imul hx hb dX12_feed_92 ?_
  refine lv_topi (fun y_206 ex_205 => ?_)
  obtain rfl : y_206 = 24 := ex_205.trans (by decide)
  refine lv_isub hx hb dX12_feed_93 ?_
  refine lv_topi (fun y_208 ex_207 => ?_)
  obtain rfl : y_208 = 0 := ex_207.trans (by decide)
  refine lv_ishr hx hb dX12_feed_94 ?_
  refine lv_topi (fun y_210 ex_209 => ?_)
  refine lv_i2b hx hb dX12_feed_95 rfl ?_
  refine lv_topi (fun y_211 ex_212 => ?_)
  refine z_bast hx hb hK hP hD hS 1 1 rfl rfl (z_in (by decide)) dX12_feed_96 (fun H locs g_213 ek_214 ok_215 hPn hDn hSn => ?_)
  clear hP hD hS
  have hP : va_P D vwCl [(h0, .inr (12, zf 212 f_200)), (atape, .inl (x 1, 4100, .inl g_213))] H := hPn
  have hD : va_D A [(h0, .inr (12, zf 212 f_200)), (atape, .inl (x 1, 4100, .inl g_213))] := hDn
  have hS := hSn
  clear hPn hDn hSn
  refine lv_aload_n hx hb dX12_feed_97 rfl (lv_at hl 2 rfl) ?_
  refine lv_dup hx hb dX12_feed_98 rfl ?_
  refine y_get (T := TX12) (N := 212) (ci := 12) hx hb hts (zi_12 _) hown hK hP 0 rfl rfl 195 (by decide) tX12_195 (hts _ (zm_630 _)) rfl ek_201 dX12_feed_99 ?_
  refine lv_iconst (v := 1) hx hb dX12_feed_102 (by decide) ?_
  refine lv_iadd hx hb dX12_feed_103 ?_
  refine lv_topi (fun y_217 ex_216 => ?_)
  obtain rfl : y_217 = 12 := ex_216.trans (by decide)
  refine y_put (T := TX12) (N := 212) (ci := 12) hx hb hts (zi_12 _) hown hK hP hD hS 0 rfl rfl 195 (by decide) tX12_195 uX12_195 (hts _ (zm_630 _)) rfl rfl rfl dX12_feed_104 (fun H locs f_218 ek_219 ok_220 hPn hDn hSn => ?_)
  clear hP hD hS
  have hP : va_P D vwCl [(h0, .inr (12, zf 212 f_218)), (atape, .inl (x 1, 4100, .inl g_213))] H := hPn
  have hD : va_D A [(h0, .inr (12, zf 212 f_218)), (atape, .inl (x 1, 4100, .inl g_213))] := hDn
  have hS := hSn
  clear hPn hDn hSn
  refine lv_iinc (v := 12) (lv' := [(6, .int 12), (7, .int n2), (0, .ref h0), (1, .int n0), (2, .int n1), (3, .int n2), (4, .int n3), (5, .int n4)]) hx hb dX12_feed_107 hl (k := 1) rfl (by decide) (by decide) rfl (fun ls hl => ?_)
  refine lv_goto (tgt := 19) hx hb dX12_feed_110 (by decide) ?_
  refine lv_iload hx hb dX12_feed_19 (lv_at hl 0 rfl) ?_
  refine lv_bipush (v := 20) hx hb dX12_feed_21 (by decide) ?_
  refine lv_icmp_ge (tgt := 113) hx hb dX12_feed_23 (by decide) (fun c9 => absurd c9 (by decide)) (fun _ => ?_)
  refine lv_iload hx hb dX12_feed_26 (lv_at hl 0 rfl) ?_
  refine lv_iconst (v := 4) hx hb dX12_feed_28 (by decide) ?_
  refine lv_icmp_ge (tgt := 36) hx hb dX12_feed_29 (by decide) (fun _ => ?_) (fun c9 => absurd (by decide) c9)
  refine lv_iload hx hb dX12_feed_36 (lv_at hl 0 rfl) ?_
  refine lv_bipush (v := 8) hx hb dX12_feed_38 (by decide) ?_
  refine lv_icmp_ge (tgt := 47) hx hb dX12_feed_40 (by decide) (fun _ => ?_) (fun c9 => absurd (by decide) c9)
  refine lv_iload hx hb dX12_feed_47 (lv_at hl 0 rfl) ?_
  refine lv_bipush (v := 12) hx hb dX12_feed_49 (by decide) ?_
  refine lv_icmp_ge (tgt := 58) hx hb dX12_feed_51 (by decide) (fun _ => ?_) (fun c9 => absurd (by decide) c9)
  refine lv_iload hx hb dX12_feed_58 (lv_at hl 0 rfl) ?_
  refine lv_bipush (v := 16) hx hb dX12_feed_60 (by decide) ?_
  refine lv_icmp_ge (tgt := 70) hx hb dX12_feed_62 (by decide) (fun c9 => absurd c9 (by decide)) (fun _ => ?_)
  refine lv_iload hx hb dX12_feed_65 (lv_at hl 6 rfl) ?_
  refine lv_goto (tgt := 72) hx hb dX12_feed_67 (by decide) ?_
  refine lv_istore (lv' := [(7, .int n3), (6, .int 12), (0, .ref h0), (1, .int n0), (2, .int n1), (3, .int n2), (4, .int n3), (5, .int n4)]) hx hb dX12_feed_72 hl (by decide) rfl (fun ls hl => ?_)
  refine lv_aload_n hx hb dX12_feed_74 rfl (lv_at hl 2 rfl) ?_
  refine y_get (T := TX12) (N := 212) (ci := 12) hx hb hts (zi_12 _) hown hK hP 0 rfl rfl 194 (by decide) tX12_194 (hts _ (zm_617 _)) rfl ((ok_220 194 (by decide)).trans ((ok_202 194 (by decide)).trans e_184)) dX12_feed_75 ?_
  refine lv_aload_n hx hb dX12_feed_78 rfl (lv_at hl 2 rfl) ?_
  refine y_get (T := TX12) (N := 212) (ci := 12) hx hb hts (zi_12 _) hown hK hP 0 rfl rfl 195 (by decide) tX12_195 (hts _ (zm_630 _)) rfl ek_219 dX12_feed_79 ?_
  refine lv_iload hx hb dX12_feed_82 (lv_at hl 0 rfl) ?_
  refine lv_bipush (v := 24) hx hb dX12_feed_84 (by decide) ?_
  refine lv_bipush (v := 8) hx hb dX12_feed_86 (by decide) ?_
  refine lv_iload hx hb dX12_feed_88 (lv_at hl 1 rfl) ?_
  refine lv_iconst (v := 4) hx hb dX12_feed_90 (by decide) ?_
  refine lv_irem hx hb dX12_feed_91 (by decide) ?_
  refine lv_topi (fun y_222 ex_221 => ?_)
  obtain rfl : y_222 = 0 := ex_221.trans (by decide)
  refine lv_imul hx hb dX12_feed_92 ?_
  refine lv_topi (fun y_224 ex_223 => ?_)
  obtain rfl : y_224 = 0 := ex_223.trans (by decide)
  refine lv_isub hx hb dX12_feed_93 ?_
  refine lv_topi (fun y_226 ex_225 => ?_)
  obtain rfl : y_226 = 24 := ex_225.trans (by decide)
  refine lv_ishr hx hb dX12_feed_94 ?_
  refine lv_topi (fun y_228 ex_227 => ?_)
  refine lv_i2b hx hb dX12_feed_95 rfl ?_
  refine lv_topi (fun y_229 ex_230 => ?_)
  refine z_bast hx hb hK hP hD hS 1 1 rfl rfl (z_in (by decide)) dX12_feed_96 (fun H locs g_231 ek_232 ok_233 hPn hDn hSn => ?_)
  clear hP hD hS
  have hP : va_P D vwCl [(h0, .inr (12, zf 212 f_218)), (atape, .inl (x 1, 4100, .inl g_231))] H := hPn
  have hD : va_D A [(h0, .inr (12, zf 212 f_218)), (atape, .inl (x 1, 4100, .inl g_231))] := hDn
  have hS := hSn
  clear hPn hDn hSn
  refine lv_aload_n hx hb dX12_feed_97 rfl (lv_at hl 2 rfl) ?_
  refine lv_dup hx hb dX12_feed_98 rfl ?_
  refine y_get (T := TX12) (N := 212) (ci := 12) hx hb hts (zi_12 _) hown hK hP 0 rfl rfl 195 (by decide) tX12_195 (hts _ (zm_630 _)) rfl ek_219 dX12_feed_99 ?_
  refine lv_iconst (v := 1) hx hb dX12_feed_102 (by decide) ?_
  refine lv_iadd hx hb dX12_feed_103 ?_
  refine lv_topi (fun y_235 ex_234 => ?_)
  obtain rfl : y_235 = 13 := ex_234.trans (by decide)
  refine y_put (T := TX12) (N := 212) (ci := 12) hx hb hts (zi_12 _) hown hK hP hD hS 0 rfl rfl 195 (by decide) tX12_195 uX12_195 (hts _ (zm_630 _)) rfl rfl rfl dX12_feed_104 (fun H locs f_236 ek_237 ok_238 hPn hDn hSn => ?_)
  clear hP hD hS
  have hP : va_P D vwCl [(h0, .inr (12, zf 212 f_236)), (atape, .inl (x 1, 4100, .inl g_231))] H := hPn
  have hD : va_D A [(h0, .inr (12, zf 212 f_236)), (atape, .inl (x 1, 4100, .inl g_231))] := hDn
  have hS := hSn
  clear hPn hDn hSn
  refine lv_iinc (v := 13) (lv' := [(6, .int 13), (7, .int n3), (0, .ref h0), (1, .int n0), (2, .int n1), (3, .int n2), (4, .int n3), (5, .int n4)]) hx hb dX12_feed_107 hl (k := 1) rfl (by decide) (by decide) rfl (fun ls hl => ?_)
  refine lv_goto (tgt := 19) hx hb dX12_feed_110 (by decide) ?_
  refine lv_iload hx hb dX12_feed_19 (lv_at hl 0 rfl) ?_
  refine lv_bipush (v := 20) hx hb dX12_feed_21 (by decide) ?_
  refine lv_icmp_ge (tgt := 113) hx hb dX12_feed_23 (by decide) (fun c9 => absurd c9 (by decide)) (fun _ => ?_)
  refine lv_iload hx hb dX12_feed_26 (lv_at hl 0 rfl) ?_
  refine lv_iconst (v := 4) hx hb dX12_feed_28 (by decide) ?_
  refine lv_icmp_ge (tgt := 36) hx hb dX12_feed_29 (by decide) (fun _ => ?_) (fun c9 => absurd (by decide) c9)
  refine lv_iload hx hb dX12_feed_36 (lv_at hl 0 rfl) ?_
  refine lv_bipush (v := 8) hx hb dX12_feed_38 (by decide) ?_
  refine lv_icmp_ge (tgt := 47) hx hb dX12_feed_40 (by decide) (fun _ => ?_) (fun c9 => absurd (by decide) c9)
  refine lv_iload hx hb dX12_feed_47 (lv_at hl 0 rfl) ?_
  refine lv_bipush (v := 12) hx hb dX12_feed_49 (by decide) ?_
  refine lv_icmp_ge (tgt := 58) hx hb dX12_feed_51 (by decide) (fun _ => ?_) (fun c9 => absurd (by decide) c9)
  refine lv_iload hx hb dX12_feed_58 (lv_at hl 0 rfl) ?_
  refine lv_bipush (v := 16) hx hb dX12_feed_60 (by decide) ?_
  refine lv_icmp_ge (tgt := 70) hx hb dX12_feed_62 (by decide) (fun c9 => absurd c9 (by decide)) (fun _ => ?_)
  refine lv_iload hx hb dX12_feed_65 (lv_at hl 6 rfl) ?_
  refine lv_goto (tgt := 72) hx hb dX12_feed_67 (by decide) ?_
  refine lv_istore (lv' := [(7, .int n3), (6, .int 13), (0, .ref h0), (1, .int n0), (2, .int n1), (3, .int n2), (4, .int n3), (5, .int n4)]) hx hb dX12_feed_72 hl (by decide) rfl (fun ls hl => ?_)
  refine lv_aload_n hx hb dX12_feed_74 rfl (lv_at hl 2 rfl) ?_
  refine y_get (T := TX12) (N := 212) (ci := 12) hx hb hts (zi_12 _) hown hK hP 0 rfl rfl 194 (by decide) tX12_194 (hts _ (zm_617 _)) rfl ((ok_238 194 (by decide)).trans ((ok_220 194 (by decide)).trans ((ok_202 194 (by decide)).trans e_184))) dX12_feed_75 ?_
  refine lv_aload_n hx hb dX12_feed_78 rfl (lv_at hl 2 rfl) ?_
  refine y_get (T := TX12) (N := 212) (ci := 12) hx hb hts (zi_12 _) hown hK hP 0 rfl rfl 195 (by decide) tX12_195 (hts _ (zm_630 _)) rfl ek_237 dX12_feed_79 ?_
  refine lv_iload hx hb dX12_feed_82 (lv_at hl 0 rfl) ?_
  refine lv_bipush (v := 24) hx hb dX12_feed_84 (by decide) ?_
  refine lv_bipush (v := 8) hx hb dX12_feed_86 (by decide) ?_
  refine lv_iload hx hb dX12_feed_88 (lv_at hl 1 rfl) ?_
  refine lv_iconst (v := 4) hx hb dX12_feed_90 (by decide) ?_
  refine lv_irem hx hb dX12_feed_91 (by decide) ?_
  refine lv_topi (fun y_240 ex_239 => ?_)
  obtain rfl : y_240 = 1 := ex_239.trans (by decide)
  refine lv_imul hx hb dX12_feed_92 ?_
  refine lv_topi (fun y_242 ex_241 => ?_)
  obtain rfl : y_242 = 8 := ex_241.trans (by decide)
  refine lv_isub hx hb dX12_feed_93 ?_
  refine lv_topi (fun y_244 ex_243 => ?_)
  obtain rfl : y_244 = 16 := ex_243.trans (by decide)
  refine lv_ishr hx hb dX12_feed_94 ?_
  refine lv_topi (fun y_246 ex_245 => ?_)
  refine lv_i2b hx hb dX12_feed_95 rfl ?_
  refine lv_topi (fun y_247 ex_248 => ?_)
  refine z_bast hx hb hK hP hD hS 1 1 rfl rfl (z_in (by decide)) dX12_feed_96 (fun H locs g_249 ek_250 ok_251 hPn hDn hSn => ?_)
  clear hP hD hS
  have hP : va_P D vwCl [(h0, .inr (12, zf 212 f_236)), (atape, .inl (x 1, 4100, .inl g_249))] H := hPn
  have hD : va_D A [(h0, .inr (12, zf 212 f_236)), (atape, .inl (x 1, 4100, .inl g_249))] := hDn
  have hS := hSn
  clear hPn hDn hSn
  refine lv_aload_n hx hb dX12_feed_97 rfl (lv_at hl 2 rfl) ?_
  refine lv_dup hx hb dX12_feed_98 rfl ?_
  refine y_get (T := TX12) (N := 212) (ci := 12) hx hb hts (zi_12 _) hown hK hP 0 rfl rfl 195 (by decide) tX12_195 (hts _ (zm_630 _)) rfl ek_237 dX12_feed_99 ?_
  refine lv_iconst (v := 1) hx hb dX12_feed_102 (by decide) ?_
  refine lv_iadd hx hb dX12_feed_103 ?_
  refine lv_topi (fun y_253 ex_252 => ?_)
  obtain rfl : y_253 = 14 := ex_252.trans (by decide)
  refine y_put (T := TX12) (N := 212) (ci := 12) hx hb hts (zi_12 _) hown hK hP hD hS 0 rfl rfl 195 (by decide) tX12_195 uX12_195 (hts _ (zm_630 _)) rfl rfl rfl dX12_feed_104 (fun H locs f_254 ek_255 ok_256 hPn hDn hSn => ?_)
  clear hP hD hS
  have hP : va_P D vwCl [(h0, .inr (12, zf 212 f_254)), (atape, .inl (x 1, 4100, .inl g_249))] H := hPn
  have hD : va_D A [(h0, .inr (12, zf 212 f_254)), (atape, .inl (x 1, 4100, .inl g_249))] := hDn
  have hS := hSn
  clear hPn hDn hSn
  refine lv_iinc (v := 14) (lv' := [(6, .int 14), (7, .int n3), (0, .ref h0), (1, .int n0), (2, .int n1), (3, .int n2), (4, .int n3), (5, .int n4)]) hx hb dX12_feed_107 hl (k := 1) rfl (by decide) (by decide) rfl (fun ls hl => ?_)
  refine lv_goto (tgt := 19) hx hb dX12_feed_110 (by decide) ?_
  refine lv_iload hx hb dX12_feed_19 (lv_at hl 0 rfl) ?_
  refine lv_bipush (v := 20) hx hb dX12_feed_21 (by decide) ?_
  refine lv_icmp_ge (tgt := 113) hx hb dX12_feed_23 (by decide) (fun c9 => absurd c9 (by decide)) (fun _ => ?_)
  refine lv_iload hx hb dX12_feed_26 (lv_at hl 0 rfl) ?_
  refine lv_iconst (v := 4) hx hb dX12_feed_28 (by decide) ?_
  refine lv_icmp_ge (tgt := 36) hx hb dX12_feed_29 (by decide) (fun _ => ?_) (fun c9 => absurd (by decide) c9)
  refine lv_iload hx hb dX12_feed_36 (lv_at hl 0 rfl) ?_
  refine lv_bipush (v := 8) hx hb dX12_feed_38 (by decide) ?_
  refine lv_icmp_ge (tgt := 47) hx hb dX12_feed_40 (by decide) (fun _ => ?_) (fun c9 => absurd (by decide) c9)
  refine lv_iload hx hb dX12_feed_47 (lv_at hl 0 rfl) ?_
  refine lv_bipush (v := 12) hx hb dX12_feed_49 (by decide) ?_
  refine lv_icmp_ge (tgt := 58) hx hb dX12_feed_51 (by decide) (fun _ => ?_) (fun c9 => absurd (by decide) c9)
  refine lv_iload hx hb dX12_feed_58 (lv_at hl 0 rfl) ?_
  refine lv_bipush (v := 16) hx hb dX12_feed_60 (by decide) ?_
  refine lv_icmp_ge (tgt := 70) hx hb dX12_feed_62 (by decide) (fun c9 => absurd c9 (by decide)) (fun _ => ?_)
  refine lv_iload hx hb dX12_feed_65 (lv_at hl 6 rfl) ?_
  refine lv_goto (tgt := 72) hx hb dX12_feed_67 (by decide) ?_
  refine lv_istore (lv' := [(7, .int n3), (6, .int 14), (0, .ref h0), (1, .int n0), (2, .int n1), (3, .int n2), (4, .int n3), (5, .int n4)]) hx hb dX12_feed_72 hl (by decide) rfl (fun ls hl => ?_)
  refine lv_aload_n hx hb dX12_feed_74 rfl (lv_at hl 2 rfl) ?_
  refine y_get (T := TX12) (N := 212) (ci := 12) hx hb hts (zi_12 _) hown hK hP 0 rfl rfl 194 (by decide) tX12_194 (hts _ (zm_617 _)) rfl ((ok_256 194 (by decide)).trans ((ok_238 194 (by decide)).trans ((ok_220 194 (by decide)).trans ((ok_202 194 (by decide)).trans e_184)))) dX12_feed_75 ?_
  refine lv_aload_n hx hb dX12_feed_78 rfl (lv_at hl 2 rfl) ?_
  refine y_get (T := TX12) (N := 212) (ci := 12) hx hb hts (zi_12 _) hown hK hP 0 rfl rfl 195 (by decide) tX12_195 (hts _ (zm_630 _)) rfl ek_255 dX12_feed_79 ?_
  refine lv_iload hx hb dX12_feed_82 (lv_at hl 0 rfl) ?_
  refine lv_bipush (v := 24) hx hb dX12_feed_84 (by decide) ?_
  refine lv_bipush (v := 8) hx hb dX12_feed_86 (by decide) ?_
  refine lv_iload hx hb dX12_feed_88 (lv_at hl 1 rfl) ?_
  refine lv_iconst (v := 4) hx hb dX12_feed_90 (by decide) ?_
  refine lv_irem hx hb dX12_feed_91 (by decide) ?_
  refine lv_topi (fun y_258 ex_257 => ?_)
  obtain rfl : y_258 = 2 := ex_257.trans (by decide)
  refine lv_imul hx hb dX12_feed_92 ?_
  refine lv_topi (fun y_260 ex_259 => ?_)
  obtain rfl : y_260 = 16 := ex_259.trans (by decide)
  refine lv_isub hx hb dX12_feed_93 ?_
  refine lv_topi (fun y_262 ex_261 => ?_)
  obtain rfl : y_262 = 8 := ex_261.trans (by decide)
  refine lv_ishr hx hb dX12_feed_94 ?_
  refine lv_topi (fun y_264 ex_263 => ?_)
  refine lv_i2b hx hb dX12_feed_95 rfl ?_
  refine lv_topi (fun y_265 ex_266 => ?_)
  refine z_bast hx hb hK hP hD hS 1 1 rfl rfl (z_in (by decide)) dX12_feed_96 (fun H locs g_267 ek_268 ok_269 hPn hDn hSn => ?_)
  clear hP hD hS
  have hP : va_P D vwCl [(h0, .inr (12, zf 212 f_254)), (atape, .inl (x 1, 4100, .inl g_267))] H := hPn
  have hD : va_D A [(h0, .inr (12, zf 212 f_254)), (atape, .inl (x 1, 4100, .inl g_267))] := hDn
  have hS := hSn
  clear hPn hDn hSn
  refine lv_aload_n hx hb dX12_feed_97 rfl (lv_at hl 2 rfl) ?_
  refine lv_dup hx hb dX12_feed_98 rfl ?_
  refine y_get (T := TX12) (N := 212) (ci := 12) hx hb hts (zi_12 _) hown hK hP 0 rfl rfl 195 (by decide) tX12_195 (hts _ (zm_630 _)) rfl ek_255 dX12_feed_99 ?_
  refine lv_iconst (v := 1) hx hb dX12_feed_102 (by decide) ?_
  refine lv_iadd hx hb dX12_feed_103 ?_
  refine lv_topi (fun y_271 ex_270 => ?_)
  obtain rfl : y_271 = 15 := ex_270.trans (by decide)
  refine y_put (T := TX12) (N := 212) (ci := 12) hx hb hts (zi_12 _) hown hK hP hD hS 0 rfl rfl 195 (by decide) tX12_195 uX12_195 (hts _ (zm_630 _)) rfl rfl rfl dX12_feed_104 (fun H locs f_272 ek_273 ok_274 hPn hDn hSn => ?_)
  clear hP hD hS
  have hP : va_P D vwCl [(h0, .inr (12, zf 212 f_272)), (atape, .inl (x 1, 4100, .inl g_267))] H := hPn
  have hD : va_D A [(h0, .inr (12, zf 212 f_272)), (atape, .inl (x 1, 4100, .inl g_267))] := hDn
  have hS := hSn
  clear hPn hDn hSn
  refine lv_iinc (v := 15) (lv' := [(6, .int 15), (7, .int n3), (0, .ref h0), (1, .int n0), (2, .int n1), (3, .int n2), (4, .int n3), (5, .int n4)]) hx hb dX12_feed_107 hl (k := 1) rfl (by decide) (by decide) rfl (fun ls hl => ?_)
  refine lv_goto (tgt := 19) hx hb dX12_feed_110 (by decide) ?_
  refine lv_iload hx hb dX12_feed_19 (lv_at hl 0 rfl) ?_
  refine lv_bipush (v := 20) hx hb dX12_feed_21 (by decide) ?_
  refine lv_icmp_ge (tgt := 113) hx hb dX12_feed_23 (by decide) (fun c9 => absurd c9 (by decide)) (fun _ => ?_)
  refine lv_iload hx hb dX12_feed_26 (lv_at hl 0 rfl) ?_
  refine lv_iconst (v := 4) hx hb dX12_feed_28 (by decide) ?_
  refine lv_icmp_ge (tgt := 36) hx hb dX12_feed_29 (by decide) (fun _ => ?_) (fun c9 => absurd (by decide) c9)
  refine lv_iload hx hb dX12_feed_36 (lv_at hl 0 rfl) ?_
  refine lv_bipush (v := 8) hx hb dX12_feed_38 (by decide) ?_
  refine lv_icmp_ge (tgt := 47) hx hb dX12_feed_40 (by decide) (fun _ => ?_) (fun c9 => absurd (by decide) c9)
  refine lv_iload hx hb dX12_feed_47 (lv_at hl 0 rfl) ?_
  refine lv_bipush (v := 12) hx hb dX12_feed_49 (by decide) ?_
  refine lv_icmp_ge (tgt := 58) hx hb dX12_feed_51 (by decide) (fun _ => ?_) (fun c9 => absurd (by decide) c9)
  refine lv_iload hx hb dX12_feed_58 (lv_at hl 0 rfl) ?_
  refine lv_bipush (v := 16) hx hb dX12_feed_60 (by decide) ?_
  refine lv_icmp_ge (tgt := 70) hx hb dX12_feed_62 (by decide) (fun c9 => absurd c9 (by decide)) (fun _ => ?_)
  refine lv_iload hx hb dX12_feed_65 (lv_at hl 6 rfl) ?_
  refine lv_goto (tgt := 72) hx hb dX12_feed_67 (by decide) ?_
  refine lv_istore (lv' := [(7, .int n3), (6, .int 15), (0, .ref h0), (1, .int n0), (2, .int n1), (3, .int n2), (4, .int n3), (5, .int n4)]) hx hb dX12_feed_72 hl (by decide) rfl (fun ls hl => ?_)
  refine lv_aload_n hx hb dX12_feed_74 rfl (lv_at hl 2 rfl) ?_
  have e_275 : f_272 194 = .ref atape := ((ok_274 194 (by decide)).trans ((ok_256 194 (by decide)).trans ((ok_238 194 (by decide)).trans ((ok_220 194 (by decide)).trans ((ok_202 194 (by decide)).trans e_184)))))
  refine y_get (T := TX12) (N := 212) (ci := 12) hx hb hts (zi_12 _) hown hK hP 0 rfl rfl 194 (by decide) tX12_194 (hts _ (zm_617 _)) rfl e_275 dX12_feed_75 ?_
  refine lv_aload_n hx hb dX12_feed_78 rfl (lv_at hl 2 rfl) ?_
  refine y_get (T := TX12) (N := 212) (ci := 12) hx hb hts (zi_12 _) hown hK hP 0 rfl rfl 195 (by decide) tX12_195 (hts _ (zm_630 _)) rfl ek_273 dX12_feed_79 ?_
  refine lv_iload hx hb dX12_feed_82 (lv_at hl 0 rfl) ?_
  refine lv_bipush (v := 24) hx hb dX12_feed_84 (by decide) ?_
  refine lv_bipush (v := 8) hx hb dX12_feed_86 (by decide) ?_
  refine lv_iload hx hb dX12_feed_88 (lv_at hl 1 rfl) ?_
  refine lv_iconst (v := 4) hx hb dX12_feed_90 (by decide) ?_
  refine lv_irem hx hb dX12_feed_91 (by decide) ?_
  refine lv_topi (fun y_277 ex_276 => ?_)
  obtain rfl : y_277 = 3 := ex_276.trans (by decide)
  refine lv_imul hx hb dX12_feed_92 ?_
  refine lv_topi (fun y_279 ex_278 => ?_)
  obtain rfl : y_279 = 24 := ex_278.trans (by decide)
  refine lv_isub hx hb dX12_feed_93 ?_
  refine lv_topi (fun y_281 ex_280 => ?_)
  obtain rfl : y_281 = 0 := ex_280.trans (by decide)
  refine lv_ishr hx hb dX12_feed_94 ?_
  refine lv_topi (fun y_283 ex_282 => ?_)
  refine lv_i2b hx hb dX12_feed_95 rfl ?_
  refine lv_topi (fun y_284 ex_285 => ?_)
  refine z_bast hx hb hK hP hD hS 1 1 rfl rfl (z_in (by decide)) dX12_feed_96 (fun H locs g_286 ek_287 ok_288 hPn hDn hSn => ?_)
  clear hP hD hS
  have hP : va_P D vwCl [(h0, .inr (12, zf 212 f_272)), (atape, .inl (x 1, 4100, .inl g_286))] H := hPn
  have hD : va_D A [(h0, .inr (12, zf 212 f_272)), (atape, .inl (x 1, 4100, .inl g_286))] := hDn
  have hS := hSn
  clear hPn hDn hSn
  refine lv_aload_n hx hb dX12_feed_97 rfl (lv_at hl 2 rfl) ?_
  refine lv_dup hx hb dX12_feed_98 rfl ?_
  refine y_get (T := TX12) (N := 212) (ci := 12) hx hb hts (zi_12 _) hown hK hP 0 rfl rfl 195 (by decide) tX12_195 (hts _ (zm_630 _)) rfl ek_273 dX12_feed_99 ?_
  refine lv_iconst (v := 1) hx hb dX12_feed_102 (by decide) ?_
  refine lv_iadd hx hb dX12_feed_103 ?_
  refine lv_topi (fun y_290 ex_289 => ?_)
  obtain rfl : y_290 = 16 := ex_289.trans (by decide)
  refine y_put (T := TX12) (N := 212) (ci := 12) hx hb hts (zi_12 _) hown hK hP hD hS 0 rfl rfl 195 (by decide) tX12_195 uX12_195 (hts _ (zm_630 _)) rfl rfl rfl dX12_feed_104 (fun H locs f_291 ek_292 ok_293 hPn hDn hSn => ?_)
  clear hP hD hS
  have hP : va_P D vwCl [(h0, .inr (12, zf 212 f_291)), (atape, .inl (x 1, 4100, .inl g_286))] H := hPn
  have hD : va_D A [(h0, .inr (12, zf 212 f_291)), (atape, .inl (x 1, 4100, .inl g_286))] := hDn
  have hS := hSn
  clear hPn hDn hSn
  refine lv_iinc (v := 16) (lv' := [(6, .int 16), (7, .int n3), (0, .ref h0), (1, .int n0), (2, .int n1), (3, .int n2), (4, .int n3), (5, .int n4)]) hx hb dX12_feed_107 hl (k := 1) rfl (by decide) (by decide) rfl (fun ls hl => ?_)
  refine lv_goto (tgt := 19) hx hb dX12_feed_110 (by decide) ?_
  refine lv_iload hx hb dX12_feed_19 (lv_at hl 0 rfl) ?_
  refine lv_bipush (v := 20) hx hb dX12_feed_21 (by decide) ?_
  refine lv_icmp_ge (tgt := 113) hx hb dX12_feed_23 (by decide) (fun c9 => absurd c9 (by decide)) (fun _ => ?_)
  refine lv_iload hx hb dX12_feed_26 (lv_at hl 0 rfl) ?_
  refine lv_iconst (v := 4) hx hb dX12_feed_28 (by decide) ?_
  refine lv_icmp_ge (tgt := 36) hx hb dX12_feed_29 (by decide) (fun _ => ?_) (fun c9 => absurd (by decide) c9)
  refine lv_iload hx hb dX12_feed_36 (lv_at hl 0 rfl) ?_
  refine lv_bipush (v := 8) hx hb dX12_feed_38 (by decide) ?_
  refine lv_icmp_ge (tgt := 47) hx hb dX12_feed_40 (by decide) (fun _ => ?_) (fun c9 => absurd (by decide) c9)
  refine lv_iload hx hb dX12_feed_47 (lv_at hl 0 rfl) ?_
  refine lv_bipush (v := 12) hx hb dX12_feed_49 (by decide) ?_
  refine lv_icmp_ge (tgt := 58) hx hb dX12_feed_51 (by decide) (fun _ => ?_) (fun c9 => absurd (by decide) c9)
  refine lv_iload hx hb dX12_feed_58 (lv_at hl 0 rfl) ?_
  refine lv_bipush (v := 16) hx hb dX12_feed_60 (by decide) ?_
  refine lv_icmp_ge (tgt := 70) hx hb dX12_feed_62 (by decide) (fun _ => ?_) (fun c9 => absurd (by decide) c9)
  refine lv_iload hx hb dX12_feed_70 (lv_at hl 7 rfl) ?_
  refine lv_istore (lv' := [(7, .int n4), (6, .int 16), (0, .ref h0), (1, .int n0), (2, .int n1), (3, .int n2), (4, .int n3), (5, .int n4)]) hx hb dX12_feed_72 hl (by decide) rfl (fun ls hl => ?_)
  refine lv_aload_n hx hb dX12_feed_74 rfl (lv_at hl 2 rfl) ?_
  refine y_get (T := TX12) (N := 212) (ci := 12) hx hb hts (zi_12 _) hown hK hP 0 rfl rfl 194 (by decide) tX12_194 (hts _ (zm_617 _)) rfl ((ok_293 194 (by decide)).trans e_275) dX12_feed_75 ?_
  refine lv_aload_n hx hb dX12_feed_78 rfl (lv_at hl 2 rfl) ?_
  refine y_get (T := TX12) (N := 212) (ci := 12) hx hb hts (zi_12 _) hown hK hP 0 rfl rfl 195 (by decide) tX12_195 (hts _ (zm_630 _)) rfl ek_292 dX12_feed_79 ?_
  refine lv_iload hx hb dX12_feed_82 (lv_at hl 0 rfl) ?_
  refine lv_bipush (v := 24) hx hb dX12_feed_84 (by decide) ?_
  refine lv_bipush (v := 8) hx hb dX12_feed_86 (by decide) ?_
  refine lv_iload hx hb dX12_feed_88 (lv_at hl 1 rfl) ?_
  refine lv_iconst (v := 4) hx hb dX12_feed_90 (by decide) ?_
  refine lv_irem hx hb dX12_feed_91 (by decide) ?_
  refine lv_topi (fun y_295 ex_294 => ?_)
  obtain rfl : y_295 = 0 := ex_294.trans (by decide)
  refine lv_imul hx hb dX12_feed_92 ?_
  refine lv_topi (fun y_297 ex_296 => ?_)
  obtain rfl : y_297 = 0 := ex_296.trans (by decide)
  refine lv_isub hx hb dX12_feed_93 ?_
  refine lv_topi (fun y_299 ex_298 => ?_)
  obtain rfl : y_299 = 24 := ex_298.trans (by decide)
  refine lv_ishr hx hb dX12_feed_94 ?_
  refine lv_topi (fun y_301 ex_300 => ?_)
  refine lv_i2b hx hb dX12_feed_95 rfl ?_
  refine lv_topi (fun y_302 ex_303 => ?_)
  refine z_bast hx hb hK hP hD hS 1 1 rfl rfl (z_in (by decide)) dX12_feed_96 (fun H locs g_304 ek_305 ok_306 hPn hDn hSn => ?_)
  clear hP hD hS
  have hP : va_P D vwCl [(h0, .inr (12, zf 212 f_291)), (atape, .inl (x 1, 4100, .inl g_304))] H := hPn
  have hD : va_D A [(h0, .inr (12, zf 212 f_291)), (atape, .inl (x 1, 4100, .inl g_304))] := hDn
  have hS := hSn
  clear hPn hDn hSn
  refine lv_aload_n hx hb dX12_feed_97 rfl (lv_at hl 2 rfl) ?_
  refine lv_dup hx hb dX12_feed_98 rfl ?_
  refine y_get (T := TX12) (N := 212) (ci := 12) hx hb hts (zi_12 _) hown hK hP 0 rfl rfl 195 (by decide) tX12_195 (hts _ (zm_630 _)) rfl ek_292 dX12_feed_99 ?_
  refine lv_iconst (v := 1) hx hb dX12_feed_102 (by decide) ?_
  refine lv_iadd hx hb dX12_feed_103 ?_
  refine lv_topi (fun y_308 ex_307 => ?_)
  obtain rfl : y_308 = 17 := ex_307.trans (by decide)
  refine y_put (T := TX12) (N := 212) (ci := 12) hx hb hts (zi_12 _) hown hK hP hD hS 0 rfl rfl 195 (by decide) tX12_195 uX12_195 (hts _ (zm_630 _)) rfl rfl rfl dX12_feed_104 (fun H locs f_309 ek_310 ok_311 hPn hDn hSn => ?_)
  clear hP hD hS
  have hP : va_P D vwCl [(h0, .inr (12, zf 212 f_309)), (atape, .inl (x 1, 4100, .inl g_304))] H := hPn
  have hD : va_D A [(h0, .inr (12, zf 212 f_309)), (atape, .inl (x 1, 4100, .inl g_304))] := hDn
  have hS := hSn
  clear hPn hDn hSn
  refine lv_iinc (v := 17) (lv' := [(6, .int 17), (7, .int n4), (0, .ref h0), (1, .int n0), (2, .int n1), (3, .int n2), (4, .int n3), (5, .int n4)]) hx hb dX12_feed_107 hl (k := 1) rfl (by decide) (by decide) rfl (fun ls hl => ?_)
  refine lv_goto (tgt := 19) hx hb dX12_feed_110 (by decide) ?_
  refine lv_iload hx hb dX12_feed_19 (lv_at hl 0 rfl) ?_
  refine lv_bipush (v := 20) hx hb dX12_feed_21 (by decide) ?_
  refine lv_icmp_ge (tgt := 113) hx hb dX12_feed_23 (by decide) (fun c9 => absurd c9 (by decide)) (fun _ => ?_)
  refine lv_iload hx hb dX12_feed_26 (lv_at hl 0 rfl) ?_
  refine lv_iconst (v := 4) hx hb dX12_feed_28 (by decide) ?_
  refine lv_icmp_ge (tgt := 36) hx hb dX12_feed_29 (by decide) (fun _ => ?_) (fun c9 => absurd (by decide) c9)
  refine lv_iload hx hb dX12_feed_36 (lv_at hl 0 rfl) ?_
  refine lv_bipush (v := 8) hx hb dX12_feed_38 (by decide) ?_
  refine lv_icmp_ge (tgt := 47) hx hb dX12_feed_40 (by decide) (fun _ => ?_) (fun c9 => absurd (by decide) c9)
  refine lv_iload hx hb dX12_feed_47 (lv_at hl 0 rfl) ?_
  refine lv_bipush (v := 12) hx hb dX12_feed_49 (by decide) ?_
  refine lv_icmp_ge (tgt := 58) hx hb dX12_feed_51 (by decide) (fun _ => ?_) (fun c9 => absurd (by decide) c9)
  refine lv_iload hx hb dX12_feed_58 (lv_at hl 0 rfl) ?_
  refine lv_bipush (v := 16) hx hb dX12_feed_60 (by decide) ?_
  refine lv_icmp_ge (tgt := 70) hx hb dX12_feed_62 (by decide) (fun _ => ?_) (fun c9 => absurd (by decide) c9)
  refine lv_iload hx hb dX12_feed_70 (lv_at hl 7 rfl) ?_
  refine lv_istore (lv' := [(7, .int n4), (6, .int 17), (0, .ref h0), (1, .int n0), (2, .int n1), (3, .int n2), (4, .int n3), (5, .int n4)]) hx hb dX12_feed_72 hl (by decide) rfl (fun ls hl => ?_)
  refine lv_aload_n hx hb dX12_feed_74 rfl (lv_at hl 2 rfl) ?_
  refine y_get (T := TX12) (N := 212) (ci := 12) hx hb hts (zi_12 _) hown hK hP 0 rfl rfl 194 (by decide) tX12_194 (hts _ (zm_617 _)) rfl ((ok_311 194 (by decide)).trans ((ok_293 194 (by decide)).trans e_275)) dX12_feed_75 ?_
  refine lv_aload_n hx hb dX12_feed_78 rfl (lv_at hl 2 rfl) ?_
  refine y_get (T := TX12) (N := 212) (ci := 12) hx hb hts (zi_12 _) hown hK hP 0 rfl rfl 195 (by decide) tX12_195 (hts _ (zm_630 _)) rfl ek_310 dX12_feed_79 ?_
  refine lv_iload hx hb dX12_feed_82 (lv_at hl 0 rfl) ?_
  refine lv_bipush (v := 24) hx hb dX12_feed_84 (by decide) ?_
  refine lv_bipush (v := 8) hx hb dX12_feed_86 (by decide) ?_
  refine lv_iload hx hb dX12_feed_88 (lv_at hl 1 rfl) ?_
  refine lv_iconst (v := 4) hx hb dX12_feed_90 (by decide) ?_
  refine lv_irem hx hb dX12_feed_91 (by decide) ?_
  refine lv_topi (fun y_313 ex_312 => ?_)
  obtain rfl : y_313 = 1 := ex_312.trans (by decide)
  refine lv_imul hx hb dX12_feed_92 ?_
  refine lv_topi (fun y_315 ex_314 => ?_)
  obtain rfl : y_315 = 8 := ex_314.trans (by decide)
  refine lv_isub hx hb dX12_feed_93 ?_
  refine lv_topi (fun y_317 ex_316 => ?_)
  obtain rfl : y_317 = 16 := ex_316.trans (by decide)
  refine lv_ishr hx hb dX12_feed_94 ?_
  refine lv_topi (fun y_319 ex_318 => ?_)
  refine lv_i2b hx hb dX12_feed_95 rfl ?_
  refine lv_topi (fun y_320 ex_321 => ?_)
  refine z_bast hx hb hK hP hD hS 1 1 rfl rfl (z_in (by decide)) dX12_feed_96 (fun H locs g_322 ek_323 ok_324 hPn hDn hSn => ?_)
  clear hP hD hS
  have hP : va_P D vwCl [(h0, .inr (12, zf 212 f_309)), (atape, .inl (x 1, 4100, .inl g_322))] H := hPn
  have hD : va_D A [(h0, .inr (12, zf 212 f_309)), (atape, .inl (x 1, 4100, .inl g_322))] := hDn
  have hS := hSn
  clear hPn hDn hSn
  refine lv_aload_n hx hb dX12_feed_97 rfl (lv_at hl 2 rfl) ?_
  refine lv_dup hx hb dX12_feed_98 rfl ?_
  refine y_get (T := TX12) (N := 212) (ci := 12) hx hb hts (zi_12 _) hown hK hP 0 rfl rfl 195 (by decide) tX12_195 (hts _ (zm_630 _)) rfl ek_310 dX12_feed_99 ?_
  refine lv_iconst (v := 1) hx hb dX12_feed_102 (by decide) ?_
  refine lv_iadd hx hb dX12_feed_103 ?_
  refine lv_topi (fun y_326 ex_325 => ?_)
  obtain rfl : y_326 = 18 := ex_325.trans (by decide)
  refine y_put (T := TX12) (N := 212) (ci := 12) hx hb hts (zi_12 _) hown hK hP hD hS 0 rfl rfl 195 (by decide) tX12_195 uX12_195 (hts _ (zm_630 _)) rfl rfl rfl dX12_feed_104 (fun H locs f_327 ek_328 ok_329 hPn hDn hSn => ?_)
  clear hP hD hS
  have hP : va_P D vwCl [(h0, .inr (12, zf 212 f_327)), (atape, .inl (x 1, 4100, .inl g_322))] H := hPn
  have hD : va_D A [(h0, .inr (12, zf 212 f_327)), (atape, .inl (x 1, 4100, .inl g_322))] := hDn
  have hS := hSn
  clear hPn hDn hSn
  refine lv_iinc (v := 18) (lv' := [(6, .int 18), (7, .int n4), (0, .ref h0), (1, .int n0), (2, .int n1), (3, .int n2), (4, .int n3), (5, .int n4)]) hx hb dX12_feed_107 hl (k := 1) rfl (by decide) (by decide) rfl (fun ls hl => ?_)
  refine lv_goto (tgt := 19) hx hb dX12_feed_110 (by decide) ?_
  refine lv_iload hx hb dX12_feed_19 (lv_at hl 0 rfl) ?_
  refine lv_bipush (v := 20) hx hb dX12_feed_21 (by decide) ?_
  refine lv_icmp_ge (tgt := 113) hx hb dX12_feed_23 (by decide) (fun c9 => absurd c9 (by decide)) (fun _ => ?_)
  refine lv_iload hx hb dX12_feed_26 (lv_at hl 0 rfl) ?_
  refine lv_iconst (v := 4) hx hb dX12_feed_28 (by decide) ?_
  refine lv_icmp_ge (tgt := 36) hx hb dX12_feed_29 (by decide) (fun _ => ?_) (fun c9 => absurd (by decide) c9)
  refine lv_iload hx hb dX12_feed_36 (lv_at hl 0 rfl) ?_
  refine lv_bipush (v := 8) hx hb dX12_feed_38 (by decide) ?_
  refine lv_icmp_ge (tgt := 47) hx hb dX12_feed_40 (by decide) (fun _ => ?_) (fun c9 => absurd (by decide) c9)
  refine lv_iload hx hb dX12_feed_47 (lv_at hl 0 rfl) ?_
  refine lv_bipush (v := 12) hx hb dX12_feed_49 (by decide) ?_
  refine lv_icmp_ge (tgt := 58) hx hb dX12_feed_51 (by decide) (fun _ => ?_) (fun c9 => absurd (by decide) c9)
  refine lv_iload hx hb dX12_feed_58 (lv_at hl 0 rfl) ?_
  refine lv_bipush (v := 16) hx hb dX12_feed_60 (by decide) ?_
  refine lv_icmp_ge (tgt := 70) hx hb dX12_feed_62 (by decide) (fun _ => ?_) (fun c9 => absurd (by decide) c9)
  refine lv_iload hx hb dX12_feed_70 (lv_at hl 7 rfl) ?_
  refine lv_istore (lv' := [(7, .int n4), (6, .int 18), (0, .ref h0), (1, .int n0), (2, .int n1), (3, .int n2), (4, .int n3), (5, .int n4)]) hx hb dX12_feed_72 hl (by decide) rfl (fun ls hl => ?_)
  refine lv_aload_n hx hb dX12_feed_74 rfl (lv_at hl 2 rfl) ?_
  refine y_get (T := TX12) (N := 212) (ci := 12) hx hb hts (zi_12 _) hown hK hP 0 rfl rfl 194 (by decide) tX12_194 (hts _ (zm_617 _)) rfl ((ok_329 194 (by decide)).trans ((ok_311 194 (by decide)).trans ((ok_293 194 (by decide)).trans e_275))) dX12_feed_75 ?_
  refine lv_aload_n hx hb dX12_feed_78 rfl (lv_at hl 2 rfl) ?_
  refine y_get (T := TX12) (N := 212) (ci := 12) hx hb hts (zi_12 _) hown hK hP 0 rfl rfl 195 (by decide) tX12_195 (hts _ (zm_630 _)) rfl ek_328 dX12_feed_79 ?_
  refine lv_iload hx hb dX12_feed_82 (lv_at hl 0 rfl) ?_
  refine lv_bipush (v := 24) hx hb dX12_feed_84 (by decide) ?_
  refine lv_bipush (v := 8) hx hb dX12_feed_86 (by decide) ?_
  refine lv_iload hx hb dX12_feed_88 (lv_at hl 1 rfl) ?_
  refine lv_iconst (v := 4) hx hb dX12_feed_90 (by decide) ?_
  refine lv_irem hx hb dX12_feed_91 (by decide) ?_
  refine lv_topi (fun y_331 ex_330 => ?_)
  obtain rfl : y_331 = 2 := ex_330.trans (by decide)
  refine lv_imul hx hb dX12_feed_92 ?_
  refine lv_topi (fun y_333 ex_332 => ?_)
  obtain rfl : y_333 = 16 := ex_332.trans (by decide)
  refine lv_isub hx hb dX12_feed_93 ?_
  refine lv_topi (fun y_335 ex_334 => ?_)
  obtain rfl : y_335 = 8 := ex_334.trans (by decide)
  refine lv_ishr hx hb dX12_feed_94 ?_
  refine lv_topi (fun y_337 ex_336 => ?_)
  refine lv_i2b hx hb dX12_feed_95 rfl ?_
  refine lv_topi (fun y_338 ex_339 => ?_)
  refine z_bast hx hb hK hP hD hS 1 1 rfl rfl (z_in (by decide)) dX12_feed_96 (fun H locs g_340 ek_341 ok_342 hPn hDn hSn => ?_)
  clear hP hD hS
  have hP : va_P D vwCl [(h0, .inr (12, zf 212 f_327)), (atape, .inl (x 1, 4100, .inl g_340))] H := hPn
  have hD : va_D A [(h0, .inr (12, zf 212 f_327)), (atape, .inl (x 1, 4100, .inl g_340))] := hDn
  have hS := hSn
  clear hPn hDn hSn
  refine lv_aload_n hx hb dX12_feed_97 rfl (lv_at hl 2 rfl) ?_
  refine lv_dup hx hb dX12_feed_98 rfl ?_
  refine y_get (T := TX12) (N := 212) (ci := 12) hx hb hts (zi_12 _) hown hK hP 0 rfl rfl 195 (by decide) tX12_195 (hts _ (zm_630 _)) rfl ek_328 dX12_feed_99 ?_
  refine lv_iconst (v := 1) hx hb dX12_feed_102 (by decide) ?_
  refine lv_iadd hx hb dX12_feed_103 ?_
  refine lv_topi (fun y_344 ex_343 => ?_)
  obtain rfl : y_344 = 19 := ex_343.trans (by decide)
  refine y_put (T := TX12) (N := 212) (ci := 12) hx hb hts (zi_12 _) hown hK hP hD hS 0 rfl rfl 195 (by decide) tX12_195 uX12_195 (hts _ (zm_630 _)) rfl rfl rfl dX12_feed_104 (fun H locs f_345 ek_346 ok_347 hPn hDn hSn => ?_)
  clear hP hD hS
  have hP : va_P D vwCl [(h0, .inr (12, zf 212 f_345)), (atape, .inl (x 1, 4100, .inl g_340))] H := hPn
  have hD : va_D A [(h0, .inr (12, zf 212 f_345)), (atape, .inl (x 1, 4100, .inl g_340))] := hDn
  have hS := hSn
  clear hPn hDn hSn
  refine lv_iinc (v := 19) (lv' := [(6, .int 19), (7, .int n4), (0, .ref h0), (1, .int n0), (2, .int n1), (3, .int n2), (4, .int n3), (5, .int n4)]) hx hb dX12_feed_107 hl (k := 1) rfl (by decide) (by decide) rfl (fun ls hl => ?_)
  refine lv_goto (tgt := 19) hx hb dX12_feed_110 (by decide) ?_
  refine lv_iload hx hb dX12_feed_19 (lv_at hl 0 rfl) ?_
  refine lv_bipush (v := 20) hx hb dX12_feed_21 (by decide) ?_
  refine lv_icmp_ge (tgt := 113) hx hb dX12_feed_23 (by decide) (fun c9 => absurd c9 (by decide)) (fun _ => ?_)
  refine lv_iload hx hb dX12_feed_26 (lv_at hl 0 rfl) ?_
  refine lv_iconst (v := 4) hx hb dX12_feed_28 (by decide) ?_
  refine lv_icmp_ge (tgt := 36) hx hb dX12_feed_29 (by decide) (fun _ => ?_) (fun c9 => absurd (by decide) c9)
  refine lv_iload hx hb dX12_feed_36 (lv_at hl 0 rfl) ?_
  refine lv_bipush (v := 8) hx hb dX12_feed_38 (by decide) ?_
  refine lv_icmp_ge (tgt := 47) hx hb dX12_feed_40 (by decide) (fun _ => ?_) (fun c9 => absurd (by decide) c9)
  refine lv_iload hx hb dX12_feed_47 (lv_at hl 0 rfl) ?_
  refine lv_bipush (v := 12) hx hb dX12_feed_49 (by decide) ?_
  refine lv_icmp_ge (tgt := 58) hx hb dX12_feed_51 (by decide) (fun _ => ?_) (fun c9 => absurd (by decide) c9)
  refine lv_iload hx hb dX12_feed_58 (lv_at hl 0 rfl) ?_
  refine lv_bipush (v := 16) hx hb dX12_feed_60 (by decide) ?_
  refine lv_icmp_ge (tgt := 70) hx hb dX12_feed_62 (by decide) (fun _ => ?_) (fun c9 => absurd (by decide) c9)
  refine lv_iload hx hb dX12_feed_70 (lv_at hl 7 rfl) ?_
  refine lv_istore (lv' := [(7, .int n4), (6, .int 19), (0, .ref h0), (1, .int n0), (2, .int n1), (3, .int n2), (4, .int n3), (5, .int n4)]) hx hb dX12_feed_72 hl (by decide) rfl (fun ls hl => ?_)
  refine lv_aload_n hx hb dX12_feed_74 rfl (lv_at hl 2 rfl) ?_
  refine y_get (T := TX12) (N := 212) (ci := 12) hx hb hts (zi_12 _) hown hK hP 0 rfl rfl 194 (by decide) tX12_194 (hts _ (zm_617 _)) rfl ((ok_347 194 (by decide)).trans ((ok_329 194 (by decide)).trans ((ok_311 194 (by decide)).trans ((ok_293 194 (by decide)).trans e_275)))) dX12_feed_75 ?_
  refine lv_aload_n hx hb dX12_feed_78 rfl (lv_at hl 2 rfl) ?_
  refine y_get (T := TX12) (N := 212) (ci := 12) hx hb hts (zi_12 _) hown hK hP 0 rfl rfl 195 (by decide) tX12_195 (hts _ (zm_630 _)) rfl ek_346 dX12_feed_79 ?_
  refine lv_iload hx hb dX12_feed_82 (lv_at hl 0 rfl) ?_
  refine lv_bipush (v := 24) hx hb dX12_feed_84 (by decide) ?_
  refine lv_bipush (v := 8) hx hb dX12_feed_86 (by decide) ?_
  refine lv_iload hx hb dX12_feed_88 (lv_at hl 1 rfl) ?_
  refine lv_iconst (v := 4) hx hb dX12_feed_90 (by decide) ?_
  refine lv_irem hx hb dX12_feed_91 (by decide) ?_
  refine lv_topi (fun y_349 ex_348 => ?_)
  obtain rfl : y_349 = 3 := ex_348.trans (by decide)
  refine lv_imul hx hb dX12_feed_92 ?_
  refine lv_topi (fun y_351 ex_350 => ?_)
  obtain rfl : y_351 = 24 := ex_350.trans (by decide)
  refine lv_isub hx hb dX12_feed_93 ?_
  refine lv_topi (fun y_353 ex_352 => ?_)
  obtain rfl : y_353 = 0 := ex_352.trans (by decide)
  refine lv_ishr hx hb dX12_feed_94 ?_
  refine lv_topi (fun y_355 ex_354 => ?_)
  refine lv_i2b hx hb dX12_feed_95 rfl ?_
  refine lv_topi (fun y_356 ex_357 => ?_)
  refine z_bast hx hb hK hP hD hS 1 1 rfl rfl (z_in (by decide)) dX12_feed_96 (fun H locs g_358 ek_359 ok_360 hPn hDn hSn => ?_)
  clear hP hD hS
  have hP : va_P D vwCl [(h0, .inr (12, zf 212 f_345)), (atape, .inl (x 1, 4100, .inl g_358))] H := hPn
  have hD : va_D A [(h0, .inr (12, zf 212 f_345)), (atape, .inl (x 1, 4100, .inl g_358))] := hDn
  have hS := hSn
  clear hPn hDn hSn
  refine lv_aload_n hx hb dX12_feed_97 rfl (lv_at hl 2 rfl) ?_
  refine lv_dup hx hb dX12_feed_98 rfl ?_
  refine y_get (T := TX12) (N := 212) (ci := 12) hx hb hts (zi_12 _) hown hK hP 0 rfl rfl 195 (by decide) tX12_195 (hts _ (zm_630 _)) rfl ek_346 dX12_feed_99 ?_
  refine lv_iconst (v := 1) hx hb dX12_feed_102 (by decide) ?_
  refine lv_iadd hx hb dX12_feed_103 ?_
  refine lv_topi (fun y_362 ex_361 => ?_)
  obtain rfl : y_362 = 20 := ex_361.trans (by decide)
  refine y_put (T := TX12) (N := 212) (ci := 12) hx hb hts (zi_12 _) hown hK hP hD hS 0 rfl rfl 195 (by decide) tX12_195 uX12_195 (hts _ (zm_630 _)) rfl rfl rfl dX12_feed_104 (fun H locs f_363 ek_364 ok_365 hPn hDn hSn => ?_)
  clear hP hD hS
  have hP : va_P D vwCl [(h0, .inr (12, zf 212 f_363)), (atape, .inl (x 1, 4100, .inl g_358))] H := hPn
  have hD : va_D A [(h0, .inr (12, zf 212 f_363)), (atape, .inl (x 1, 4100, .inl g_358))] := hDn
  have hS := hSn
  clear hPn hDn hSn
  refine lv_iinc (v := 20) (lv' := [(6, .int 20), (7, .int n4), (0, .ref h0), (1, .int n0), (2, .int n1), (3, .int n2), (4, .int n3), (5, .int n4)]) hx hb dX12_feed_107 hl (k := 1) rfl (by decide) (by decide) rfl (fun ls hl => ?_)
  refine lv_goto (tgt := 19) hx hb dX12_feed_110 (by decide) ?_
  refine lv_iload hx hb dX12_feed_19 (lv_at hl 0 rfl) ?_
  refine lv_bipush (v := 20) hx hb dX12_feed_21 (by decide) ?_
  refine lv_icmp_ge (tgt := 113) hx hb dX12_feed_23 (by decide) (fun _ => ?_) (fun c9 => absurd (by decide) c9)
  refine lv_aload_n hx hb dX12_feed_113 rfl (lv_at hl 2 rfl) ?_
  refine y_get (T := TX12) (N := 212) (ci := 12) hx hb hts (zi_12 _) hown hK hP 0 rfl rfl 195 (by decide) tX12_195 (hts _ (zm_630 _)) rfl ek_364 dX12_feed_114 ?_
  exact W.iret (v := 20) hx hb hr (fun t ht hW => ⟨⟨_, (), rfl, rfl, trivial⟩, hS.F ht⟩) hS.2.2 dX12_feed_117
