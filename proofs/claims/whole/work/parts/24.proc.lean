theorem dX3_begin_0 : decode cX3_begin 0 = .ok (.aload_n 0, 1) := by decide +kernel
theorem dX3_begin_1 : decode cX3_begin 1 = .ok (.iload_n 1, 1) := by decide +kernel
theorem dX3_begin_2 : decode cX3_begin 2 = .ok (.putfield 16, 3) := by decide +kernel
theorem dX3_begin_5 : decode cX3_begin 5 = .ok (.aload_n 0, 1) := by decide +kernel
theorem dX3_begin_6 : decode cX3_begin 6 = .ok (.lload_n 2, 1) := by decide +kernel
theorem dX3_begin_7 : decode cX3_begin 7 = .ok (.putfield 20, 3) := by decide +kernel
theorem dX3_begin_10 : decode cX3_begin 10 = .ok (.aload_n 0, 1) := by decide +kernel
theorem dX3_begin_11 : decode cX3_begin 11 = .ok (.iconst 0, 1) := by decide +kernel
theorem dX3_begin_12 : decode cX3_begin 12 = .ok (.putfield 24, 3) := by decide +kernel
theorem dX3_begin_15 : decode cX3_begin 15 = .ok (.aload_n 0, 1) := by decide +kernel
theorem dX3_begin_16 : decode cX3_begin 16 = .ok (.iconst 0, 1) := by decide +kernel
theorem dX3_begin_17 : decode cX3_begin 17 = .ok (.putfield 27, 3) := by decide +kernel
theorem dX3_begin_20 : decode cX3_begin 20 = .ok (.aload_n 0, 1) := by decide +kernel
theorem dX3_begin_21 : decode cX3_begin 21 = .ok (.iconst 0, 1) := by decide +kernel
theorem dX3_begin_22 : decode cX3_begin 22 = .ok (.putfield 30, 3) := by decide +kernel
theorem dX3_begin_25 : decode cX3_begin 25 = .ok (.aload_n 0, 1) := by decide +kernel
theorem dX3_begin_26 : decode cX3_begin 26 = .ok (.iconst 0, 1) := by decide +kernel
theorem dX3_begin_27 : decode cX3_begin 27 = .ok (.putfield 33, 3) := by decide +kernel
theorem dX3_begin_30 : decode cX3_begin 30 = .ok (.aload_n 0, 1) := by decide +kernel
theorem dX3_begin_31 : decode cX3_begin 31 = .ok (.iconst 0, 1) := by decide +kernel
theorem dX3_begin_32 : decode cX3_begin 32 = .ok (.putfield 36, 3) := by decide +kernel
theorem dX3_begin_35 : decode cX3_begin 35 = .ok (.aload_n 0, 1) := by decide +kernel
theorem dX3_begin_36 : decode cX3_begin 36 = .ok (.iconst 0, 1) := by decide +kernel
theorem dX3_begin_37 : decode cX3_begin 37 = .ok (.putfield 40, 3) := by decide +kernel
theorem dX3_begin_40 : decode cX3_begin 40 = .ok (.return_, 1) := by decide +kernel
theorem dX7_begin_0 : decode cX7_begin 0 = .ok (.aload_n 0, 1) := by decide +kernel
theorem dX7_begin_1 : decode cX7_begin 1 = .ok (.iconst 0, 1) := by decide +kernel
theorem dX7_begin_2 : decode cX7_begin 2 = .ok (.putfield 46, 3) := by decide +kernel
theorem dX7_begin_5 : decode cX7_begin 5 = .ok (.aload_n 0, 1) := by decide +kernel
theorem dX7_begin_6 : decode cX7_begin 6 = .ok (.iconst 0, 1) := by decide +kernel
theorem dX7_begin_7 : decode cX7_begin 7 = .ok (.putfield 50, 3) := by decide +kernel
theorem dX7_begin_10 : decode cX7_begin 10 = .ok (.aload_n 0, 1) := by decide +kernel
theorem dX7_begin_11 : decode cX7_begin 11 = .ok (.iconst 0, 1) := by decide +kernel
theorem dX7_begin_12 : decode cX7_begin 12 = .ok (.putfield 53, 3) := by decide +kernel
theorem dX7_begin_15 : decode cX7_begin 15 = .ok (.aload_n 0, 1) := by decide +kernel
theorem dX7_begin_16 : decode cX7_begin 16 = .ok (.iconst 0, 1) := by decide +kernel
theorem dX7_begin_17 : decode cX7_begin 17 = .ok (.putfield 56, 3) := by decide +kernel
theorem dX7_begin_20 : decode cX7_begin 20 = .ok (.aload_n 0, 1) := by decide +kernel
theorem dX7_begin_21 : decode cX7_begin 21 = .ok (.getfield 42, 3) := by decide +kernel
theorem dX7_begin_24 : decode cX7_begin 24 = .ok (.invokevirtual 59, 3) := by decide +kernel
theorem dX7_begin_27 : decode cX7_begin 27 = .ok (.aload_n 0, 1) := by decide +kernel
theorem dX7_begin_28 : decode cX7_begin 28 = .ok (.iconst 0, 1) := by decide +kernel
theorem dX7_begin_29 : decode cX7_begin 29 = .ok (.putfield 62, 3) := by decide +kernel
theorem dX7_begin_32 : decode cX7_begin 32 = .ok (.aload_n 0, 1) := by decide +kernel
theorem dX7_begin_33 : decode cX7_begin 33 = .ok (.iconst (-1), 1) := by decide +kernel
theorem dX7_begin_34 : decode cX7_begin 34 = .ok (.putfield 65, 3) := by decide +kernel
theorem dX7_begin_37 : decode cX7_begin 37 = .ok (.aload_n 0, 1) := by decide +kernel
theorem dX7_begin_38 : decode cX7_begin 38 = .ok (.iconst 0, 1) := by decide +kernel
theorem dX7_begin_39 : decode cX7_begin 39 = .ok (.putfield 68, 3) := by decide +kernel
theorem dX7_begin_42 : decode cX7_begin 42 = .ok (.aload_n 0, 1) := by decide +kernel
theorem dX7_begin_43 : decode cX7_begin 43 = .ok (.iconst 0, 1) := by decide +kernel
theorem dX7_begin_44 : decode cX7_begin 44 = .ok (.putfield 71, 3) := by decide +kernel
theorem dX7_begin_47 : decode cX7_begin 47 = .ok (.aload_n 0, 1) := by decide +kernel
theorem dX7_begin_48 : decode cX7_begin 48 = .ok (.aconst_null, 1) := by decide +kernel
theorem dX7_begin_49 : decode cX7_begin 49 = .ok (.putfield 75, 3) := by decide +kernel
theorem dX7_begin_52 : decode cX7_begin 52 = .ok (.return_, 1) := by decide +kernel
theorem dX10_begin_0 : decode cX10_begin 0 = .ok (.aload_n 0, 1) := by decide +kernel
theorem dX10_begin_1 : decode cX10_begin 1 = .ok (.iconst 0, 1) := by decide +kernel
theorem dX10_begin_2 : decode cX10_begin 2 = .ok (.putfield 90, 3) := by decide +kernel
theorem dX10_begin_5 : decode cX10_begin 5 = .ok (.aload_n 0, 1) := by decide +kernel
theorem dX10_begin_6 : decode cX10_begin 6 = .ok (.iconst 0, 1) := by decide +kernel
theorem dX10_begin_7 : decode cX10_begin 7 = .ok (.putfield 93, 3) := by decide +kernel
theorem dX10_begin_10 : decode cX10_begin 10 = .ok (.aload_n 0, 1) := by decide +kernel
theorem dX10_begin_11 : decode cX10_begin 11 = .ok (.iconst 0, 1) := by decide +kernel
theorem dX10_begin_12 : decode cX10_begin 12 = .ok (.putfield 96, 3) := by decide +kernel
theorem dX10_begin_15 : decode cX10_begin 15 = .ok (.aload_n 0, 1) := by decide +kernel
theorem dX10_begin_16 : decode cX10_begin 16 = .ok (.iconst 0, 1) := by decide +kernel
theorem dX10_begin_17 : decode cX10_begin 17 = .ok (.putfield 99, 3) := by decide +kernel
theorem dX10_begin_20 : decode cX10_begin 20 = .ok (.aload_n 0, 1) := by decide +kernel
theorem dX10_begin_21 : decode cX10_begin 21 = .ok (.iconst 0, 1) := by decide +kernel
theorem dX10_begin_22 : decode cX10_begin 22 = .ok (.putfield 102, 3) := by decide +kernel
theorem dX10_begin_25 : decode cX10_begin 25 = .ok (.aload_n 0, 1) := by decide +kernel
theorem dX10_begin_26 : decode cX10_begin 26 = .ok (.iconst 0, 1) := by decide +kernel
theorem dX10_begin_27 : decode cX10_begin 27 = .ok (.putfield 105, 3) := by decide +kernel
theorem dX10_begin_30 : decode cX10_begin 30 = .ok (.aload_n 0, 1) := by decide +kernel
theorem dX10_begin_31 : decode cX10_begin 31 = .ok (.getfield 72, 3) := by decide +kernel
theorem dX10_begin_34 : decode cX10_begin 34 = .ok (.iconst 0, 1) := by decide +kernel
theorem dX10_begin_35 : decode cX10_begin 35 = .ok (.lconst 0, 1) := by decide +kernel
theorem dX10_begin_36 : decode cX10_begin 36 = .ok (.invokevirtual 108, 3) := by decide +kernel
theorem dX10_begin_39 : decode cX10_begin 39 = .ok (.aload_n 0, 1) := by decide +kernel
theorem dX10_begin_40 : decode cX10_begin 40 = .ok (.getfield 79, 3) := by decide +kernel
theorem dX10_begin_43 : decode cX10_begin 43 = .ok (.invokevirtual 112, 3) := by decide +kernel
theorem dX10_begin_46 : decode cX10_begin 46 = .ok (.return_, 1) := by decide +kernel
theorem dX5_begin_0 : decode cX5_begin 0 = .ok (.aload_n 0, 1) := by decide +kernel
theorem dX5_begin_1 : decode cX5_begin 1 = .ok (.iload_n 1, 1) := by decide +kernel
theorem dX5_begin_2 : decode cX5_begin 2 = .ok (.putfield 24, 3) := by decide +kernel
theorem dX5_begin_5 : decode cX5_begin 5 = .ok (.aload_n 0, 1) := by decide +kernel
theorem dX5_begin_6 : decode cX5_begin 6 = .ok (.aload_n 2, 1) := by decide +kernel
theorem dX5_begin_7 : decode cX5_begin 7 = .ok (.putfield 28, 3) := by decide +kernel
theorem dX5_begin_10 : decode cX5_begin 10 = .ok (.aload_n 0, 1) := by decide +kernel
theorem dX5_begin_11 : decode cX5_begin 11 = .ok (.iconst 0, 1) := by decide +kernel
theorem dX5_begin_12 : decode cX5_begin 12 = .ok (.putfield 32, 3) := by decide +kernel
theorem dX5_begin_15 : decode cX5_begin 15 = .ok (.aload_n 0, 1) := by decide +kernel
theorem dX5_begin_16 : decode cX5_begin 16 = .ok (.iconst 0, 1) := by decide +kernel
theorem dX5_begin_17 : decode cX5_begin 17 = .ok (.putfield 35, 3) := by decide +kernel
theorem dX5_begin_20 : decode cX5_begin 20 = .ok (.aload_n 0, 1) := by decide +kernel
theorem dX5_begin_21 : decode cX5_begin 21 = .ok (.lconst 0, 1) := by decide +kernel
theorem dX5_begin_22 : decode cX5_begin 22 = .ok (.putfield 38, 3) := by decide +kernel
theorem dX5_begin_25 : decode cX5_begin 25 = .ok (.aload_n 0, 1) := by decide +kernel
theorem dX5_begin_26 : decode cX5_begin 26 = .ok (.iconst 0, 1) := by decide +kernel
theorem dX5_begin_27 : decode cX5_begin 27 = .ok (.putfield 42, 3) := by decide +kernel
theorem dX5_begin_30 : decode cX5_begin 30 = .ok (.aload_n 0, 1) := by decide +kernel
theorem dX5_begin_31 : decode cX5_begin 31 = .ok (.iconst 0, 1) := by decide +kernel
theorem dX5_begin_32 : decode cX5_begin 32 = .ok (.putfield 45, 3) := by decide +kernel
theorem dX5_begin_35 : decode cX5_begin 35 = .ok (.aload_n 0, 1) := by decide +kernel
theorem dX5_begin_36 : decode cX5_begin 36 = .ok (.iconst 0, 1) := by decide +kernel
theorem dX5_begin_37 : decode cX5_begin 37 = .ok (.putfield 48, 3) := by decide +kernel
theorem dX5_begin_40 : decode cX5_begin 40 = .ok (.aload_n 0, 1) := by decide +kernel
theorem dX5_begin_41 : decode cX5_begin 41 = .ok (.iconst 0, 1) := by decide +kernel
theorem dX5_begin_42 : decode cX5_begin 42 = .ok (.putfield 51, 3) := by decide +kernel
theorem dX5_begin_45 : decode cX5_begin 45 = .ok (.aload_n 0, 1) := by decide +kernel
theorem dX5_begin_46 : decode cX5_begin 46 = .ok (.iconst 0, 1) := by decide +kernel
theorem dX5_begin_47 : decode cX5_begin 47 = .ok (.putfield 54, 3) := by decide +kernel
theorem dX5_begin_50 : decode cX5_begin 50 = .ok (.aload_n 0, 1) := by decide +kernel
theorem dX5_begin_51 : decode cX5_begin 51 = .ok (.iconst 0, 1) := by decide +kernel
theorem dX5_begin_52 : decode cX5_begin 52 = .ok (.putfield 57, 3) := by decide +kernel
theorem dX5_begin_55 : decode cX5_begin 55 = .ok (.aload_n 0, 1) := by decide +kernel
theorem dX5_begin_56 : decode cX5_begin 56 = .ok (.iload_n 1, 1) := by decide +kernel
theorem dX5_begin_57 : decode cX5_begin 57 = .ok (.i2l, 1) := by decide +kernel
theorem dX5_begin_58 : decode cX5_begin 58 = .ok (.putfield 60, 3) := by decide +kernel
theorem dX5_begin_61 : decode cX5_begin 61 = .ok (.aload_n 0, 1) := by decide +kernel
theorem dX5_begin_62 : decode cX5_begin 62 = .ok (.getfield 14, 3) := by decide +kernel
theorem dX5_begin_65 : decode cX5_begin 65 = .ok (.invokevirtual 63, 3) := by decide +kernel
theorem dX5_begin_68 : decode cX5_begin 68 = .ok (.aload_n 0, 1) := by decide +kernel
theorem dX5_begin_69 : decode cX5_begin 69 = .ok (.getfield 20, 3) := by decide +kernel
theorem dX5_begin_72 : decode cX5_begin 72 = .ok (.invokevirtual 63, 3) := by decide +kernel
theorem dX5_begin_75 : decode cX5_begin 75 = .ok (.return_, 1) := by decide +kernel
theorem dX2_isBusy_0 : decode cX2_isBusy 0 = .ok (.iconst 0, 1) := by decide +kernel
theorem dX2_isBusy_1 : decode cX2_isBusy 1 = .ok (.istore_n 2, 1) := by decide +kernel
theorem dX2_isBusy_2 : decode cX2_isBusy 2 = .ok (.iload_n 2, 1) := by decide +kernel
theorem dX2_isBusy_3 : decode cX2_isBusy 3 = .ok (.aload_n 0, 1) := by decide +kernel
theorem dX2_isBusy_4 : decode cX2_isBusy 4 = .ok (.getfield 90, 3) := by decide +kernel
theorem dX2_isBusy_7 : decode cX2_isBusy 7 = .ok (.if_icmp .ge 34, 3) := by decide +kernel
theorem dX2_isBusy_41 : decode cX2_isBusy 41 = .ok (.iconst 0, 1) := by decide +kernel
theorem dX2_isBusy_42 : decode cX2_isBusy 42 = .ok (.ireturn, 1) := by decide +kernel
theorem dX2_create_0 : decode cX2_create 0 = .ok (.iconst 0, 1) := by decide +kernel
theorem dX2_create_1 : decode cX2_create 1 = .ok (.istore_n 1, 1) := by decide +kernel
theorem dX2_create_2 : decode cX2_create 2 = .ok (.iload_n 1, 1) := by decide +kernel
theorem dX2_create_3 : decode cX2_create 3 = .ok (.aload_n 0, 1) := by decide +kernel
theorem dX2_create_4 : decode cX2_create 4 = .ok (.getfield 39, 3) := by decide +kernel
theorem dX2_create_7 : decode cX2_create 7 = .ok (.arraylength, 1) := by decide +kernel
theorem dX2_create_8 : decode cX2_create 8 = .ok (.if_icmp .ge 22, 3) := by decide +kernel
theorem dX2_create_11 : decode cX2_create 11 = .ok (.aload_n 0, 1) := by decide +kernel
theorem dX2_create_12 : decode cX2_create 12 = .ok (.aload_n 0, 1) := by decide +kernel
theorem dX2_create_13 : decode cX2_create 13 = .ok (.getfield 39, 3) := by decide +kernel
theorem dX2_create_16 : decode cX2_create 16 = .ok (.iload_n 1, 1) := by decide +kernel
theorem dX2_create_17 : decode cX2_create 17 = .ok (.aaload, 1) := by decide +kernel
theorem dX2_create_18 : decode cX2_create 18 = .ok (.invokevirtual 111, 3) := by decide +kernel
theorem dX2_create_21 : decode cX2_create 21 = .ok (.ifCond .eq 9, 3) := by decide +kernel
theorem dX2_create_30 : decode cX2_create 30 = .ok (.iload_n 1, 1) := by decide +kernel
theorem dX2_create_31 : decode cX2_create 31 = .ok (.aload_n 0, 1) := by decide +kernel
theorem dX2_create_32 : decode cX2_create 32 = .ok (.getfield 39, 3) := by decide +kernel
theorem dX2_create_35 : decode cX2_create 35 = .ok (.arraylength, 1) := by decide +kernel
theorem dX2_create_36 : decode cX2_create 36 = .ok (.if_icmp .ge 12, 3) := by decide +kernel
theorem dX2_create_39 : decode cX2_create 39 = .ok (.aload_n 0, 1) := by decide +kernel
theorem dX2_create_40 : decode cX2_create 40 = .ok (.getfield 39, 3) := by decide +kernel
theorem dX2_create_43 : decode cX2_create 43 = .ok (.iload_n 1, 1) := by decide +kernel
theorem dX2_create_44 : decode cX2_create 44 = .ok (.aaload, 1) := by decide +kernel
theorem dX2_create_45 : decode cX2_create 45 = .ok (.goto 4, 3) := by decide +kernel
theorem dX2_create_49 : decode cX2_create 49 = .ok (.astore_n 2, 1) := by decide +kernel
theorem dX2_create_50 : decode cX2_create 50 = .ok (.aload_n 0, 1) := by decide +kernel
theorem dX2_create_51 : decode cX2_create 51 = .ok (.getfield 90, 3) := by decide +kernel
theorem dX2_create_54 : decode cX2_create 54 = .ok (.ifCond .lt 27, 3) := by decide +kernel
theorem dX2_create_57 : decode cX2_create 57 = .ok (.aload_n 0, 1) := by decide +kernel
theorem dX2_create_58 : decode cX2_create 58 = .ok (.getfield 90, 3) := by decide +kernel
theorem dX2_create_61 : decode cX2_create 61 = .ok (.aload_n 0, 1) := by decide +kernel
theorem dX2_create_62 : decode cX2_create 62 = .ok (.getfield 30, 3) := by decide +kernel
theorem dX2_create_65 : decode cX2_create 65 = .ok (.arraylength, 1) := by decide +kernel
theorem dX2_create_66 : decode cX2_create 66 = .ok (.if_icmp .ge 15, 3) := by decide +kernel
theorem dX2_create_69 : decode cX2_create 69 = .ok (.aload_n 0, 1) := by decide +kernel
theorem dX2_create_70 : decode cX2_create 70 = .ok (.getfield 30, 3) := by decide +kernel
theorem dX2_create_73 : decode cX2_create 73 = .ok (.aload_n 0, 1) := by decide +kernel
theorem dX2_create_74 : decode cX2_create 74 = .ok (.getfield 90, 3) := by decide +kernel
theorem dX2_create_77 : decode cX2_create 77 = .ok (.aaload, 1) := by decide +kernel
theorem dX2_create_78 : decode cX2_create 78 = .ok (.goto 4, 3) := by decide +kernel
theorem dX2_create_82 : decode cX2_create 82 = .ok (.astore_n 3, 1) := by decide +kernel
theorem dX2_create_83 : decode cX2_create 83 = .ok (.aload_n 2, 1) := by decide +kernel
theorem dX2_create_84 : decode cX2_create 84 = .ok (.ifnull 7, 3) := by decide +kernel
theorem dX2_create_87 : decode cX2_create 87 = .ok (.aload_n 3, 1) := by decide +kernel
theorem dX2_create_88 : decode cX2_create 88 = .ok (.ifnonnull 5, 3) := by decide +kernel
theorem dX2_create_93 : decode cX2_create 93 = .ok (.aload_n 2, 1) := by decide +kernel
theorem dX2_create_94 : decode cX2_create 94 = .ok (.invokevirtual 115, 3) := by decide +kernel
theorem dX2_create_97 : decode cX2_create 97 = .ok (.aload_n 3, 1) := by decide +kernel
theorem dX2_create_98 : decode cX2_create 98 = .ok (.aload_n 0, 1) := by decide +kernel
theorem dX2_create_99 : decode cX2_create 99 = .ok (.getfield 90, 3) := by decide +kernel
theorem dX2_create_102 : decode cX2_create 102 = .ok (.aload_n 2, 1) := by decide +kernel
theorem dX2_create_103 : decode cX2_create 103 = .ok (.invokevirtual 118, 3) := by decide +kernel
theorem dX2_create_106 : decode cX2_create 106 = .ok (.aload_n 0, 1) := by decide +kernel
theorem dX2_create_107 : decode cX2_create 107 = .ok (.dup, 1) := by decide +kernel
theorem dX2_create_108 : decode cX2_create 108 = .ok (.getfield 90, 3) := by decide +kernel
theorem dX2_create_111 : decode cX2_create 111 = .ok (.iconst 1, 1) := by decide +kernel
theorem dX2_create_112 : decode cX2_create 112 = .ok (.iadd, 1) := by decide +kernel
theorem dX2_create_113 : decode cX2_create 113 = .ok (.putfield 90, 3) := by decide +kernel
theorem dX2_create_116 : decode cX2_create 116 = .ok (.aload_n 3, 1) := by decide +kernel
theorem dX2_create_117 : decode cX2_create 117 = .ok (.areturn, 1) := by decide +kernel
set_option maxHeartbeats 8000000 in
set_option maxRecDepth 100000 in
/-- Node.begin(0, 0) -/
theorem c_Node_begin (l : Launch) (D : va_G) (x : Nat → ClassId) (h0 : Nat) (f0 : Nat → Value) (sz : Nat)  : Met l yX3_begin (.code yX3_begin cX3_begin 4 none :: zW) ({ frames := 0, cells := (0), slots := (0), locals := 0 }) (va_Pc [.ref h0, .int 0, .long 0] (fun U => U.heap.size = sz ∧ va_P D vwCl [(h0, .inr (3, zf 9 f0))] U.heap ∧ zK x D U ∧ va_D (fun _ => True) [(h0, .inr (3, zf 9 f0))])) (va_Qv (fun u : Nat → Value => match u with | c0 => True) (fun u t => match u with | c0 => zB D vwCl (va_A [(h0, .inr (3, zf 9 f0))] sz) [(h0, .inr (3, zf 9 c0))] t) (va_A [(h0, .inr (3, zf 9 f0))] sz)) (0) (0) (va_A [(h0, .inr (3, zf 9 f0))] sz) := by
  refine Met.ofW (cc := cX3_begin) (maxL := 4) (ret := none) (by decide) rfl ?_
  intro p e s m args below meth c s₁ B hml hv
  obtain ⟨rfl, hsz, hP, hZ, hD0⟩ := hv
  have hK := hZ.1
  have hx := B.exec
  have hb := B.bytes
  have hr := B.returns
  have hts := atoms_spec (ws := .code yX3_begin cX3_begin 4 none :: zW) B.pre
  have hown : s.vm.findClass RX3 = some m.cls := findClass_of_methodNamed B.named
  have hlocks := B.notSynchronized
  subst hsz
  have hD := hD0.self (sz := s.heap.size)
  generalize hAe : va_A [(h0, .inr (3, zf 9 f0))] s.heap.size = A at hD ⊢
  have hA : ∀ q : Nat, s.heap.size ≤ q → A q := fun q h => by rw [← hAe]; exact Or.inr h
  have hS : va_S A s.heap s.heap [] := va_S.rf
  have hP : va_P D vwCl [(h0, .inr (3, zf 9 f0))] s.heap := hP
  have hl := lv_entry ([.ref h0, .int 0, .long 0]) (n := 4) (Nat.le_of_ble_eq_true rfl)
  rw [lg_entry_eq]
  generalize (lg_sl ([.ref h0, .int 0, .long 0]) ++ List.replicate (4 - (lg_sl ([.ref h0, .int 0, .long 0])).length) Slot.unset).toArray = ls at hl ⊢
  have hl : lv_has ls 4 [(0, .ref h0), (1, .int 0), (2, .long 0)] := hl
  refine lv_aload_n hx hb dX3_begin_0 rfl (lv_at hl 0 rfl) ?_
  refine lv_iload_n hx hb dX3_begin_1 rfl (lv_at hl 1 rfl) ?_
  refine z_put (T := TX3) (N := 9) (ci := 3) hx hb hts (zi_3 _) hown hK hP hD hS 0 rfl rfl 4 (by decide) (hts _ (zm_341 _)) rfl rfl rfl rfl dX3_begin_2 (fun H locs f_1 ek_2 ok_3 hP hD hS => ?_)
  have hP : va_P D vwCl [(h0, .inr (3, zf 9 f_1))] H := hP
  have hD : va_D A [(h0, .inr (3, zf 9 f_1))] := hD
  refine lv_aload_n hx hb dX3_begin_5 rfl (lv_at hl 0 rfl) ?_
  refine lv_lload_n hx hb dX3_begin_6 rfl (lv_at hl 2 rfl) ?_
  refine z_put (T := TX3) (N := 9) (ci := 3) hx hb hts (zi_3 _) hown hK hP hD hS 0 rfl rfl 3 (by decide) (hts _ (zm_342 _)) rfl rfl rfl rfl dX3_begin_7 (fun H locs f_4 ek_5 ok_6 hP hD hS => ?_)
  have hP : va_P D vwCl [(h0, .inr (3, zf 9 f_4))] H := hP
  have hD : va_D A [(h0, .inr (3, zf 9 f_4))] := hD
  refine lv_aload_n hx hb dX3_begin_10 rfl (lv_at hl 0 rfl) ?_
  refine lv_iconst (v := 0) hx hb dX3_begin_11 (by decide) ?_
  refine z_put (T := TX3) (N := 9) (ci := 3) hx hb hts (zi_3 _) hown hK hP hD hS 0 rfl rfl 1 (by decide) (hts _ (zm_343 _)) rfl rfl rfl rfl dX3_begin_12 (fun H locs f_7 ek_8 ok_9 hP hD hS => ?_)
  have hP : va_P D vwCl [(h0, .inr (3, zf 9 f_7))] H := hP
  have hD : va_D A [(h0, .inr (3, zf 9 f_7))] := hD
  refine lv_aload_n hx hb dX3_begin_15 rfl (lv_at hl 0 rfl) ?_
  refine lv_iconst (v := 0) hx hb dX3_begin_16 (by decide) ?_
  refine z_put (T := TX3) (N := 9) (ci := 3) hx hb hts (zi_3 _) hown hK hP hD hS 0 rfl rfl 2 (by decide) (hts _ (zm_344 _)) rfl rfl rfl rfl dX3_begin_17 (fun H locs f_10 ek_11 ok_12 hP hD hS => ?_)
  have hP : va_P D vwCl [(h0, .inr (3, zf 9 f_10))] H := hP
  have hD : va_D A [(h0, .inr (3, zf 9 f_10))] := hD
  refine lv_aload_n hx hb dX3_begin_20 rfl (lv_at hl 0 rfl) ?_
  refine lv_iconst (v := 0) hx hb dX3_begin_21 (by decide) ?_
  refine z_put (T := TX3) (N := 9) (ci := 3) hx hb hts (zi_3 _) hown hK hP hD hS 0 rfl rfl 5 (by decide) (hts _ (zm_345 _)) rfl rfl rfl rfl dX3_begin_22 (fun H locs f_13 ek_14 ok_15 hP hD hS => ?_)
  have hP : va_P D vwCl [(h0, .inr (3, zf 9 f_13))] H := hP
  have hD : va_D A [(h0, .inr (3, zf 9 f_13))] := hD
  refine lv_aload_n hx hb dX3_begin_25 rfl (lv_at hl 0 rfl) ?_
  refine lv_iconst (v := 0) hx hb dX3_begin_26 (by decide) ?_
  refine z_put (T := TX3) (N := 9) (ci := 3) hx hb hts (zi_3 _) hown hK hP hD hS 0 rfl rfl 6 (by decide) (hts _ (zm_346 _)) rfl rfl rfl rfl dX3_begin_27 (fun H locs f_16 ek_17 ok_18 hP hD hS => ?_)
  have hP : va_P D vwCl [(h0, .inr (3, zf 9 f_16))] H := hP
  have hD : va_D A [(h0, .inr (3, zf 9 f_16))] := hD
  refine lv_aload_n hx hb dX3_begin_30 rfl (lv_at hl 0 rfl) ?_
  refine lv_iconst (v := 0) hx hb dX3_begin_31 (by decide) ?_
  refine z_put (T := TX3) (N := 9) (ci := 3) hx hb hts (zi_3 _) hown hK hP hD hS 0 rfl rfl 7 (by decide) (hts _ (zm_347 _)) rfl rfl (by decide) rfl dX3_begin_32 (fun H locs f_19 ek_20 ok_21 hP hD hS => ?_)
  have hP : va_P D vwCl [(h0, .inr (3, zf 9 f_19))] H := hP
  have hD : va_D A [(h0, .inr (3, zf 9 f_19))] := hD
  refine lv_aload_n hx hb dX3_begin_35 rfl (lv_at hl 0 rfl) ?_
  refine lv_iconst (v := 0) hx hb dX3_begin_36 (by decide) ?_
  refine z_put (T := TX3) (N := 9) (ci := 3) hx hb hts (zi_3 _) hown hK hP hD hS 0 rfl rfl 8 (by decide) (hts _ (zm_348 _)) rfl rfl (by decide) rfl dX3_begin_37 (fun H locs f_22 ek_23 ok_24 hP hD hS => ?_)
  have hP : va_P D vwCl [(h0, .inr (3, zf 9 f_22))] H := hP
  have hD : va_D A [(h0, .inr (3, zf 9 f_22))] := hD
  have hP9 := hP.sub (ws' := [(h0, .inr (3, zf 9 f_22))]) [0] rfl
  have hD9 := hD.sub (ws' := [(h0, .inr (3, zf 9 f_22))]) [0] (by decide) rfl
  exact W.vret hx hb hr (fun t ht hW => ⟨⟨f_22, rfl, trivial, ⟨by rw [ht]; exact hP9, hD9⟩⟩, hS.F ht⟩) hS.2.2 dX3_begin_40

set_option maxHeartbeats 8000000 in
set_option maxRecDepth 100000 in
/-- Scope.begin -/
theorem c_Scope_begin (l : Launch) (D : va_G) (x : Nat → ClassId) (h0 : Nat) (f0 : Nat → Value) (lg : Nat) (f1 : Nat → Value) (lb : Nat) (sz : Nat) (h0_12 : f0 12 = .ref lg) (h1_0 : f1 0 = .ref lb) : Met l yX7_begin (.code yX7_begin cX7_begin 1 none :: zW) ({ frames := 1, cells := (0), slots := (0), locals := 20 }) (va_Pc [.ref h0] (fun U => U.heap.size = sz ∧ va_P D vwCl [(h0, .inr (7, zf 20 f0)), (lg, .inr (6, zf 3 f1))] U.heap ∧ zK x D U ∧ va_D (fun _ => True) [(h0, .inr (7, zf 20 f0)), (lg, .inr (6, zf 3 f1))])) (va_Qv (fun u : (Nat → Value) × (Nat → Value) => match u with | (c0, c1) => c0 5 = .int 0) (fun u t => match u with | (c0, c1) => zB D vwCl (va_A [(h0, .inr (7, zf 20 f0)), (lg, .inr (6, zf 3 f1))] sz) [(h0, .inr (7, zf 20 c0)), (lg, .inr (6, zf 3 c1))] t) (va_A [(h0, .inr (7, zf 20 f0)), (lg, .inr (6, zf 3 f1))] sz)) (0) (0) (va_A [(h0, .inr (7, zf 20 f0)), (lg, .inr (6, zf 3 f1))] sz) := by
  refine Met.ofW (cc := cX7_begin) (maxL := 1) (ret := none) (by decide) rfl ?_
  intro p e s m args below meth c s₁ B hml hv
  obtain ⟨rfl, hsz, hP, hZ, hD0⟩ := hv
  have hK := hZ.1
  have hx := B.exec
  have hb := B.bytes
  have hr := B.returns
  have hts := atoms_spec (ws := .code yX7_begin cX7_begin 1 none :: zW) B.pre
  have hown : s.vm.findClass RX7 = some m.cls := findClass_of_methodNamed B.named
  have hlocks := B.notSynchronized
  subst hsz
  have hD := hD0.self (sz := s.heap.size)
  generalize hAe : va_A [(h0, .inr (7, zf 20 f0)), (lg, .inr (6, zf 3 f1))] s.heap.size = A at hD ⊢
  have hA : ∀ q : Nat, s.heap.size ≤ q → A q := fun q h => by rw [← hAe]; exact Or.inr h
  have hS : va_S A s.heap s.heap [] := va_S.rf
  have hP : va_P D vwCl [(h0, .inr (7, zf 20 f0)), (lg, .inr (6, zf 3 f1))] s.heap := hP
  have hl := lv_entry ([.ref h0]) (n := 1) (Nat.le_of_ble_eq_true rfl)
  rw [lg_entry_eq]
  generalize (lg_sl ([.ref h0]) ++ List.replicate (1 - (lg_sl ([.ref h0])).length) Slot.unset).toArray = ls at hl ⊢
  have hl : lv_has ls 1 [(0, .ref h0)] := hl
  refine lv_aload_n hx hb dX7_begin_0 rfl (lv_at hl 0 rfl) ?_
  refine lv_iconst (v := 0) hx hb dX7_begin_1 (by decide) ?_
  refine z_put (T := TX7) (N := 20) (ci := 7) hx hb hts (zi_7 _) hown hK hP hD hS 0 rfl rfl 2 (by decide) (hts _ (zm_329 _)) rfl rfl rfl rfl dX7_begin_2 (fun H locs f_1 ek_2 ok_3 hP hD hS => ?_)
  have hP : va_P D vwCl [(h0, .inr (7, zf 20 f_1)), (lg, .inr (6, zf 3 f1))] H := hP
  have hD : va_D A [(h0, .inr (7, zf 20 f_1)), (lg, .inr (6, zf 3 f1))] := hD
  refine lv_aload_n hx hb dX7_begin_5 rfl (lv_at hl 0 rfl) ?_
  refine lv_iconst (v := 0) hx hb dX7_begin_6 (by decide) ?_
  refine z_put (T := TX7) (N := 20) (ci := 7) hx hb hts (zi_7 _) hown hK hP hD hS 0 rfl rfl 5 (by decide) (hts _ (zm_330 _)) rfl rfl rfl rfl dX7_begin_7 (fun H locs f_4 ek_5 ok_6 hP hD hS => ?_)
  have hP : va_P D vwCl [(h0, .inr (7, zf 20 f_4)), (lg, .inr (6, zf 3 f1))] H := hP
  have hD : va_D A [(h0, .inr (7, zf 20 f_4)), (lg, .inr (6, zf 3 f1))] := hD
  refine lv_aload_n hx hb dX7_begin_10 rfl (lv_at hl 0 rfl) ?_
  refine lv_iconst (v := 0) hx hb dX7_begin_11 (by decide) ?_
  refine z_put (T := TX7) (N := 20) (ci := 7) hx hb hts (zi_7 _) hown hK hP hD hS 0 rfl rfl 8 (by decide) (hts _ (zm_331 _)) rfl rfl rfl rfl dX7_begin_12 (fun H locs f_7 ek_8 ok_9 hP hD hS => ?_)
  have hP : va_P D vwCl [(h0, .inr (7, zf 20 f_7)), (lg, .inr (6, zf 3 f1))] H := hP
  have hD : va_D A [(h0, .inr (7, zf 20 f_7)), (lg, .inr (6, zf 3 f1))] := hD
  refine lv_aload_n hx hb dX7_begin_15 rfl (lv_at hl 0 rfl) ?_
  refine lv_iconst (v := 0) hx hb dX7_begin_16 (by decide) ?_
  refine z_put (T := TX7) (N := 20) (ci := 7) hx hb hts (zi_7 _) hown hK hP hD hS 0 rfl rfl 11 (by decide) (hts _ (zm_332 _)) rfl rfl rfl rfl dX7_begin_17 (fun H locs f_10 ek_11 ok_12 hP hD hS => ?_)
  have hP : va_P D vwCl [(h0, .inr (7, zf 20 f_10)), (lg, .inr (6, zf 3 f1))] H := hP
  have hD : va_D A [(h0, .inr (7, zf 20 f_10)), (lg, .inr (6, zf 3 f1))] := hD
  refine lv_aload_n hx hb dX7_begin_20 rfl (lv_at hl 0 rfl) ?_
  refine z_get (T := TX7) (N := 20) (ci := 7) hx hb hts (zi_7 _) hown hK hP 0 rfl rfl 12 (by decide) (hts _ (zm_90 _)) rfl ((ok_12 12 (by decide)).trans ((ok_9 12 (by decide)).trans ((ok_6 12 (by decide)).trans ((ok_3 12 (by decide)).trans h0_12)))) dX7_begin_21 ?_
  have hPc := hP.sub (ws' := [(lg, .inr (6, zf 3 f1))]) [1] rfl
  have hDc := hD.sub (ws' := [(lg, .inr (6, zf 3 f1))]) [1] (by decide) rfl
  have hFc := va_free (wc := [(lg, .inr (6, zf 3 f1))]) hD hS hA [1] rfl
  have h_14 : 0 + 0 ≤ 0 ∧ 0 + 0 ≤ 0 := by omega
  refine va_callv (va_runVN (As := []) (rest := []) ⟨hx, hb, hml, hown, hts⟩ (c_Row_clear l D x lg f1 lb H.size h1_0) ⟨va_cnB 0 hts (zgood (zm_181 _) rfl) rfl rfl rfl (hZ.2.1 _ zn_141) (hts _ (zm_7 _)) ⟨by decide, by decide, by decide +kernel⟩ ⟨Nat.le_of_ble_eq_true rfl, Nat.le_of_ble_eq_true rfl⟩, hts _ (zm_182 _), hts _ (zm_183 _)⟩ ⟨fun a U g mk q => by obtain ⟨q0, q1, qP, qK, qD⟩ := q; exact ⟨q0, q1, qP, ZK.calling (u := U) zN_ok rfl qK, qD⟩, va_recv hK hPc (ci := 6) (q0 := 0) rfl rfl, fun U hU hW => ⟨rfl, by rw [hU], by rw [hU]; exact hPc, ZK.warm zN_ok hW hZ, hDc.weaken (fun _ _ _ _ => trivial)⟩⟩ rfl rfl hl.1 rfl (lv_room (Nat.le_of_ble_eq_true rfl)) dX7_begin_24 h_14) hS (fun q _ h => hFc q h) hFc (fun c0_13 t H1 locs ht hvm hw_13 hB hz1 hk1 hS => ?_)
  obtain ⟨hP1, hD1⟩ := hB
  rw [ht] at hP1
  try dsimp only at hw_13
  obtain ⟨hP, hD⟩ := va_join (wr := [(h0, .inr (7, zf 20 f_10))]) (w1 := [(lg, .inr (6, zf 3 c0_13))]) hP hD [1] [0] rfl rfl (by decide) (by decide) hk1 hFc hP1 hD1
  generalize H1 = H at hP hS ⊢
  have hP : va_P D vwCl [(h0, .inr (7, zf 20 f_10)), (lg, .inr (6, zf 3 c0_13))] H := hP
  have hD : va_D A [(h0, .inr (7, zf 20 f_10)), (lg, .inr (6, zf 3 c0_13))] := hD
  refine W.widen (k := 0) (n := 0) (by omega) (by omega) ?_
  refine lv_aload_n hx hb dX7_begin_27 rfl (lv_at hl 0 rfl) ?_
  refine lv_iconst (v := 0) hx hb dX7_begin_28 (by decide) ?_
  refine z_put (T := TX7) (N := 20) (ci := 7) hx hb hts (zi_7 _) hown hK hP hD hS 0 rfl rfl 16 (by decide) (hts _ (zm_333 _)) rfl rfl rfl rfl dX7_begin_29 (fun H locs f_15 ek_16 ok_17 hP hD hS => ?_)
  have hP : va_P D vwCl [(h0, .inr (7, zf 20 f_15)), (lg, .inr (6, zf 3 c0_13))] H := hP
  have hD : va_D A [(h0, .inr (7, zf 20 f_15)), (lg, .inr (6, zf 3 c0_13))] := hD
  refine lv_aload_n hx hb dX7_begin_32 rfl (lv_at hl 0 rfl) ?_
  refine lv_iconst (v := (-1)) hx hb dX7_begin_33 (by decide) ?_
  refine z_put (T := TX7) (N := 20) (ci := 7) hx hb hts (zi_7 _) hown hK hP hD hS 0 rfl rfl 15 (by decide) (hts _ (zm_334 _)) rfl rfl rfl rfl dX7_begin_34 (fun H locs f_18 ek_19 ok_20 hP hD hS => ?_)
  have hP : va_P D vwCl [(h0, .inr (7, zf 20 f_18)), (lg, .inr (6, zf 3 c0_13))] H := hP
  have hD : va_D A [(h0, .inr (7, zf 20 f_18)), (lg, .inr (6, zf 3 c0_13))] := hD
  refine lv_aload_n hx hb dX7_begin_37 rfl (lv_at hl 0 rfl) ?_
  refine lv_iconst (v := 0) hx hb dX7_begin_38 (by decide) ?_
  refine z_put (T := TX7) (N := 20) (ci := 7) hx hb hts (zi_7 _) hown hK hP hD hS 0 rfl rfl 14 (by decide) (hts _ (zm_335 _)) rfl rfl rfl rfl dX7_begin_39 (fun H locs f_21 ek_22 ok_23 hP hD hS => ?_)
  have hP : va_P D vwCl [(h0, .inr (7, zf 20 f_21)), (lg, .inr (6, zf 3 c0_13))] H := hP
  have hD : va_D A [(h0, .inr (7, zf 20 f_21)), (lg, .inr (6, zf 3 c0_13))] := hD
  refine lv_aload_n hx hb dX7_begin_42 rfl (lv_at hl 0 rfl) ?_
  refine lv_iconst (v := 0) hx hb dX7_begin_43 (by decide) ?_
  refine z_put (T := TX7) (N := 20) (ci := 7) hx hb hts (zi_7 _) hown hK hP hD hS 0 rfl rfl 13 (by decide) (hts _ (zm_336 _)) rfl rfl (by decide) rfl dX7_begin_44 (fun H locs f_24 ek_25 ok_26 hP hD hS => ?_)
  have hP : va_P D vwCl [(h0, .inr (7, zf 20 f_24)), (lg, .inr (6, zf 3 c0_13))] H := hP
  have hD : va_D A [(h0, .inr (7, zf 20 f_24)), (lg, .inr (6, zf 3 c0_13))] := hD
  refine lv_aload_n hx hb dX7_begin_47 rfl (lv_at hl 0 rfl) ?_
  refine lv_null hx hb dX7_begin_48 ?_
  refine z_put (T := TX7) (N := 20) (ci := 7) hx hb hts (zi_7 _) hown hK hP hD hS 0 rfl rfl 17 (by decide) (hts _ (zm_337 _)) rfl rfl rfl rfl dX7_begin_49 (fun H locs f_27 ek_28 ok_29 hP hD hS => ?_)
  have hP : va_P D vwCl [(h0, .inr (7, zf 20 f_27)), (lg, .inr (6, zf 3 c0_13))] H := hP
  have hD : va_D A [(h0, .inr (7, zf 20 f_27)), (lg, .inr (6, zf 3 c0_13))] := hD
  have e_30 : f_27 5 = .int 0 := ((ok_29 5 (by decide)).trans ((ok_26 5 (by decide)).trans ((ok_23 5 (by decide)).trans ((ok_20 5 (by decide)).trans ((ok_17 5 (by decide)).trans ((ok_12 5 (by decide)).trans ((ok_9 5 (by decide)).trans ek_5)))))))
  have hP9 := hP.sub (ws' := [(h0, .inr (7, zf 20 f_27)), (lg, .inr (6, zf 3 c0_13))]) [0, 1] rfl
  have hD9 := hD.sub (ws' := [(h0, .inr (7, zf 20 f_27)), (lg, .inr (6, zf 3 c0_13))]) [0, 1] (by decide) rfl
  exact W.vret hx hb hr (fun t ht hW => ⟨⟨(f_27, c0_13), rfl, e_30, ⟨by rw [ht]; exact hP9, hD9⟩⟩, hS.F ht⟩) hS.2.2 dX7_begin_52

set_option maxHeartbeats 8000000 in
set_option maxRecDepth 100000 in
/-- Work.begin -/
theorem c_Work_begin (l : Launch) (D : va_G) (x : Nat → ClassId) (h0 : Nat) (f0 : Nat → Value) (na : Nat) (f1 : Nat → Value) (sc : Nat) (f2 : Nat → Value) (lg : Nat) (f3 : Nat → Value) (lv : Nat) (lb : Nat) (sz : Nat) (h0_17 : f0 17 = .ref na) (h0_18 : f0 18 = .ref sc) (h0_4 : f0 4 = .ref lv) (h0_13 : f0 13 = .null) (h0_14 : f0 14 = .int 0) (h2_12 : f2 12 = .ref lg) (h3_0 : f3 0 = .ref lb) : Met l yX10_begin (.code yX10_begin cX10_begin 1 none :: zW) ({ frames := 2, cells := (0), slots := (0), locals := 40 }) (va_Pc [.ref h0] (fun U => U.heap.size = sz ∧ va_P D vwCl [(h0, .inr (10, zf 20 f0)), (na, .inr (3, zf 9 f1)), (sc, .inr (7, zf 20 f2)), (lg, .inr (6, zf 3 f3))] U.heap ∧ zK x D U ∧ va_D (fun _ => True) [(h0, .inr (10, zf 20 f0)), (na, .inr (3, zf 9 f1)), (sc, .inr (7, zf 20 f2)), (lg, .inr (6, zf 3 f3))])) (va_Qv (fun u : (Nat → Value) × (Nat → Value) × (Nat → Value) × (Nat → Value) => match u with | (c0, c1, c2, c3) => c0 1 = .int 0 ∧ c0 3 = .int 0 ∧ c0 5 = .int 0 ∧ c0 7 = .int 0 ∧ c0 12 = .int 0 ∧ c0 16 = .int 0 ∧ c0 17 = .ref na ∧ c0 18 = .ref sc ∧ c0 4 = .ref lv ∧ c0 13 = .null ∧ c0 14 = .int 0 ∧ c2 5 = .int 0) (fun u t => match u with | (c0, c1, c2, c3) => zB D vwCl (va_A [(h0, .inr (10, zf 20 f0)), (na, .inr (3, zf 9 f1)), (sc, .inr (7, zf 20 f2)), (lg, .inr (6, zf 3 f3))] sz) [(h0, .inr (10, zf 20 c0)), (na, .inr (3, zf 9 c1)), (sc, .inr (7, zf 20 c2)), (lg, .inr (6, zf 3 c3))] t) (va_A [(h0, .inr (10, zf 20 f0)), (na, .inr (3, zf 9 f1)), (sc, .inr (7, zf 20 f2)), (lg, .inr (6, zf 3 f3))] sz)) (0) (0) (va_A [(h0, .inr (10, zf 20 f0)), (na, .inr (3, zf 9 f1)), (sc, .inr (7, zf 20 f2)), (lg, .inr (6, zf 3 f3))] sz) := by
  refine Met.ofW (cc := cX10_begin) (maxL := 1) (ret := none) (by decide) rfl ?_
  intro p e s m args below meth c s₁ B hml hv
  obtain ⟨rfl, hsz, hP, hZ, hD0⟩ := hv
  have hK := hZ.1
  have hx := B.exec
  have hb := B.bytes
  have hr := B.returns
  have hts := atoms_spec (ws := .code yX10_begin cX10_begin 1 none :: zW) B.pre
  have hown : s.vm.findClass RX10 = some m.cls := findClass_of_methodNamed B.named
  have hlocks := B.notSynchronized
  subst hsz
  have hD := hD0.self (sz := s.heap.size)
  generalize hAe : va_A [(h0, .inr (10, zf 20 f0)), (na, .inr (3, zf 9 f1)), (sc, .inr (7, zf 20 f2)), (lg, .inr (6, zf 3 f3))] s.heap.size = A at hD ⊢
  have hA : ∀ q : Nat, s.heap.size ≤ q → A q := fun q h => by rw [← hAe]; exact Or.inr h
  have hS : va_S A s.heap s.heap [] := va_S.rf
  have hP : va_P D vwCl [(h0, .inr (10, zf 20 f0)), (na, .inr (3, zf 9 f1)), (sc, .inr (7, zf 20 f2)), (lg, .inr (6, zf 3 f3))] s.heap := hP
  have hl := lv_entry ([.ref h0]) (n := 1) (Nat.le_of_ble_eq_true rfl)
  rw [lg_entry_eq]
  generalize (lg_sl ([.ref h0]) ++ List.replicate (1 - (lg_sl ([.ref h0])).length) Slot.unset).toArray = ls at hl ⊢
  have hl : lv_has ls 1 [(0, .ref h0)] := hl
  refine lv_aload_n hx hb dX10_begin_0 rfl (lv_at hl 0 rfl) ?_
  refine lv_iconst (v := 0) hx hb dX10_begin_1 (by decide) ?_
  refine z_put (T := TX10) (N := 20) (ci := 10) hx hb hts (zi_10 _) hown hK hP hD hS 0 rfl rfl 1 (by decide) (hts _ (zm_320 _)) rfl rfl rfl rfl dX10_begin_2 (fun H locs f_1 ek_2 ok_3 hP hD hS => ?_)
  have hP : va_P D vwCl [(h0, .inr (10, zf 20 f_1)), (na, .inr (3, zf 9 f1)), (sc, .inr (7, zf 20 f2)), (lg, .inr (6, zf 3 f3))] H := hP
  have hD : va_D A [(h0, .inr (10, zf 20 f_1)), (na, .inr (3, zf 9 f1)), (sc, .inr (7, zf 20 f2)), (lg, .inr (6, zf 3 f3))] := hD
  refine lv_aload_n hx hb dX10_begin_5 rfl (lv_at hl 0 rfl) ?_
  refine lv_iconst (v := 0) hx hb dX10_begin_6 (by decide) ?_
  refine z_put (T := TX10) (N := 20) (ci := 10) hx hb hts (zi_10 _) hown hK hP hD hS 0 rfl rfl 3 (by decide) (hts _ (zm_321 _)) rfl rfl rfl rfl dX10_begin_7 (fun H locs f_4 ek_5 ok_6 hP hD hS => ?_)
  have hP : va_P D vwCl [(h0, .inr (10, zf 20 f_4)), (na, .inr (3, zf 9 f1)), (sc, .inr (7, zf 20 f2)), (lg, .inr (6, zf 3 f3))] H := hP
  have hD : va_D A [(h0, .inr (10, zf 20 f_4)), (na, .inr (3, zf 9 f1)), (sc, .inr (7, zf 20 f2)), (lg, .inr (6, zf 3 f3))] := hD
  refine lv_aload_n hx hb dX10_begin_10 rfl (lv_at hl 0 rfl) ?_
  refine lv_iconst (v := 0) hx hb dX10_begin_11 (by decide) ?_
  refine z_put (T := TX10) (N := 20) (ci := 10) hx hb hts (zi_10 _) hown hK hP hD hS 0 rfl rfl 5 (by decide) (hts _ (zm_322 _)) rfl rfl rfl rfl dX10_begin_12 (fun H locs f_7 ek_8 ok_9 hP hD hS => ?_)
  have hP : va_P D vwCl [(h0, .inr (10, zf 20 f_7)), (na, .inr (3, zf 9 f1)), (sc, .inr (7, zf 20 f2)), (lg, .inr (6, zf 3 f3))] H := hP
  have hD : va_D A [(h0, .inr (10, zf 20 f_7)), (na, .inr (3, zf 9 f1)), (sc, .inr (7, zf 20 f2)), (lg, .inr (6, zf 3 f3))] := hD
  refine lv_aload_n hx hb dX10_begin_15 rfl (lv_at hl 0 rfl) ?_
  refine lv_iconst (v := 0) hx hb dX10_begin_16 (by decide) ?_
  refine z_put (T := TX10) (N := 20) (ci := 10) hx hb hts (zi_10 _) hown hK hP hD hS 0 rfl rfl 7 (by decide) (hts _ (zm_323 _)) rfl rfl rfl rfl dX10_begin_17 (fun H locs f_10 ek_11 ok_12 hP hD hS => ?_)
  have hP : va_P D vwCl [(h0, .inr (10, zf 20 f_10)), (na, .inr (3, zf 9 f1)), (sc, .inr (7, zf 20 f2)), (lg, .inr (6, zf 3 f3))] H := hP
  have hD : va_D A [(h0, .inr (10, zf 20 f_10)), (na, .inr (3, zf 9 f1)), (sc, .inr (7, zf 20 f2)), (lg, .inr (6, zf 3 f3))] := hD
  refine lv_aload_n hx hb dX10_begin_20 rfl (lv_at hl 0 rfl) ?_
  refine lv_iconst (v := 0) hx hb dX10_begin_21 (by decide) ?_
  refine z_put (T := TX10) (N := 20) (ci := 10) hx hb hts (zi_10 _) hown hK hP hD hS 0 rfl rfl 12 (by decide) (hts _ (zm_324 _)) rfl rfl rfl rfl dX10_begin_22 (fun H locs f_13 ek_14 ok_15 hP hD hS => ?_)
  have hP : va_P D vwCl [(h0, .inr (10, zf 20 f_13)), (na, .inr (3, zf 9 f1)), (sc, .inr (7, zf 20 f2)), (lg, .inr (6, zf 3 f3))] H := hP
  have hD : va_D A [(h0, .inr (10, zf 20 f_13)), (na, .inr (3, zf 9 f1)), (sc, .inr (7, zf 20 f2)), (lg, .inr (6, zf 3 f3))] := hD
  refine lv_aload_n hx hb dX10_begin_25 rfl (lv_at hl 0 rfl) ?_
  refine lv_iconst (v := 0) hx hb dX10_begin_26 (by decide) ?_
  refine z_put (T := TX10) (N := 20) (ci := 10) hx hb hts (zi_10 _) hown hK hP hD hS 0 rfl rfl 16 (by decide) (hts _ (zm_325 _)) rfl rfl rfl rfl dX10_begin_27 (fun H locs f_16 ek_17 ok_18 hP hD hS => ?_)
  have hP : va_P D vwCl [(h0, .inr (10, zf 20 f_16)), (na, .inr (3, zf 9 f1)), (sc, .inr (7, zf 20 f2)), (lg, .inr (6, zf 3 f3))] H := hP
  have hD : va_D A [(h0, .inr (10, zf 20 f_16)), (na, .inr (3, zf 9 f1)), (sc, .inr (7, zf 20 f2)), (lg, .inr (6, zf 3 f3))] := hD
  refine lv_aload_n hx hb dX10_begin_30 rfl (lv_at hl 0 rfl) ?_
  have e_19 : f_16 17 = .ref na := ((ok_18 17 (by decide)).trans ((ok_15 17 (by decide)).trans ((ok_12 17 (by decide)).trans ((ok_9 17 (by decide)).trans ((ok_6 17 (by decide)).trans ((ok_3 17 (by decide)).trans h0_17))))))
  refine z_get (T := TX10) (N := 20) (ci := 10) hx hb hts (zi_10 _) hown hK hP 0 rfl rfl 17 (by decide) (hts _ (zm_105 _)) rfl e_19 dX10_begin_31 ?_
  refine lv_iconst (v := 0) hx hb dX10_begin_34 (by decide) ?_
  refine lv_lconst (v := 0) hx hb dX10_begin_35 (by decide) ?_
  have hPc := hP.sub (ws' := [(na, .inr (3, zf 9 f1))]) [1] rfl
  have hDc := hD.sub (ws' := [(na, .inr (3, zf 9 f1))]) [1] (by decide) rfl
  have hFc := va_free (wc := [(na, .inr (3, zf 9 f1))]) hD hS hA [1] rfl
  have h_21 : 0 + 0 ≤ 0 ∧ 0 + 0 ≤ 0 := by omega
  refine va_callv (va_runVN (As := [.int 0, .long 0]) (rest := []) ⟨hx, hb, hml, hown, hts⟩ (c_Node_begin l D x na f1 H.size) ⟨va_cnB 2 hts (zgood (zm_338 _) rfl) rfl rfl rfl (hZ.2.1 _ zn_139) (hts _ (zm_17 _)) ⟨by decide, by decide, by decide +kernel⟩ ⟨Nat.le_of_ble_eq_true rfl, Nat.le_of_ble_eq_true rfl⟩, hts _ (zm_339 _), hts _ (zm_340 _)⟩ ⟨fun a U g mk q => by obtain ⟨q0, q1, qP, qK, qD⟩ := q; exact ⟨q0, q1, qP, ZK.calling (u := U) zN_ok rfl qK, qD⟩, va_recv hK hPc (ci := 3) (q0 := 0) rfl rfl, fun U hU hW => ⟨rfl, by rw [hU], by rw [hU]; exact hPc, ZK.warm zN_ok hW hZ, hDc.weaken (fun _ _ _ _ => trivial)⟩⟩ rfl rfl hl.1 rfl (lv_room (Nat.le_of_ble_eq_true rfl)) dX10_begin_36 h_21) hS (fun q _ h => hFc q h) hFc (fun c0_20 t H1 locs ht hvm hw_20 hB hz1 hk1 hS => ?_)
  obtain ⟨hP1, hD1⟩ := hB
  rw [ht] at hP1
  try dsimp only at hw_20
  obtain ⟨hP, hD⟩ := va_join (wr := [(h0, .inr (10, zf 20 f_16)), (sc, .inr (7, zf 20 f2)), (lg, .inr (6, zf 3 f3))]) (w1 := [(na, .inr (3, zf 9 c0_20))]) hP hD [1] [0, 2, 3] rfl rfl (by decide) (by decide) hk1 hFc hP1 hD1
  generalize H1 = H at hP hS ⊢
  have hP : va_P D vwCl [(h0, .inr (10, zf 20 f_16)), (sc, .inr (7, zf 20 f2)), (lg, .inr (6, zf 3 f3)), (na, .inr (3, zf 9 c0_20))] H := hP
  have hD : va_D A [(h0, .inr (10, zf 20 f_16)), (sc, .inr (7, zf 20 f2)), (lg, .inr (6, zf 3 f3)), (na, .inr (3, zf 9 c0_20))] := hD
  refine W.widen (k := 0) (n := 0) (by omega) (by omega) ?_
  refine lv_aload_n hx hb dX10_begin_39 rfl (lv_at hl 0 rfl) ?_
  have e_22 : f_16 18 = .ref sc := ((ok_18 18 (by decide)).trans ((ok_15 18 (by decide)).trans ((ok_12 18 (by decide)).trans ((ok_9 18 (by decide)).trans ((ok_6 18 (by decide)).trans ((ok_3 18 (by decide)).trans h0_18))))))
  refine z_get (T := TX10) (N := 20) (ci := 10) hx hb hts (zi_10 _) hown hK hP 0 rfl rfl 18 (by decide) (hts _ (zm_107 _)) rfl e_22 dX10_begin_40 ?_
  have hPc := hP.sub (ws' := [(sc, .inr (7, zf 20 f2)), (lg, .inr (6, zf 3 f3))]) [1, 2] rfl
  have hDc := hD.sub (ws' := [(sc, .inr (7, zf 20 f2)), (lg, .inr (6, zf 3 f3))]) [1, 2] (by decide) rfl
  have hFc := va_free (wc := [(sc, .inr (7, zf 20 f2)), (lg, .inr (6, zf 3 f3))]) hD hS hA [1, 2] rfl
  have h_25 : 0 + 0 ≤ 0 ∧ 0 + 0 ≤ 0 := by omega
  refine va_callv (va_runVN (As := []) (rest := []) ⟨hx, hb, hml, hown, hts⟩ (c_Scope_begin l D x sc f2 lg f3 lb H.size h2_12 h3_0) ⟨va_cnB 0 hts (zgood (zm_326 _) rfl) rfl rfl rfl (hZ.2.1 _ zn_140) (hts _ (zm_78 _)) ⟨by decide, by decide, by decide +kernel⟩ ⟨Nat.le_of_ble_eq_true rfl, Nat.le_of_ble_eq_true rfl⟩, hts _ (zm_327 _), hts _ (zm_328 _)⟩ ⟨fun a U g mk q => by obtain ⟨q0, q1, qP, qK, qD⟩ := q; exact ⟨q0, q1, qP, ZK.calling (u := U) zN_ok rfl qK, qD⟩, va_recv hK hPc (ci := 7) (q0 := 0) rfl rfl, fun U hU hW => ⟨rfl, by rw [hU], by rw [hU]; exact hPc, ZK.warm zN_ok hW hZ, hDc.weaken (fun _ _ _ _ => trivial)⟩⟩ rfl rfl hl.1 rfl (lv_room (Nat.le_of_ble_eq_true rfl)) dX10_begin_43 h_25) hS (fun q _ h => hFc q h) hFc (fun u t H1 locs ht hvm hw_24 hB hz1 hk1 hS => ?_)
  obtain ⟨c0_23, c1_24⟩ := u
  obtain ⟨hP1, hD1⟩ := hB
  rw [ht] at hP1
  try dsimp only at hw_24
  obtain ⟨hP, hD⟩ := va_join (wr := [(h0, .inr (10, zf 20 f_16)), (na, .inr (3, zf 9 c0_20))]) (w1 := [(sc, .inr (7, zf 20 c0_23)), (lg, .inr (6, zf 3 c1_24))]) hP hD [1, 2] [0, 3] rfl rfl (by decide) (by decide) hk1 hFc hP1 hD1
  generalize H1 = H at hP hS ⊢
  have hP : va_P D vwCl [(h0, .inr (10, zf 20 f_16)), (na, .inr (3, zf 9 c0_20)), (sc, .inr (7, zf 20 c0_23)), (lg, .inr (6, zf 3 c1_24))] H := hP
  have hD : va_D A [(h0, .inr (10, zf 20 f_16)), (na, .inr (3, zf 9 c0_20)), (sc, .inr (7, zf 20 c0_23)), (lg, .inr (6, zf 3 c1_24))] := hD
  refine W.widen (k := 0) (n := 0) (by omega) (by omega) ?_
  have e_26 : f_16 4 = .ref lv := ((ok_18 4 (by decide)).trans ((ok_15 4 (by decide)).trans ((ok_12 4 (by decide)).trans ((ok_9 4 (by decide)).trans ((ok_6 4 (by decide)).trans ((ok_3 4 (by decide)).trans h0_4))))))
  have e_27 : f_16 13 = .null := ((ok_18 13 (by decide)).trans ((ok_15 13 (by decide)).trans ((ok_12 13 (by decide)).trans ((ok_9 13 (by decide)).trans ((ok_6 13 (by decide)).trans ((ok_3 13 (by decide)).trans h0_13))))))
  have e_28 : f_16 14 = .int 0 := ((ok_18 14 (by decide)).trans ((ok_15 14 (by decide)).trans ((ok_12 14 (by decide)).trans ((ok_9 14 (by decide)).trans ((ok_6 14 (by decide)).trans ((ok_3 14 (by decide)).trans h0_14))))))
  have hP9 := hP.sub (ws' := [(h0, .inr (10, zf 20 f_16)), (na, .inr (3, zf 9 c0_20)), (sc, .inr (7, zf 20 c0_23)), (lg, .inr (6, zf 3 c1_24))]) [0, 1, 2, 3] rfl
  have hD9 := hD.sub (ws' := [(h0, .inr (10, zf 20 f_16)), (na, .inr (3, zf 9 c0_20)), (sc, .inr (7, zf 20 c0_23)), (lg, .inr (6, zf 3 c1_24))]) [0, 1, 2, 3] (by decide) rfl
  exact W.vret hx hb hr (fun t ht hW => ⟨⟨(f_16, c0_20, c0_23, c1_24), rfl, ⟨((ok_18 1 (by decide)).trans ((ok_15 1 (by decide)).trans ((ok_12 1 (by decide)).trans ((ok_9 1 (by decide)).trans ((ok_6 1 (by decide)).trans ek_2))))), ((ok_18 3 (by decide)).trans ((ok_15 3 (by decide)).trans ((ok_12 3 (by decide)).trans ((ok_9 3 (by decide)).trans ek_5)))), ((ok_18 5 (by decide)).trans ((ok_15 5 (by decide)).trans ((ok_12 5 (by decide)).trans ek_8))), ((ok_18 7 (by decide)).trans ((ok_15 7 (by decide)).trans ek_11)), ((ok_18 12 (by decide)).trans ek_14), ek_17, e_19, e_22, e_26, e_27, e_28, hw_24⟩, ⟨by rw [ht]; exact hP9, hD9⟩⟩, hS.F ht⟩) hS.2.2 dX10_begin_46

set_option maxHeartbeats 8000000 in
set_option maxRecDepth 100000 in
/-- Proc.begin(0, w) -/
theorem c_Proc_begin (l : Launch) (D : va_G) (x : Nat → ClassId) (w0 : Nat) (h0 : Nat) (f0 : Nat → Value) (co : Nat) (f1 : Nat → Value) (ou : Nat) (f2 : Nat → Value) (cb : Nat) (ob : Nat) (sz : Nat) (h0_12 : f0 12 = .ref co) (h0_13 : f0 13 = .ref ou) (h1_0 : f1 0 = .ref cb) (h2_0 : f2 0 = .ref ob) : Met l yX5_begin (.code yX5_begin cX5_begin 3 none :: zW) ({ frames := 1, cells := (0), slots := (0), locals := 20 }) (va_Pc [.ref h0, .int 0, .ref w0] (fun U => U.heap.size = sz ∧ va_P D vwCl [(h0, .inr (5, zf 14 f0)), (co, .inr (6, zf 3 f1)), (ou, .inr (6, zf 3 f2))] U.heap ∧ zK x D U ∧ va_D (fun _ => True) [(h0, .inr (5, zf 14 f0)), (co, .inr (6, zf 3 f1)), (ou, .inr (6, zf 3 f2))])) (va_Qv (fun u : (Nat → Value) × (Nat → Value) × (Nat → Value) => match u with | (c0, c1, c2) => c0 0 = .int 0 ∧ c0 1 = .ref w0) (fun u t => match u with | (c0, c1, c2) => zB D vwCl (va_A [(h0, .inr (5, zf 14 f0)), (co, .inr (6, zf 3 f1)), (ou, .inr (6, zf 3 f2))] sz) [(h0, .inr (5, zf 14 c0)), (co, .inr (6, zf 3 c1)), (ou, .inr (6, zf 3 c2))] t) (va_A [(h0, .inr (5, zf 14 f0)), (co, .inr (6, zf 3 f1)), (ou, .inr (6, zf 3 f2))] sz)) (0) (0) (va_A [(h0, .inr (5, zf 14 f0)), (co, .inr (6, zf 3 f1)), (ou, .inr (6, zf 3 f2))] sz) := by
  refine Met.ofW (cc := cX5_begin) (maxL := 3) (ret := none) (by decide) rfl ?_
  intro p e s m args below meth c s₁ B hml hv
  obtain ⟨rfl, hsz, hP, hZ, hD0⟩ := hv
  have hK := hZ.1
  have hx := B.exec
  have hb := B.bytes
  have hr := B.returns
  have hts := atoms_spec (ws := .code yX5_begin cX5_begin 3 none :: zW) B.pre
  have hown : s.vm.findClass RX5 = some m.cls := findClass_of_methodNamed B.named
  have hlocks := B.notSynchronized
  subst hsz
  have hD := hD0.self (sz := s.heap.size)
  generalize hAe : va_A [(h0, .inr (5, zf 14 f0)), (co, .inr (6, zf 3 f1)), (ou, .inr (6, zf 3 f2))] s.heap.size = A at hD ⊢
  have hA : ∀ q : Nat, s.heap.size ≤ q → A q := fun q h => by rw [← hAe]; exact Or.inr h
  have hS : va_S A s.heap s.heap [] := va_S.rf
  have hP : va_P D vwCl [(h0, .inr (5, zf 14 f0)), (co, .inr (6, zf 3 f1)), (ou, .inr (6, zf 3 f2))] s.heap := hP
  have hl := lv_entry ([.ref h0, .int 0, .ref w0]) (n := 3) (Nat.le_of_ble_eq_true rfl)
  rw [lg_entry_eq]
  generalize (lg_sl ([.ref h0, .int 0, .ref w0]) ++ List.replicate (3 - (lg_sl ([.ref h0, .int 0, .ref w0])).length) Slot.unset).toArray = ls at hl ⊢
  have hl : lv_has ls 3 [(0, .ref h0), (1, .int 0), (2, .ref w0)] := hl
  refine lv_aload_n hx hb dX5_begin_0 rfl (lv_at hl 0 rfl) ?_
  refine lv_iload_n hx hb dX5_begin_1 rfl (lv_at hl 1 rfl) ?_
  refine z_put (T := TX5) (N := 14) (ci := 5) hx hb hts (zi_5 _) hown hK hP hD hS 0 rfl rfl 0 (by decide) (hts _ (zm_352 _)) rfl rfl rfl rfl dX5_begin_2 (fun H locs f_1 ek_2 ok_3 hP hD hS => ?_)
  have hP : va_P D vwCl [(h0, .inr (5, zf 14 f_1)), (co, .inr (6, zf 3 f1)), (ou, .inr (6, zf 3 f2))] H := hP
  have hD : va_D A [(h0, .inr (5, zf 14 f_1)), (co, .inr (6, zf 3 f1)), (ou, .inr (6, zf 3 f2))] := hD
  refine lv_aload_n hx hb dX5_begin_5 rfl (lv_at hl 0 rfl) ?_
  refine lv_aload_n hx hb dX5_begin_6 rfl (lv_at hl 2 rfl) ?_
  refine z_put (T := TX5) (N := 14) (ci := 5) hx hb hts (zi_5 _) hown hK hP hD hS 0 rfl rfl 1 (by decide) (hts _ (zm_353 _)) rfl rfl rfl rfl dX5_begin_7 (fun H locs f_4 ek_5 ok_6 hP hD hS => ?_)
  have hP : va_P D vwCl [(h0, .inr (5, zf 14 f_4)), (co, .inr (6, zf 3 f1)), (ou, .inr (6, zf 3 f2))] H := hP
  have hD : va_D A [(h0, .inr (5, zf 14 f_4)), (co, .inr (6, zf 3 f1)), (ou, .inr (6, zf 3 f2))] := hD
  refine lv_aload_n hx hb dX5_begin_10 rfl (lv_at hl 0 rfl) ?_
  refine lv_iconst (v := 0) hx hb dX5_begin_11 (by decide) ?_
  refine z_put (T := TX5) (N := 14) (ci := 5) hx hb hts (zi_5 _) hown hK hP hD hS 0 rfl rfl 2 (by decide) (hts _ (zm_354 _)) rfl rfl rfl rfl dX5_begin_12 (fun H locs f_7 ek_8 ok_9 hP hD hS => ?_)
  have hP : va_P D vwCl [(h0, .inr (5, zf 14 f_7)), (co, .inr (6, zf 3 f1)), (ou, .inr (6, zf 3 f2))] H := hP
  have hD : va_D A [(h0, .inr (5, zf 14 f_7)), (co, .inr (6, zf 3 f1)), (ou, .inr (6, zf 3 f2))] := hD
  refine lv_aload_n hx hb dX5_begin_15 rfl (lv_at hl 0 rfl) ?_
  refine lv_iconst (v := 0) hx hb dX5_begin_16 (by decide) ?_
  refine z_put (T := TX5) (N := 14) (ci := 5) hx hb hts (zi_5 _) hown hK hP hD hS 0 rfl rfl 3 (by decide) (hts _ (zm_355 _)) rfl rfl rfl rfl dX5_begin_17 (fun H locs f_10 ek_11 ok_12 hP hD hS => ?_)
  have hP : va_P D vwCl [(h0, .inr (5, zf 14 f_10)), (co, .inr (6, zf 3 f1)), (ou, .inr (6, zf 3 f2))] H := hP
  have hD : va_D A [(h0, .inr (5, zf 14 f_10)), (co, .inr (6, zf 3 f1)), (ou, .inr (6, zf 3 f2))] := hD
  refine lv_aload_n hx hb dX5_begin_20 rfl (lv_at hl 0 rfl) ?_
  refine lv_lconst (v := 0) hx hb dX5_begin_21 (by decide) ?_
  refine z_put (T := TX5) (N := 14) (ci := 5) hx hb hts (zi_5 _) hown hK hP hD hS 0 rfl rfl 4 (by decide) (hts _ (zm_356 _)) rfl rfl rfl rfl dX5_begin_22 (fun H locs f_13 ek_14 ok_15 hP hD hS => ?_)
  have hP : va_P D vwCl [(h0, .inr (5, zf 14 f_13)), (co, .inr (6, zf 3 f1)), (ou, .inr (6, zf 3 f2))] H := hP
  have hD : va_D A [(h0, .inr (5, zf 14 f_13)), (co, .inr (6, zf 3 f1)), (ou, .inr (6, zf 3 f2))] := hD
  refine lv_aload_n hx hb dX5_begin_25 rfl (lv_at hl 0 rfl) ?_
  refine lv_iconst (v := 0) hx hb dX5_begin_26 (by decide) ?_
  refine z_put (T := TX5) (N := 14) (ci := 5) hx hb hts (zi_5 _) hown hK hP hD hS 0 rfl rfl 5 (by decide) (hts _ (zm_357 _)) rfl rfl rfl rfl dX5_begin_27 (fun H locs f_16 ek_17 ok_18 hP hD hS => ?_)
  have hP : va_P D vwCl [(h0, .inr (5, zf 14 f_16)), (co, .inr (6, zf 3 f1)), (ou, .inr (6, zf 3 f2))] H := hP
  have hD : va_D A [(h0, .inr (5, zf 14 f_16)), (co, .inr (6, zf 3 f1)), (ou, .inr (6, zf 3 f2))] := hD
  refine lv_aload_n hx hb dX5_begin_30 rfl (lv_at hl 0 rfl) ?_
  refine lv_iconst (v := 0) hx hb dX5_begin_31 (by decide) ?_
  refine z_put (T := TX5) (N := 14) (ci := 5) hx hb hts (zi_5 _) hown hK hP hD hS 0 rfl rfl 6 (by decide) (hts _ (zm_358 _)) rfl rfl rfl rfl dX5_begin_32 (fun H locs f_19 ek_20 ok_21 hP hD hS => ?_)
  have hP : va_P D vwCl [(h0, .inr (5, zf 14 f_19)), (co, .inr (6, zf 3 f1)), (ou, .inr (6, zf 3 f2))] H := hP
  have hD : va_D A [(h0, .inr (5, zf 14 f_19)), (co, .inr (6, zf 3 f1)), (ou, .inr (6, zf 3 f2))] := hD
  refine lv_aload_n hx hb dX5_begin_35 rfl (lv_at hl 0 rfl) ?_
  refine lv_iconst (v := 0) hx hb dX5_begin_36 (by decide) ?_
  refine z_put (T := TX5) (N := 14) (ci := 5) hx hb hts (zi_5 _) hown hK hP hD hS 0 rfl rfl 7 (by decide) (hts _ (zm_359 _)) rfl rfl rfl rfl dX5_begin_37 (fun H locs f_22 ek_23 ok_24 hP hD hS => ?_)
  have hP : va_P D vwCl [(h0, .inr (5, zf 14 f_22)), (co, .inr (6, zf 3 f1)), (ou, .inr (6, zf 3 f2))] H := hP
  have hD : va_D A [(h0, .inr (5, zf 14 f_22)), (co, .inr (6, zf 3 f1)), (ou, .inr (6, zf 3 f2))] := hD
  refine lv_aload_n hx hb dX5_begin_40 rfl (lv_at hl 0 rfl) ?_
  refine lv_iconst (v := 0) hx hb dX5_begin_41 (by decide) ?_
  refine z_put (T := TX5) (N := 14) (ci := 5) hx hb hts (zi_5 _) hown hK hP hD hS 0 rfl rfl 8 (by decide) (hts _ (zm_360 _)) rfl rfl rfl rfl dX5_begin_42 (fun H locs f_25 ek_26 ok_27 hP hD hS => ?_)
  have hP : va_P D vwCl [(h0, .inr (5, zf 14 f_25)), (co, .inr (6, zf 3 f1)), (ou, .inr (6, zf 3 f2))] H := hP
  have hD : va_D A [(h0, .inr (5, zf 14 f_25)), (co, .inr (6, zf 3 f1)), (ou, .inr (6, zf 3 f2))] := hD
  refine lv_aload_n hx hb dX5_begin_45 rfl (lv_at hl 0 rfl) ?_
  refine lv_iconst (v := 0) hx hb dX5_begin_46 (by decide) ?_
  refine z_put (T := TX5) (N := 14) (ci := 5) hx hb hts (zi_5 _) hown hK hP hD hS 0 rfl rfl 9 (by decide) (hts _ (zm_361 _)) rfl rfl rfl rfl dX5_begin_47 (fun H locs f_28 ek_29 ok_30 hP hD hS => ?_)
  have hP : va_P D vwCl [(h0, .inr (5, zf 14 f_28)), (co, .inr (6, zf 3 f1)), (ou, .inr (6, zf 3 f2))] H := hP
  have hD : va_D A [(h0, .inr (5, zf 14 f_28)), (co, .inr (6, zf 3 f1)), (ou, .inr (6, zf 3 f2))] := hD
  refine lv_aload_n hx hb dX5_begin_50 rfl (lv_at hl 0 rfl) ?_
  refine lv_iconst (v := 0) hx hb dX5_begin_51 (by decide) ?_
  refine z_put (T := TX5) (N := 14) (ci := 5) hx hb hts (zi_5 _) hown hK hP hD hS 0 rfl rfl 10 (by decide) (hts _ (zm_362 _)) rfl rfl rfl rfl dX5_begin_52 (fun H locs f_31 ek_32 ok_33 hP hD hS => ?_)
  have hP : va_P D vwCl [(h0, .inr (5, zf 14 f_31)), (co, .inr (6, zf 3 f1)), (ou, .inr (6, zf 3 f2))] H := hP
  have hD : va_D A [(h0, .inr (5, zf 14 f_31)), (co, .inr (6, zf 3 f1)), (ou, .inr (6, zf 3 f2))] := hD
  refine lv_aload_n hx hb dX5_begin_55 rfl (lv_at hl 0 rfl) ?_
  refine lv_iload_n hx hb dX5_begin_56 rfl (lv_at hl 1 rfl) ?_
  refine lv_i2l (v := 0) hx hb dX5_begin_57 (by decide) ?_
  refine z_put (T := TX5) (N := 14) (ci := 5) hx hb hts (zi_5 _) hown hK hP hD hS 0 rfl rfl 11 (by decide) (hts _ (zm_363 _)) rfl rfl rfl rfl dX5_begin_58 (fun H locs f_34 ek_35 ok_36 hP hD hS => ?_)
  have hP : va_P D vwCl [(h0, .inr (5, zf 14 f_34)), (co, .inr (6, zf 3 f1)), (ou, .inr (6, zf 3 f2))] H := hP
  have hD : va_D A [(h0, .inr (5, zf 14 f_34)), (co, .inr (6, zf 3 f1)), (ou, .inr (6, zf 3 f2))] := hD
  refine lv_aload_n hx hb dX5_begin_61 rfl (lv_at hl 0 rfl) ?_
  have e_37 : f_34 12 = .ref co := ((ok_36 12 (by decide)).trans ((ok_33 12 (by decide)).trans ((ok_30 12 (by decide)).trans ((ok_27 12 (by decide)).trans ((ok_24 12 (by decide)).trans ((ok_21 12 (by decide)).trans ((ok_18 12 (by decide)).trans ((ok_15 12 (by decide)).trans ((ok_12 12 (by decide)).trans ((ok_9 12 (by decide)).trans ((ok_6 12 (by decide)).trans ((ok_3 12 (by decide)).trans h0_12))))))))))))
  refine z_get (T := TX5) (N := 14) (ci := 5) hx hb hts (zi_5 _) hown hK hP 0 rfl rfl 12 (by decide) (hts _ (zm_70 _)) rfl e_37 dX5_begin_62 ?_
  have hPc := hP.sub (ws' := [(co, .inr (6, zf 3 f1))]) [1] rfl
  have hDc := hD.sub (ws' := [(co, .inr (6, zf 3 f1))]) [1] (by decide) rfl
  have hFc := va_free (wc := [(co, .inr (6, zf 3 f1))]) hD hS hA [1] rfl
  have h_39 : 0 + 0 ≤ 0 ∧ 0 + 0 ≤ 0 := by omega
  refine va_callv (va_runVN (As := []) (rest := []) ⟨hx, hb, hml, hown, hts⟩ (c_Row_clear l D x co f1 cb H.size h1_0) ⟨va_cnB 0 hts (zgood (zm_181 _) rfl) rfl rfl rfl (hZ.2.1 _ zn_142) (hts _ (zm_7 _)) ⟨by decide, by decide, by decide +kernel⟩ ⟨Nat.le_of_ble_eq_true rfl, Nat.le_of_ble_eq_true rfl⟩, hts _ (zm_182 _), hts _ (zm_183 _)⟩ ⟨fun a U g mk q => by obtain ⟨q0, q1, qP, qK, qD⟩ := q; exact ⟨q0, q1, qP, ZK.calling (u := U) zN_ok rfl qK, qD⟩, va_recv hK hPc (ci := 6) (q0 := 0) rfl rfl, fun U hU hW => ⟨rfl, by rw [hU], by rw [hU]; exact hPc, ZK.warm zN_ok hW hZ, hDc.weaken (fun _ _ _ _ => trivial)⟩⟩ rfl rfl hl.1 rfl (lv_room (Nat.le_of_ble_eq_true rfl)) dX5_begin_65 h_39) hS (fun q _ h => hFc q h) hFc (fun c0_38 t H1 locs ht hvm hw_38 hB hz1 hk1 hS => ?_)
  obtain ⟨hP1, hD1⟩ := hB
  rw [ht] at hP1
  try dsimp only at hw_38
  obtain ⟨hP, hD⟩ := va_join (wr := [(h0, .inr (5, zf 14 f_34)), (ou, .inr (6, zf 3 f2))]) (w1 := [(co, .inr (6, zf 3 c0_38))]) hP hD [1] [0, 2] rfl rfl (by decide) (by decide) hk1 hFc hP1 hD1
  generalize H1 = H at hP hS ⊢
  have hP : va_P D vwCl [(h0, .inr (5, zf 14 f_34)), (ou, .inr (6, zf 3 f2)), (co, .inr (6, zf 3 c0_38))] H := hP
  have hD : va_D A [(h0, .inr (5, zf 14 f_34)), (ou, .inr (6, zf 3 f2)), (co, .inr (6, zf 3 c0_38))] := hD
  refine W.widen (k := 0) (n := 0) (by omega) (by omega) ?_
  refine lv_aload_n hx hb dX5_begin_68 rfl (lv_at hl 0 rfl) ?_
  have e_40 : f_34 13 = .ref ou := ((ok_36 13 (by decide)).trans ((ok_33 13 (by decide)).trans ((ok_30 13 (by decide)).trans ((ok_27 13 (by decide)).trans ((ok_24 13 (by decide)).trans ((ok_21 13 (by decide)).trans ((ok_18 13 (by decide)).trans ((ok_15 13 (by decide)).trans ((ok_12 13 (by decide)).trans ((ok_9 13 (by decide)).trans ((ok_6 13 (by decide)).trans ((ok_3 13 (by decide)).trans h0_13))))))))))))
  refine z_get (T := TX5) (N := 14) (ci := 5) hx hb hts (zi_5 _) hown hK hP 0 rfl rfl 13 (by decide) (hts _ (zm_72 _)) rfl e_40 dX5_begin_69 ?_
  have hPc := hP.sub (ws' := [(ou, .inr (6, zf 3 f2))]) [1] rfl
  have hDc := hD.sub (ws' := [(ou, .inr (6, zf 3 f2))]) [1] (by decide) rfl
  have hFc := va_free (wc := [(ou, .inr (6, zf 3 f2))]) hD hS hA [1] rfl
  have h_42 : 0 + 0 ≤ 0 ∧ 0 + 0 ≤ 0 := by omega
  refine va_callv (va_runVN (As := []) (rest := []) ⟨hx, hb, hml, hown, hts⟩ (c_Row_clear l D x ou f2 ob H.size h2_0) ⟨va_cnB 0 hts (zgood (zm_181 _) rfl) rfl rfl rfl (hZ.2.1 _ zn_142) (hts _ (zm_7 _)) ⟨by decide, by decide, by decide +kernel⟩ ⟨Nat.le_of_ble_eq_true rfl, Nat.le_of_ble_eq_true rfl⟩, hts _ (zm_182 _), hts _ (zm_183 _)⟩ ⟨fun a U g mk q => by obtain ⟨q0, q1, qP, qK, qD⟩ := q; exact ⟨q0, q1, qP, ZK.calling (u := U) zN_ok rfl qK, qD⟩, va_recv hK hPc (ci := 6) (q0 := 0) rfl rfl, fun U hU hW => ⟨rfl, by rw [hU], by rw [hU]; exact hPc, ZK.warm zN_ok hW hZ, hDc.weaken (fun _ _ _ _ => trivial)⟩⟩ rfl rfl hl.1 rfl (lv_room (Nat.le_of_ble_eq_true rfl)) dX5_begin_72 h_42) hS (fun q _ h => hFc q h) hFc (fun c0_41 t H1 locs ht hvm hw_41 hB hz1 hk1 hS => ?_)
  obtain ⟨hP1, hD1⟩ := hB
  rw [ht] at hP1
  try dsimp only at hw_41
  obtain ⟨hP, hD⟩ := va_join (wr := [(h0, .inr (5, zf 14 f_34)), (co, .inr (6, zf 3 c0_38))]) (w1 := [(ou, .inr (6, zf 3 c0_41))]) hP hD [1] [0, 2] rfl rfl (by decide) (by decide) hk1 hFc hP1 hD1
  generalize H1 = H at hP hS ⊢
  have hP : va_P D vwCl [(h0, .inr (5, zf 14 f_34)), (co, .inr (6, zf 3 c0_38)), (ou, .inr (6, zf 3 c0_41))] H := hP
  have hD : va_D A [(h0, .inr (5, zf 14 f_34)), (co, .inr (6, zf 3 c0_38)), (ou, .inr (6, zf 3 c0_41))] := hD
  refine W.widen (k := 0) (n := 0) (by omega) (by omega) ?_
  have e_43 : f_34 0 = .int 0 := ((ok_36 0 (by decide)).trans ((ok_33 0 (by decide)).trans ((ok_30 0 (by decide)).trans ((ok_27 0 (by decide)).trans ((ok_24 0 (by decide)).trans ((ok_21 0 (by decide)).trans ((ok_18 0 (by decide)).trans ((ok_15 0 (by decide)).trans ((ok_12 0 (by decide)).trans ((ok_9 0 (by decide)).trans ((ok_6 0 (by decide)).trans ek_2)))))))))))
  have e_44 : f_34 1 = .ref w0 := ((ok_36 1 (by decide)).trans ((ok_33 1 (by decide)).trans ((ok_30 1 (by decide)).trans ((ok_27 1 (by decide)).trans ((ok_24 1 (by decide)).trans ((ok_21 1 (by decide)).trans ((ok_18 1 (by decide)).trans ((ok_15 1 (by decide)).trans ((ok_12 1 (by decide)).trans ((ok_9 1 (by decide)).trans ek_5))))))))))
  have hP9 := hP.sub (ws' := [(h0, .inr (5, zf 14 f_34)), (co, .inr (6, zf 3 c0_38)), (ou, .inr (6, zf 3 c0_41))]) [0, 1, 2] rfl
  have hD9 := hD.sub (ws' := [(h0, .inr (5, zf 14 f_34)), (co, .inr (6, zf 3 c0_38)), (ou, .inr (6, zf 3 c0_41))]) [0, 1, 2] (by decide) rfl
  exact W.vret hx hb hr (fun t ht hW => ⟨⟨(f_34, c0_38, c0_41), rfl, ⟨e_43, e_44⟩, ⟨by rw [ht]; exact hP9, hD9⟩⟩, hS.F ht⟩) hS.2.2 dX5_begin_75

set_option maxHeartbeats 8000000 in
set_option maxRecDepth 100000 in
/-- Machine.isBusy where there are none -/
theorem c_isBusy0 (l : Launch) (D : va_G) (x : Nat → ClassId) (w0 : Nat) (h0 : Nat) (f0 : Nat → Value) (sz : Nat) (h0_4 : f0 4 = .int 0) : Met l yX2_isBusy (.code yX2_isBusy cX2_isBusy 4 (some .boolean) :: zW) ({ frames := 0, cells := (0), slots := (0), locals := 0 }) (va_Pc [.ref h0, .ref w0] (fun U => U.heap.size = sz ∧ va_P D vwCl [(h0, .inr (2, zf 19 f0))] U.heap ∧ zK x D U ∧ va_D (fun _ => True) [(h0, .inr (2, zf 19 f0))])) (va_Qi (fun (r : Int32) (u : Unit) => r = 0) (fun u t => zB D vwCl (va_A [(h0, .inr (2, zf 19 f0))] sz) [(h0, .inr (2, zf 19 f0))] t) (va_A [(h0, .inr (2, zf 19 f0))] sz)) (0) (0) (va_A [(h0, .inr (2, zf 19 f0))] sz) := by
  refine Met.ofW (cc := cX2_isBusy) (maxL := 4) (ret := (some .boolean)) (by decide) rfl ?_
  intro p e s m args below meth c s₁ B hml hv
  obtain ⟨rfl, hsz, hP, hZ, hD0⟩ := hv
  have hK := hZ.1
  have hx := B.exec
  have hb := B.bytes
  have hr := B.returns
  have hts := atoms_spec (ws := .code yX2_isBusy cX2_isBusy 4 (some .boolean) :: zW) B.pre
  have hown : s.vm.findClass RX2 = some m.cls := findClass_of_methodNamed B.named
  have hlocks := B.notSynchronized
  subst hsz
  have hD := hD0.self (sz := s.heap.size)
  generalize hAe : va_A [(h0, .inr (2, zf 19 f0))] s.heap.size = A at hD ⊢
  have hA : ∀ q : Nat, s.heap.size ≤ q → A q := fun q h => by rw [← hAe]; exact Or.inr h
  have hS : va_S A s.heap s.heap [] := va_S.rf
  have hP : va_P D vwCl [(h0, .inr (2, zf 19 f0))] s.heap := hP
  have hl := lv_entry ([.ref h0, .ref w0]) (n := 4) (Nat.le_of_ble_eq_true rfl)
  rw [lg_entry_eq]
  generalize (lg_sl ([.ref h0, .ref w0]) ++ List.replicate (4 - (lg_sl ([.ref h0, .ref w0])).length) Slot.unset).toArray = ls at hl ⊢
  have hl : lv_has ls 4 [(0, .ref h0), (1, .ref w0)] := hl
  refine lv_iconst (v := 0) hx hb dX2_isBusy_0 (by decide) ?_
  refine lv_istore_n (lv' := [(2, .int 0), (0, .ref h0), (1, .ref w0)]) hx hb dX2_isBusy_1 rfl hl (by decide) rfl (fun ls hl => ?_)
  refine lv_iload_n hx hb dX2_isBusy_2 rfl (lv_at hl 0 rfl) ?_
  refine lv_aload_n hx hb dX2_isBusy_3 rfl (lv_at hl 1 rfl) ?_
  refine z_get (T := TX2) (N := 19) (ci := 2) hx hb hts (zi_2 _) hown hK hP 0 rfl rfl 4 (by decide) (hts _ (zm_288 _)) rfl h0_4 dX2_isBusy_4 ?_
  refine lv_icmp_ge (tgt := 41) hx hb dX2_isBusy_7 (by decide) (fun _ => ?_) (fun c9 => absurd (by decide) c9)
  refine lv_iconst (v := 0) hx hb dX2_isBusy_41 (by decide) ?_
  have hP9 := hP.sub (ws' := [(h0, .inr (2, zf 19 f0))]) [0] rfl
  have hD9 := hD.sub (ws' := [(h0, .inr (2, zf 19 f0))]) [0] (by decide) rfl
  exact W.zret (v := 0) hx hb hr (by decide) (fun t ht hW => ⟨⟨_, (), rfl, rfl, ⟨by rw [ht]; exact hP9, hD9⟩⟩, hS.F ht⟩) hS.2.2 dX2_isBusy_42

set_option maxHeartbeats 8000000 in
set_option maxRecDepth 100000 in
/-- Machine.create, the first -/
theorem c_create0 (l : Launch) (D : va_G) (x : Nat → ClassId) (h0 : Nat) (f0 : Nat → Value) (pr : Nat) (gp : Nat → Option Nat) (wk : Nat) (gw : Nat → Option Nat) (p0 : Nat) (fp : Nat → Value) (co : Nat) (f4 : Nat → Value) (ou : Nat) (f5 : Nat → Value) (w0 : Nat) (fw : Nat → Value) (na : Nat) (f1 : Nat → Value) (sc : Nat) (f2 : Nat → Value) (lg : Nat) (f3 : Nat → Value) (cb : Nat) (ob : Nat) (lv : Nat) (lb : Nat) (sz : Nat) (h0_4 : f0 4 = .int 0) (h0_3 : f0 3 = .ref pr) (h0_5 : f0 5 = .ref wk) (h1_0 : gp 0 = some p0) (h2_0 : gw 0 = some w0) (h3_12 : fp 12 = .ref co) (h3_13 : fp 13 = .ref ou) (h4_0 : f4 0 = .ref cb) (h5_0 : f5 0 = .ref ob) (h6_17 : fw 17 = .ref na) (h6_18 : fw 18 = .ref sc) (h6_4 : fw 4 = .ref lv) (h6_13 : fw 13 = .null) (h6_14 : fw 14 = .int 0) (h8_12 : f2 12 = .ref lg) (h9_0 : f3 0 = .ref lb) : Met l yX2_create (.code yX2_create cX2_create 4 (some (.object "MumpsHouse$Proc")) :: zW) ({ frames := 3, cells := (0), slots := (0), locals := 60 }) (va_Pc [.ref h0] (fun U => U.heap.size = sz ∧ va_P D vwCl [(h0, .inr (2, zf 19 f0)), (pr, .inl (x 9, 24, .inr (.inr (.inr (.inr gp))))), (wk, .inl (x 10, 6, .inr (.inr (.inr (.inr gw))))), (p0, .inr (5, zf 14 fp)), (co, .inr (6, zf 3 f4)), (ou, .inr (6, zf 3 f5)), (w0, .inr (10, zf 20 fw)), (na, .inr (3, zf 9 f1)), (sc, .inr (7, zf 20 f2)), (lg, .inr (6, zf 3 f3))] U.heap ∧ zK x D U ∧ va_D (fun _ => True) [(h0, .inr (2, zf 19 f0)), (pr, .inl (x 9, 24, .inr (.inr (.inr (.inr gp))))), (wk, .inl (x 10, 6, .inr (.inr (.inr (.inr gw))))), (p0, .inr (5, zf 14 fp)), (co, .inr (6, zf 3 f4)), (ou, .inr (6, zf 3 f5)), (w0, .inr (10, zf 20 fw)), (na, .inr (3, zf 9 f1)), (sc, .inr (7, zf 20 f2)), (lg, .inr (6, zf 3 f3))])) (va_Qr (fun u : (Nat → Value) × (Nat → Value) × (Nat → Value) × (Nat → Value) × (Nat → Value) × (Nat → Value) × (Nat → Value) × (Nat → Value) => match u with | (c0, c3, c4, c5, c6, c7, c8, c9) => c3 0 = .int 0 ∧ c3 1 = .ref w0 ∧ c6 1 = .int 0 ∧ c6 3 = .int 0 ∧ c6 5 = .int 0 ∧ c6 7 = .int 0 ∧ c6 12 = .int 0 ∧ c6 16 = .int 0 ∧ c6 17 = .ref na ∧ c6 18 = .ref sc ∧ c6 4 = .ref lv ∧ c6 13 = .null ∧ c6 14 = .int 0 ∧ c8 5 = .int 0) (fun u ra t => match u with | (c0, c3, c4, c5, c6, c7, c8, c9) => zB D vwCl (va_A [(h0, .inr (2, zf 19 f0)), (pr, .inl (x 9, 24, .inr (.inr (.inr (.inr gp))))), (wk, .inl (x 10, 6, .inr (.inr (.inr (.inr gw))))), (p0, .inr (5, zf 14 fp)), (co, .inr (6, zf 3 f4)), (ou, .inr (6, zf 3 f5)), (w0, .inr (10, zf 20 fw)), (na, .inr (3, zf 9 f1)), (sc, .inr (7, zf 20 f2)), (lg, .inr (6, zf 3 f3))] sz) [(h0, .inr (2, zf 19 c0)), (pr, .inl (x 9, 24, .inr (.inr (.inr (.inr gp))))), (wk, .inl (x 10, 6, .inr (.inr (.inr (.inr gw))))), (p0, .inr (5, zf 14 c3)), (co, .inr (6, zf 3 c4)), (ou, .inr (6, zf 3 c5)), (w0, .inr (10, zf 20 c6)), (na, .inr (3, zf 9 c7)), (sc, .inr (7, zf 20 c8)), (lg, .inr (6, zf 3 c9))] t) (va_A [(h0, .inr (2, zf 19 f0)), (pr, .inl (x 9, 24, .inr (.inr (.inr (.inr gp))))), (wk, .inl (x 10, 6, .inr (.inr (.inr (.inr gw))))), (p0, .inr (5, zf 14 fp)), (co, .inr (6, zf 3 f4)), (ou, .inr (6, zf 3 f5)), (w0, .inr (10, zf 20 fw)), (na, .inr (3, zf 9 f1)), (sc, .inr (7, zf 20 f2)), (lg, .inr (6, zf 3 f3))] sz)) (0) (0) (va_A [(h0, .inr (2, zf 19 f0)), (pr, .inl (x 9, 24, .inr (.inr (.inr (.inr gp))))), (wk, .inl (x 10, 6, .inr (.inr (.inr (.inr gw))))), (p0, .inr (5, zf 14 fp)), (co, .inr (6, zf 3 f4)), (ou, .inr (6, zf 3 f5)), (w0, .inr (10, zf 20 fw)), (na, .inr (3, zf 9 f1)), (sc, .inr (7, zf 20 f2)), (lg, .inr (6, zf 3 f3))] sz) := by
  refine Met.ofW (cc := cX2_create) (maxL := 4) (ret := (some (.object "MumpsHouse$Proc"))) (by decide) rfl ?_
  intro p e s m args below meth c s₁ B hml hv
  obtain ⟨rfl, hsz, hP, hZ, hD0⟩ := hv
  have hK := hZ.1
  have hx := B.exec
  have hb := B.bytes
  have hr := B.returns
  have hts := atoms_spec (ws := .code yX2_create cX2_create 4 (some (.object "MumpsHouse$Proc")) :: zW) B.pre
  have hown : s.vm.findClass RX2 = some m.cls := findClass_of_methodNamed B.named
  have hlocks := B.notSynchronized
  subst hsz
  have hD := hD0.self (sz := s.heap.size)
  generalize hAe : va_A [(h0, .inr (2, zf 19 f0)), (pr, .inl (x 9, 24, .inr (.inr (.inr (.inr gp))))), (wk, .inl (x 10, 6, .inr (.inr (.inr (.inr gw))))), (p0, .inr (5, zf 14 fp)), (co, .inr (6, zf 3 f4)), (ou, .inr (6, zf 3 f5)), (w0, .inr (10, zf 20 fw)), (na, .inr (3, zf 9 f1)), (sc, .inr (7, zf 20 f2)), (lg, .inr (6, zf 3 f3))] s.heap.size = A at hD ⊢
  have hA : ∀ q : Nat, s.heap.size ≤ q → A q := fun q h => by rw [← hAe]; exact Or.inr h
  have hS : va_S A s.heap s.heap [] := va_S.rf
  have hP : va_P D vwCl [(h0, .inr (2, zf 19 f0)), (pr, .inl (x 9, 24, .inr (.inr (.inr (.inr gp))))), (wk, .inl (x 10, 6, .inr (.inr (.inr (.inr gw))))), (p0, .inr (5, zf 14 fp)), (co, .inr (6, zf 3 f4)), (ou, .inr (6, zf 3 f5)), (w0, .inr (10, zf 20 fw)), (na, .inr (3, zf 9 f1)), (sc, .inr (7, zf 20 f2)), (lg, .inr (6, zf 3 f3))] s.heap := hP
  have hl := lv_entry ([.ref h0]) (n := 4) (Nat.le_of_ble_eq_true rfl)
  rw [lg_entry_eq]
  generalize (lg_sl ([.ref h0]) ++ List.replicate (4 - (lg_sl ([.ref h0])).length) Slot.unset).toArray = ls at hl ⊢
  have hl : lv_has ls 4 [(0, .ref h0)] := hl
  refine lv_iconst (v := 0) hx hb dX2_create_0 (by decide) ?_
  refine lv_istore_n (lv' := [(1, .int 0), (0, .ref h0)]) hx hb dX2_create_1 rfl hl (by decide) rfl (fun ls hl => ?_)
  refine lv_iload_n hx hb dX2_create_2 rfl (lv_at hl 0 rfl) ?_
  refine lv_aload_n hx hb dX2_create_3 rfl (lv_at hl 1 rfl) ?_
  refine z_get (T := TX2) (N := 19) (ci := 2) hx hb hts (zi_2 _) hown hK hP 0 rfl rfl 5 (by decide) (hts _ (zm_153 _)) rfl h0_5 dX2_create_4 ?_
  refine va_alen (v := 6) hx hb hK hP 2 10 rfl rfl rfl dX2_create_7 ?_
  refine lv_icmp_ge (tgt := 30) hx hb dX2_create_8 (by decide) (fun c9 => absurd c9 (by decide)) (fun _ => ?_)
  refine lv_aload_n hx hb dX2_create_11 rfl (lv_at hl 1 rfl) ?_
  refine lv_aload_n hx hb dX2_create_12 rfl (lv_at hl 1 rfl) ?_
  refine z_get (T := TX2) (N := 19) (ci := 2) hx hb hts (zi_2 _) hown hK hP 0 rfl rfl 5 (by decide) (hts _ (zm_153 _)) rfl h0_5 dX2_create_13 ?_
  refine lv_iload_n hx hb dX2_create_16 rfl (lv_at hl 0 rfl) ?_
  refine z_aldq hx hb hK hP 2 10 rfl rfl (z_in (by decide)) h2_0 dX2_create_17 ?_
  have hPc := hP.sub (ws' := [(h0, .inr (2, zf 19 f0))]) [0] rfl
  have hDc := hD.sub (ws' := [(h0, .inr (2, zf 19 f0))]) [0] (by decide) rfl
  have hFc := va_free (wc := [(h0, .inr (2, zf 19 f0))]) hD hS hA [0] rfl
  have h_2 : 0 + 0 ≤ 0 ∧ 0 + 0 ≤ 0 := by omega
  refine va_calli (va_runV (As := [.ref w0]) (rest := []) ⟨hx, hb, hml, hown, hts⟩ (c_isBusy0 l D x w0 h0 f0 s.heap.size h0_4) ⟨callB_of 1 hts (zgood (zm_310 _) rfl) rfl rfl rfl (hts _ (zm_146 _)) (hts _ (zm_309 _)) ⟨by decide, by decide, by decide +kernel⟩ ⟨Nat.le_of_ble_eq_true rfl, Nat.le_of_ble_eq_true rfl⟩, hts _ (zm_311 _), hts _ (zm_312 _)⟩ ⟨fun a U g mk q => by obtain ⟨q0, q1, qP, qK, qD⟩ := q; exact ⟨q0, q1, qP, ZK.calling (u := U) zN_ok rfl qK, qD⟩, va_recv hK hPc (ci := 2) (q0 := 0) rfl rfl, fun U hU hW => ⟨rfl, by rw [hU], by rw [hU]; exact hPc, ZK.warm zN_ok hW hZ, hDc.weaken (fun _ _ _ _ => trivial)⟩⟩ rfl rfl hl.1 rfl (lv_room (Nat.le_of_ble_eq_true rfl)) dX2_create_18 h_2) hS (fun q _ h => hFc q h) hFc (fun r_1 u t H1 locs ht hvm hw_1 hB hz1 hk1 hS => ?_)
  obtain ⟨hP1, hD1⟩ := hB
  rw [ht] at hP1
  try dsimp only at hw_1
  obtain ⟨hP, hD⟩ := va_join (wr := [(pr, .inl (x 9, 24, .inr (.inr (.inr (.inr gp))))), (wk, .inl (x 10, 6, .inr (.inr (.inr (.inr gw))))), (p0, .inr (5, zf 14 fp)), (co, .inr (6, zf 3 f4)), (ou, .inr (6, zf 3 f5)), (w0, .inr (10, zf 20 fw)), (na, .inr (3, zf 9 f1)), (sc, .inr (7, zf 20 f2)), (lg, .inr (6, zf 3 f3))]) (w1 := [(h0, .inr (2, zf 19 f0))]) hP hD [0] [1, 2, 3, 4, 5, 6, 7, 8, 9] rfl rfl (by decide) (by decide) hk1 hFc hP1 hD1
  generalize H1 = H at hP hS ⊢
  have hP : va_P D vwCl [(pr, .inl (x 9, 24, .inr (.inr (.inr (.inr gp))))), (wk, .inl (x 10, 6, .inr (.inr (.inr (.inr gw))))), (p0, .inr (5, zf 14 fp)), (co, .inr (6, zf 3 f4)), (ou, .inr (6, zf 3 f5)), (w0, .inr (10, zf 20 fw)), (na, .inr (3, zf 9 f1)), (sc, .inr (7, zf 20 f2)), (lg, .inr (6, zf 3 f3)), (h0, .inr (2, zf 19 f0))] H := hP
  have hD : va_D A [(pr, .inl (x 9, 24, .inr (.inr (.inr (.inr gp))))), (wk, .inl (x 10, 6, .inr (.inr (.inr (.inr gw))))), (p0, .inr (5, zf 14 fp)), (co, .inr (6, zf 3 f4)), (ou, .inr (6, zf 3 f5)), (w0, .inr (10, zf 20 fw)), (na, .inr (3, zf 9 f1)), (sc, .inr (7, zf 20 f2)), (lg, .inr (6, zf 3 f3)), (h0, .inr (2, zf 19 f0))] := hD
  refine W.widen (k := 0) (n := 0) (by omega) (by omega) ?_
  obtain rfl : r_1 = 0 := hw_1
  refine lv_if_eq (tgt := 30) hx hb dX2_create_21 (by decide) (fun _ => ?_) (fun c9 => absurd (by decide) c9)
  refine lv_iload_n hx hb dX2_create_30 rfl (lv_at hl 0 rfl) ?_
  refine lv_aload_n hx hb dX2_create_31 rfl (lv_at hl 1 rfl) ?_
  refine z_get (T := TX2) (N := 19) (ci := 2) hx hb hts (zi_2 _) hown hK hP 9 rfl rfl 5 (by decide) (hts _ (zm_153 _)) rfl h0_5 dX2_create_32 ?_
  refine va_alen (v := 6) hx hb hK hP 1 10 rfl rfl rfl dX2_create_35 ?_
  refine lv_icmp_ge (tgt := 48) hx hb dX2_create_36 (by decide) (fun c9 => absurd c9 (by decide)) (fun _ => ?_)
  refine lv_aload_n hx hb dX2_create_39 rfl (lv_at hl 1 rfl) ?_
  refine z_get (T := TX2) (N := 19) (ci := 2) hx hb hts (zi_2 _) hown hK hP 9 rfl rfl 5 (by decide) (hts _ (zm_153 _)) rfl h0_5 dX2_create_40 ?_
  refine lv_iload_n hx hb dX2_create_43 rfl (lv_at hl 0 rfl) ?_
  refine z_aldq hx hb hK hP 1 10 rfl rfl (z_in (by decide)) h2_0 dX2_create_44 ?_
  refine lv_goto (tgt := 49) hx hb dX2_create_45 (by decide) ?_
  refine lv_astore_n (lv' := [(2, .ref w0), (1, .int 0), (0, .ref h0)]) hx hb dX2_create_49 rfl hl (by decide) rfl (fun ls hl => ?_)
  refine lv_aload_n hx hb dX2_create_50 rfl (lv_at hl 2 rfl) ?_
  refine z_get (T := TX2) (N := 19) (ci := 2) hx hb hts (zi_2 _) hown hK hP 9 rfl rfl 4 (by decide) (hts _ (zm_288 _)) rfl h0_4 dX2_create_51 ?_
  refine lv_if_lt (tgt := 81) hx hb dX2_create_54 (by decide) (fun c9 => absurd c9 (by decide)) (fun _ => ?_)
  refine lv_aload_n hx hb dX2_create_57 rfl (lv_at hl 2 rfl) ?_
  refine z_get (T := TX2) (N := 19) (ci := 2) hx hb hts (zi_2 _) hown hK hP 9 rfl rfl 4 (by decide) (hts _ (zm_288 _)) rfl h0_4 dX2_create_58 ?_
  refine lv_aload_n hx hb dX2_create_61 rfl (lv_at hl 2 rfl) ?_
  refine z_get (T := TX2) (N := 19) (ci := 2) hx hb hts (zi_2 _) hown hK hP 9 rfl rfl 3 (by decide) (hts _ (zm_152 _)) rfl h0_3 dX2_create_62 ?_
  refine va_alen (v := 24) hx hb hK hP 0 9 rfl rfl rfl dX2_create_65 ?_
  refine lv_icmp_ge (tgt := 81) hx hb dX2_create_66 (by decide) (fun c9 => absurd c9 (by decide)) (fun _ => ?_)
  refine lv_aload_n hx hb dX2_create_69 rfl (lv_at hl 2 rfl) ?_
  refine z_get (T := TX2) (N := 19) (ci := 2) hx hb hts (zi_2 _) hown hK hP 9 rfl rfl 3 (by decide) (hts _ (zm_152 _)) rfl h0_3 dX2_create_70 ?_
  refine lv_aload_n hx hb dX2_create_73 rfl (lv_at hl 2 rfl) ?_
  refine z_get (T := TX2) (N := 19) (ci := 2) hx hb hts (zi_2 _) hown hK hP 9 rfl rfl 4 (by decide) (hts _ (zm_288 _)) rfl h0_4 dX2_create_74 ?_
  refine z_aldq hx hb hK hP 0 9 rfl rfl (z_in (by decide)) h1_0 dX2_create_77 ?_
  refine lv_goto (tgt := 82) hx hb dX2_create_78 (by decide) ?_
  refine lv_astore_n (lv' := [(3, .ref p0), (2, .ref w0), (1, .int 0), (0, .ref h0)]) hx hb dX2_create_82 rfl hl (by decide) rfl (fun ls hl => ?_)
  refine lv_aload_n hx hb dX2_create_83 rfl (lv_at hl 1 rfl) ?_
  refine lv_ifnull hx hb dX2_create_84 ?_
  refine lv_aload_n hx hb dX2_create_87 rfl (lv_at hl 0 rfl) ?_
  refine lv_ifnonnull (tgt := 93) hx hb dX2_create_88 (by decide) ?_
  refine lv_aload_n hx hb dX2_create_93 rfl (lv_at hl 1 rfl) ?_
  have hPc := hP.sub (ws' := [(w0, .inr (10, zf 20 fw)), (na, .inr (3, zf 9 f1)), (sc, .inr (7, zf 20 f2)), (lg, .inr (6, zf 3 f3))]) [5, 6, 7, 8] rfl
  have hDc := hD.sub (ws' := [(w0, .inr (10, zf 20 fw)), (na, .inr (3, zf 9 f1)), (sc, .inr (7, zf 20 f2)), (lg, .inr (6, zf 3 f3))]) [5, 6, 7, 8] (by decide) rfl
  have hFc := va_free (wc := [(w0, .inr (10, zf 20 fw)), (na, .inr (3, zf 9 f1)), (sc, .inr (7, zf 20 f2)), (lg, .inr (6, zf 3 f3))]) hD hS hA [5, 6, 7, 8] rfl
  have h_7 : 0 + 0 ≤ 0 ∧ 0 + 0 ≤ 0 := by omega
  refine va_callv (va_runVN (As := []) (rest := []) ⟨hx, hb, hml, hown, hts⟩ (c_Work_begin l D x w0 fw na f1 sc f2 lg f3 lv lb H.size h6_17 h6_18 h6_4 h6_13 h6_14 h8_12 h9_0) ⟨va_cnB 0 hts (zgood (zm_317 _) rfl) rfl rfl rfl (hZ.2.1 _ zn_128) (hts _ (zm_92 _)) ⟨by decide, by decide, by decide +kernel⟩ ⟨Nat.le_of_ble_eq_true rfl, Nat.le_of_ble_eq_true rfl⟩, hts _ (zm_318 _), hts _ (zm_319 _)⟩ ⟨fun a U g mk q => by obtain ⟨q0, q1, qP, qK, qD⟩ := q; exact ⟨q0, q1, qP, ZK.calling (u := U) zN_ok rfl qK, qD⟩, va_recv hK hPc (ci := 10) (q0 := 0) rfl rfl, fun U hU hW => ⟨rfl, by rw [hU], by rw [hU]; exact hPc, ZK.warm zN_ok hW hZ, hDc.weaken (fun _ _ _ _ => trivial)⟩⟩ rfl rfl hl.1 rfl (lv_room (Nat.le_of_ble_eq_true rfl)) dX2_create_94 h_7) hS (fun q _ h => hFc q h) hFc (fun u t H1 locs ht hvm hw_6 hB hz1 hk1 hS => ?_)
  obtain ⟨c0_3, c1_4, c2_5, c3_6⟩ := u
  obtain ⟨hP1, hD1⟩ := hB
  rw [ht] at hP1
  try dsimp only at hw_6
  obtain ⟨hP, hD⟩ := va_join (wr := [(pr, .inl (x 9, 24, .inr (.inr (.inr (.inr gp))))), (wk, .inl (x 10, 6, .inr (.inr (.inr (.inr gw))))), (p0, .inr (5, zf 14 fp)), (co, .inr (6, zf 3 f4)), (ou, .inr (6, zf 3 f5)), (h0, .inr (2, zf 19 f0))]) (w1 := [(w0, .inr (10, zf 20 c0_3)), (na, .inr (3, zf 9 c1_4)), (sc, .inr (7, zf 20 c2_5)), (lg, .inr (6, zf 3 c3_6))]) hP hD [5, 6, 7, 8] [0, 1, 2, 3, 4, 9] rfl rfl (by decide) (by decide) hk1 hFc hP1 hD1
  generalize H1 = H at hP hS ⊢
  have hP : va_P D vwCl [(pr, .inl (x 9, 24, .inr (.inr (.inr (.inr gp))))), (wk, .inl (x 10, 6, .inr (.inr (.inr (.inr gw))))), (p0, .inr (5, zf 14 fp)), (co, .inr (6, zf 3 f4)), (ou, .inr (6, zf 3 f5)), (h0, .inr (2, zf 19 f0)), (w0, .inr (10, zf 20 c0_3)), (na, .inr (3, zf 9 c1_4)), (sc, .inr (7, zf 20 c2_5)), (lg, .inr (6, zf 3 c3_6))] H := hP
  have hD : va_D A [(pr, .inl (x 9, 24, .inr (.inr (.inr (.inr gp))))), (wk, .inl (x 10, 6, .inr (.inr (.inr (.inr gw))))), (p0, .inr (5, zf 14 fp)), (co, .inr (6, zf 3 f4)), (ou, .inr (6, zf 3 f5)), (h0, .inr (2, zf 19 f0)), (w0, .inr (10, zf 20 c0_3)), (na, .inr (3, zf 9 c1_4)), (sc, .inr (7, zf 20 c2_5)), (lg, .inr (6, zf 3 c3_6))] := hD
  refine W.widen (k := 0) (n := 0) (by omega) (by omega) ?_
  refine lv_aload_n hx hb dX2_create_97 rfl (lv_at hl 0 rfl) ?_
  refine lv_aload_n hx hb dX2_create_98 rfl (lv_at hl 3 rfl) ?_
  refine z_get (T := TX2) (N := 19) (ci := 2) hx hb hts (zi_2 _) hown hK hP 5 rfl rfl 4 (by decide) (hts _ (zm_288 _)) rfl h0_4 dX2_create_99 ?_
  refine lv_aload_n hx hb dX2_create_102 rfl (lv_at hl 1 rfl) ?_
  have hPc := hP.sub (ws' := [(p0, .inr (5, zf 14 fp)), (co, .inr (6, zf 3 f4)), (ou, .inr (6, zf 3 f5))]) [2, 3, 4] rfl
  have hDc := hD.sub (ws' := [(p0, .inr (5, zf 14 fp)), (co, .inr (6, zf 3 f4)), (ou, .inr (6, zf 3 f5))]) [2, 3, 4] (by decide) rfl
  have hFc := va_free (wc := [(p0, .inr (5, zf 14 fp)), (co, .inr (6, zf 3 f4)), (ou, .inr (6, zf 3 f5))]) hD hS hA [2, 3, 4] rfl
  have h_11 : 0 + 0 ≤ 0 ∧ 0 + 0 ≤ 0 := by omega
  refine va_callv (va_runVN (As := [.int 0, .ref w0]) (rest := []) ⟨hx, hb, hml, hown, hts⟩ (c_Proc_begin l D x w0 p0 fp co f4 ou f5 cb ob H.size h3_12 h3_13 h4_0 h5_0) ⟨va_cnB 2 hts (zgood (zm_349 _) rfl) rfl rfl rfl (hZ.2.1 _ zn_129) (hts _ (zm_66 _)) ⟨by decide, by decide, by decide +kernel⟩ ⟨Nat.le_of_ble_eq_true rfl, Nat.le_of_ble_eq_true rfl⟩, hts _ (zm_350 _), hts _ (zm_351 _)⟩ ⟨fun a U g mk q => by obtain ⟨q0, q1, qP, qK, qD⟩ := q; exact ⟨q0, q1, qP, ZK.calling (u := U) zN_ok rfl qK, qD⟩, va_recv hK hPc (ci := 5) (q0 := 0) rfl rfl, fun U hU hW => ⟨rfl, by rw [hU], by rw [hU]; exact hPc, ZK.warm zN_ok hW hZ, hDc.weaken (fun _ _ _ _ => trivial)⟩⟩ rfl rfl hl.1 rfl (lv_room (Nat.le_of_ble_eq_true rfl)) dX2_create_103 h_11) hS (fun q _ h => hFc q h) hFc (fun u t H1 locs ht hvm hw_10 hB hz1 hk1 hS => ?_)
  obtain ⟨c0_8, c1_9, c2_10⟩ := u
  obtain ⟨hP1, hD1⟩ := hB
  rw [ht] at hP1
  try dsimp only at hw_10
  obtain ⟨hP, hD⟩ := va_join (wr := [(pr, .inl (x 9, 24, .inr (.inr (.inr (.inr gp))))), (wk, .inl (x 10, 6, .inr (.inr (.inr (.inr gw))))), (h0, .inr (2, zf 19 f0)), (w0, .inr (10, zf 20 c0_3)), (na, .inr (3, zf 9 c1_4)), (sc, .inr (7, zf 20 c2_5)), (lg, .inr (6, zf 3 c3_6))]) (w1 := [(p0, .inr (5, zf 14 c0_8)), (co, .inr (6, zf 3 c1_9)), (ou, .inr (6, zf 3 c2_10))]) hP hD [2, 3, 4] [0, 1, 5, 6, 7, 8, 9] rfl rfl (by decide) (by decide) hk1 hFc hP1 hD1
  generalize H1 = H at hP hS ⊢
  have hP : va_P D vwCl [(pr, .inl (x 9, 24, .inr (.inr (.inr (.inr gp))))), (wk, .inl (x 10, 6, .inr (.inr (.inr (.inr gw))))), (h0, .inr (2, zf 19 f0)), (w0, .inr (10, zf 20 c0_3)), (na, .inr (3, zf 9 c1_4)), (sc, .inr (7, zf 20 c2_5)), (lg, .inr (6, zf 3 c3_6)), (p0, .inr (5, zf 14 c0_8)), (co, .inr (6, zf 3 c1_9)), (ou, .inr (6, zf 3 c2_10))] H := hP
  have hD : va_D A [(pr, .inl (x 9, 24, .inr (.inr (.inr (.inr gp))))), (wk, .inl (x 10, 6, .inr (.inr (.inr (.inr gw))))), (h0, .inr (2, zf 19 f0)), (w0, .inr (10, zf 20 c0_3)), (na, .inr (3, zf 9 c1_4)), (sc, .inr (7, zf 20 c2_5)), (lg, .inr (6, zf 3 c3_6)), (p0, .inr (5, zf 14 c0_8)), (co, .inr (6, zf 3 c1_9)), (ou, .inr (6, zf 3 c2_10))] := hD
  refine W.widen (k := 0) (n := 0) (by omega) (by omega) ?_
  refine lv_aload_n hx hb dX2_create_106 rfl (lv_at hl 3 rfl) ?_
  refine lv_dup hx hb dX2_create_107 rfl ?_
  refine z_get (T := TX2) (N := 19) (ci := 2) hx hb hts (zi_2 _) hown hK hP 2 rfl rfl 4 (by decide) (hts _ (zm_288 _)) rfl h0_4 dX2_create_108 ?_
  refine lv_iconst (v := 1) hx hb dX2_create_111 (by decide) ?_
  refine lv_iadd hx hb dX2_create_112 ?_
  refine lv_topi (fun y_13 ex_12 => ?_)
  obtain rfl : y_13 = 1 := ex_12.trans (by decide)
  refine z_put (T := TX2) (N := 19) (ci := 2) hx hb hts (zi_2 _) hown hK hP hD hS 2 rfl rfl 4 (by decide) (hts _ (zm_288 _)) rfl rfl rfl rfl dX2_create_113 (fun H locs f_14 ek_15 ok_16 hP hD hS => ?_)
  have hP : va_P D vwCl [(pr, .inl (x 9, 24, .inr (.inr (.inr (.inr gp))))), (wk, .inl (x 10, 6, .inr (.inr (.inr (.inr gw))))), (h0, .inr (2, zf 19 f_14)), (w0, .inr (10, zf 20 c0_3)), (na, .inr (3, zf 9 c1_4)), (sc, .inr (7, zf 20 c2_5)), (lg, .inr (6, zf 3 c3_6)), (p0, .inr (5, zf 14 c0_8)), (co, .inr (6, zf 3 c1_9)), (ou, .inr (6, zf 3 c2_10))] H := hP
  have hD : va_D A [(pr, .inl (x 9, 24, .inr (.inr (.inr (.inr gp))))), (wk, .inl (x 10, 6, .inr (.inr (.inr (.inr gw))))), (h0, .inr (2, zf 19 f_14)), (w0, .inr (10, zf 20 c0_3)), (na, .inr (3, zf 9 c1_4)), (sc, .inr (7, zf 20 c2_5)), (lg, .inr (6, zf 3 c3_6)), (p0, .inr (5, zf 14 c0_8)), (co, .inr (6, zf 3 c1_9)), (ou, .inr (6, zf 3 c2_10))] := hD
  refine lv_aload_n hx hb dX2_create_116 rfl (lv_at hl 0 rfl) ?_
  have hP9 := hP.sub (ws' := [(h0, .inr (2, zf 19 f_14)), (pr, .inl (x 9, 24, .inr (.inr (.inr (.inr gp))))), (wk, .inl (x 10, 6, .inr (.inr (.inr (.inr gw))))), (p0, .inr (5, zf 14 c0_8)), (co, .inr (6, zf 3 c1_9)), (ou, .inr (6, zf 3 c2_10)), (w0, .inr (10, zf 20 c0_3)), (na, .inr (3, zf 9 c1_4)), (sc, .inr (7, zf 20 c2_5)), (lg, .inr (6, zf 3 c3_6))]) [2, 0, 1, 7, 8, 9, 3, 4, 5, 6] rfl
  have hD9 := hD.sub (ws' := [(h0, .inr (2, zf 19 f_14)), (pr, .inl (x 9, 24, .inr (.inr (.inr (.inr gp))))), (wk, .inl (x 10, 6, .inr (.inr (.inr (.inr gw))))), (p0, .inr (5, zf 14 c0_8)), (co, .inr (6, zf 3 c1_9)), (ou, .inr (6, zf 3 c2_10)), (w0, .inr (10, zf 20 c0_3)), (na, .inr (3, zf 9 c1_4)), (sc, .inr (7, zf 20 c2_5)), (lg, .inr (6, zf 3 c3_6))]) [2, 0, 1, 7, 8, 9, 3, 4, 5, 6] (by decide) rfl
  exact W.aret (v := .ref p0) hx hb hr (Or.inl ⟨_, rfl⟩) (Or.inr ⟨_, rfl⟩) (fun t ht hW => ⟨⟨(f_14, c0_8, c1_9, c2_10, c0_3, c1_4, c2_5, c3_6), _, rfl, ⟨hw_10.1, hw_10.2, hw_6.1, hw_6.2.1, hw_6.2.2.1, hw_6.2.2.2.1, hw_6.2.2.2.2.1, hw_6.2.2.2.2.2.1, hw_6.2.2.2.2.2.2.1, hw_6.2.2.2.2.2.2.2.1, hw_6.2.2.2.2.2.2.2.2.1, hw_6.2.2.2.2.2.2.2.2.2.1, hw_6.2.2.2.2.2.2.2.2.2.2.1, hw_6.2.2.2.2.2.2.2.2.2.2.2⟩, ⟨by rw [ht]; exact hP9, hD9⟩⟩, hS.F ht⟩) hS.2.2 dX2_create_117
