section ZN
variable {p : Program} {l : Launch} {e : Env} {R : Room} {s : State} {m : MethodId} {args : Array Value} {below : List Frame} {meth : Method} {c : Code} {H : Heap} {locs : List Loc} {cells slots : Nat} {Q : State → Prop}
variable {cc : ByteArray} {pc : Nat} {ls : Array Slot} {rest : List Value} {D : va_G} {cl : List vw_C} {A : Nat → Prop} {a : Nat} {tys : List (ClassId × FieldType)} {ws : va_W} {H0 : Heap}
/-! the rows of fields with the field's table row told: of a class of many fields the table is looked up once -/
theorem y_get (hexec : p.tables.exec = Jvm.exec) (hb : c.code = cc) {own ref C dcl nm ds : String} {fin : Bool} {T : u_T} {N ci index : Nat} {Ts : List Cond} {ty : Nat → FieldType} (hts : ∀ w ∈ Ts, w.before args s = true) (I : ZI Ts C T N ty) (hown : s.vm.findClass own = some m.cls) (hK : va_K D cl tys s) (hP : va_P D cl ws H) (q0 : Nat) {f : Nat → Value} (he : ws[q0]? = some (a, .inr (ci, zf N f))) (hc : cl[ci]? = some (C, T, N)) (k : Nat) (hk : k < N) (hT : T k = (dcl, nm, ds, fin)) (hlink : (Cond.fieldLink own index ref nm ds).before args s = true) (href : dcl = ref) {v : Value} (hv : f k = v) (hdg : decode cc pc = .ok (.getfield index, 3))
    (kk : W p l e R s m args below meth c H locs cells slots Q (F0 m (pc + 3) ls (v :: rest))) : W p l e R s m args below meth c H locs cells slots Q (F0 m pc ls (.ref a :: rest)) :=
  z_get hexec hb hts I hown hK hP q0 he hc k hk (by rw [hT]; exact hlink) (by rw [hT]; exact href) hv hdg kk
theorem y_put (hexec : p.tables.exec = Jvm.exec) (hb : c.code = cc) {own ref C dcl nm ds : String} {T : u_T} {N ci index : Nat} {Ts : List Cond} {ty : Nat → FieldType} {fty : FieldType} (hts : ∀ w ∈ Ts, w.before args s = true) (I : ZI Ts C T N ty) (hown : s.vm.findClass own = some m.cls) (hK : va_K D cl tys s) (hP : va_P D cl ws H) (hD : va_D A ws) (hS : va_S A H0 H locs) (q0 : Nat) {f : Nat → Value} (he : ws[q0]? = some (a, .inr (ci, zf N f))) (hc : cl[ci]? = some (C, T, N)) (k : Nat) (hk : k < N) (hT : T k = (dcl, nm, ds, false)) (hF : ty k = fty) (hlink : (Cond.fieldLink own index ref nm ds).before args s = true) (href : dcl = ref) {v : Value} (hn : narrow fty v = v) (hfit : fits fty v = true) (hdg : decode cc pc = .ok (.putfield index, 3))
    (kk : ∀ (H1 : Heap) (locs1 : List Loc) (f' : Nat → Value), f' k = v → (∀ j, j ≠ k → f' j = f j) → va_P D cl (ws.set q0 (a, .inr (ci, zf N f'))) H1 → va_D A (ws.set q0 (a, .inr (ci, zf N f'))) → va_S A H0 H1 locs1 → W p l e R s m args below meth c H1 locs1 cells slots Q (F0 m (pc + 3) ls rest)) : W p l e R s m args below meth c H locs cells slots Q (F0 m pc ls (v :: .ref a :: rest)) :=
  z_put hexec hb hts I hown hK hP hD hS q0 he hc k hk (by rw [hT]; exact hlink) (by rw [hT]; exact href) (by rw [hT]) (by rw [hF]; exact hn) (by rw [hF]; exact hfit) hdg kk
theorem y_putF (hexec : p.tables.exec = Jvm.exec) (hb : c.code = cc) {own ref C dcl nm ds : String} {T : u_T} {N ci index : Nat} {Ts : List Cond} {ty : Nat → FieldType} {fty : FieldType} (hts : ∀ w ∈ Ts, w.before args s = true) (I : ZI Ts C T N ty) (hown : s.vm.findClass own = some m.cls) (hK : va_K D cl tys s) (hP : va_P D cl ws H) (hD : va_D A ws) (hS : va_S A H0 H locs) (q0 : Nat) {f : Nat → Value} (he : ws[q0]? = some (a, .inr (ci, zf N f))) (hc : cl[ci]? = some (C, T, N)) (k : Nat) (hk : k < N) (hT : T k = (dcl, nm, ds, true)) (hF : ty k = fty) (hlink : (Cond.fieldLink own index ref nm ds).before args s = true) (href : dcl = ref) (hin2 : meth.name = "<init>") (hdecl : dcl = own) {v : Value} (hn : narrow fty v = v) (hfit : fits fty v = true) (hdg : decode cc pc = .ok (.putfield index, 3))
    (kk : ∀ (H1 : Heap) (locs1 : List Loc) (f' : Nat → Value), f' k = v → (∀ j, j ≠ k → f' j = f j) → va_P D cl (ws.set q0 (a, .inr (ci, zf N f'))) H1 → va_D A (ws.set q0 (a, .inr (ci, zf N f'))) → va_S A H0 H1 locs1 → W p l e R s m args below meth c H1 locs1 cells slots Q (F0 m (pc + 3) ls rest)) : W p l e R s m args below meth c H locs cells slots Q (F0 m pc ls (v :: .ref a :: rest)) :=
  z_putF hexec hb hts I hown hK hP hD hS q0 he hc k hk (by rw [hT]; exact hlink) (by rw [hT]; exact href) (by rw [hT]) hin2 (by rw [hT]; exact hdecl) (by rw [hF]; exact hn) (by rw [hF]; exact hfit) hdg kk
end ZN

theorem tX12_0 : TX12 0 = ("MumpsHouseModel", "wide", "[I", true) := by decide +kernel
theorem uX12_0 : tyX12 0 = .array .int := by decide +kernel
theorem tX12_1 : TX12 1 = ("MumpsHouseModel", "wideB", "[I", true) := by decide +kernel
theorem uX12_1 : tyX12 1 = .array .int := by decide +kernel
theorem tX12_2 : TX12 2 = ("MumpsHouseModel", "wideR", "[I", true) := by decide +kernel
theorem uX12_2 : tyX12 2 = .array .int := by decide +kernel
theorem tX12_3 : TX12 3 = ("MumpsHouseModel", "numberM", "J", false) := by decide +kernel
theorem uX12_3 : tyX12 3 = .long := by decide +kernel
theorem tX12_4 : TX12 4 = ("MumpsHouseModel", "numberE", "I", false) := by decide +kernel
theorem uX12_4 : tyX12 4 = .int := by decide +kernel
theorem tX12_5 : TX12 5 = ("MumpsHouseModel", "textB", "[B", true) := by decide +kernel
theorem uX12_5 : tyX12 5 = .array .byte := by decide +kernel
theorem tX12_6 : TX12 6 = ("MumpsHouseModel", "textN", "I", false) := by decide +kernel
theorem uX12_6 : tyX12 6 = .int := by decide +kernel
theorem tX12_7 : TX12 7 = ("MumpsHouseModel", "numberEnd", "I", false) := by decide +kernel
theorem uX12_7 : tyX12 7 = .int := by decide +kernel
theorem tX12_8 : TX12 8 = ("MumpsHouseModel", "rows", "I", false) := by decide +kernel
theorem uX12_8 : tyX12 8 = .int := by decide +kernel
theorem tX12_9 : TX12 9 = ("MumpsHouseModel", "rowKind", "[I", true) := by decide +kernel
theorem uX12_9 : tyX12 9 = .array .int := by decide +kernel
theorem tX12_10 : TX12 10 = ("MumpsHouseModel", "rowOf", "[I", true) := by decide +kernel
theorem uX12_10 : tyX12 10 = .array .int := by decide +kernel
theorem tX12_11 : TX12 11 = ("MumpsHouseModel", "rowName", "[J", true) := by decide +kernel
theorem uX12_11 : tyX12 11 = .array .long := by decide +kernel
theorem tX12_12 : TX12 12 = ("MumpsHouseModel", "rowKeyLength", "[I", true) := by decide +kernel
theorem uX12_12 : tyX12 12 = .array .int := by decide +kernel
theorem tX12_13 : TX12 13 = ("MumpsHouseModel", "rowKeys", "[B", true) := by decide +kernel
theorem uX12_13 : tyX12 13 = .array .byte := by decide +kernel
theorem tX12_14 : TX12 14 = ("MumpsHouseModel", "rowLength", "[I", true) := by decide +kernel
theorem uX12_14 : tyX12 14 = .array .int := by decide +kernel
theorem tX12_15 : TX12 15 = ("MumpsHouseModel", "rowValues", "[B", true) := by decide +kernel
theorem uX12_15 : tyX12 15 = .array .byte := by decide +kernel
theorem tX12_16 : TX12 16 = ("MumpsHouseModel", "src", "[B", false) := by decide +kernel
theorem uX12_16 : tyX12 16 = .array .byte := by decide +kernel
theorem tX12_17 : TX12 17 = ("MumpsHouseModel", "at", "I", false) := by decide +kernel
theorem uX12_17 : tyX12 17 = .int := by decide +kernel
theorem tX12_18 : TX12 18 = ("MumpsHouseModel", "end", "I", false) := by decide +kernel
theorem uX12_18 : tyX12 18 = .int := by decide +kernel
theorem tX12_19 : TX12 19 = ("MumpsHouseModel", "faultAt", "I", false) := by decide +kernel
theorem uX12_19 : tyX12 19 = .int := by decide +kernel
theorem tX12_20 : TX12 20 = ("MumpsHouseModel", "opened", "I", false) := by decide +kernel
theorem uX12_20 : tyX12 20 = .int := by decide +kernel
theorem tX12_21 : TX12 21 = ("MumpsHouseModel", "code", "[I", true) := by decide +kernel
theorem uX12_21 : tyX12 21 = .array .int := by decide +kernel
theorem tX12_22 : TX12 22 = ("MumpsHouseModel", "codeAt", "I", false) := by decide +kernel
theorem uX12_22 : tyX12 22 = .int := by decide +kernel
theorem tX12_23 : TX12 23 = ("MumpsHouseModel", "conditionAt", "I", false) := by decide +kernel
theorem uX12_23 : tyX12 23 = .int := by decide +kernel
theorem tX12_24 : TX12 24 = ("MumpsHouseModel", "targetOps", "[I", true) := by decide +kernel
theorem uX12_24 : tyX12 24 = .array .int := by decide +kernel
theorem tX12_25 : TX12 25 = ("MumpsHouseModel", "targetArgs", "[I", true) := by decide +kernel
theorem uX12_25 : tyX12 25 = .array .int := by decide +kernel
theorem tX12_26 : TX12 26 = ("MumpsHouseModel", "targets", "I", false) := by decide +kernel
theorem uX12_26 : tyX12 26 = .int := by decide +kernel
theorem tX12_27 : TX12 27 = ("MumpsHouseModel", "commandStart", "I", false) := by decide +kernel
theorem uX12_27 : tyX12 27 = .int := by decide +kernel
theorem tX12_28 : TX12 28 = ("MumpsHouseModel", "routines", "I", false) := by decide +kernel
theorem uX12_28 : tyX12 28 = .int := by decide +kernel
theorem tX12_29 : TX12 29 = ("MumpsHouseModel", "routineName", "[J", true) := by decide +kernel
theorem uX12_29 : tyX12 29 = .array .long := by decide +kernel
theorem tX12_30 : TX12 30 = ("MumpsHouseModel", "routineLength", "[I", true) := by decide +kernel
theorem uX12_30 : tyX12 30 = .array .int := by decide +kernel
theorem tX12_31 : TX12 31 = ("MumpsHouseModel", "routineText", "[B", true) := by decide +kernel
theorem uX12_31 : tyX12 31 = .array .byte := by decide +kernel
theorem tX12_32 : TX12 32 = ("MumpsHouseModel", "lineCount", "[I", true) := by decide +kernel
theorem uX12_32 : tyX12 32 = .array .int := by decide +kernel
theorem tX12_33 : TX12 33 = ("MumpsHouseModel", "lineAt", "[I", true) := by decide +kernel
theorem uX12_33 : tyX12 33 = .array .int := by decide +kernel
theorem tX12_34 : TX12 34 = ("MumpsHouseModel", "lineLevel", "[I", true) := by decide +kernel
theorem uX12_34 : tyX12 34 = .array .int := by decide +kernel
theorem tX12_35 : TX12 35 = ("MumpsHouseModel", "lineLabel", "[J", true) := by decide +kernel
theorem uX12_35 : tyX12 35 = .array .long := by decide +kernel
theorem tX12_36 : TX12 36 = ("MumpsHouseModel", "lineCode", "[I", true) := by decide +kernel
theorem uX12_36 : tyX12 36 = .array .int := by decide +kernel
theorem tX12_37 : TX12 37 = ("MumpsHouseModel", "lineStop", "[I", true) := by decide +kernel
theorem uX12_37 : tyX12 37 = .array .int := by decide +kernel
theorem tX12_38 : TX12 38 = ("MumpsHouseModel", "lineFormals", "[I", true) := by decide +kernel
theorem uX12_38 : tyX12 38 = .array .int := by decide +kernel
theorem tX12_39 : TX12 39 = ("MumpsHouseModel", "formals", "[J", true) := by decide +kernel
theorem uX12_39 : tyX12 39 = .array .long := by decide +kernel
theorem tX12_40 : TX12 40 = ("MumpsHouseModel", "draft", "[B", true) := by decide +kernel
theorem uX12_40 : tyX12 40 = .array .byte := by decide +kernel
theorem tX12_41 : TX12 41 = ("MumpsHouseModel", "places", "[Z", true) := by decide +kernel
theorem uX12_41 : tyX12 41 = .array .boolean := by decide +kernel
theorem tX12_42 : TX12 42 = ("MumpsHouseModel", "patternB", "[B", false) := by decide +kernel
theorem uX12_42 : tyX12 42 = .array .byte := by decide +kernel
theorem tX12_43 : TX12 43 = ("MumpsHouseModel", "patternEnd", "I", false) := by decide +kernel
theorem uX12_43 : tyX12 43 = .int := by decide +kernel
theorem tX12_44 : TX12 44 = ("MumpsHouseModel", "cur", "I", false) := by decide +kernel
theorem uX12_44 : tyX12 44 = .int := by decide +kernel
theorem tX12_45 : TX12 45 = ("MumpsHouseModel", "err", "I", false) := by decide +kernel
theorem uX12_45 : tyX12 45 = .int := by decide +kernel
theorem tX12_46 : TX12 46 = ("MumpsHouseModel", "handTop", "[I", true) := by decide +kernel
theorem uX12_46 : tyX12 46 = .array .int := by decide +kernel
theorem tX12_47 : TX12 47 = ("MumpsHouseModel", "handN", "[I", true) := by decide +kernel
theorem uX12_47 : tyX12 47 = .array .int := by decide +kernel
theorem tX12_48 : TX12 48 = ("MumpsHouseModel", "handB", "[B", true) := by decide +kernel
theorem uX12_48 : tyX12 48 = .array .byte := by decide +kernel
theorem tX12_49 : TX12 49 = ("MumpsHouseModel", "nodeTop", "[I", true) := by decide +kernel
theorem uX12_49 : tyX12 49 = .array .int := by decide +kernel
theorem tX12_50 : TX12 50 = ("MumpsHouseModel", "nodeKind", "[I", true) := by decide +kernel
theorem uX12_50 : tyX12 50 = .array .int := by decide +kernel
theorem tX12_51 : TX12 51 = ("MumpsHouseModel", "nodeName", "[J", true) := by decide +kernel
theorem uX12_51 : tyX12 51 = .array .long := by decide +kernel
theorem tX12_52 : TX12 52 = ("MumpsHouseModel", "nodeLength", "[I", true) := by decide +kernel
theorem uX12_52 : tyX12 52 = .array .int := by decide +kernel
theorem tX12_53 : TX12 53 = ("MumpsHouseModel", "nodeKeys", "[B", true) := by decide +kernel
theorem uX12_53 : tyX12 53 = .array .byte := by decide +kernel
theorem tX12_54 : TX12 54 = ("MumpsHouseModel", "handKind", "[I", true) := by decide +kernel
theorem uX12_54 : tyX12 54 = .array .int := by decide +kernel
theorem tX12_55 : TX12 55 = ("MumpsHouseModel", "handName", "[J", true) := by decide +kernel
theorem uX12_55 : tyX12 55 = .array .long := by decide +kernel
theorem tX12_56 : TX12 56 = ("MumpsHouseModel", "variables", "I", false) := by decide +kernel
theorem uX12_56 : tyX12 56 = .int := by decide +kernel
theorem tX12_57 : TX12 57 = ("MumpsHouseModel", "boundCount", "[I", true) := by decide +kernel
theorem uX12_57 : tyX12 57 = .array .int := by decide +kernel
theorem tX12_58 : TX12 58 = ("MumpsHouseModel", "boundName", "[J", true) := by decide +kernel
theorem uX12_58 : tyX12 58 = .array .long := by decide +kernel
theorem tX12_59 : TX12 59 = ("MumpsHouseModel", "boundVar", "[I", true) := by decide +kernel
theorem uX12_59 : tyX12 59 = .array .int := by decide +kernel
theorem tX12_60 : TX12 60 = ("MumpsHouseModel", "hiddenCount", "[I", true) := by decide +kernel
theorem uX12_60 : tyX12 60 = .array .int := by decide +kernel
theorem tX12_61 : TX12 61 = ("MumpsHouseModel", "hiddenName", "[J", true) := by decide +kernel
theorem uX12_61 : tyX12 61 = .array .long := by decide +kernel
theorem tX12_62 : TX12 62 = ("MumpsHouseModel", "hiddenVar", "[I", true) := by decide +kernel
theorem uX12_62 : tyX12 62 = .array .int := by decide +kernel
theorem tX12_63 : TX12 63 = ("MumpsHouseModel", "nakedName", "[J", true) := by decide +kernel
theorem uX12_63 : tyX12 63 = .array .long := by decide +kernel
theorem tX12_64 : TX12 64 = ("MumpsHouseModel", "nakedLength", "[I", true) := by decide +kernel
theorem uX12_64 : tyX12 64 = .array .int := by decide +kernel
theorem tX12_65 : TX12 65 = ("MumpsHouseModel", "nakedKeys", "[B", true) := by decide +kernel
theorem uX12_65 : tyX12 65 = .array .byte := by decide +kernel
theorem tX12_66 : TX12 66 = ("MumpsHouseModel", "tLevel", "[I", true) := by decide +kernel
theorem uX12_66 : tyX12 66 = .array .int := by decide +kernel
theorem tX12_67 : TX12 67 = ("MumpsHouseModel", "tRestarts", "[I", true) := by decide +kernel
theorem uX12_67 : tyX12 67 = .array .int := by decide +kernel
theorem tX12_68 : TX12 68 = ("MumpsHouseModel", "tMay", "[Z", true) := by decide +kernel
theorem uX12_68 : tyX12 68 = .array .boolean := by decide +kernel
theorem tX12_69 : TX12 69 = ("MumpsHouseModel", "tAt", "[I", true) := by decide +kernel
theorem uX12_69 : tyX12 69 = .array .int := by decide +kernel
theorem tX12_70 : TX12 70 = ("MumpsHouseModel", "tPc", "[I", true) := by decide +kernel
theorem uX12_70 : tyX12 70 = .array .int := by decide +kernel
theorem tX12_71 : TX12 71 = ("MumpsHouseModel", "tStack", "[I", true) := by decide +kernel
theorem uX12_71 : tyX12 71 = .array .int := by decide +kernel
theorem tX12_72 : TX12 72 = ("MumpsHouseModel", "tFors", "[I", true) := by decide +kernel
theorem uX12_72 : tyX12 72 = .array .int := by decide +kernel
theorem tX12_73 : TX12 73 = ("MumpsHouseModel", "tSerial", "[I", true) := by decide +kernel
theorem uX12_73 : tyX12 73 = .array .int := by decide +kernel
theorem tX12_74 : TX12 74 = ("MumpsHouseModel", "tForSerial", "[I", true) := by decide +kernel
theorem uX12_74 : tyX12 74 = .array .int := by decide +kernel
theorem tX12_75 : TX12 75 = ("MumpsHouseModel", "copyCount", "[I", true) := by decide +kernel
theorem uX12_75 : tyX12 75 = .array .int := by decide +kernel
theorem tX12_76 : TX12 76 = ("MumpsHouseModel", "copyName", "[J", true) := by decide +kernel
theorem uX12_76 : tyX12 76 = .array .long := by decide +kernel
theorem tX12_77 : TX12 77 = ("MumpsHouseModel", "copyStale", "[Z", true) := by decide +kernel
theorem uX12_77 : tyX12 77 = .array .boolean := by decide +kernel
theorem tX12_78 : TX12 78 = ("MumpsHouseModel", "recordCount", "[I", true) := by decide +kernel
theorem uX12_78 : tyX12 78 = .array .int := by decide +kernel
theorem tX12_79 : TX12 79 = ("MumpsHouseModel", "recordBytes", "[B", true) := by decide +kernel
theorem uX12_79 : tyX12 79 = .array .byte := by decide +kernel
theorem tX12_80 : TX12 80 = ("MumpsHouseModel", "keptCount", "[I", true) := by decide +kernel
theorem uX12_80 : tyX12 80 = .array .int := by decide +kernel
theorem tX12_81 : TX12 81 = ("MumpsHouseModel", "keptName", "[J", true) := by decide +kernel
theorem uX12_81 : tyX12 81 = .array .long := by decide +kernel
theorem tX12_82 : TX12 82 = ("MumpsHouseModel", "disk", "[B", true) := by decide +kernel
theorem uX12_82 : tyX12 82 = .array .byte := by decide +kernel
theorem tX12_83 : TX12 83 = ("MumpsHouseModel", "used", "I", false) := by decide +kernel
theorem uX12_83 : tyX12 83 = .int := by decide +kernel
theorem tX12_84 : TX12 84 = ("MumpsHouseModel", "waiting", "[B", true) := by decide +kernel
theorem uX12_84 : tyX12 84 = .array .byte := by decide +kernel
theorem tX12_85 : TX12 85 = ("MumpsHouseModel", "waitingBytes", "I", false) := by decide +kernel
theorem uX12_85 : tyX12 85 = .int := by decide +kernel
theorem tX12_86 : TX12 86 = ("MumpsHouseModel", "waitingUnits", "I", false) := by decide +kernel
theorem uX12_86 : tyX12 86 = .int := by decide +kernel
theorem tX12_87 : TX12 87 = ("MumpsHouseModel", "unit", "[B", true) := by decide +kernel
theorem uX12_87 : tyX12 87 = .array .byte := by decide +kernel
theorem tX12_88 : TX12 88 = ("MumpsHouseModel", "unitLength", "I", false) := by decide +kernel
theorem uX12_88 : tyX12 88 = .int := by decide +kernel
theorem tX12_89 : TX12 89 = ("MumpsHouseModel", "treeKind", "I", false) := by decide +kernel
theorem uX12_89 : tyX12 89 = .int := by decide +kernel
theorem tX12_90 : TX12 90 = ("MumpsHouseModel", "treeOf", "I", false) := by decide +kernel
theorem uX12_90 : tyX12 90 = .int := by decide +kernel
theorem tX12_91 : TX12 91 = ("MumpsHouseModel", "treeName", "J", false) := by decide +kernel
theorem uX12_91 : tyX12 91 = .long := by decide +kernel
theorem tX12_92 : TX12 92 = ("MumpsHouseModel", "patternText", "[B", true) := by decide +kernel
theorem uX12_92 : tyX12 92 = .array .byte := by decide +kernel
theorem tX12_93 : TX12 93 = ("MumpsHouseModel", "draftChars", "[B", true) := by decide +kernel
theorem uX12_93 : tyX12 93 = .array .byte := by decide +kernel
theorem tX12_94 : TX12 94 = ("MumpsHouseModel", "draftNumber", "[B", true) := by decide +kernel
theorem uX12_94 : tyX12 94 = .array .byte := by decide +kernel
theorem tX12_95 : TX12 95 = ("MumpsHouseModel", "pieceFrom", "I", false) := by decide +kernel
theorem uX12_95 : tyX12 95 = .int := by decide +kernel
theorem tX12_96 : TX12 96 = ("MumpsHouseModel", "pieceTo", "I", false) := by decide +kernel
theorem uX12_96 : tyX12 96 = .int := by decide +kernel
theorem tX12_97 : TX12 97 = ("MumpsHouseModel", "parsedMany", "I", false) := by decide +kernel
theorem uX12_97 : tyX12 97 = .int := by decide +kernel
theorem tX12_98 : TX12 98 = ("MumpsHouseModel", "parsedName", "J", false) := by decide +kernel
theorem uX12_98 : tyX12 98 = .long := by decide +kernel
theorem tX12_99 : TX12 99 = ("MumpsHouseModel", "parsedGlobal", "Z", false) := by decide +kernel
theorem uX12_99 : tyX12 99 = .boolean := by decide +kernel
theorem tX12_100 : TX12 100 = ("MumpsHouseModel", "parsedKey", "[B", true) := by decide +kernel
theorem uX12_100 : tyX12 100 = .array .byte := by decide +kernel
theorem tX12_101 : TX12 101 = ("MumpsHouseModel", "parsedLength", "I", false) := by decide +kernel
theorem uX12_101 : tyX12 101 = .int := by decide +kernel
theorem tX12_102 : TX12 102 = ("MumpsHouseModel", "quoted", "[Z", true) := by decide +kernel
theorem uX12_102 : tyX12 102 = .array .boolean := by decide +kernel
theorem tX12_103 : TX12 103 = ("MumpsHouseModel", "stream", "[J", true) := by decide +kernel
theorem uX12_103 : tyX12 103 = .array .long := by decide +kernel
theorem tX12_104 : TX12 104 = ("MumpsHouseModel", "processes", "I", false) := by decide +kernel
theorem uX12_104 : tyX12 104 = .int := by decide +kernel
theorem tX12_105 : TX12 105 = ("MumpsHouseModel", "slotOf", "[I", true) := by decide +kernel
theorem uX12_105 : tyX12 105 = .array .int := by decide +kernel
theorem tX12_106 : TX12 106 = ("MumpsHouseModel", "numberAt", "[I", true) := by decide +kernel
theorem uX12_106 : tyX12 106 = .array .int := by decide +kernel
theorem tX12_107 : TX12 107 = ("MumpsHouseModel", "byError", "[Z", true) := by decide +kernel
theorem uX12_107 : tyX12 107 = .array .boolean := by decide +kernel
theorem tX12_108 : TX12 108 = ("MumpsHouseModel", "test", "[I", true) := by decide +kernel
theorem uX12_108 : tyX12 108 = .array .int := by decide +kernel
theorem tX12_109 : TX12 109 = ("MumpsHouseModel", "outX", "[I", true) := by decide +kernel
theorem uX12_109 : tyX12 109 = .array .int := by decide +kernel
theorem tX12_110 : TX12 110 = ("MumpsHouseModel", "outY", "[I", true) := by decide +kernel
theorem uX12_110 : tyX12 110 = .array .int := by decide +kernel
theorem tX12_111 : TX12 111 = ("MumpsHouseModel", "begun", "[I", true) := by decide +kernel
theorem uX12_111 : tyX12 111 = .array .int := by decide +kernel
theorem tX12_112 : TX12 112 = ("MumpsHouseModel", "outCount", "[I", true) := by decide +kernel
theorem uX12_112 : tyX12 112 = .array .int := by decide +kernel
theorem tX12_113 : TX12 113 = ("MumpsHouseModel", "outBytes", "[B", true) := by decide +kernel
theorem uX12_113 : tyX12 113 = .array .byte := by decide +kernel
theorem tX12_114 : TX12 114 = ("MumpsHouseModel", "ecodeN", "[I", true) := by decide +kernel
theorem uX12_114 : tyX12 114 = .array .int := by decide +kernel
theorem tX12_115 : TX12 115 = ("MumpsHouseModel", "ecode", "[B", true) := by decide +kernel
theorem uX12_115 : tyX12 115 = .array .byte := by decide +kernel
theorem tX12_116 : TX12 116 = ("MumpsHouseModel", "pc", "[I", true) := by decide +kernel
theorem uX12_116 : tyX12 116 = .array .int := by decide +kernel
theorem tX12_117 : TX12 117 = ("MumpsHouseModel", "atRound", "[Z", true) := by decide +kernel
theorem uX12_117 : tyX12 117 = .array .boolean := by decide +kernel
theorem tX12_118 : TX12 118 = ("MumpsHouseModel", "waits", "[I", true) := by decide +kernel
theorem uX12_118 : tyX12 118 = .array .int := by decide +kernel
theorem tX12_119 : TX12 119 = ("MumpsHouseModel", "until", "[J", true) := by decide +kernel
theorem uX12_119 : tyX12 119 = .array .long := by decide +kernel
theorem tX12_120 : TX12 120 = ("MumpsHouseModel", "timed", "[Z", true) := by decide +kernel
theorem uX12_120 : tyX12 120 = .array .boolean := by decide +kernel
theorem tX12_121 : TX12 121 = ("MumpsHouseModel", "waitMany", "[I", true) := by decide +kernel
theorem uX12_121 : tyX12 121 = .array .int := by decide +kernel
theorem tX12_122 : TX12 122 = ("MumpsHouseModel", "toldCount", "[I", true) := by decide +kernel
theorem uX12_122 : tyX12 122 = .array .int := by decide +kernel
theorem tX12_123 : TX12 123 = ("MumpsHouseModel", "toldN", "[I", true) := by decide +kernel
theorem uX12_123 : tyX12 123 = .array .int := by decide +kernel
theorem tX12_124 : TX12 124 = ("MumpsHouseModel", "toldB", "[B", true) := by decide +kernel
theorem uX12_124 : tyX12 124 = .array .byte := by decide +kernel
theorem tX12_125 : TX12 125 = ("MumpsHouseModel", "segTop", "[I", true) := by decide +kernel
theorem uX12_125 : tyX12 125 = .array .int := by decide +kernel
theorem tX12_126 : TX12 126 = ("MumpsHouseModel", "levels", "[I", true) := by decide +kernel
theorem uX12_126 : tyX12 126 = .array .int := by decide +kernel
theorem tX12_127 : TX12 127 = ("MumpsHouseModel", "lKind", "[I", true) := by decide +kernel
theorem uX12_127 : tyX12 127 = .array .int := by decide +kernel
theorem tX12_128 : TX12 128 = ("MumpsHouseModel", "lRoutine", "[I", true) := by decide +kernel
theorem uX12_128 : tyX12 128 = .array .int := by decide +kernel
theorem tX12_129 : TX12 129 = ("MumpsHouseModel", "lLine", "[I", true) := by decide +kernel
theorem uX12_129 : tyX12 129 = .array .int := by decide +kernel
theorem tX12_130 : TX12 130 = ("MumpsHouseModel", "lDots", "[I", true) := by decide +kernel
theorem uX12_130 : tyX12 130 = .array .int := by decide +kernel
theorem tX12_131 : TX12 131 = ("MumpsHouseModel", "lStop", "[I", true) := by decide +kernel
theorem uX12_131 : tyX12 131 = .array .int := by decide +kernel
theorem tX12_132 : TX12 132 = ("MumpsHouseModel", "lRet", "[I", true) := by decide +kernel
theorem uX12_132 : tyX12 132 = .array .int := by decide +kernel
theorem tX12_133 : TX12 133 = ("MumpsHouseModel", "lSeg", "[I", true) := by decide +kernel
theorem uX12_133 : tyX12 133 = .array .int := by decide +kernel
theorem tX12_134 : TX12 134 = ("MumpsHouseModel", "lKeep", "[I", true) := by decide +kernel
theorem uX12_134 : tyX12 134 = .array .int := by decide +kernel
theorem tX12_135 : TX12 135 = ("MumpsHouseModel", "lHand", "[I", true) := by decide +kernel
theorem uX12_135 : tyX12 135 = .array .int := by decide +kernel
theorem tX12_136 : TX12 136 = ("MumpsHouseModel", "lNode", "[I", true) := by decide +kernel
theorem uX12_136 : tyX12 136 = .array .int := by decide +kernel
theorem tX12_137 : TX12 137 = ("MumpsHouseModel", "lFor", "[I", true) := by decide +kernel
theorem uX12_137 : tyX12 137 = .array .int := by decide +kernel
theorem tX12_138 : TX12 138 = ("MumpsHouseModel", "lText", "[I", true) := by decide +kernel
theorem uX12_138 : tyX12 138 = .array .int := by decide +kernel
theorem tX12_139 : TX12 139 = ("MumpsHouseModel", "lHidden", "[I", true) := by decide +kernel
theorem uX12_139 : tyX12 139 = .array .int := by decide +kernel
theorem tX12_140 : TX12 140 = ("MumpsHouseModel", "lTest", "[I", true) := by decide +kernel
theorem uX12_140 : tyX12 140 = .array .int := by decide +kernel
theorem tX12_141 : TX12 141 = ("MumpsHouseModel", "lSerial", "[I", true) := by decide +kernel
theorem uX12_141 : tyX12 141 = .array .int := by decide +kernel
theorem tX12_142 : TX12 142 = ("MumpsHouseModel", "lTrapped", "[Z", true) := by decide +kernel
theorem uX12_142 : tyX12 142 = .array .boolean := by decide +kernel
theorem tX12_143 : TX12 143 = ("MumpsHouseModel", "lInTrap", "[Z", true) := by decide +kernel
theorem uX12_143 : tyX12 143 = .array .boolean := by decide +kernel
theorem tX12_144 : TX12 144 = ("MumpsHouseModel", "lEtrapN", "[I", true) := by decide +kernel
theorem uX12_144 : tyX12 144 = .array .int := by decide +kernel
theorem tX12_145 : TX12 145 = ("MumpsHouseModel", "lEtrap", "[B", true) := by decide +kernel
theorem uX12_145 : tyX12 145 = .array .byte := by decide +kernel
theorem tX12_146 : TX12 146 = ("MumpsHouseModel", "serials", "I", false) := by decide +kernel
theorem uX12_146 : tyX12 146 = .int := by decide +kernel
theorem tX12_147 : TX12 147 = ("MumpsHouseModel", "fors", "[I", true) := by decide +kernel
theorem uX12_147 : tyX12 147 = .array .int := by decide +kernel
theorem tX12_148 : TX12 148 = ("MumpsHouseModel", "fLevel", "[I", true) := by decide +kernel
theorem uX12_148 : tyX12 148 = .array .int := by decide +kernel
theorem tX12_149 : TX12 149 = ("MumpsHouseModel", "fName", "[J", true) := by decide +kernel
theorem uX12_149 : tyX12 149 = .array .long := by decide +kernel
theorem tX12_150 : TX12 150 = ("MumpsHouseModel", "fKind", "[I", true) := by decide +kernel
theorem uX12_150 : tyX12 150 = .array .int := by decide +kernel
theorem tX12_151 : TX12 151 = ("MumpsHouseModel", "fStepM", "[J", true) := by decide +kernel
theorem uX12_151 : tyX12 151 = .array .long := by decide +kernel
theorem tX12_152 : TX12 152 = ("MumpsHouseModel", "fStepE", "[I", true) := by decide +kernel
theorem uX12_152 : tyX12 152 = .array .int := by decide +kernel
theorem tX12_153 : TX12 153 = ("MumpsHouseModel", "fLimitM", "[J", true) := by decide +kernel
theorem uX12_153 : tyX12 153 = .array .long := by decide +kernel
theorem tX12_154 : TX12 154 = ("MumpsHouseModel", "fLimitE", "[I", true) := by decide +kernel
theorem uX12_154 : tyX12 154 = .array .int := by decide +kernel
theorem tX12_155 : TX12 155 = ("MumpsHouseModel", "fBody", "[I", true) := by decide +kernel
theorem uX12_155 : tyX12 155 = .array .int := by decide +kernel
theorem tX12_156 : TX12 156 = ("MumpsHouseModel", "fNext", "[I", true) := by decide +kernel
theorem uX12_156 : tyX12 156 = .array .int := by decide +kernel
theorem tX12_157 : TX12 157 = ("MumpsHouseModel", "fSerial", "[I", true) := by decide +kernel
theorem uX12_157 : tyX12 157 = .array .int := by decide +kernel
theorem tX12_158 : TX12 158 = ("MumpsHouseModel", "texts", "[I", true) := by decide +kernel
theorem uX12_158 : tyX12 158 = .array .int := by decide +kernel
theorem tX12_159 : TX12 159 = ("MumpsHouseModel", "aRet", "[I", true) := by decide +kernel
theorem uX12_159 : tyX12 159 = .array .int := by decide +kernel
theorem tX12_160 : TX12 160 = ("MumpsHouseModel", "aSeg", "[I", true) := by decide +kernel
theorem uX12_160 : tyX12 160 = .array .int := by decide +kernel
theorem tX12_161 : TX12 161 = ("MumpsHouseModel", "locks", "I", false) := by decide +kernel
theorem uX12_161 : tyX12 161 = .int := by decide +kernel
theorem tX12_162 : TX12 162 = ("MumpsHouseModel", "lockBy", "[I", true) := by decide +kernel
theorem uX12_162 : tyX12 162 = .array .int := by decide +kernel
theorem tX12_163 : TX12 163 = ("MumpsHouseModel", "lockKind", "[I", true) := by decide +kernel
theorem uX12_163 : tyX12 163 = .array .int := by decide +kernel
theorem tX12_164 : TX12 164 = ("MumpsHouseModel", "lockName", "[J", true) := by decide +kernel
theorem uX12_164 : tyX12 164 = .array .long := by decide +kernel
theorem tX12_165 : TX12 165 = ("MumpsHouseModel", "lockLength", "[I", true) := by decide +kernel
theorem uX12_165 : tyX12 165 = .array .int := by decide +kernel
theorem tX12_166 : TX12 166 = ("MumpsHouseModel", "lockKeys", "[B", true) := by decide +kernel
theorem uX12_166 : tyX12 166 = .array .byte := by decide +kernel
theorem tX12_167 : TX12 167 = ("MumpsHouseModel", "lockTimes", "[I", true) := by decide +kernel
theorem uX12_167 : tyX12 167 = .array .int := by decide +kernel
theorem tX12_168 : TX12 168 = ("MumpsHouseModel", "turnX", "J", false) := by decide +kernel
theorem uX12_168 : tyX12 168 = .long := by decide +kernel
theorem tX12_169 : TX12 169 = ("MumpsHouseModel", "second", "I", false) := by decide +kernel
theorem uX12_169 : tyX12 169 = .int := by decide +kernel
theorem tX12_170 : TX12 170 = ("MumpsHouseModel", "turnsDone", "I", false) := by decide +kernel
theorem uX12_170 : tyX12 170 = .int := by decide +kernel
theorem tX12_171 : TX12 171 = ("MumpsHouseModel", "idleTurns", "I", false) := by decide +kernel
theorem uX12_171 : tyX12 171 = .int := by decide +kernel
theorem tX12_172 : TX12 172 = ("MumpsHouseModel", "restarts", "I", false) := by decide +kernel
theorem uX12_172 : tyX12 172 = .int := by decide +kernel
theorem tX12_173 : TX12 173 = ("MumpsHouseModel", "conflicts", "I", false) := by decide +kernel
theorem uX12_173 : tyX12 173 = .int := by decide +kernel
theorem tX12_174 : TX12 174 = ("MumpsHouseModel", "ended", "I", false) := by decide +kernel
theorem uX12_174 : tyX12 174 = .int := by decide +kernel
theorem tX12_175 : TX12 175 = ("MumpsHouseModel", "trapText", "[B", true) := by decide +kernel
theorem uX12_175 : tyX12 175 = .array .byte := by decide +kernel
theorem tX12_176 : TX12 176 = ("MumpsHouseModel", "lTrap", "[B", true) := by decide +kernel
theorem uX12_176 : tyX12 176 = .array .byte := by decide +kernel
theorem tX12_177 : TX12 177 = ("MumpsHouseModel", "lTrapN", "[I", true) := by decide +kernel
theorem uX12_177 : tyX12 177 = .array .int := by decide +kernel
theorem tX12_178 : TX12 178 = ("MumpsHouseModel", "valueText", "[B", true) := by decide +kernel
theorem uX12_178 : tyX12 178 = .array .byte := by decide +kernel
theorem tX12_179 : TX12 179 = ("MumpsHouseModel", "entryRoutine", "I", false) := by decide +kernel
theorem uX12_179 : tyX12 179 = .int := by decide +kernel
theorem tX12_180 : TX12 180 = ("MumpsHouseModel", "entryLine", "I", false) := by decide +kernel
theorem uX12_180 : tyX12 180 = .int := by decide +kernel
theorem tX12_181 : TX12 181 = ("MumpsHouseModel", "passVar", "[I", true) := by decide +kernel
theorem uX12_181 : tyX12 181 = .array .int := by decide +kernel
theorem tX12_182 : TX12 182 = ("MumpsHouseModel", "setNode0", "I", false) := by decide +kernel
theorem uX12_182 : tyX12 182 = .int := by decide +kernel
theorem tX12_183 : TX12 183 = ("MumpsHouseModel", "setHand", "I", false) := by decide +kernel
theorem uX12_183 : tyX12 183 = .int := by decide +kernel
theorem tX12_184 : TX12 184 = ("MumpsHouseModel", "setValue", "I", false) := by decide +kernel
theorem uX12_184 : tyX12 184 = .int := by decide +kernel
theorem tX12_185 : TX12 185 = ("MumpsHouseModel", "draftValue", "[B", true) := by decide +kernel
theorem uX12_185 : tyX12 185 = .array .byte := by decide +kernel
theorem tX12_186 : TX12 186 = ("MumpsHouseModel", "mergeRows", "[I", true) := by decide +kernel
theorem uX12_186 : tyX12 186 = .array .int := by decide +kernel
theorem tX12_187 : TX12 187 = ("MumpsHouseModel", "mergeKey", "[B", true) := by decide +kernel
theorem uX12_187 : tyX12 187 = .array .byte := by decide +kernel
theorem tX12_188 : TX12 188 = ("MumpsHouseModel", "tRoutine", "[I", true) := by decide +kernel
theorem uX12_188 : tyX12 188 = .array .int := by decide +kernel
theorem tX12_189 : TX12 189 = ("MumpsHouseModel", "tLine", "[I", true) := by decide +kernel
theorem uX12_189 : tyX12 189 = .array .int := by decide +kernel
theorem tX12_190 : TX12 190 = ("MumpsHouseModel", "tStop", "[I", true) := by decide +kernel
theorem uX12_190 : tyX12 190 = .array .int := by decide +kernel
theorem tX12_191 : TX12 191 = ("MumpsHouseModel", "tInTrap", "[Z", true) := by decide +kernel
theorem uX12_191 : tyX12 191 = .array .boolean := by decide +kernel
theorem tX12_192 : TX12 192 = ("MumpsHouseModel", "setNodes", "I", false) := by decide +kernel
theorem uX12_192 : tyX12 192 = .int := by decide +kernel
theorem tX12_193 : TX12 193 = ("MumpsHouseModel", "setStrings", "I", false) := by decide +kernel
theorem uX12_193 : tyX12 193 = .int := by decide +kernel
theorem tX12_194 : TX12 194 = ("MumpsHouseModel", "tape", "[B", true) := by decide +kernel
theorem uX12_194 : tyX12 194 = .array .byte := by decide +kernel
theorem tX12_195 : TX12 195 = ("MumpsHouseModel", "tapeN", "I", false) := by decide +kernel
theorem uX12_195 : tyX12 195 = .int := by decide +kernel
theorem tX12_196 : TX12 196 = ("MumpsHouseModel", "isDown", "Z", false) := by decide +kernel
theorem uX12_196 : tyX12 196 = .boolean := by decide +kernel
theorem tX12_197 : TX12 197 = ("MumpsHouseModel", "cutIn", "I", false) := by decide +kernel
theorem uX12_197 : tyX12 197 = .int := by decide +kernel
theorem tX12_198 : TX12 198 = ("MumpsHouseModel", "tear", "I", false) := by decide +kernel
theorem uX12_198 : tyX12 198 = .int := by decide +kernel
theorem tX12_199 : TX12 199 = ("MumpsHouseModel", "result", "[B", true) := by decide +kernel
theorem uX12_199 : tyX12 199 = .array .byte := by decide +kernel
theorem tX12_200 : TX12 200 = ("MumpsHouseModel", "resultN", "I", false) := by decide +kernel
theorem uX12_200 : tyX12 200 = .int := by decide +kernel
theorem tX12_201 : TX12 201 = ("MumpsHouseModel", "lOwn", "[B", true) := by decide +kernel
theorem uX12_201 : tyX12 201 = .array .byte := by decide +kernel
theorem tX12_202 : TX12 202 = ("MumpsHouseModel", "lOwnN", "[I", true) := by decide +kernel
theorem uX12_202 : tyX12 202 = .array .int := by decide +kernel
theorem tX12_203 : TX12 203 = ("MumpsHouseModel", "draftBlock", "[B", true) := by decide +kernel
theorem uX12_203 : tyX12 203 = .array .byte := by decide +kernel
theorem tX12_204 : TX12 204 = ("MumpsHouseModel", "torn", "I", false) := by decide +kernel
theorem uX12_204 : tyX12 204 = .int := by decide +kernel
theorem tX12_205 : TX12 205 = ("MumpsHouseModel", "readAt", "I", false) := by decide +kernel
theorem uX12_205 : tyX12 205 = .int := by decide +kernel
theorem tX12_206 : TX12 206 = ("MumpsHouseModel", "readEnd", "I", false) := by decide +kernel
theorem uX12_206 : tyX12 206 = .int := by decide +kernel
theorem tX12_207 : TX12 207 = ("MumpsHouseModel", "readGood", "Z", false) := by decide +kernel
theorem uX12_207 : tyX12 207 = .boolean := by decide +kernel
theorem tX12_208 : TX12 208 = ("MumpsHouseModel", "readKey", "[B", true) := by decide +kernel
theorem uX12_208 : tyX12 208 = .array .byte := by decide +kernel
theorem tX12_209 : TX12 209 = ("MumpsHouseModel", "readBytes", "[B", true) := by decide +kernel
theorem uX12_209 : tyX12 209 = .array .byte := by decide +kernel
theorem tX12_210 : TX12 210 = ("MumpsHouseModel", "freshNames", "I", false) := by decide +kernel
theorem uX12_210 : tyX12 210 = .int := by decide +kernel
theorem tX12_211 : TX12 211 = ("MumpsHouseModel", "freshName", "[J", true) := by decide +kernel
theorem uX12_211 : tyX12 211 = .array .long := by decide +kernel
