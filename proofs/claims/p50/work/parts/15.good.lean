/-! 'selects' of the builder's private methods, which the tables say but for the receiver's own class. -/
theorem rf_sel {C : String} {y z : MethodName} {s : State} {args : Array Value} {n : Nat} (hy : y.cls ≠ "java/lang/invoke/MethodHandle" ∧ y.cls ≠ "java/lang/invoke/VarHandle") (hzy : z.cls = y.cls)
    (hz : (Cond.selects C z z).before args s = true) (hins : (Cond.instantiable C n).before args s = true) (hpriv : (Cond.privateMethod y).before args s = true) (hinst : (Cond.instanceMethod y).before args s = true) :
    (Cond.selects C y y).before args s = true := by
  obtain ⟨c, k, hc, hk, -, -, -, -⟩ := Cond.instantiable_spec hins
  obtain ⟨mk, methM, hnamed, hmethM, -, -⟩ := Cond.instanceMethod_spec hinst
  have hfound : s.methodFound? y.cls y.name y.desc = some mk := State.methodFound?_of_named hnamed hy
  have hcls : s.vm.findClass y.cls = some mk.cls := findClass_of_methodNamed hnamed
  have hsel : selectMethod {} s.vm c mk = .method mk := selectMethod_private hmethM (Cond.privateMethod_at hpriv mk methM hnamed hmethM)
  have hni : (s.vm.classes[mk.cls]?).any (fun k => !k.isInterface) = true := by
    simp only [Cond.before, Cond.holds, Cond.value, hc] at hz
    cases h1 : s.methodFound? z.cls z.name z.desc with
    | none => simp [h1] at hz
    | some r =>
      cases h2 : s.methodNamed? z with
      | none => simp [h1, h2] at hz
      | some mz =>
        have h3 : mz.cls = mk.cls := Option.some.inj ((findClass_of_methodNamed h2).symm.trans ((congrArg (fun x => s.vm.findClass x) hzy).trans hcls))
        rw [h1, h2] at hz
        dsimp only at hz
        cases h4 : selectMethod {} s.vm c r with
        | method m' =>
          rw [h4] at hz
          dsimp only at hz
          rw [← h3]
          have h5 := (beq_iff_eq.mp hz)
          have h6 := Option.some.inj h5
          exact (Bool.and_eq_true_iff.mp h6).2
        | _ => rw [h4] at hz; simp at hz
  simp only [Cond.before, Cond.holds, Cond.value, hc, hfound, hnamed, hsel]
  simpa using hni
def rf_sels : List MethodName := [yJ5_appendNull_278bc, yJ5_ensureCapacityInternal_d00df, yJ5_newCapacity_0f7a4, yJ5_putStringAt_47b60, yJ5_inflateIfNeededFor_a7421, yJ5_inflate_da8c8]
def rf_tbl : List Cond := rf_sels.map (fun y => Cond.selects RJ4 y y) ++ lw_tbl
theorem rf_okz : Cond.selects RJ4 yJ5_isLatin1_aae02 yJ5_isLatin1_aae02 ∈ lw_tbl ∧ Cond.instantiable RJ4 4 ∈ lw_tbl := by decide +kernel
theorem rf_oks : ∀ y ∈ rf_sels, (y.cls ≠ "java/lang/invoke/MethodHandle" ∧ y.cls ≠ "java/lang/invoke/VarHandle") ∧ yJ5_isLatin1_aae02.cls = y.cls ∧ Cond.privateMethod y ∈ lw_tbl ∧ Cond.instanceMethod y ∈ lw_tbl := by decide +kernel
theorem rf_hts {s : State} {args : Array Value} (h : ∀ w ∈ lw_tbl, w.before args s = true) : ∀ w ∈ rf_tbl, w.before args s = true := by
  intro w hw
  rcases List.mem_append.mp hw with hw | hw
  · obtain ⟨y, hy, rfl⟩ := List.mem_map.mp hw
    obtain ⟨h1, h2, h3, h4⟩ := rf_oks y hy
    exact rf_sel h1 h2 (h _ rf_okz.1) (h _ rf_okz.2) (h _ h3) (h _ h4)
  · exact h w hw

set_option maxRecDepth 100000 in
set_option maxHeartbeats 4000000 in
theorem rgg_X1_init : GoodIn rf_tbl wsX1_init := goodIn_r _ [58, 59, 60, 61, 62, 78, 64, 34, 79, 80, 81, 65, 66, 67, 68, 77, 69, 85, 87, 89, 91, 93, 95, 97, 72, 74] (by decide +kernel) (by decide +kernel)
set_option maxRecDepth 100000 in
set_option maxHeartbeats 4000000 in
theorem rgL_law_X1_init : GoodIn rf_tbl (wsX1_init) := rgg_X1_init
set_option maxRecDepth 100000 in
set_option maxHeartbeats 4000000 in
theorem rgg_X3_init : GoodIn rf_tbl wsX3_init := goodIn_r _ [893, 894, 60, 61, 895, 77, 898, 899, 903, 905, 907, 909, 911, 913] (by decide +kernel) (by decide +kernel)
set_option maxRecDepth 100000 in
set_option maxHeartbeats 4000000 in
theorem rgL_law_X3_init : GoodIn rf_tbl (wsX3_init) := rgg_X3_init
set_option maxRecDepth 100000 in
set_option maxHeartbeats 4000000 in
theorem rgg_X2_init : GoodIn rf_tbl wsX2_init := goodIn_r _ [473, 474, 60, 61] (by decide +kernel) (by decide +kernel)
set_option maxRecDepth 100000 in
set_option maxHeartbeats 4000000 in
theorem rgL_law_X2_init_n182 : GoodIn rf_tbl (wsX2_init) := rgg_X2_init
set_option maxRecDepth 100000 in
set_option maxHeartbeats 4000000 in
theorem rgg_L_setLength : GoodIn rf_tbl wsL_setLength := goodIn_ca (goodIn_ca (goodIn_r _ [693, 485, 486, 694, 695, 696, 33, 697, 71, 294, 296, 10, 297, 78, 298, 299, 300, 301, 40, 698, 699, 700, 371, 41, 226, 227, 228, 34, 229, 70, 69, 477, 479, 72, 74, 85, 87, 89, 91, 93, 95, 97] (by decide +kernel) (by decide +kernel)) (goodIn_sub (by decide +kernel) (by decide +kernel))) (goodIn_sub (by decide +kernel) (by decide +kernel))
set_option maxRecDepth 100000 in
set_option maxHeartbeats 4000000 in
theorem rgL_law_L_setLength : GoodIn rf_tbl (va_wsS RL 243 yL_setLength wsL_setLength) := goodIn_app (goodIn_sub (by decide +kernel) (by decide +kernel)) rgg_L_setLength
set_option maxRecDepth 100000 in
set_option maxHeartbeats 4000000 in
theorem rgg_X3_setLength : GoodIn rf_tbl wsX3_setLength := goodIn_r _ [1280, 1281, 898, 77, 924, 925, 35, 926, 927, 928, 929, 930, 931, 933, 20, 934, 897, 935, 937, 21, 938, 1158, 1159, 1160, 1155, 1156, 1157, 903, 905, 907, 909, 911, 913] (by decide +kernel) (by decide +kernel)
set_option maxRecDepth 100000 in
set_option maxHeartbeats 4000000 in
theorem rgL_law_X3_setLength : GoodIn rf_tbl (wsV RL 245 RX3 yX3_setLength wsX3_setLength) := goodIn_app (goodIn_sub (by decide +kernel) (by decide +kernel)) rgg_X3_setLength
set_option maxRecDepth 100000 in
set_option maxHeartbeats 4000000 in
theorem rgg_L_text : GoodIn rf_tbl wsL_text := goodIn_ca (goodIn_r _ [765, 485, 766, 767, 768, 33, 769, 71, 294, 296, 10, 297, 78, 298, 299, 300, 301, 40, 108, 109, 110, 34, 111, 70, 186, 69, 113, 114, 45, 115, 116, 117, 118, 119, 120, 121, 60, 61, 174, 175, 123, 125, 126, 46, 127, 185, 128, 129, 130, 131, 132, 133, 134, 135, 136, 137, 138, 139, 140, 141, 142, 143, 144, 149, 151, 146, 147, 148, 153, 154, 155, 156, 157, 158, 159, 160, 161, 162, 163, 164, 165, 167, 168, 48, 169, 170, 171, 172, 173, 477, 479, 72, 74, 85, 87, 89, 91, 93, 95, 97, 176, 178, 180, 182] (by decide +kernel) (by decide +kernel)) (goodIn_sub (by decide +kernel) (by decide +kernel))
set_option maxRecDepth 100000 in
set_option maxHeartbeats 4000000 in
theorem rgL_law_L_text : GoodIn rf_tbl (va_wsS RL 276 yL_text wsL_text) := goodIn_app (goodIn_sub (by decide +kernel) (by decide +kernel)) rgg_L_text
set_option maxRecDepth 100000 in
set_option maxHeartbeats 4000000 in
theorem rgg_X3_text_ : GoodIn rf_tbl wsX3_text_ := goodIn_r _ [1331, 898, 924, 925, 35, 926, 927, 928, 929, 930, 931, 933, 20, 934, 897, 935, 937, 21, 938, 1332, 1333, 1334, 951, 952, 44, 953, 954, 955, 956, 957, 43, 958, 959, 60, 61, 960, 185, 962, 963, 961, 135, 46, 136, 137, 138, 139, 140, 1034, 1035, 1036, 1037, 1038, 1509, 974, 1039, 1040, 965, 1041, 1510, 0, 1043, 1044, 984, 1506, 1, 986, 987, 988, 1507, 2, 990, 991, 1000, 992, 993, 49, 994, 995, 239, 50, 240, 996, 997, 998, 999, 1001, 1002, 51, 1003, 1004, 1005, 1006, 1007, 1008, 1010, 1011, 247, 248, 1012, 201, 200, 42, 1013, 1015, 1016, 1014, 1017, 1045, 1046, 1047, 144, 1048, 1049, 1050, 146, 147, 148, 1051, 1052, 45, 1053, 165, 1054, 1055, 48, 1056, 141, 142, 143, 149, 151, 1057, 548, 549, 550, 174, 551, 552, 553, 554, 123, 175, 1058, 1511, 3, 1060, 1061, 1062, 1512, 4, 1064, 1065, 1066, 1021, 1508, 5, 1023, 1024, 1025, 1026, 47, 1027, 1028, 1029, 1030, 159, 160, 161, 162, 163, 164, 167, 168, 169, 1067, 1068, 1069, 1070, 1071, 1072, 977, 978, 979, 980, 981, 1505, 982, 983, 1018, 1019, 1020, 1031, 1032, 1033, 575, 576, 577, 578, 567, 568, 569, 570, 571, 1073, 1074, 1075, 1076, 1077, 114, 1078, 1079, 1080, 1081, 1082, 1083, 121, 964, 1084, 1086, 1087, 1085, 1088, 1089, 1091, 1090, 1092, 1093, 1094, 1095, 1090, 1096, 1097, 1098, 1099, 1100, 1101, 1102, 1103, 1104, 1105, 1106, 1108, 1139, 1140, 1141, 156, 157, 158, 153, 154, 155, 1142, 170, 171, 172, 903, 905, 907, 909, 911, 913, 966, 968, 970, 972, 176, 178, 180, 182] (by decide +kernel) (by decide +kernel)
set_option maxRecDepth 100000 in
set_option maxHeartbeats 4000000 in
theorem rgL_law_X3_text_ : GoodIn rf_tbl (wsV RL 278 RX3 yX3_text_ wsX3_text_) := goodIn_app (goodIn_sub (by decide +kernel) (by decide +kernel)) rgg_X3_text_
