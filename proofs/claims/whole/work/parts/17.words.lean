/-! the words of the tables by their places -/
theorem wd_0 : (Jvm.Cond.selects "SliceWhy" ({ cls := "SliceWhy", name := "reasonsNow", desc := "()LSliceWhy$Reasons;" } : Jvm.MethodName) ({ cls := "SliceWhy", name := "reasonsNow", desc := "()LSliceWhy$Reasons;" } : Jvm.MethodName)) ∈ Gw := Gw_in 0 (by decide +kernel) rfl
theorem wd_1 : (Jvm.Cond.selects "SliceWhy$Reasons" ({ cls := "SliceWhy$Reasons", name := "takeNexts", desc := "(LSliceWhy$Program;)V" } : Jvm.MethodName) ({ cls := "SliceWhy$Reasons", name := "takeNexts", desc := "(LSliceWhy$Program;)V" } : Jvm.MethodName)) ∈ Gw := Gw_in 1 (by decide +kernel) rfl
theorem wd_2 : (Jvm.Cond.selects "SliceWhy$Program" ({ cls := "SliceWhy$Program", name := "bitOf", desc := "(I)I" } : Jvm.MethodName) ({ cls := "SliceWhy$Program", name := "bitOf", desc := "(I)I" } : Jvm.MethodName)) ∈ Gw := Gw_in 2 (by decide +kernel) rfl
theorem wd_3 : (Jvm.Cond.selects "SliceWhy$Reasons" ({ cls := "SliceWhy$Reasons", name := "forgetHanging", desc := "()V" } : Jvm.MethodName) ({ cls := "SliceWhy$Reasons", name := "forgetHanging", desc := "()V" } : Jvm.MethodName)) ∈ Gw := Gw_in 3 (by decide +kernel) rfl
theorem wd_4 : (Jvm.Cond.selects "SliceWhy$Reasons" ({ cls := "SliceWhy$Reasons", name := "findFollowers", desc := "()V" } : Jvm.MethodName) ({ cls := "SliceWhy$Reasons", name := "findFollowers", desc := "()V" } : Jvm.MethodName)) ∈ Gw := Gw_in 4 (by decide +kernel) rfl
theorem wd_5 : (Jvm.Cond.selects "SliceWhy$Reasons" ({ cls := "SliceWhy$Reasons", name := "endReachedWithout", desc := "(I)I" } : Jvm.MethodName) ({ cls := "SliceWhy$Reasons", name := "endReachedWithout", desc := "(I)I" } : Jvm.MethodName)) ∈ Gw := Gw_in 5 (by decide +kernel) rfl
theorem wd_6 : (Jvm.Cond.selects "SliceWhy$Reasons" ({ cls := "SliceWhy$Reasons", name := "findHangingByData", desc := "(LSliceWhy$Program;I)V" } : Jvm.MethodName) ({ cls := "SliceWhy$Reasons", name := "findHangingByData", desc := "(LSliceWhy$Program;I)V" } : Jvm.MethodName)) ∈ Gw := Gw_in 6 (by decide +kernel) rfl
theorem wd_7 : (Jvm.Cond.selects "SliceWhy$Reasons" ({ cls := "SliceWhy$Reasons", name := "settersOf", desc := "(LSliceWhy$Program;I)I" } : Jvm.MethodName) ({ cls := "SliceWhy$Reasons", name := "settersOf", desc := "(LSliceWhy$Program;I)I" } : Jvm.MethodName)) ∈ Gw := Gw_in 7 (by decide +kernel) rfl
theorem wd_8 : (Jvm.Cond.selects "SliceWhy$Reasons" ({ cls := "SliceWhy$Reasons", name := "reachedFrom", desc := "(II)I" } : Jvm.MethodName) ({ cls := "SliceWhy$Reasons", name := "reachedFrom", desc := "(II)I" } : Jvm.MethodName)) ∈ Gw := Gw_in 8 (by decide +kernel) rfl
theorem wd_9 : (Jvm.Cond.selects "SliceWhy$Reasons" ({ cls := "SliceWhy$Reasons", name := "findHangingByNames", desc := "(LSliceWhy$Program;I)V" } : Jvm.MethodName) ({ cls := "SliceWhy$Reasons", name := "findHangingByNames", desc := "(LSliceWhy$Program;I)V" } : Jvm.MethodName)) ∈ Gw := Gw_in 9 (by decide +kernel) rfl
theorem wd_10 : (Jvm.Cond.selects "SliceWhy$Reasons" ({ cls := "SliceWhy$Reasons", name := "findHangingByControl", desc := "(I)V" } : Jvm.MethodName) ({ cls := "SliceWhy$Reasons", name := "findHangingByControl", desc := "(I)V" } : Jvm.MethodName)) ∈ Gw := Gw_in 10 (by decide +kernel) rfl
theorem wd_11 : (Jvm.Cond.selects "SliceWhy$Reasons" ({ cls := "SliceWhy$Reasons", name := "closeHanging", desc := "()V" } : Jvm.MethodName) ({ cls := "SliceWhy$Reasons", name := "closeHanging", desc := "()V" } : Jvm.MethodName)) ∈ Gw := Gw_in 11 (by decide +kernel) rfl
theorem wd_12 : (Jvm.Cond.selects "SliceWhy$Reasons" ({ cls := "SliceWhy$Reasons", name := "withAllBehind", desc := "(I[I)I" } : Jvm.MethodName) ({ cls := "SliceWhy$Reasons", name := "withAllBehind", desc := "(I[I)I" } : Jvm.MethodName)) ∈ Gw := Gw_in 12 (by decide +kernel) rfl
theorem wd_13 : (Jvm.Cond.selects "SliceWhy$Machine" ({ cls := "SliceWhy$Machine", name := "begin", desc := "(LSliceWhy$Program;[I)V" } : Jvm.MethodName) ({ cls := "SliceWhy$Machine", name := "begin", desc := "(LSliceWhy$Program;[I)V" } : Jvm.MethodName)) ∈ Gw := Gw_in 13 (by decide +kernel) rfl
theorem wd_14 : (Jvm.Cond.selects "SliceWhy$Machine" ({ cls := "SliceWhy$Machine", name := "step", desc := "(LSliceWhy$Program;[II)I" } : Jvm.MethodName) ({ cls := "SliceWhy$Machine", name := "step", desc := "(LSliceWhy$Program;[II)I" } : Jvm.MethodName)) ∈ Gw := Gw_in 14 (by decide +kernel) rfl
theorem wd_15 : (Jvm.Cond.selects "SliceWhy$Machine" ({ cls := "SliceWhy$Machine", name := "failsAt", desc := "(LSliceWhy$Program;I)Z" } : Jvm.MethodName) ({ cls := "SliceWhy$Machine", name := "failsAt", desc := "(LSliceWhy$Program;I)Z" } : Jvm.MethodName)) ∈ Gw := Gw_in 15 (by decide +kernel) rfl
theorem wd_16 : (Jvm.Cond.selects "SliceWhy$Machine" ({ cls := "SliceWhy$Machine", name := "itemOf", desc := "(II)I" } : Jvm.MethodName) ({ cls := "SliceWhy$Machine", name := "itemOf", desc := "(II)I" } : Jvm.MethodName)) ∈ Gw := Gw_in 16 (by decide +kernel) rfl
theorem wd_17 : (Jvm.Cond.selects "SliceWhy$Machine" ({ cls := "SliceWhy$Machine", name := "valueOf", desc := "(III[I)I" } : Jvm.MethodName) ({ cls := "SliceWhy$Machine", name := "valueOf", desc := "(III[I)I" } : Jvm.MethodName)) ∈ Gw := Gw_in 17 (by decide +kernel) rfl
theorem wd_18 : (Jvm.Cond.selects "SliceWhy$Reasons" ({ cls := "SliceWhy$Reasons", name := "whoseSetHolds", desc := "(I[I)I" } : Jvm.MethodName) ({ cls := "SliceWhy$Reasons", name := "whoseSetHolds", desc := "(I[I)I" } : Jvm.MethodName)) ∈ Gw := Gw_in 18 (by decide +kernel) rfl
theorem wd_19 : (Jvm.Cond.selects "SliceWhy$Reasons" ({ cls := "SliceWhy$Reasons", name := "measureWays", desc := "(II)I" } : Jvm.MethodName) ({ cls := "SliceWhy$Reasons", name := "measureWays", desc := "(II)I" } : Jvm.MethodName)) ∈ Gw := Gw_in 19 (by decide +kernel) rfl
theorem wd_20 : (Jvm.Cond.selects "SliceWhy$Reasons" ({ cls := "SliceWhy$Reasons", name := "allThatHangOn", desc := "(I)I" } : Jvm.MethodName) ({ cls := "SliceWhy$Reasons", name := "allThatHangOn", desc := "(I)I" } : Jvm.MethodName)) ∈ Gw := Gw_in 20 (by decide +kernel) rfl
theorem wd_21 : (Jvm.Cond.selects "SliceWhy" ({ cls := "SliceWhy", name := "wholeIsSpentInATest", desc := "(I)Z" } : Jvm.MethodName) ({ cls := "SliceWhy", name := "wholeIsSpentInATest", desc := "(I)Z" } : Jvm.MethodName)) ∈ Gw := Gw_in 21 (by decide +kernel) rfl
theorem wd_22 : (Jvm.Cond.selects "SliceWhy" ({ cls := "SliceWhy", name := "withoutNeedless", desc := "(II)I" } : Jvm.MethodName) ({ cls := "SliceWhy", name := "withoutNeedless", desc := "(II)I" } : Jvm.MethodName)) ∈ Gw := Gw_in 22 (by decide +kernel) rfl
theorem wd_23 : (Jvm.Cond.selects "SliceWhy" ({ cls := "SliceWhy", name := "testsAgree", desc := "(II)Z" } : Jvm.MethodName) ({ cls := "SliceWhy", name := "testsAgree", desc := "(II)Z" } : Jvm.MethodName)) ∈ Gw := Gw_in 23 (by decide +kernel) rfl
theorem wd_24 : (Jvm.Cond.selects "SliceWhyModel" ({ cls := "SliceWhyModel", name := "write", desc := "(IIIII)V" } : Jvm.MethodName) ({ cls := "SliceWhyModel", name := "write", desc := "(IIIII)V" } : Jvm.MethodName)) ∈ Gw := Gw_in 24 (by decide +kernel) rfl
theorem wd_25 : (Jvm.Cond.selects "SliceWhyModel" ({ cls := "SliceWhyModel", name := "isPlace", desc := "(I)Z" } : Jvm.MethodName) ({ cls := "SliceWhyModel", name := "isPlace", desc := "(I)Z" } : Jvm.MethodName)) ∈ Gw := Gw_in 25 (by decide +kernel) rfl
theorem wd_26 : (Jvm.Cond.selects "SliceWhyModel" ({ cls := "SliceWhyModel", name := "followers", desc := "(I)I" } : Jvm.MethodName) ({ cls := "SliceWhyModel", name := "followers", desc := "(I)I" } : Jvm.MethodName)) ∈ Gw := Gw_in 26 (by decide +kernel) rfl
theorem wd_27 : (Jvm.Cond.selects "SliceWhyModel" ({ cls := "SliceWhyModel", name := "reach", desc := "(IIZ)I" } : Jvm.MethodName) ({ cls := "SliceWhyModel", name := "reach", desc := "(IIZ)I" } : Jvm.MethodName)) ∈ Gw := Gw_in 27 (by decide +kernel) rfl
theorem wd_28 : (Jvm.Cond.selects "SliceWhyModel" ({ cls := "SliceWhyModel", name := "nexts", desc := "(IZ)I" } : Jvm.MethodName) ({ cls := "SliceWhyModel", name := "nexts", desc := "(IZ)I" } : Jvm.MethodName)) ∈ Gw := Gw_in 28 (by decide +kernel) rfl
theorem wd_29 : (Jvm.Cond.selects "SliceWhyModel" ({ cls := "SliceWhyModel", name := "place", desc := "(I)I" } : Jvm.MethodName) ({ cls := "SliceWhyModel", name := "place", desc := "(I)I" } : Jvm.MethodName)) ∈ Gw := Gw_in 29 (by decide +kernel) rfl
theorem wd_30 : (Jvm.Cond.selects "SliceWhyModel" ({ cls := "SliceWhyModel", name := "canFail", desc := "(I)Z" } : Jvm.MethodName) ({ cls := "SliceWhyModel", name := "canFail", desc := "(I)Z" } : Jvm.MethodName)) ∈ Gw := Gw_in 30 (by decide +kernel) rfl
theorem wd_31 : (Jvm.Cond.selects "SliceWhyModel" ({ cls := "SliceWhyModel", name := "look", desc := "()V" } : Jvm.MethodName) ({ cls := "SliceWhyModel", name := "look", desc := "()V" } : Jvm.MethodName)) ∈ Gw := Gw_in 31 (by decide +kernel) rfl
theorem wd_32 : (Jvm.Cond.selects "SliceWhyModel" ({ cls := "SliceWhyModel", name := "hangs", desc := "(IIZ)I" } : Jvm.MethodName) ({ cls := "SliceWhyModel", name := "hangs", desc := "(IIZ)I" } : Jvm.MethodName)) ∈ Gw := Gw_in 32 (by decide +kernel) rfl
theorem wd_33 : (Jvm.Cond.selects "SliceWhyModel" ({ cls := "SliceWhyModel", name := "reads", desc := "(IZ)I" } : Jvm.MethodName) ({ cls := "SliceWhyModel", name := "reads", desc := "(IZ)I" } : Jvm.MethodName)) ∈ Gw := Gw_in 33 (by decide +kernel) rfl
theorem wd_34 : (Jvm.Cond.selects "SliceWhyModel" ({ cls := "SliceWhyModel", name := "settersOf", desc := "(II)I" } : Jvm.MethodName) ({ cls := "SliceWhyModel", name := "settersOf", desc := "(II)I" } : Jvm.MethodName)) ∈ Gw := Gw_in 34 (by decide +kernel) rfl
theorem wd_35 : (Jvm.Cond.selects "SliceWhyModel" ({ cls := "SliceWhyModel", name := "sources", desc := "(II)I" } : Jvm.MethodName) ({ cls := "SliceWhyModel", name := "sources", desc := "(II)I" } : Jvm.MethodName)) ∈ Gw := Gw_in 35 (by decide +kernel) rfl
theorem wd_36 : (Jvm.Cond.selects "SliceWhyModel" ({ cls := "SliceWhyModel", name := "setsIt", desc := "(II)Z" } : Jvm.MethodName) ({ cls := "SliceWhyModel", name := "setsIt", desc := "(II)Z" } : Jvm.MethodName)) ∈ Gw := Gw_in 36 (by decide +kernel) rfl
theorem wd_37 : (Jvm.Cond.selects "SliceWhyModel" ({ cls := "SliceWhyModel", name := "sets", desc := "(I)I" } : Jvm.MethodName) ({ cls := "SliceWhyModel", name := "sets", desc := "(I)I" } : Jvm.MethodName)) ∈ Gw := Gw_in 37 (by decide +kernel) rfl
theorem wd_38 : (Jvm.Cond.selects "SliceWhyModel" ({ cls := "SliceWhyModel", name := "controls", desc := "(I)I" } : Jvm.MethodName) ({ cls := "SliceWhyModel", name := "controls", desc := "(I)I" } : Jvm.MethodName)) ∈ Gw := Gw_in 38 (by decide +kernel) rfl
theorem wd_39 : (Jvm.Cond.selects "SliceWhyModel" ({ cls := "SliceWhyModel", name := "back", desc := "(IZ)I" } : Jvm.MethodName) ({ cls := "SliceWhyModel", name := "back", desc := "(IZ)I" } : Jvm.MethodName)) ∈ Gw := Gw_in 39 (by decide +kernel) rfl
theorem wd_40 : (Jvm.Cond.selects "SliceWhyModel" ({ cls := "SliceWhyModel", name := "on", desc := "(IZ)I" } : Jvm.MethodName) ({ cls := "SliceWhyModel", name := "on", desc := "(IZ)I" } : Jvm.MethodName)) ∈ Gw := Gw_in 40 (by decide +kernel) rfl
theorem wd_41 : (Jvm.Cond.selects "SliceWhyModel" ({ cls := "SliceWhyModel", name := "forward", desc := "(IZ)I" } : Jvm.MethodName) ({ cls := "SliceWhyModel", name := "forward", desc := "(IZ)I" } : Jvm.MethodName)) ∈ Gw := Gw_in 41 (by decide +kernel) rfl
theorem wd_42 : (Jvm.Cond.selects "SliceWhyModel" ({ cls := "SliceWhyModel", name := "go", desc := "(II[II)I" } : Jvm.MethodName) ({ cls := "SliceWhyModel", name := "go", desc := "(II[II)I" } : Jvm.MethodName)) ∈ Gw := Gw_in 42 (by decide +kernel) rfl
theorem wd_43 : (Jvm.Cond.selects "SliceWhyModel" ({ cls := "SliceWhyModel", name := "begin", desc := "([II)V" } : Jvm.MethodName) ({ cls := "SliceWhyModel", name := "begin", desc := "([II)V" } : Jvm.MethodName)) ∈ Gw := Gw_in 43 (by decide +kernel) rfl
theorem wd_44 : (Jvm.Cond.selects "SliceWhyModel" ({ cls := "SliceWhyModel", name := "does", desc := "(I[II)Z" } : Jvm.MethodName) ({ cls := "SliceWhyModel", name := "does", desc := "(I[II)Z" } : Jvm.MethodName)) ∈ Gw := Gw_in 44 (by decide +kernel) rfl
theorem wd_45 : (Jvm.Cond.selects "SliceWhyModel" ({ cls := "SliceWhyModel", name := "whole", desc := "(I[II)I" } : Jvm.MethodName) ({ cls := "SliceWhyModel", name := "whole", desc := "(I[II)I" } : Jvm.MethodName)) ∈ Gw := Gw_in 45 (by decide +kernel) rfl
theorem wd_46 : (Jvm.Cond.selects "SliceWhyModel" ({ cls := "SliceWhyModel", name := "isSame", desc := "()Z" } : Jvm.MethodName) ({ cls := "SliceWhyModel", name := "isSame", desc := "()Z" } : Jvm.MethodName)) ∈ Gw := Gw_in 46 (by decide +kernel) rfl
theorem wd_47 : (Jvm.Cond.selects "SliceWhyModel" ({ cls := "SliceWhyModel", name := "agrees", desc := "(II)Z" } : Jvm.MethodName) ({ cls := "SliceWhyModel", name := "agrees", desc := "(II)Z" } : Jvm.MethodName)) ∈ Gw := Gw_in 47 (by decide +kernel) rfl
theorem wd_48 : (Jvm.Cond.initialized "SliceWhyLaw") ∈ Gw := Gw_in 48 (by decide +kernel) rfl
theorem wd_49 : (Jvm.Cond.initialized "SliceWhy") ∈ Gw := Gw_in 49 (by decide +kernel) rfl
theorem wd_50 : (Jvm.Cond.initialized "SliceWhy$Program") ∈ Gw := Gw_in 50 (by decide +kernel) rfl
theorem wd_51 : (Jvm.Cond.initialized "SliceWhy$Reasons") ∈ Gw := Gw_in 51 (by decide +kernel) rfl
theorem wd_52 : (Jvm.Cond.initialized "SliceWhy$Machine") ∈ Gw := Gw_in 52 (by decide +kernel) rfl
theorem wd_53 : (Jvm.Cond.initialized "SliceWhyModel") ∈ Gw := Gw_in 53 (by decide +kernel) rfl
theorem wd_54 : (Jvm.Cond.initialized "java/lang/Integer") ∈ Gw := Gw_in 54 (by decide +kernel) rfl
theorem wd_55 : (Jvm.Cond.initialized "java/lang/System") ∈ Gw := Gw_in 55 (by decide +kernel) rfl
theorem wd_56 : (Jvm.Cond.classLink "SliceWhyLaw" (7 : Nat) "SliceWhy") ∈ Gw := Gw_in 56 (by decide +kernel) rfl
theorem wd_57 : (Jvm.Cond.instantiable "SliceWhy" (12 : Nat)) ∈ Gw := Gw_in 57 (by decide +kernel) rfl
theorem wd_58 : (Jvm.Cond.methodLink "SliceWhyLaw" (9 : Nat) ({ cls := "SliceWhy", name := "<init>", desc := "()V" } : Jvm.MethodName)) ∈ Gw := Gw_in 58 (by decide +kernel) rfl
theorem wd_59 : (Jvm.Cond.instanceMethod ({ cls := "SliceWhy", name := "<init>", desc := "()V" } : Jvm.MethodName)) ∈ Gw := Gw_in 59 (by decide +kernel) rfl
theorem wd_60 : (Jvm.Cond.code ({ cls := "SliceWhy", name := "<init>", desc := "()V" } : Jvm.MethodName) prog_1_method_1_code (2 : Nat) (Option.none : Option Jvm.ClassFile.FieldType)) ∈ Gw := Gw_in 60 (by decide +kernel) rfl
theorem wd_61 : (Jvm.Cond.methodLink "SliceWhy" (3 : Nat) ({ cls := "java/lang/Object", name := "<init>", desc := "()V" } : Jvm.MethodName)) ∈ Gw := Gw_in 61 (by decide +kernel) rfl
theorem wd_62 : (Jvm.Cond.instanceMethod ({ cls := "java/lang/Object", name := "<init>", desc := "()V" } : Jvm.MethodName)) ∈ Gw := Gw_in 62 (by decide +kernel) rfl
theorem wd_63 : (Jvm.Cond.code ({ cls := "java/lang/Object", name := "<init>", desc := "()V" } : Jvm.MethodName) object_method_1_code (1 : Nat) (Option.none : Option Jvm.ClassFile.FieldType)) ∈ Gw := Gw_in 63 (by decide +kernel) rfl
theorem wd_64 : (Jvm.Cond.classLink "SliceWhy" (9 : Nat) "SliceWhy$Program") ∈ Gw := Gw_in 64 (by decide +kernel) rfl
theorem wd_65 : (Jvm.Cond.instantiable "SliceWhy$Program" (8 : Nat)) ∈ Gw := Gw_in 65 (by decide +kernel) rfl
theorem wd_66 : (Jvm.Cond.methodLink "SliceWhy" (11 : Nat) ({ cls := "SliceWhy$Program", name := "<init>", desc := "()V" } : Jvm.MethodName)) ∈ Gw := Gw_in 66 (by decide +kernel) rfl
theorem wd_67 : (Jvm.Cond.instanceMethod ({ cls := "SliceWhy$Program", name := "<init>", desc := "()V" } : Jvm.MethodName)) ∈ Gw := Gw_in 67 (by decide +kernel) rfl
theorem wd_68 : (Jvm.Cond.code ({ cls := "SliceWhy$Program", name := "<init>", desc := "()V" } : Jvm.MethodName) prog_3_method_1_code (2 : Nat) (Option.none : Option Jvm.ClassFile.FieldType)) ∈ Gw := Gw_in 68 (by decide +kernel) rfl
theorem wd_69 : (Jvm.Cond.methodLink "SliceWhy$Program" (3 : Nat) ({ cls := "java/lang/Object", name := "<init>", desc := "()V" } : Jvm.MethodName)) ∈ Gw := Gw_in 69 (by decide +kernel) rfl
theorem wd_70 : (Jvm.Cond.fieldLink "SliceWhy$Program" (9 : Nat) "SliceWhy$Program" "kinds" "[I") ∈ Gw := Gw_in 70 (by decide +kernel) rfl
theorem nst_71 : lw_tbl[71]? = some (Jvm.Cond.fieldLinkNest "SliceWhy" (69 : Nat) "SliceWhy$Program" "kinds" "[I" "SliceWhy") := by decide +kernel
theorem nst_72 : lw_tbl[72]? = some (Jvm.Cond.fieldLinkNest "SliceWhy$Machine" (89 : Nat) "SliceWhy$Program" "kinds" "[I" "SliceWhy") := by decide +kernel
theorem nst_73 : lw_tbl[73]? = some (Jvm.Cond.fieldLinkNest "SliceWhy$Reasons" (125 : Nat) "SliceWhy$Program" "kinds" "[I" "SliceWhy") := by decide +kernel
theorem wd_74 : (Jvm.Cond.fieldLink "SliceWhy$Program" (15 : Nat) "SliceWhy$Program" "as" "[I") ∈ Gw := Gw_in 74 (by decide +kernel) rfl
theorem nst_75 : lw_tbl[75]? = some (Jvm.Cond.fieldLinkNest "SliceWhy$Machine" (78 : Nat) "SliceWhy$Program" "as" "[I" "SliceWhy") := by decide +kernel
theorem wd_76 : (Jvm.Cond.fieldLink "SliceWhy$Program" (18 : Nat) "SliceWhy$Program" "bs" "[I") ∈ Gw := Gw_in 76 (by decide +kernel) rfl
theorem nst_77 : lw_tbl[77]? = some (Jvm.Cond.fieldLinkNest "SliceWhy$Machine" (81 : Nat) "SliceWhy$Program" "bs" "[I" "SliceWhy") := by decide +kernel
theorem wd_78 : (Jvm.Cond.fieldLink "SliceWhy$Program" (21 : Nat) "SliceWhy$Program" "cs" "[I") ∈ Gw := Gw_in 78 (by decide +kernel) rfl
theorem nst_79 : lw_tbl[79]? = some (Jvm.Cond.fieldLinkNest "SliceWhy$Machine" (92 : Nat) "SliceWhy$Program" "cs" "[I" "SliceWhy") := by decide +kernel
theorem wd_80 : (Jvm.Cond.fieldLink "SliceWhy$Program" (24 : Nat) "SliceWhy$Program" "starts" "[I") ∈ Gw := Gw_in 80 (by decide +kernel) rfl
theorem nst_81 : lw_tbl[81]? = some (Jvm.Cond.fieldLinkNest "SliceWhy$Machine" (57 : Nat) "SliceWhy$Program" "starts" "[I" "SliceWhy") := by decide +kernel
theorem nst_82 : lw_tbl[82]? = some (Jvm.Cond.fieldLinkNest "SliceWhy" (72 : Nat) "SliceWhy$Program" "starts" "[I" "SliceWhy") := by decide +kernel
theorem wd_83 : (Jvm.Cond.fieldLink "SliceWhy$Program" (27 : Nat) "SliceWhy$Program" "failing" "[Z") ∈ Gw := Gw_in 83 (by decide +kernel) rfl
theorem nst_84 : lw_tbl[84]? = some (Jvm.Cond.fieldLinkNest "SliceWhy" (75 : Nat) "SliceWhy$Program" "failing" "[Z" "SliceWhy") := by decide +kernel
theorem wd_85 : (Jvm.Cond.fieldLink "SliceWhy$Program" (31 : Nat) "SliceWhy$Program" "mayBe" "[I") ∈ Gw := Gw_in 85 (by decide +kernel) rfl
theorem nst_86 : lw_tbl[86]? = some (Jvm.Cond.fieldLinkNest "SliceWhy$Machine" (60 : Nat) "SliceWhy$Program" "mayBe" "[I" "SliceWhy") := by decide +kernel
theorem nst_87 : lw_tbl[87]? = some (Jvm.Cond.fieldLinkNest "SliceWhy" (79 : Nat) "SliceWhy$Program" "mayBe" "[I" "SliceWhy") := by decide +kernel
theorem nst_88 : lw_tbl[88]? = some (Jvm.Cond.fieldLinkNest "SliceWhy$Machine" (35 : Nat) "SliceWhy$Program" "size" "I" "SliceWhy") := by decide +kernel
theorem nst_89 : lw_tbl[89]? = some (Jvm.Cond.fieldLinkNest "SliceWhy" (57 : Nat) "SliceWhy$Program" "size" "I" "SliceWhy") := by decide +kernel
theorem wd_90 : (Jvm.Cond.fieldLink "SliceWhy$Program" (47 : Nat) "SliceWhy$Program" "size" "I") ∈ Gw := Gw_in 90 (by decide +kernel) rfl
theorem nst_91 : lw_tbl[91]? = some (Jvm.Cond.fieldLinkNest "SliceWhy$Reasons" (69 : Nat) "SliceWhy$Program" "size" "I" "SliceWhy") := by decide +kernel
theorem wd_92 : (Jvm.Cond.laysFinal "SliceWhy$Program" "SliceWhy$Program" "kinds" "[I") ∈ Gw := Gw_in 92 (by decide +kernel) rfl
theorem wd_94 : (Jvm.Cond.laysFinal "SliceWhy$Program" "SliceWhy$Program" "as" "[I") ∈ Gw := Gw_in 94 (by decide +kernel) rfl
theorem wd_96 : (Jvm.Cond.laysFinal "SliceWhy$Program" "SliceWhy$Program" "bs" "[I") ∈ Gw := Gw_in 96 (by decide +kernel) rfl
theorem wd_98 : (Jvm.Cond.laysFinal "SliceWhy$Program" "SliceWhy$Program" "cs" "[I") ∈ Gw := Gw_in 98 (by decide +kernel) rfl
theorem wd_100 : (Jvm.Cond.laysFinal "SliceWhy$Program" "SliceWhy$Program" "starts" "[I") ∈ Gw := Gw_in 100 (by decide +kernel) rfl
theorem wd_102 : (Jvm.Cond.laysFinal "SliceWhy$Program" "SliceWhy$Program" "failing" "[Z") ∈ Gw := Gw_in 102 (by decide +kernel) rfl
theorem wd_104 : (Jvm.Cond.laysFinal "SliceWhy$Program" "SliceWhy$Program" "mayBe" "[I") ∈ Gw := Gw_in 104 (by decide +kernel) rfl
theorem wd_106 : (Jvm.Cond.lays "SliceWhy$Program" "SliceWhy$Program" "size" "I") ∈ Gw := Gw_in 106 (by decide +kernel) rfl
theorem wd_109 : (Jvm.Cond.arrayClass Jvm.ClassFile.FieldType.int) ∈ Gw := Gw_in 109 (by decide +kernel) rfl
theorem wd_110 : (Jvm.Cond.arrayClass Jvm.ClassFile.FieldType.boolean) ∈ Gw := Gw_in 110 (by decide +kernel) rfl
theorem wd_111 : (Jvm.Cond.classLink "SliceWhy" (16 : Nat) "SliceWhy$Reasons") ∈ Gw := Gw_in 111 (by decide +kernel) rfl
theorem wd_112 : (Jvm.Cond.instantiable "SliceWhy$Reasons" (10 : Nat)) ∈ Gw := Gw_in 112 (by decide +kernel) rfl
theorem nst_113 : lw_tbl[113]? = some (Jvm.Cond.methodLinkNest "SliceWhy" (18 : Nat) ({ cls := "SliceWhy$Reasons", name := "<init>", desc := "()V" } : Jvm.MethodName) "SliceWhy") := by decide +kernel
theorem wd_114 : (Jvm.Cond.instanceMethod ({ cls := "SliceWhy$Reasons", name := "<init>", desc := "()V" } : Jvm.MethodName)) ∈ Gw := Gw_in 114 (by decide +kernel) rfl
theorem wd_115 : (Jvm.Cond.code ({ cls := "SliceWhy$Reasons", name := "<init>", desc := "()V" } : Jvm.MethodName) prog_4_method_1_code (1 : Nat) (Option.none : Option Jvm.ClassFile.FieldType)) ∈ Gw := Gw_in 115 (by decide +kernel) rfl
theorem wd_116 : (Jvm.Cond.methodLink "SliceWhy$Reasons" (3 : Nat) ({ cls := "java/lang/Object", name := "<init>", desc := "()V" } : Jvm.MethodName)) ∈ Gw := Gw_in 116 (by decide +kernel) rfl
theorem wd_117 : (Jvm.Cond.classLink "SliceWhy$Reasons" (21 : Nat) "[[I") ∈ Gw := Gw_in 117 (by decide +kernel) rfl
theorem nst_118 : lw_tbl[118]? = some (Jvm.Cond.arrayOver (Jvm.ClassFile.FieldType.array Jvm.ClassFile.FieldType.int)) := by decide +kernel
theorem wd_119 : (Jvm.Cond.fieldLink "SliceWhy$Reasons" (51 : Nat) "SliceWhy$Reasons" "size" "I") ∈ Gw := Gw_in 119 (by decide +kernel) rfl
theorem wd_120 : (Jvm.Cond.fieldLink "SliceWhy$Reasons" (9 : Nat) "SliceWhy$Reasons" "nexts" "[I") ∈ Gw := Gw_in 120 (by decide +kernel) rfl
theorem wd_121 : (Jvm.Cond.fieldLink "SliceWhy$Reasons" (15 : Nat) "SliceWhy$Reasons" "widerNexts" "[I") ∈ Gw := Gw_in 121 (by decide +kernel) rfl
theorem wd_122 : (Jvm.Cond.fieldLink "SliceWhy$Reasons" (18 : Nat) "SliceWhy$Reasons" "followers" "[I") ∈ Gw := Gw_in 122 (by decide +kernel) rfl
theorem wd_123 : (Jvm.Cond.fieldLink "SliceWhy$Reasons" (23 : Nat) "SliceWhy$Reasons" "hangs" "[[I") ∈ Gw := Gw_in 123 (by decide +kernel) rfl
theorem wd_124 : (Jvm.Cond.fieldLink "SliceWhy$Reasons" (26 : Nat) "SliceWhy$Reasons" "hangsAtAll" "[I") ∈ Gw := Gw_in 124 (by decide +kernel) rfl
theorem wd_125 : (Jvm.Cond.fieldLink "SliceWhy$Reasons" (29 : Nat) "SliceWhy$Reasons" "hangsThin" "[I") ∈ Gw := Gw_in 125 (by decide +kernel) rfl
theorem wd_126 : (Jvm.Cond.fieldLink "SliceWhy$Reasons" (32 : Nat) "SliceWhy$Reasons" "back" "[I") ∈ Gw := Gw_in 126 (by decide +kernel) rfl
theorem wd_127 : (Jvm.Cond.fieldLink "SliceWhy$Reasons" (35 : Nat) "SliceWhy$Reasons" "thin" "[I") ∈ Gw := Gw_in 127 (by decide +kernel) rfl
theorem wd_128 : (Jvm.Cond.fieldLink "SliceWhy$Reasons" (38 : Nat) "SliceWhy$Reasons" "away" "[I") ∈ Gw := Gw_in 128 (by decide +kernel) rfl
theorem wd_129 : (Jvm.Cond.lays "SliceWhy$Reasons" "SliceWhy$Reasons" "size" "I") ∈ Gw := Gw_in 129 (by decide +kernel) rfl
theorem wd_131 : (Jvm.Cond.laysFinal "SliceWhy$Reasons" "SliceWhy$Reasons" "nexts" "[I") ∈ Gw := Gw_in 131 (by decide +kernel) rfl
theorem wd_133 : (Jvm.Cond.laysFinal "SliceWhy$Reasons" "SliceWhy$Reasons" "widerNexts" "[I") ∈ Gw := Gw_in 133 (by decide +kernel) rfl
theorem wd_135 : (Jvm.Cond.laysFinal "SliceWhy$Reasons" "SliceWhy$Reasons" "followers" "[I") ∈ Gw := Gw_in 135 (by decide +kernel) rfl
theorem wd_137 : (Jvm.Cond.laysFinal "SliceWhy$Reasons" "SliceWhy$Reasons" "hangs" "[[I") ∈ Gw := Gw_in 137 (by decide +kernel) rfl
theorem wd_139 : (Jvm.Cond.laysFinal "SliceWhy$Reasons" "SliceWhy$Reasons" "hangsAtAll" "[I") ∈ Gw := Gw_in 139 (by decide +kernel) rfl
theorem wd_141 : (Jvm.Cond.laysFinal "SliceWhy$Reasons" "SliceWhy$Reasons" "hangsThin" "[I") ∈ Gw := Gw_in 141 (by decide +kernel) rfl
theorem wd_143 : (Jvm.Cond.laysFinal "SliceWhy$Reasons" "SliceWhy$Reasons" "back" "[I") ∈ Gw := Gw_in 143 (by decide +kernel) rfl
theorem wd_145 : (Jvm.Cond.laysFinal "SliceWhy$Reasons" "SliceWhy$Reasons" "thin" "[I") ∈ Gw := Gw_in 145 (by decide +kernel) rfl
theorem wd_147 : (Jvm.Cond.laysFinal "SliceWhy$Reasons" "SliceWhy$Reasons" "away" "[I") ∈ Gw := Gw_in 147 (by decide +kernel) rfl
theorem wd_150 : (Jvm.Cond.classLink "SliceWhy" (31 : Nat) "[[I") ∈ Gw := Gw_in 150 (by decide +kernel) rfl
theorem wd_151 : (Jvm.Cond.classLink "SliceWhy" (36 : Nat) "SliceWhy$Machine") ∈ Gw := Gw_in 151 (by decide +kernel) rfl
theorem wd_152 : (Jvm.Cond.instantiable "SliceWhy$Machine" (9 : Nat)) ∈ Gw := Gw_in 152 (by decide +kernel) rfl
theorem nst_153 : lw_tbl[153]? = some (Jvm.Cond.methodLinkNest "SliceWhy" (38 : Nat) ({ cls := "SliceWhy$Machine", name := "<init>", desc := "()V" } : Jvm.MethodName) "SliceWhy") := by decide +kernel
theorem wd_154 : (Jvm.Cond.instanceMethod ({ cls := "SliceWhy$Machine", name := "<init>", desc := "()V" } : Jvm.MethodName)) ∈ Gw := Gw_in 154 (by decide +kernel) rfl
theorem wd_155 : (Jvm.Cond.code ({ cls := "SliceWhy$Machine", name := "<init>", desc := "()V" } : Jvm.MethodName) prog_2_method_1_code (1 : Nat) (Option.none : Option Jvm.ClassFile.FieldType)) ∈ Gw := Gw_in 155 (by decide +kernel) rfl
theorem wd_156 : (Jvm.Cond.methodLink "SliceWhy$Machine" (3 : Nat) ({ cls := "java/lang/Object", name := "<init>", desc := "()V" } : Jvm.MethodName)) ∈ Gw := Gw_in 156 (by decide +kernel) rfl
theorem wd_157 : (Jvm.Cond.fieldLink "SliceWhy$Machine" (9 : Nat) "SliceWhy$Machine" "registers" "[I") ∈ Gw := Gw_in 157 (by decide +kernel) rfl
theorem nst_158 : lw_tbl[158]? = some (Jvm.Cond.fieldLinkNest "SliceWhy" (113 : Nat) "SliceWhy$Machine" "registers" "[I" "SliceWhy") := by decide +kernel
theorem wd_159 : (Jvm.Cond.fieldLink "SliceWhy$Machine" (15 : Nat) "SliceWhy$Machine" "items" "[I") ∈ Gw := Gw_in 159 (by decide +kernel) rfl
theorem wd_160 : (Jvm.Cond.fieldLink "SliceWhy$Machine" (18 : Nat) "SliceWhy$Machine" "globals" "[I") ∈ Gw := Gw_in 160 (by decide +kernel) rfl
theorem wd_161 : (Jvm.Cond.fieldLink "SliceWhy$Machine" (21 : Nat) "SliceWhy$Machine" "rowOf" "[I") ∈ Gw := Gw_in 161 (by decide +kernel) rfl
theorem wd_162 : (Jvm.Cond.fieldLink "SliceWhy$Machine" (24 : Nat) "SliceWhy$Machine" "told" "[I") ∈ Gw := Gw_in 162 (by decide +kernel) rfl
theorem nst_163 : lw_tbl[163]? = some (Jvm.Cond.fieldLinkNest "SliceWhy" (104 : Nat) "SliceWhy$Machine" "told" "[I" "SliceWhy") := by decide +kernel
theorem wd_164 : (Jvm.Cond.fieldLink "SliceWhy$Machine" (51 : Nat) "SliceWhy$Machine" "toldCount" "I") ∈ Gw := Gw_in 164 (by decide +kernel) rfl
theorem nst_165 : lw_tbl[165]? = some (Jvm.Cond.fieldLinkNest "SliceWhy" (101 : Nat) "SliceWhy$Machine" "toldCount" "I" "SliceWhy") := by decide +kernel
theorem wd_166 : (Jvm.Cond.fieldLink "SliceWhy$Machine" (54 : Nat) "SliceWhy$Machine" "toldNow" "I") ∈ Gw := Gw_in 166 (by decide +kernel) rfl
theorem wd_167 : (Jvm.Cond.fieldLink "SliceWhy$Machine" (44 : Nat) "SliceWhy$Machine" "steps" "I") ∈ Gw := Gw_in 167 (by decide +kernel) rfl
theorem nst_168 : lw_tbl[168]? = some (Jvm.Cond.fieldLinkNest "SliceWhy" (107 : Nat) "SliceWhy$Machine" "steps" "I" "SliceWhy") := by decide +kernel
theorem wd_169 : (Jvm.Cond.fieldLink "SliceWhy$Machine" (27 : Nat) "SliceWhy$Machine" "failedAt" "I") ∈ Gw := Gw_in 169 (by decide +kernel) rfl
theorem nst_170 : lw_tbl[170]? = some (Jvm.Cond.fieldLinkNest "SliceWhy" (110 : Nat) "SliceWhy$Machine" "failedAt" "I" "SliceWhy") := by decide +kernel
theorem wd_171 : (Jvm.Cond.laysFinal "SliceWhy$Machine" "SliceWhy$Machine" "registers" "[I") ∈ Gw := Gw_in 171 (by decide +kernel) rfl
theorem wd_173 : (Jvm.Cond.laysFinal "SliceWhy$Machine" "SliceWhy$Machine" "items" "[I") ∈ Gw := Gw_in 173 (by decide +kernel) rfl
theorem wd_175 : (Jvm.Cond.laysFinal "SliceWhy$Machine" "SliceWhy$Machine" "globals" "[I") ∈ Gw := Gw_in 175 (by decide +kernel) rfl
theorem wd_177 : (Jvm.Cond.laysFinal "SliceWhy$Machine" "SliceWhy$Machine" "rowOf" "[I") ∈ Gw := Gw_in 177 (by decide +kernel) rfl
theorem wd_179 : (Jvm.Cond.laysFinal "SliceWhy$Machine" "SliceWhy$Machine" "told" "[I") ∈ Gw := Gw_in 179 (by decide +kernel) rfl
theorem wd_181 : (Jvm.Cond.lays "SliceWhy$Machine" "SliceWhy$Machine" "toldCount" "I") ∈ Gw := Gw_in 181 (by decide +kernel) rfl
theorem wd_183 : (Jvm.Cond.lays "SliceWhy$Machine" "SliceWhy$Machine" "toldNow" "I") ∈ Gw := Gw_in 183 (by decide +kernel) rfl
theorem wd_185 : (Jvm.Cond.lays "SliceWhy$Machine" "SliceWhy$Machine" "steps" "I") ∈ Gw := Gw_in 185 (by decide +kernel) rfl
theorem wd_187 : (Jvm.Cond.lays "SliceWhy$Machine" "SliceWhy$Machine" "failedAt" "I") ∈ Gw := Gw_in 187 (by decide +kernel) rfl
theorem nst_190 : lw_tbl[190]? = some (Jvm.Cond.arrayOver (Jvm.ClassFile.FieldType.object "SliceWhy$Machine")) := by decide +kernel
theorem wd_191 : (Jvm.Cond.fieldLink "SliceWhy" (12 : Nat) "SliceWhy" "program" "LSliceWhy$Program;") ∈ Gw := Gw_in 191 (by decide +kernel) rfl
theorem wd_192 : (Jvm.Cond.fieldLink "SliceWhy" (19 : Nat) "SliceWhy" "reasons" "LSliceWhy$Reasons;") ∈ Gw := Gw_in 192 (by decide +kernel) rfl
theorem wd_193 : (Jvm.Cond.fieldLink "SliceWhy" (23 : Nat) "SliceWhy" "reasonsAreOld" "Z") ∈ Gw := Gw_in 193 (by decide +kernel) rfl
theorem wd_194 : (Jvm.Cond.fieldLink "SliceWhy" (27 : Nat) "SliceWhy" "inputs" "[I") ∈ Gw := Gw_in 194 (by decide +kernel) rfl
theorem wd_195 : (Jvm.Cond.fieldLink "SliceWhy" (33 : Nat) "SliceWhy" "tests" "[[I") ∈ Gw := Gw_in 195 (by decide +kernel) rfl
theorem wd_196 : (Jvm.Cond.fieldLink "SliceWhy" (150 : Nat) "SliceWhy" "testCount" "I") ∈ Gw := Gw_in 196 (by decide +kernel) rfl
theorem wd_197 : (Jvm.Cond.fieldLink "SliceWhy" (39 : Nat) "SliceWhy" "latest" "LSliceWhy$Machine;") ∈ Gw := Gw_in 197 (by decide +kernel) rfl
theorem wd_198 : (Jvm.Cond.fieldLink "SliceWhy" (82 : Nat) "SliceWhy" "runCount" "I") ∈ Gw := Gw_in 198 (by decide +kernel) rfl
theorem wd_199 : (Jvm.Cond.fieldLink "SliceWhy" (43 : Nat) "SliceWhy" "wholes" "[LSliceWhy$Machine;") ∈ Gw := Gw_in 199 (by decide +kernel) rfl
theorem wd_200 : (Jvm.Cond.fieldLink "SliceWhy" (47 : Nat) "SliceWhy" "part" "LSliceWhy$Machine;") ∈ Gw := Gw_in 200 (by decide +kernel) rfl
theorem wd_201 : (Jvm.Cond.fieldLink "SliceWhy" (50 : Nat) "SliceWhy" "wayPlaces" "[I") ∈ Gw := Gw_in 201 (by decide +kernel) rfl
theorem wd_202 : (Jvm.Cond.fieldLink "SliceWhy" (143 : Nat) "SliceWhy" "wayLength" "I") ∈ Gw := Gw_in 202 (by decide +kernel) rfl
theorem wd_203 : (Jvm.Cond.laysFinal "SliceWhy" "SliceWhy" "program" "LSliceWhy$Program;") ∈ Gw := Gw_in 203 (by decide +kernel) rfl
theorem wd_205 : (Jvm.Cond.laysFinal "SliceWhy" "SliceWhy" "reasons" "LSliceWhy$Reasons;") ∈ Gw := Gw_in 205 (by decide +kernel) rfl
theorem wd_207 : (Jvm.Cond.lays "SliceWhy" "SliceWhy" "reasonsAreOld" "Z") ∈ Gw := Gw_in 207 (by decide +kernel) rfl
theorem wd_209 : (Jvm.Cond.laysFinal "SliceWhy" "SliceWhy" "inputs" "[I") ∈ Gw := Gw_in 209 (by decide +kernel) rfl
theorem wd_211 : (Jvm.Cond.laysFinal "SliceWhy" "SliceWhy" "tests" "[[I") ∈ Gw := Gw_in 211 (by decide +kernel) rfl
theorem wd_213 : (Jvm.Cond.lays "SliceWhy" "SliceWhy" "testCount" "I") ∈ Gw := Gw_in 213 (by decide +kernel) rfl
theorem wd_215 : (Jvm.Cond.laysFinal "SliceWhy" "SliceWhy" "latest" "LSliceWhy$Machine;") ∈ Gw := Gw_in 215 (by decide +kernel) rfl
theorem wd_217 : (Jvm.Cond.lays "SliceWhy" "SliceWhy" "runCount" "I") ∈ Gw := Gw_in 217 (by decide +kernel) rfl
theorem wd_219 : (Jvm.Cond.laysFinal "SliceWhy" "SliceWhy" "wholes" "[LSliceWhy$Machine;") ∈ Gw := Gw_in 219 (by decide +kernel) rfl
theorem wd_221 : (Jvm.Cond.laysFinal "SliceWhy" "SliceWhy" "part" "LSliceWhy$Machine;") ∈ Gw := Gw_in 221 (by decide +kernel) rfl
theorem wd_223 : (Jvm.Cond.laysFinal "SliceWhy" "SliceWhy" "wayPlaces" "[I") ∈ Gw := Gw_in 223 (by decide +kernel) rfl
theorem wd_225 : (Jvm.Cond.lays "SliceWhy" "SliceWhy" "wayLength" "I") ∈ Gw := Gw_in 225 (by decide +kernel) rfl
theorem wd_228 : (Jvm.Cond.methodLink "SliceWhyLaw" (13 : Nat) ({ cls := "SliceWhy", name := "line", desc := "(IIII)I" } : Jvm.MethodName)) ∈ Gw := Gw_in 228 (by decide +kernel) rfl
theorem wd_229 : (Jvm.Cond.instanceMethod ({ cls := "SliceWhy", name := "line", desc := "(IIII)I" } : Jvm.MethodName)) ∈ Gw := Gw_in 229 (by decide +kernel) rfl
theorem wd_230 : (Jvm.Cond.selects "SliceWhy" ({ cls := "SliceWhy", name := "line", desc := "(IIII)I" } : Jvm.MethodName) ({ cls := "SliceWhy", name := "line", desc := "(IIII)I" } : Jvm.MethodName)) ∈ Gw := Gw_in 230 (by decide +kernel) rfl
theorem wd_231 : (Jvm.Cond.code ({ cls := "SliceWhy", name := "line", desc := "(IIII)I" } : Jvm.MethodName) prog_1_method_2_code (6 : Nat) (Option.some Jvm.ClassFile.FieldType.int)) ∈ Gw := Gw_in 231 (by decide +kernel) rfl
theorem wd_232 : (Jvm.Cond.methodLink "SliceWhy" (53 : Nat) ({ cls := "SliceWhy$Program", name := "allows", desc := "(IIII)Z" } : Jvm.MethodName)) ∈ Gw := Gw_in 232 (by decide +kernel) rfl
theorem wd_233 : (Jvm.Cond.static ({ cls := "SliceWhy$Program", name := "allows", desc := "(IIII)Z" } : Jvm.MethodName)) ∈ Gw := Gw_in 233 (by decide +kernel) rfl
theorem wd_234 : (Jvm.Cond.code ({ cls := "SliceWhy$Program", name := "allows", desc := "(IIII)Z" } : Jvm.MethodName) prog_3_method_2_code (4 : Nat) (Option.some Jvm.ClassFile.FieldType.boolean)) ∈ Gw := Gw_in 234 (by decide +kernel) rfl
theorem nst_235 : lw_tbl[235]? = some (Jvm.Cond.fieldLinkNest "SliceWhy$Program" (34 : Nat) "SliceWhy" "A_LIMITS" "[I" "SliceWhy") := by decide +kernel
theorem wd_237 : (Jvm.Cond.methodLink "SliceWhy$Program" (37 : Nat) ({ cls := "SliceWhy$Program", name := "isBelow", desc := "(II)Z" } : Jvm.MethodName)) ∈ Gw := Gw_in 237 (by decide +kernel) rfl
theorem wd_238 : (Jvm.Cond.static ({ cls := "SliceWhy$Program", name := "isBelow", desc := "(II)Z" } : Jvm.MethodName)) ∈ Gw := Gw_in 238 (by decide +kernel) rfl
theorem wd_239 : (Jvm.Cond.code ({ cls := "SliceWhy$Program", name := "isBelow", desc := "(II)Z" } : Jvm.MethodName) prog_3_method_3_code (2 : Nat) (Option.some Jvm.ClassFile.FieldType.boolean)) ∈ Gw := Gw_in 239 (by decide +kernel) rfl
theorem nst_240 : lw_tbl[240]? = some (Jvm.Cond.fieldLinkNest "SliceWhy$Program" (41 : Nat) "SliceWhy" "B_LIMITS" "[I" "SliceWhy") := by decide +kernel
theorem nst_242 : lw_tbl[242]? = some (Jvm.Cond.fieldLinkNest "SliceWhy$Program" (44 : Nat) "SliceWhy" "C_LIMITS" "[I" "SliceWhy") := by decide +kernel
theorem wd_244 : (Jvm.Cond.methodLink "SliceWhy" (61 : Nat) ({ cls := "SliceWhy$Program", name := "write", desc := "(IIIII)V" } : Jvm.MethodName)) ∈ Gw := Gw_in 244 (by decide +kernel) rfl
theorem wd_245 : (Jvm.Cond.instanceMethod ({ cls := "SliceWhy$Program", name := "write", desc := "(IIIII)V" } : Jvm.MethodName)) ∈ Gw := Gw_in 245 (by decide +kernel) rfl
theorem wd_246 : (Jvm.Cond.selects "SliceWhy$Program" ({ cls := "SliceWhy$Program", name := "write", desc := "(IIIII)V" } : Jvm.MethodName) ({ cls := "SliceWhy$Program", name := "write", desc := "(IIIII)V" } : Jvm.MethodName)) ∈ Gw := Gw_in 246 (by decide +kernel) rfl
theorem wd_247 : (Jvm.Cond.code ({ cls := "SliceWhy$Program", name := "write", desc := "(IIIII)V" } : Jvm.MethodName) prog_3_method_6_code (6 : Nat) (Option.none : Option Jvm.ClassFile.FieldType)) ∈ Gw := Gw_in 247 (by decide +kernel) rfl
theorem wd_248 : (Jvm.Cond.methodLink "SliceWhyLaw" (18 : Nat) ({ cls := "SliceWhy", name := "change", desc := "(IIIII)I" } : Jvm.MethodName)) ∈ Gw := Gw_in 248 (by decide +kernel) rfl
theorem wd_249 : (Jvm.Cond.instanceMethod ({ cls := "SliceWhy", name := "change", desc := "(IIIII)I" } : Jvm.MethodName)) ∈ Gw := Gw_in 249 (by decide +kernel) rfl
theorem wd_250 : (Jvm.Cond.selects "SliceWhy" ({ cls := "SliceWhy", name := "change", desc := "(IIIII)I" } : Jvm.MethodName) ({ cls := "SliceWhy", name := "change", desc := "(IIIII)I" } : Jvm.MethodName)) ∈ Gw := Gw_in 250 (by decide +kernel) rfl
theorem wd_251 : (Jvm.Cond.code ({ cls := "SliceWhy", name := "change", desc := "(IIIII)I" } : Jvm.MethodName) prog_1_method_3_code (7 : Nat) (Option.some Jvm.ClassFile.FieldType.int)) ∈ Gw := Gw_in 251 (by decide +kernel) rfl
theorem wd_252 : (Jvm.Cond.methodLink "SliceWhy" (65 : Nat) ({ cls := "SliceWhy$Program", name := "has", desc := "(I)Z" } : Jvm.MethodName)) ∈ Gw := Gw_in 252 (by decide +kernel) rfl
theorem wd_253 : (Jvm.Cond.instanceMethod ({ cls := "SliceWhy$Program", name := "has", desc := "(I)Z" } : Jvm.MethodName)) ∈ Gw := Gw_in 253 (by decide +kernel) rfl
theorem wd_254 : (Jvm.Cond.selects "SliceWhy$Program" ({ cls := "SliceWhy$Program", name := "has", desc := "(I)Z" } : Jvm.MethodName) ({ cls := "SliceWhy$Program", name := "has", desc := "(I)Z" } : Jvm.MethodName)) ∈ Gw := Gw_in 254 (by decide +kernel) rfl
theorem wd_255 : (Jvm.Cond.code ({ cls := "SliceWhy$Program", name := "has", desc := "(I)Z" } : Jvm.MethodName) prog_3_method_4_code (2 : Nat) (Option.some Jvm.ClassFile.FieldType.boolean)) ∈ Gw := Gw_in 255 (by decide +kernel) rfl
theorem wd_256 : (Jvm.Cond.methodLink "SliceWhyLaw" (23 : Nat) ({ cls := "SliceWhy", name := "drop", desc := "()I" } : Jvm.MethodName)) ∈ Gw := Gw_in 256 (by decide +kernel) rfl
theorem wd_257 : (Jvm.Cond.instanceMethod ({ cls := "SliceWhy", name := "drop", desc := "()I" } : Jvm.MethodName)) ∈ Gw := Gw_in 257 (by decide +kernel) rfl
theorem wd_258 : (Jvm.Cond.selects "SliceWhy" ({ cls := "SliceWhy", name := "drop", desc := "()I" } : Jvm.MethodName) ({ cls := "SliceWhy", name := "drop", desc := "()I" } : Jvm.MethodName)) ∈ Gw := Gw_in 258 (by decide +kernel) rfl
theorem wd_259 : (Jvm.Cond.code ({ cls := "SliceWhy", name := "drop", desc := "()I" } : Jvm.MethodName) prog_1_method_4_code (1 : Nat) (Option.some Jvm.ClassFile.FieldType.int)) ∈ Gw := Gw_in 259 (by decide +kernel) rfl
theorem wd_260 : (Jvm.Cond.methodLink "SliceWhyLaw" (28 : Nat) ({ cls := "SliceWhy", name := "start", desc := "(IIZ)I" } : Jvm.MethodName)) ∈ Gw := Gw_in 260 (by decide +kernel) rfl
theorem wd_261 : (Jvm.Cond.instanceMethod ({ cls := "SliceWhy", name := "start", desc := "(IIZ)I" } : Jvm.MethodName)) ∈ Gw := Gw_in 261 (by decide +kernel) rfl
theorem wd_262 : (Jvm.Cond.selects "SliceWhy" ({ cls := "SliceWhy", name := "start", desc := "(IIZ)I" } : Jvm.MethodName) ({ cls := "SliceWhy", name := "start", desc := "(IIZ)I" } : Jvm.MethodName)) ∈ Gw := Gw_in 262 (by decide +kernel) rfl
theorem wd_263 : (Jvm.Cond.code ({ cls := "SliceWhy", name := "start", desc := "(IIZ)I" } : Jvm.MethodName) prog_1_method_5_code (4 : Nat) (Option.some Jvm.ClassFile.FieldType.int)) ∈ Gw := Gw_in 263 (by decide +kernel) rfl
theorem wd_264 : (Jvm.Cond.methodLink "SliceWhyLaw" (33 : Nat) ({ cls := "SliceWhy", name := "points", desc := "(II)I" } : Jvm.MethodName)) ∈ Gw := Gw_in 264 (by decide +kernel) rfl
theorem wd_265 : (Jvm.Cond.instanceMethod ({ cls := "SliceWhy", name := "points", desc := "(II)I" } : Jvm.MethodName)) ∈ Gw := Gw_in 265 (by decide +kernel) rfl
theorem wd_266 : (Jvm.Cond.selects "SliceWhy" ({ cls := "SliceWhy", name := "points", desc := "(II)I" } : Jvm.MethodName) ({ cls := "SliceWhy", name := "points", desc := "(II)I" } : Jvm.MethodName)) ∈ Gw := Gw_in 266 (by decide +kernel) rfl
theorem wd_267 : (Jvm.Cond.code ({ cls := "SliceWhy", name := "points", desc := "(II)I" } : Jvm.MethodName) prog_1_method_6_code (4 : Nat) (Option.some Jvm.ClassFile.FieldType.int)) ∈ Gw := Gw_in 267 (by decide +kernel) rfl
theorem wd_268 : (Jvm.Cond.methodLink "SliceWhyLaw" (38 : Nat) ({ cls := "SliceWhy", name := "input", desc := "(II)I" } : Jvm.MethodName)) ∈ Gw := Gw_in 268 (by decide +kernel) rfl
theorem wd_269 : (Jvm.Cond.instanceMethod ({ cls := "SliceWhy", name := "input", desc := "(II)I" } : Jvm.MethodName)) ∈ Gw := Gw_in 269 (by decide +kernel) rfl
theorem wd_270 : (Jvm.Cond.selects "SliceWhy" ({ cls := "SliceWhy", name := "input", desc := "(II)I" } : Jvm.MethodName) ({ cls := "SliceWhy", name := "input", desc := "(II)I" } : Jvm.MethodName)) ∈ Gw := Gw_in 270 (by decide +kernel) rfl
theorem wd_271 : (Jvm.Cond.code ({ cls := "SliceWhy", name := "input", desc := "(II)I" } : Jvm.MethodName) prog_1_method_7_code (3 : Nat) (Option.some Jvm.ClassFile.FieldType.int)) ∈ Gw := Gw_in 271 (by decide +kernel) rfl
theorem wd_272 : (Jvm.Cond.methodLink "SliceWhyLaw" (42 : Nat) ({ cls := "SliceWhy", name := "run", desc := "(II)I" } : Jvm.MethodName)) ∈ Gw := Gw_in 272 (by decide +kernel) rfl
theorem wd_273 : (Jvm.Cond.instanceMethod ({ cls := "SliceWhy", name := "run", desc := "(II)I" } : Jvm.MethodName)) ∈ Gw := Gw_in 273 (by decide +kernel) rfl
theorem wd_274 : (Jvm.Cond.selects "SliceWhy" ({ cls := "SliceWhy", name := "run", desc := "(II)I" } : Jvm.MethodName) ({ cls := "SliceWhy", name := "run", desc := "(II)I" } : Jvm.MethodName)) ∈ Gw := Gw_in 274 (by decide +kernel) rfl
theorem wd_275 : (Jvm.Cond.code ({ cls := "SliceWhy", name := "run", desc := "(II)I" } : Jvm.MethodName) prog_1_method_8_code (4 : Nat) (Option.some Jvm.ClassFile.FieldType.int)) ∈ Gw := Gw_in 275 (by decide +kernel) rfl
theorem wd_276 : (Jvm.Cond.methodLink "SliceWhy" (85 : Nat) ({ cls := "SliceWhy$Program", name := "all", desc := "()I" } : Jvm.MethodName)) ∈ Gw := Gw_in 276 (by decide +kernel) rfl
theorem wd_277 : (Jvm.Cond.instanceMethod ({ cls := "SliceWhy$Program", name := "all", desc := "()I" } : Jvm.MethodName)) ∈ Gw := Gw_in 277 (by decide +kernel) rfl
theorem wd_278 : (Jvm.Cond.selects "SliceWhy$Program" ({ cls := "SliceWhy$Program", name := "all", desc := "()I" } : Jvm.MethodName) ({ cls := "SliceWhy$Program", name := "all", desc := "()I" } : Jvm.MethodName)) ∈ Gw := Gw_in 278 (by decide +kernel) rfl
theorem wd_279 : (Jvm.Cond.code ({ cls := "SliceWhy$Program", name := "all", desc := "()I" } : Jvm.MethodName) prog_3_method_5_code (1 : Nat) (Option.some Jvm.ClassFile.FieldType.int)) ∈ Gw := Gw_in 279 (by decide +kernel) rfl
theorem wd_280 : (Jvm.Cond.methodLink "SliceWhy" (89 : Nat) ({ cls := "SliceWhy", name := "reasonsNow", desc := "()LSliceWhy$Reasons;" } : Jvm.MethodName)) ∈ Gw := Gw_in 280 (by decide +kernel) rfl
theorem wd_282 : (Jvm.Cond.instanceMethod ({ cls := "SliceWhy", name := "reasonsNow", desc := "()LSliceWhy$Reasons;" } : Jvm.MethodName)) ∈ Gw := Gw_in 282 (by decide +kernel) rfl
theorem wd_283 : (Jvm.Cond.code ({ cls := "SliceWhy", name := "reasonsNow", desc := "()LSliceWhy$Reasons;" } : Jvm.MethodName) prog_1_method_24_code (1 : Nat) (Option.some (Jvm.ClassFile.FieldType.object "SliceWhy$Reasons"))) ∈ Gw := Gw_in 283 (by decide +kernel) rfl
theorem wd_284 : (Jvm.Cond.methodLink "SliceWhy" (166 : Nat) ({ cls := "SliceWhy$Reasons", name := "findAll", desc := "(LSliceWhy$Program;)V" } : Jvm.MethodName)) ∈ Gw := Gw_in 284 (by decide +kernel) rfl
theorem wd_285 : (Jvm.Cond.instanceMethod ({ cls := "SliceWhy$Reasons", name := "findAll", desc := "(LSliceWhy$Program;)V" } : Jvm.MethodName)) ∈ Gw := Gw_in 285 (by decide +kernel) rfl
theorem wd_286 : (Jvm.Cond.selects "SliceWhy$Reasons" ({ cls := "SliceWhy$Reasons", name := "findAll", desc := "(LSliceWhy$Program;)V" } : Jvm.MethodName) ({ cls := "SliceWhy$Reasons", name := "findAll", desc := "(LSliceWhy$Program;)V" } : Jvm.MethodName)) ∈ Gw := Gw_in 286 (by decide +kernel) rfl
theorem wd_287 : (Jvm.Cond.code ({ cls := "SliceWhy$Reasons", name := "findAll", desc := "(LSliceWhy$Program;)V" } : Jvm.MethodName) prog_4_method_14_code (3 : Nat) (Option.none : Option Jvm.ClassFile.FieldType)) ∈ Gw := Gw_in 287 (by decide +kernel) rfl
theorem wd_288 : (Jvm.Cond.methodLink "SliceWhy$Reasons" (72 : Nat) ({ cls := "SliceWhy$Reasons", name := "takeNexts", desc := "(LSliceWhy$Program;)V" } : Jvm.MethodName)) ∈ Gw := Gw_in 288 (by decide +kernel) rfl
theorem wd_290 : (Jvm.Cond.instanceMethod ({ cls := "SliceWhy$Reasons", name := "takeNexts", desc := "(LSliceWhy$Program;)V" } : Jvm.MethodName)) ∈ Gw := Gw_in 290 (by decide +kernel) rfl
theorem wd_291 : (Jvm.Cond.code ({ cls := "SliceWhy$Reasons", name := "takeNexts", desc := "(LSliceWhy$Program;)V" } : Jvm.MethodName) prog_4_method_16_code (3 : Nat) (Option.none : Option Jvm.ClassFile.FieldType)) ∈ Gw := Gw_in 291 (by decide +kernel) rfl
theorem wd_292 : (Jvm.Cond.methodLink "SliceWhy$Reasons" (99 : Nat) ({ cls := "SliceWhy$Program", name := "nextsOf", desc := "(I)I" } : Jvm.MethodName)) ∈ Gw := Gw_in 292 (by decide +kernel) rfl
theorem wd_293 : (Jvm.Cond.instanceMethod ({ cls := "SliceWhy$Program", name := "nextsOf", desc := "(I)I" } : Jvm.MethodName)) ∈ Gw := Gw_in 293 (by decide +kernel) rfl
theorem wd_294 : (Jvm.Cond.selects "SliceWhy$Program" ({ cls := "SliceWhy$Program", name := "nextsOf", desc := "(I)I" } : Jvm.MethodName) ({ cls := "SliceWhy$Program", name := "nextsOf", desc := "(I)I" } : Jvm.MethodName)) ∈ Gw := Gw_in 294 (by decide +kernel) rfl
theorem wd_295 : (Jvm.Cond.code ({ cls := "SliceWhy$Program", name := "nextsOf", desc := "(I)I" } : Jvm.MethodName) prog_3_method_9_code (3 : Nat) (Option.some Jvm.ClassFile.FieldType.int)) ∈ Gw := Gw_in 295 (by decide +kernel) rfl
theorem wd_296 : (Jvm.Cond.methodLink "SliceWhy$Program" (51 : Nat) ({ cls := "SliceWhy$Program", name := "bitOf", desc := "(I)I" } : Jvm.MethodName)) ∈ Gw := Gw_in 296 (by decide +kernel) rfl
theorem wd_298 : (Jvm.Cond.instanceMethod ({ cls := "SliceWhy$Program", name := "bitOf", desc := "(I)I" } : Jvm.MethodName)) ∈ Gw := Gw_in 298 (by decide +kernel) rfl
theorem wd_299 : (Jvm.Cond.code ({ cls := "SliceWhy$Program", name := "bitOf", desc := "(I)I" } : Jvm.MethodName) prog_3_method_8_code (2 : Nat) (Option.some Jvm.ClassFile.FieldType.int)) ∈ Gw := Gw_in 299 (by decide +kernel) rfl
theorem wd_300 : (Jvm.Cond.constant "SliceWhy$Program" (55 : Nat) (16777216 : Int32)) ∈ Gw := Gw_in 300 (by decide +kernel) rfl
theorem wd_301 : (Jvm.Cond.methodLink "SliceWhy$Program" (56 : Nat) ({ cls := "SliceWhy$Program", name := "isOfFailingGlobal", desc := "(I)Z" } : Jvm.MethodName)) ∈ Gw := Gw_in 301 (by decide +kernel) rfl
theorem wd_302 : (Jvm.Cond.instanceMethod ({ cls := "SliceWhy$Program", name := "isOfFailingGlobal", desc := "(I)Z" } : Jvm.MethodName)) ∈ Gw := Gw_in 302 (by decide +kernel) rfl
theorem wd_303 : (Jvm.Cond.selects "SliceWhy$Program" ({ cls := "SliceWhy$Program", name := "isOfFailingGlobal", desc := "(I)Z" } : Jvm.MethodName) ({ cls := "SliceWhy$Program", name := "isOfFailingGlobal", desc := "(I)Z" } : Jvm.MethodName)) ∈ Gw := Gw_in 303 (by decide +kernel) rfl
theorem wd_304 : (Jvm.Cond.code ({ cls := "SliceWhy$Program", name := "isOfFailingGlobal", desc := "(I)Z" } : Jvm.MethodName) prog_3_method_7_code (2 : Nat) (Option.some Jvm.ClassFile.FieldType.boolean)) ∈ Gw := Gw_in 304 (by decide +kernel) rfl
theorem wd_305 : (Jvm.Cond.methodLink "SliceWhy$Reasons" (102 : Nat) ({ cls := "SliceWhy$Program", name := "widerNextsOf", desc := "(I)I" } : Jvm.MethodName)) ∈ Gw := Gw_in 305 (by decide +kernel) rfl
theorem wd_306 : (Jvm.Cond.instanceMethod ({ cls := "SliceWhy$Program", name := "widerNextsOf", desc := "(I)I" } : Jvm.MethodName)) ∈ Gw := Gw_in 306 (by decide +kernel) rfl
theorem wd_307 : (Jvm.Cond.selects "SliceWhy$Program" ({ cls := "SliceWhy$Program", name := "widerNextsOf", desc := "(I)I" } : Jvm.MethodName) ({ cls := "SliceWhy$Program", name := "widerNextsOf", desc := "(I)I" } : Jvm.MethodName)) ∈ Gw := Gw_in 307 (by decide +kernel) rfl
theorem wd_308 : (Jvm.Cond.code ({ cls := "SliceWhy$Program", name := "widerNextsOf", desc := "(I)I" } : Jvm.MethodName) prog_3_method_10_code (2 : Nat) (Option.some Jvm.ClassFile.FieldType.int)) ∈ Gw := Gw_in 308 (by decide +kernel) rfl
theorem wd_309 : (Jvm.Cond.methodLink "SliceWhy$Program" (60 : Nat) ({ cls := "SliceWhy$Program", name := "nextsOf", desc := "(I)I" } : Jvm.MethodName)) ∈ Gw := Gw_in 309 (by decide +kernel) rfl
theorem wd_310 : (Jvm.Cond.methodLink "SliceWhy$Reasons" (76 : Nat) ({ cls := "SliceWhy$Reasons", name := "forgetHanging", desc := "()V" } : Jvm.MethodName)) ∈ Gw := Gw_in 310 (by decide +kernel) rfl
theorem wd_312 : (Jvm.Cond.instanceMethod ({ cls := "SliceWhy$Reasons", name := "forgetHanging", desc := "()V" } : Jvm.MethodName)) ∈ Gw := Gw_in 312 (by decide +kernel) rfl
theorem wd_313 : (Jvm.Cond.code ({ cls := "SliceWhy$Reasons", name := "forgetHanging", desc := "()V" } : Jvm.MethodName) prog_4_method_17_code (3 : Nat) (Option.none : Option Jvm.ClassFile.FieldType)) ∈ Gw := Gw_in 313 (by decide +kernel) rfl
theorem wd_314 : (Jvm.Cond.methodLink "SliceWhy$Reasons" (79 : Nat) ({ cls := "SliceWhy$Reasons", name := "findFollowers", desc := "()V" } : Jvm.MethodName)) ∈ Gw := Gw_in 314 (by decide +kernel) rfl
theorem wd_316 : (Jvm.Cond.instanceMethod ({ cls := "SliceWhy$Reasons", name := "findFollowers", desc := "()V" } : Jvm.MethodName)) ∈ Gw := Gw_in 316 (by decide +kernel) rfl
theorem wd_317 : (Jvm.Cond.code ({ cls := "SliceWhy$Reasons", name := "findFollowers", desc := "()V" } : Jvm.MethodName) prog_4_method_18_code (4 : Nat) (Option.none : Option Jvm.ClassFile.FieldType)) ∈ Gw := Gw_in 317 (by decide +kernel) rfl
theorem wd_318 : (Jvm.Cond.methodLink "SliceWhy$Reasons" (105 : Nat) ({ cls := "SliceWhy$Reasons", name := "endReachedWithout", desc := "(I)I" } : Jvm.MethodName)) ∈ Gw := Gw_in 318 (by decide +kernel) rfl
theorem wd_320 : (Jvm.Cond.instanceMethod ({ cls := "SliceWhy$Reasons", name := "endReachedWithout", desc := "(I)I" } : Jvm.MethodName)) ∈ Gw := Gw_in 320 (by decide +kernel) rfl
theorem wd_321 : (Jvm.Cond.code ({ cls := "SliceWhy$Reasons", name := "endReachedWithout", desc := "(I)I" } : Jvm.MethodName) prog_4_method_19_code (6 : Nat) (Option.some Jvm.ClassFile.FieldType.int)) ∈ Gw := Gw_in 321 (by decide +kernel) rfl
theorem wd_322 : (Jvm.Cond.constant "SliceWhy$Reasons" (108 : Nat) (16777216 : Int32)) ∈ Gw := Gw_in 322 (by decide +kernel) rfl
theorem nst_323 : lw_tbl[323]? = some (Jvm.Cond.methodLinkNest "SliceWhy$Reasons" (55 : Nat) ({ cls := "SliceWhy", name := "holds", desc := "(II)Z" } : Jvm.MethodName) "SliceWhy") := by decide +kernel
theorem wd_324 : (Jvm.Cond.static ({ cls := "SliceWhy", name := "holds", desc := "(II)Z" } : Jvm.MethodName)) ∈ Gw := Gw_in 324 (by decide +kernel) rfl
theorem wd_325 : (Jvm.Cond.code ({ cls := "SliceWhy", name := "holds", desc := "(II)Z" } : Jvm.MethodName) prog_1_method_28_code (2 : Nat) (Option.some Jvm.ClassFile.FieldType.boolean)) ∈ Gw := Gw_in 325 (by decide +kernel) rfl
theorem wd_326 : (Jvm.Cond.methodLink "SliceWhy$Reasons" (82 : Nat) ({ cls := "SliceWhy$Reasons", name := "findHangingByData", desc := "(LSliceWhy$Program;I)V" } : Jvm.MethodName)) ∈ Gw := Gw_in 326 (by decide +kernel) rfl
theorem wd_328 : (Jvm.Cond.instanceMethod ({ cls := "SliceWhy$Reasons", name := "findHangingByData", desc := "(LSliceWhy$Program;I)V" } : Jvm.MethodName)) ∈ Gw := Gw_in 328 (by decide +kernel) rfl
theorem wd_329 : (Jvm.Cond.code ({ cls := "SliceWhy$Reasons", name := "findHangingByData", desc := "(LSliceWhy$Program;I)V" } : Jvm.MethodName) prog_4_method_20_code (7 : Nat) (Option.none : Option Jvm.ClassFile.FieldType)) ∈ Gw := Gw_in 329 (by decide +kernel) rfl
theorem wd_330 : (Jvm.Cond.methodLink "SliceWhy$Reasons" (109 : Nat) ({ cls := "SliceWhy$Program", name := "setBy", desc := "(I)I" } : Jvm.MethodName)) ∈ Gw := Gw_in 330 (by decide +kernel) rfl
theorem wd_331 : (Jvm.Cond.instanceMethod ({ cls := "SliceWhy$Program", name := "setBy", desc := "(I)I" } : Jvm.MethodName)) ∈ Gw := Gw_in 331 (by decide +kernel) rfl
theorem wd_332 : (Jvm.Cond.selects "SliceWhy$Program" ({ cls := "SliceWhy$Program", name := "setBy", desc := "(I)I" } : Jvm.MethodName) ({ cls := "SliceWhy$Program", name := "setBy", desc := "(I)I" } : Jvm.MethodName)) ∈ Gw := Gw_in 332 (by decide +kernel) rfl
theorem wd_333 : (Jvm.Cond.code ({ cls := "SliceWhy$Program", name := "setBy", desc := "(I)I" } : Jvm.MethodName) prog_3_method_13_code (2 : Nat) (Option.some Jvm.ClassFile.FieldType.int)) ∈ Gw := Gw_in 333 (by decide +kernel) rfl
theorem wd_334 : (Jvm.Cond.methodLink "SliceWhy$Program" (63 : Nat) ({ cls := "SliceWhy$Program", name := "registerBit", desc := "(I)I" } : Jvm.MethodName)) ∈ Gw := Gw_in 334 (by decide +kernel) rfl
theorem wd_335 : (Jvm.Cond.static ({ cls := "SliceWhy$Program", name := "registerBit", desc := "(I)I" } : Jvm.MethodName)) ∈ Gw := Gw_in 335 (by decide +kernel) rfl
theorem wd_336 : (Jvm.Cond.code ({ cls := "SliceWhy$Program", name := "registerBit", desc := "(I)I" } : Jvm.MethodName) prog_3_method_11_code (1 : Nat) (Option.some Jvm.ClassFile.FieldType.int)) ∈ Gw := Gw_in 336 (by decide +kernel) rfl
theorem wd_337 : (Jvm.Cond.methodLink "SliceWhy$Program" (66 : Nat) ({ cls := "SliceWhy$Program", name := "globalBit", desc := "(I)I" } : Jvm.MethodName)) ∈ Gw := Gw_in 337 (by decide +kernel) rfl
theorem wd_338 : (Jvm.Cond.static ({ cls := "SliceWhy$Program", name := "globalBit", desc := "(I)I" } : Jvm.MethodName)) ∈ Gw := Gw_in 338 (by decide +kernel) rfl
theorem wd_339 : (Jvm.Cond.code ({ cls := "SliceWhy$Program", name := "globalBit", desc := "(I)I" } : Jvm.MethodName) prog_3_method_12_code (1 : Nat) (Option.some Jvm.ClassFile.FieldType.int)) ∈ Gw := Gw_in 339 (by decide +kernel) rfl
theorem wd_340 : (Jvm.Cond.methodLink "SliceWhy$Reasons" (112 : Nat) ({ cls := "SliceWhy$Reasons", name := "settersOf", desc := "(LSliceWhy$Program;I)I" } : Jvm.MethodName)) ∈ Gw := Gw_in 340 (by decide +kernel) rfl
theorem wd_342 : (Jvm.Cond.instanceMethod ({ cls := "SliceWhy$Reasons", name := "settersOf", desc := "(LSliceWhy$Program;I)I" } : Jvm.MethodName)) ∈ Gw := Gw_in 342 (by decide +kernel) rfl
theorem wd_343 : (Jvm.Cond.code ({ cls := "SliceWhy$Reasons", name := "settersOf", desc := "(LSliceWhy$Program;I)I" } : Jvm.MethodName) prog_4_method_21_code (5 : Nat) (Option.some Jvm.ClassFile.FieldType.int)) ∈ Gw := Gw_in 343 (by decide +kernel) rfl
theorem wd_344 : (Jvm.Cond.methodLink "SliceWhy$Reasons" (116 : Nat) ({ cls := "SliceWhy$Reasons", name := "reachedFrom", desc := "(II)I" } : Jvm.MethodName)) ∈ Gw := Gw_in 344 (by decide +kernel) rfl
theorem wd_346 : (Jvm.Cond.instanceMethod ({ cls := "SliceWhy$Reasons", name := "reachedFrom", desc := "(II)I" } : Jvm.MethodName)) ∈ Gw := Gw_in 346 (by decide +kernel) rfl
theorem wd_347 : (Jvm.Cond.code ({ cls := "SliceWhy$Reasons", name := "reachedFrom", desc := "(II)I" } : Jvm.MethodName) prog_4_method_24_code (7 : Nat) (Option.some Jvm.ClassFile.FieldType.int)) ∈ Gw := Gw_in 347 (by decide +kernel) rfl
theorem wd_348 : (Jvm.Cond.methodLink "SliceWhy$Reasons" (119 : Nat) ({ cls := "SliceWhy$Program", name := "readBy", desc := "(I)I" } : Jvm.MethodName)) ∈ Gw := Gw_in 348 (by decide +kernel) rfl
theorem wd_349 : (Jvm.Cond.instanceMethod ({ cls := "SliceWhy$Program", name := "readBy", desc := "(I)I" } : Jvm.MethodName)) ∈ Gw := Gw_in 349 (by decide +kernel) rfl
theorem wd_350 : (Jvm.Cond.selects "SliceWhy$Program" ({ cls := "SliceWhy$Program", name := "readBy", desc := "(I)I" } : Jvm.MethodName) ({ cls := "SliceWhy$Program", name := "readBy", desc := "(I)I" } : Jvm.MethodName)) ∈ Gw := Gw_in 350 (by decide +kernel) rfl
theorem wd_351 : (Jvm.Cond.code ({ cls := "SliceWhy$Program", name := "readBy", desc := "(I)I" } : Jvm.MethodName) prog_3_method_14_code (2 : Nat) (Option.some Jvm.ClassFile.FieldType.int)) ∈ Gw := Gw_in 351 (by decide +kernel) rfl
theorem wd_352 : (Jvm.Cond.methodLink "SliceWhy$Program" (69 : Nat) ({ cls := "SliceWhy$Program", name := "thinlyReadBy", desc := "(I)I" } : Jvm.MethodName)) ∈ Gw := Gw_in 352 (by decide +kernel) rfl
theorem wd_353 : (Jvm.Cond.instanceMethod ({ cls := "SliceWhy$Program", name := "thinlyReadBy", desc := "(I)I" } : Jvm.MethodName)) ∈ Gw := Gw_in 353 (by decide +kernel) rfl
theorem wd_354 : (Jvm.Cond.selects "SliceWhy$Program" ({ cls := "SliceWhy$Program", name := "thinlyReadBy", desc := "(I)I" } : Jvm.MethodName) ({ cls := "SliceWhy$Program", name := "thinlyReadBy", desc := "(I)I" } : Jvm.MethodName)) ∈ Gw := Gw_in 354 (by decide +kernel) rfl
theorem wd_355 : (Jvm.Cond.code ({ cls := "SliceWhy$Program", name := "thinlyReadBy", desc := "(I)I" } : Jvm.MethodName) prog_3_method_15_code (2 : Nat) (Option.some Jvm.ClassFile.FieldType.int)) ∈ Gw := Gw_in 355 (by decide +kernel) rfl
theorem wd_356 : (Jvm.Cond.methodLink "SliceWhy$Reasons" (122 : Nat) ({ cls := "SliceWhy$Program", name := "thinlyReadBy", desc := "(I)I" } : Jvm.MethodName)) ∈ Gw := Gw_in 356 (by decide +kernel) rfl
theorem wd_357 : (Jvm.Cond.methodLink "SliceWhy$Reasons" (86 : Nat) ({ cls := "SliceWhy$Reasons", name := "findHangingByNames", desc := "(LSliceWhy$Program;I)V" } : Jvm.MethodName)) ∈ Gw := Gw_in 357 (by decide +kernel) rfl
theorem wd_359 : (Jvm.Cond.instanceMethod ({ cls := "SliceWhy$Reasons", name := "findHangingByNames", desc := "(LSliceWhy$Program;I)V" } : Jvm.MethodName)) ∈ Gw := Gw_in 359 (by decide +kernel) rfl
theorem wd_360 : (Jvm.Cond.code ({ cls := "SliceWhy$Reasons", name := "findHangingByNames", desc := "(LSliceWhy$Program;I)V" } : Jvm.MethodName) prog_4_method_22_code (5 : Nat) (Option.none : Option Jvm.ClassFile.FieldType)) ∈ Gw := Gw_in 360 (by decide +kernel) rfl
theorem wd_361 : (Jvm.Cond.methodLink "SliceWhy$Reasons" (128 : Nat) ({ cls := "SliceWhy$Program", name := "mayShareRow", desc := "(II)Z" } : Jvm.MethodName)) ∈ Gw := Gw_in 361 (by decide +kernel) rfl
theorem wd_362 : (Jvm.Cond.instanceMethod ({ cls := "SliceWhy$Program", name := "mayShareRow", desc := "(II)Z" } : Jvm.MethodName)) ∈ Gw := Gw_in 362 (by decide +kernel) rfl
theorem wd_363 : (Jvm.Cond.selects "SliceWhy$Program" ({ cls := "SliceWhy$Program", name := "mayShareRow", desc := "(II)Z" } : Jvm.MethodName) ({ cls := "SliceWhy$Program", name := "mayShareRow", desc := "(II)Z" } : Jvm.MethodName)) ∈ Gw := Gw_in 363 (by decide +kernel) rfl
theorem wd_364 : (Jvm.Cond.code ({ cls := "SliceWhy$Program", name := "mayShareRow", desc := "(II)Z" } : Jvm.MethodName) prog_3_method_16_code (3 : Nat) (Option.some Jvm.ClassFile.FieldType.boolean)) ∈ Gw := Gw_in 364 (by decide +kernel) rfl
theorem wd_365 : (Jvm.Cond.methodLink "SliceWhy$Reasons" (89 : Nat) ({ cls := "SliceWhy$Reasons", name := "findHangingByControl", desc := "(I)V" } : Jvm.MethodName)) ∈ Gw := Gw_in 365 (by decide +kernel) rfl
theorem wd_367 : (Jvm.Cond.instanceMethod ({ cls := "SliceWhy$Reasons", name := "findHangingByControl", desc := "(I)V" } : Jvm.MethodName)) ∈ Gw := Gw_in 367 (by decide +kernel) rfl
theorem wd_368 : (Jvm.Cond.code ({ cls := "SliceWhy$Reasons", name := "findHangingByControl", desc := "(I)V" } : Jvm.MethodName) prog_4_method_23_code (4 : Nat) (Option.none : Option Jvm.ClassFile.FieldType)) ∈ Gw := Gw_in 368 (by decide +kernel) rfl
theorem wd_369 : (Jvm.Cond.methodLink "SliceWhy$Reasons" (93 : Nat) ({ cls := "SliceWhy$Reasons", name := "closeHanging", desc := "()V" } : Jvm.MethodName)) ∈ Gw := Gw_in 369 (by decide +kernel) rfl
theorem wd_371 : (Jvm.Cond.instanceMethod ({ cls := "SliceWhy$Reasons", name := "closeHanging", desc := "()V" } : Jvm.MethodName)) ∈ Gw := Gw_in 371 (by decide +kernel) rfl
theorem wd_372 : (Jvm.Cond.code ({ cls := "SliceWhy$Reasons", name := "closeHanging", desc := "()V" } : Jvm.MethodName) prog_4_method_15_code (2 : Nat) (Option.none : Option Jvm.ClassFile.FieldType)) ∈ Gw := Gw_in 372 (by decide +kernel) rfl
theorem wd_373 : (Jvm.Cond.methodLink "SliceWhy$Reasons" (96 : Nat) ({ cls := "SliceWhy$Reasons", name := "withAllBehind", desc := "(I[I)I" } : Jvm.MethodName)) ∈ Gw := Gw_in 373 (by decide +kernel) rfl
theorem wd_375 : (Jvm.Cond.instanceMethod ({ cls := "SliceWhy$Reasons", name := "withAllBehind", desc := "(I[I)I" } : Jvm.MethodName)) ∈ Gw := Gw_in 375 (by decide +kernel) rfl
theorem wd_376 : (Jvm.Cond.code ({ cls := "SliceWhy$Reasons", name := "withAllBehind", desc := "(I[I)I" } : Jvm.MethodName) prog_4_method_25_code (7 : Nat) (Option.some Jvm.ClassFile.FieldType.int)) ∈ Gw := Gw_in 376 (by decide +kernel) rfl
theorem wd_377 : (Jvm.Cond.methodLink "SliceWhy" (93 : Nat) ({ cls := "SliceWhy$Reasons", name := "backOf", desc := "(I)I" } : Jvm.MethodName)) ∈ Gw := Gw_in 377 (by decide +kernel) rfl
theorem wd_378 : (Jvm.Cond.instanceMethod ({ cls := "SliceWhy$Reasons", name := "backOf", desc := "(I)I" } : Jvm.MethodName)) ∈ Gw := Gw_in 378 (by decide +kernel) rfl
theorem wd_379 : (Jvm.Cond.selects "SliceWhy$Reasons" ({ cls := "SliceWhy$Reasons", name := "backOf", desc := "(I)I" } : Jvm.MethodName) ({ cls := "SliceWhy$Reasons", name := "backOf", desc := "(I)I" } : Jvm.MethodName)) ∈ Gw := Gw_in 379 (by decide +kernel) rfl
theorem wd_380 : (Jvm.Cond.code ({ cls := "SliceWhy$Reasons", name := "backOf", desc := "(I)I" } : Jvm.MethodName) prog_4_method_2_code (2 : Nat) (Option.some Jvm.ClassFile.FieldType.int)) ∈ Gw := Gw_in 380 (by decide +kernel) rfl
theorem wd_381 : (Jvm.Cond.methodLink "SliceWhy" (97 : Nat) ({ cls := "SliceWhy$Machine", name := "perform", desc := "(LSliceWhy$Program;[III)I" } : Jvm.MethodName)) ∈ Gw := Gw_in 381 (by decide +kernel) rfl
theorem wd_382 : (Jvm.Cond.instanceMethod ({ cls := "SliceWhy$Machine", name := "perform", desc := "(LSliceWhy$Program;[III)I" } : Jvm.MethodName)) ∈ Gw := Gw_in 382 (by decide +kernel) rfl
theorem wd_383 : (Jvm.Cond.selects "SliceWhy$Machine" ({ cls := "SliceWhy$Machine", name := "perform", desc := "(LSliceWhy$Program;[III)I" } : Jvm.MethodName) ({ cls := "SliceWhy$Machine", name := "perform", desc := "(LSliceWhy$Program;[III)I" } : Jvm.MethodName)) ∈ Gw := Gw_in 383 (by decide +kernel) rfl
theorem wd_384 : (Jvm.Cond.code ({ cls := "SliceWhy$Machine", name := "perform", desc := "(LSliceWhy$Program;[III)I" } : Jvm.MethodName) prog_2_method_2_code (7 : Nat) (Option.some Jvm.ClassFile.FieldType.int)) ∈ Gw := Gw_in 384 (by decide +kernel) rfl
theorem wd_385 : (Jvm.Cond.methodLink "SliceWhy$Machine" (31 : Nat) ({ cls := "SliceWhy$Machine", name := "begin", desc := "(LSliceWhy$Program;[I)V" } : Jvm.MethodName)) ∈ Gw := Gw_in 385 (by decide +kernel) rfl
theorem wd_387 : (Jvm.Cond.instanceMethod ({ cls := "SliceWhy$Machine", name := "begin", desc := "(LSliceWhy$Program;[I)V" } : Jvm.MethodName)) ∈ Gw := Gw_in 387 (by decide +kernel) rfl
theorem wd_388 : (Jvm.Cond.code ({ cls := "SliceWhy$Machine", name := "begin", desc := "(LSliceWhy$Program;[I)V" } : Jvm.MethodName) prog_2_method_3_code (4 : Nat) (Option.none : Option Jvm.ClassFile.FieldType)) ∈ Gw := Gw_in 388 (by decide +kernel) rfl
theorem wd_389 : (Jvm.Cond.constant "SliceWhy$Machine" (63 : Nat) (2147483647 : Int32)) ∈ Gw := Gw_in 389 (by decide +kernel) rfl
theorem wd_390 : (Jvm.Cond.methodLink "SliceWhy$Machine" (64 : Nat) ({ cls := "SliceWhy$Machine", name := "chosenRow", desc := "(II)I" } : Jvm.MethodName)) ∈ Gw := Gw_in 390 (by decide +kernel) rfl
theorem wd_391 : (Jvm.Cond.static ({ cls := "SliceWhy$Machine", name := "chosenRow", desc := "(II)I" } : Jvm.MethodName)) ∈ Gw := Gw_in 391 (by decide +kernel) rfl
theorem wd_392 : (Jvm.Cond.code ({ cls := "SliceWhy$Machine", name := "chosenRow", desc := "(II)I" } : Jvm.MethodName) prog_2_method_4_code (5 : Nat) (Option.some Jvm.ClassFile.FieldType.int)) ∈ Gw := Gw_in 392 (by decide +kernel) rfl
theorem wd_393 : (Jvm.Cond.methodLink "SliceWhy$Machine" (68 : Nat) ({ cls := "java/lang/Integer", name := "bitCount", desc := "(I)I" } : Jvm.MethodName)) ∈ Gw := Gw_in 393 (by decide +kernel) rfl
theorem wd_394 : (Jvm.Cond.static ({ cls := "java/lang/Integer", name := "bitCount", desc := "(I)I" } : Jvm.MethodName)) ∈ Gw := Gw_in 394 (by decide +kernel) rfl
theorem wd_395 : (Jvm.Cond.code ({ cls := "java/lang/Integer", name := "bitCount", desc := "(I)I" } : Jvm.MethodName) prog_7_method_49_code (1 : Nat) (Option.some Jvm.ClassFile.FieldType.int)) ∈ Gw := Gw_in 395 (by decide +kernel) rfl
theorem wd_396 : (Jvm.Cond.constant "java/lang/Integer" (265 : Nat) (1431655765 : Int32)) ∈ Gw := Gw_in 396 (by decide +kernel) rfl
theorem wd_397 : (Jvm.Cond.constant "java/lang/Integer" (266 : Nat) (858993459 : Int32)) ∈ Gw := Gw_in 397 (by decide +kernel) rfl
theorem wd_398 : (Jvm.Cond.constant "java/lang/Integer" (267 : Nat) (252645135 : Int32)) ∈ Gw := Gw_in 398 (by decide +kernel) rfl
theorem nst_399 : lw_tbl[399]? = some (Jvm.Cond.methodLinkNest "SliceWhy$Machine" (74 : Nat) ({ cls := "SliceWhy", name := "holds", desc := "(II)Z" } : Jvm.MethodName) "SliceWhy") := by decide +kernel
theorem wd_400 : (Jvm.Cond.methodLink "SliceWhy$Machine" (40 : Nat) ({ cls := "SliceWhy$Machine", name := "firstFrom", desc := "(III)I" } : Jvm.MethodName)) ∈ Gw := Gw_in 400 (by decide +kernel) rfl
theorem wd_401 : (Jvm.Cond.static ({ cls := "SliceWhy$Machine", name := "firstFrom", desc := "(III)I" } : Jvm.MethodName)) ∈ Gw := Gw_in 401 (by decide +kernel) rfl
theorem wd_402 : (Jvm.Cond.code ({ cls := "SliceWhy$Machine", name := "firstFrom", desc := "(III)I" } : Jvm.MethodName) prog_2_method_5_code (4 : Nat) (Option.some Jvm.ClassFile.FieldType.int)) ∈ Gw := Gw_in 402 (by decide +kernel) rfl
theorem wd_403 : (Jvm.Cond.methodLink "SliceWhy$Machine" (47 : Nat) ({ cls := "SliceWhy$Machine", name := "step", desc := "(LSliceWhy$Program;[II)I" } : Jvm.MethodName)) ∈ Gw := Gw_in 403 (by decide +kernel) rfl
theorem wd_405 : (Jvm.Cond.instanceMethod ({ cls := "SliceWhy$Machine", name := "step", desc := "(LSliceWhy$Program;[II)I" } : Jvm.MethodName)) ∈ Gw := Gw_in 405 (by decide +kernel) rfl
theorem wd_406 : (Jvm.Cond.code ({ cls := "SliceWhy$Machine", name := "step", desc := "(LSliceWhy$Program;[II)I" } : Jvm.MethodName) prog_2_method_6_code (6 : Nat) (Option.some Jvm.ClassFile.FieldType.int)) ∈ Gw := Gw_in 406 (by decide +kernel) rfl
theorem wd_407 : (Jvm.Cond.methodLink "SliceWhy$Machine" (84 : Nat) ({ cls := "SliceWhy$Machine", name := "failsAt", desc := "(LSliceWhy$Program;I)Z" } : Jvm.MethodName)) ∈ Gw := Gw_in 407 (by decide +kernel) rfl
theorem wd_409 : (Jvm.Cond.instanceMethod ({ cls := "SliceWhy$Machine", name := "failsAt", desc := "(LSliceWhy$Program;I)Z" } : Jvm.MethodName)) ∈ Gw := Gw_in 409 (by decide +kernel) rfl
theorem wd_410 : (Jvm.Cond.code ({ cls := "SliceWhy$Machine", name := "failsAt", desc := "(LSliceWhy$Program;I)Z" } : Jvm.MethodName) prog_2_method_7_code (3 : Nat) (Option.some Jvm.ClassFile.FieldType.boolean)) ∈ Gw := Gw_in 410 (by decide +kernel) rfl
theorem wd_411 : (Jvm.Cond.methodLink "SliceWhy$Machine" (102 : Nat) ({ cls := "SliceWhy$Program", name := "isOfFailingGlobal", desc := "(I)Z" } : Jvm.MethodName)) ∈ Gw := Gw_in 411 (by decide +kernel) rfl
theorem wd_412 : (Jvm.Cond.constant "SliceWhy$Machine" (88 : Nat) (1000000007 : Int32)) ∈ Gw := Gw_in 412 (by decide +kernel) rfl
theorem wd_413 : (Jvm.Cond.methodLink "SliceWhy$Machine" (95 : Nat) ({ cls := "SliceWhy$Machine", name := "itemOf", desc := "(II)I" } : Jvm.MethodName)) ∈ Gw := Gw_in 413 (by decide +kernel) rfl
theorem wd_415 : (Jvm.Cond.instanceMethod ({ cls := "SliceWhy$Machine", name := "itemOf", desc := "(II)I" } : Jvm.MethodName)) ∈ Gw := Gw_in 415 (by decide +kernel) rfl
theorem wd_416 : (Jvm.Cond.code ({ cls := "SliceWhy$Machine", name := "itemOf", desc := "(II)I" } : Jvm.MethodName) prog_2_method_8_code (3 : Nat) (Option.some Jvm.ClassFile.FieldType.int)) ∈ Gw := Gw_in 416 (by decide +kernel) rfl
theorem wd_417 : (Jvm.Cond.methodLink "SliceWhy$Machine" (98 : Nat) ({ cls := "SliceWhy$Machine", name := "valueOf", desc := "(III[I)I" } : Jvm.MethodName)) ∈ Gw := Gw_in 417 (by decide +kernel) rfl
theorem wd_419 : (Jvm.Cond.instanceMethod ({ cls := "SliceWhy$Machine", name := "valueOf", desc := "(III[I)I" } : Jvm.MethodName)) ∈ Gw := Gw_in 419 (by decide +kernel) rfl
theorem wd_420 : (Jvm.Cond.code ({ cls := "SliceWhy$Machine", name := "valueOf", desc := "(III[I)I" } : Jvm.MethodName) prog_2_method_9_code (6 : Nat) (Option.some Jvm.ClassFile.FieldType.int)) ∈ Gw := Gw_in 420 (by decide +kernel) rfl
theorem wd_421 : (Jvm.Cond.methodLink "SliceWhyLaw" (46 : Nat) ({ cls := "SliceWhy", name := "seen", desc := "()I" } : Jvm.MethodName)) ∈ Gw := Gw_in 421 (by decide +kernel) rfl
theorem wd_422 : (Jvm.Cond.instanceMethod ({ cls := "SliceWhy", name := "seen", desc := "()I" } : Jvm.MethodName)) ∈ Gw := Gw_in 422 (by decide +kernel) rfl
theorem wd_423 : (Jvm.Cond.selects "SliceWhy" ({ cls := "SliceWhy", name := "seen", desc := "()I" } : Jvm.MethodName) ({ cls := "SliceWhy", name := "seen", desc := "()I" } : Jvm.MethodName)) ∈ Gw := Gw_in 423 (by decide +kernel) rfl
theorem wd_424 : (Jvm.Cond.code ({ cls := "SliceWhy", name := "seen", desc := "()I" } : Jvm.MethodName) prog_1_method_9_code (1 : Nat) (Option.some Jvm.ClassFile.FieldType.int)) ∈ Gw := Gw_in 424 (by decide +kernel) rfl
theorem wd_425 : (Jvm.Cond.methodLink "SliceWhyLaw" (50 : Nat) ({ cls := "SliceWhy", name := "saw", desc := "(I)I" } : Jvm.MethodName)) ∈ Gw := Gw_in 425 (by decide +kernel) rfl
theorem wd_426 : (Jvm.Cond.instanceMethod ({ cls := "SliceWhy", name := "saw", desc := "(I)I" } : Jvm.MethodName)) ∈ Gw := Gw_in 426 (by decide +kernel) rfl
theorem wd_427 : (Jvm.Cond.selects "SliceWhy" ({ cls := "SliceWhy", name := "saw", desc := "(I)I" } : Jvm.MethodName) ({ cls := "SliceWhy", name := "saw", desc := "(I)I" } : Jvm.MethodName)) ∈ Gw := Gw_in 427 (by decide +kernel) rfl
theorem wd_428 : (Jvm.Cond.code ({ cls := "SliceWhy", name := "saw", desc := "(I)I" } : Jvm.MethodName) prog_1_method_10_code (2 : Nat) (Option.some Jvm.ClassFile.FieldType.int)) ∈ Gw := Gw_in 428 (by decide +kernel) rfl
theorem wd_429 : (Jvm.Cond.methodLink "SliceWhyLaw" (55 : Nat) ({ cls := "SliceWhy", name := "left", desc := "(I)I" } : Jvm.MethodName)) ∈ Gw := Gw_in 429 (by decide +kernel) rfl
theorem wd_430 : (Jvm.Cond.instanceMethod ({ cls := "SliceWhy", name := "left", desc := "(I)I" } : Jvm.MethodName)) ∈ Gw := Gw_in 430 (by decide +kernel) rfl
theorem wd_431 : (Jvm.Cond.selects "SliceWhy" ({ cls := "SliceWhy", name := "left", desc := "(I)I" } : Jvm.MethodName) ({ cls := "SliceWhy", name := "left", desc := "(I)I" } : Jvm.MethodName)) ∈ Gw := Gw_in 431 (by decide +kernel) rfl
theorem wd_432 : (Jvm.Cond.code ({ cls := "SliceWhy", name := "left", desc := "(I)I" } : Jvm.MethodName) prog_1_method_11_code (2 : Nat) (Option.some Jvm.ClassFile.FieldType.int)) ∈ Gw := Gw_in 432 (by decide +kernel) rfl
theorem wd_433 : (Jvm.Cond.methodLink "SliceWhyLaw" (59 : Nat) ({ cls := "SliceWhy", name := "slice", desc := "(II)I" } : Jvm.MethodName)) ∈ Gw := Gw_in 433 (by decide +kernel) rfl
theorem wd_434 : (Jvm.Cond.instanceMethod ({ cls := "SliceWhy", name := "slice", desc := "(II)I" } : Jvm.MethodName)) ∈ Gw := Gw_in 434 (by decide +kernel) rfl
theorem wd_435 : (Jvm.Cond.selects "SliceWhy" ({ cls := "SliceWhy", name := "slice", desc := "(II)I" } : Jvm.MethodName) ({ cls := "SliceWhy", name := "slice", desc := "(II)I" } : Jvm.MethodName)) ∈ Gw := Gw_in 435 (by decide +kernel) rfl
theorem wd_436 : (Jvm.Cond.code ({ cls := "SliceWhy", name := "slice", desc := "(II)I" } : Jvm.MethodName) prog_1_method_12_code (3 : Nat) (Option.some Jvm.ClassFile.FieldType.int)) ∈ Gw := Gw_in 436 (by decide +kernel) rfl
theorem wd_437 : (Jvm.Cond.methodLink "SliceWhy" (116 : Nat) ({ cls := "SliceWhy$Reasons", name := "thinOf", desc := "(I)I" } : Jvm.MethodName)) ∈ Gw := Gw_in 437 (by decide +kernel) rfl
theorem wd_438 : (Jvm.Cond.instanceMethod ({ cls := "SliceWhy$Reasons", name := "thinOf", desc := "(I)I" } : Jvm.MethodName)) ∈ Gw := Gw_in 438 (by decide +kernel) rfl
theorem wd_439 : (Jvm.Cond.selects "SliceWhy$Reasons" ({ cls := "SliceWhy$Reasons", name := "thinOf", desc := "(I)I" } : Jvm.MethodName) ({ cls := "SliceWhy$Reasons", name := "thinOf", desc := "(I)I" } : Jvm.MethodName)) ∈ Gw := Gw_in 439 (by decide +kernel) rfl
theorem wd_440 : (Jvm.Cond.code ({ cls := "SliceWhy$Reasons", name := "thinOf", desc := "(I)I" } : Jvm.MethodName) prog_4_method_3_code (2 : Nat) (Option.some Jvm.ClassFile.FieldType.int)) ∈ Gw := Gw_in 440 (by decide +kernel) rfl
theorem wd_441 : (Jvm.Cond.methodLink "SliceWhy" (119 : Nat) ({ cls := "SliceWhy$Reasons", name := "forwardOf", desc := "(I)I" } : Jvm.MethodName)) ∈ Gw := Gw_in 441 (by decide +kernel) rfl
theorem wd_442 : (Jvm.Cond.instanceMethod ({ cls := "SliceWhy$Reasons", name := "forwardOf", desc := "(I)I" } : Jvm.MethodName)) ∈ Gw := Gw_in 442 (by decide +kernel) rfl
theorem wd_443 : (Jvm.Cond.selects "SliceWhy$Reasons" ({ cls := "SliceWhy$Reasons", name := "forwardOf", desc := "(I)I" } : Jvm.MethodName) ({ cls := "SliceWhy$Reasons", name := "forwardOf", desc := "(I)I" } : Jvm.MethodName)) ∈ Gw := Gw_in 443 (by decide +kernel) rfl
theorem wd_444 : (Jvm.Cond.code ({ cls := "SliceWhy$Reasons", name := "forwardOf", desc := "(I)I" } : Jvm.MethodName) prog_4_method_4_code (2 : Nat) (Option.some Jvm.ClassFile.FieldType.int)) ∈ Gw := Gw_in 444 (by decide +kernel) rfl
theorem wd_445 : (Jvm.Cond.methodLink "SliceWhy$Reasons" (41 : Nat) ({ cls := "SliceWhy$Reasons", name := "whoseSetHolds", desc := "(I[I)I" } : Jvm.MethodName)) ∈ Gw := Gw_in 445 (by decide +kernel) rfl
theorem wd_447 : (Jvm.Cond.instanceMethod ({ cls := "SliceWhy$Reasons", name := "whoseSetHolds", desc := "(I[I)I" } : Jvm.MethodName)) ∈ Gw := Gw_in 447 (by decide +kernel) rfl
theorem wd_448 : (Jvm.Cond.code ({ cls := "SliceWhy$Reasons", name := "whoseSetHolds", desc := "(I[I)I" } : Jvm.MethodName) prog_4_method_13_code (5 : Nat) (Option.some Jvm.ClassFile.FieldType.int)) ∈ Gw := Gw_in 448 (by decide +kernel) rfl
theorem wd_449 : (Jvm.Cond.methodLink "SliceWhy" (122 : Nat) ({ cls := "SliceWhy$Reasons", name := "thinlyOf", desc := "(I)I" } : Jvm.MethodName)) ∈ Gw := Gw_in 449 (by decide +kernel) rfl
theorem wd_450 : (Jvm.Cond.instanceMethod ({ cls := "SliceWhy$Reasons", name := "thinlyOf", desc := "(I)I" } : Jvm.MethodName)) ∈ Gw := Gw_in 450 (by decide +kernel) rfl
theorem wd_451 : (Jvm.Cond.selects "SliceWhy$Reasons" ({ cls := "SliceWhy$Reasons", name := "thinlyOf", desc := "(I)I" } : Jvm.MethodName) ({ cls := "SliceWhy$Reasons", name := "thinlyOf", desc := "(I)I" } : Jvm.MethodName)) ∈ Gw := Gw_in 451 (by decide +kernel) rfl
theorem wd_452 : (Jvm.Cond.code ({ cls := "SliceWhy$Reasons", name := "thinlyOf", desc := "(I)I" } : Jvm.MethodName) prog_4_method_5_code (2 : Nat) (Option.some Jvm.ClassFile.FieldType.int)) ∈ Gw := Gw_in 452 (by decide +kernel) rfl
theorem wd_453 : (Jvm.Cond.methodLink "SliceWhyLaw" (63 : Nat) ({ cls := "SliceWhy", name := "follows", desc := "(I)I" } : Jvm.MethodName)) ∈ Gw := Gw_in 453 (by decide +kernel) rfl
theorem wd_454 : (Jvm.Cond.instanceMethod ({ cls := "SliceWhy", name := "follows", desc := "(I)I" } : Jvm.MethodName)) ∈ Gw := Gw_in 454 (by decide +kernel) rfl
theorem wd_455 : (Jvm.Cond.selects "SliceWhy" ({ cls := "SliceWhy", name := "follows", desc := "(I)I" } : Jvm.MethodName) ({ cls := "SliceWhy", name := "follows", desc := "(I)I" } : Jvm.MethodName)) ∈ Gw := Gw_in 455 (by decide +kernel) rfl
theorem wd_456 : (Jvm.Cond.code ({ cls := "SliceWhy", name := "follows", desc := "(I)I" } : Jvm.MethodName) prog_1_method_13_code (2 : Nat) (Option.some Jvm.ClassFile.FieldType.int)) ∈ Gw := Gw_in 456 (by decide +kernel) rfl
theorem wd_457 : (Jvm.Cond.methodLink "SliceWhy" (125 : Nat) ({ cls := "SliceWhy$Reasons", name := "followersOf", desc := "(I)I" } : Jvm.MethodName)) ∈ Gw := Gw_in 457 (by decide +kernel) rfl
theorem wd_458 : (Jvm.Cond.instanceMethod ({ cls := "SliceWhy$Reasons", name := "followersOf", desc := "(I)I" } : Jvm.MethodName)) ∈ Gw := Gw_in 458 (by decide +kernel) rfl
theorem wd_459 : (Jvm.Cond.selects "SliceWhy$Reasons" ({ cls := "SliceWhy$Reasons", name := "followersOf", desc := "(I)I" } : Jvm.MethodName) ({ cls := "SliceWhy$Reasons", name := "followersOf", desc := "(I)I" } : Jvm.MethodName)) ∈ Gw := Gw_in 459 (by decide +kernel) rfl
theorem wd_460 : (Jvm.Cond.code ({ cls := "SliceWhy$Reasons", name := "followersOf", desc := "(I)I" } : Jvm.MethodName) prog_4_method_6_code (2 : Nat) (Option.some Jvm.ClassFile.FieldType.int)) ∈ Gw := Gw_in 460 (by decide +kernel) rfl
theorem wd_461 : (Jvm.Cond.methodLink "SliceWhyLaw" (67 : Nat) ({ cls := "SliceWhy", name := "causes", desc := "(I)I" } : Jvm.MethodName)) ∈ Gw := Gw_in 461 (by decide +kernel) rfl
theorem wd_462 : (Jvm.Cond.instanceMethod ({ cls := "SliceWhy", name := "causes", desc := "(I)I" } : Jvm.MethodName)) ∈ Gw := Gw_in 462 (by decide +kernel) rfl
theorem wd_463 : (Jvm.Cond.selects "SliceWhy" ({ cls := "SliceWhy", name := "causes", desc := "(I)I" } : Jvm.MethodName) ({ cls := "SliceWhy", name := "causes", desc := "(I)I" } : Jvm.MethodName)) ∈ Gw := Gw_in 463 (by decide +kernel) rfl
theorem wd_464 : (Jvm.Cond.code ({ cls := "SliceWhy", name := "causes", desc := "(I)I" } : Jvm.MethodName) prog_1_method_14_code (2 : Nat) (Option.some Jvm.ClassFile.FieldType.int)) ∈ Gw := Gw_in 464 (by decide +kernel) rfl
theorem wd_465 : (Jvm.Cond.methodLink "SliceWhy" (128 : Nat) ({ cls := "SliceWhy$Reasons", name := "howManyCauses", desc := "(I)I" } : Jvm.MethodName)) ∈ Gw := Gw_in 465 (by decide +kernel) rfl
theorem wd_466 : (Jvm.Cond.instanceMethod ({ cls := "SliceWhy$Reasons", name := "howManyCauses", desc := "(I)I" } : Jvm.MethodName)) ∈ Gw := Gw_in 466 (by decide +kernel) rfl
theorem wd_467 : (Jvm.Cond.selects "SliceWhy$Reasons" ({ cls := "SliceWhy$Reasons", name := "howManyCauses", desc := "(I)I" } : Jvm.MethodName) ({ cls := "SliceWhy$Reasons", name := "howManyCauses", desc := "(I)I" } : Jvm.MethodName)) ∈ Gw := Gw_in 467 (by decide +kernel) rfl
theorem wd_468 : (Jvm.Cond.code ({ cls := "SliceWhy$Reasons", name := "howManyCauses", desc := "(I)I" } : Jvm.MethodName) prog_4_method_7_code (4 : Nat) (Option.some Jvm.ClassFile.FieldType.int)) ∈ Gw := Gw_in 468 (by decide +kernel) rfl
theorem wd_469 : (Jvm.Cond.methodLink "SliceWhy$Reasons" (45 : Nat) ({ cls := "java/lang/Integer", name := "bitCount", desc := "(I)I" } : Jvm.MethodName)) ∈ Gw := Gw_in 469 (by decide +kernel) rfl
theorem wd_470 : (Jvm.Cond.methodLink "SliceWhyLaw" (71 : Nat) ({ cls := "SliceWhy", name := "cause", desc := "(III)I" } : Jvm.MethodName)) ∈ Gw := Gw_in 470 (by decide +kernel) rfl
theorem wd_471 : (Jvm.Cond.instanceMethod ({ cls := "SliceWhy", name := "cause", desc := "(III)I" } : Jvm.MethodName)) ∈ Gw := Gw_in 471 (by decide +kernel) rfl
theorem wd_472 : (Jvm.Cond.selects "SliceWhy" ({ cls := "SliceWhy", name := "cause", desc := "(III)I" } : Jvm.MethodName) ({ cls := "SliceWhy", name := "cause", desc := "(III)I" } : Jvm.MethodName)) ∈ Gw := Gw_in 472 (by decide +kernel) rfl
theorem wd_473 : (Jvm.Cond.code ({ cls := "SliceWhy", name := "cause", desc := "(III)I" } : Jvm.MethodName) prog_1_method_15_code (4 : Nat) (Option.some Jvm.ClassFile.FieldType.int)) ∈ Gw := Gw_in 473 (by decide +kernel) rfl
theorem wd_474 : (Jvm.Cond.methodLink "SliceWhy" (131 : Nat) ({ cls := "SliceWhy$Reasons", name := "kthCause", desc := "(IIZ)I" } : Jvm.MethodName)) ∈ Gw := Gw_in 474 (by decide +kernel) rfl
theorem wd_475 : (Jvm.Cond.instanceMethod ({ cls := "SliceWhy$Reasons", name := "kthCause", desc := "(IIZ)I" } : Jvm.MethodName)) ∈ Gw := Gw_in 475 (by decide +kernel) rfl
theorem wd_476 : (Jvm.Cond.selects "SliceWhy$Reasons" ({ cls := "SliceWhy$Reasons", name := "kthCause", desc := "(IIZ)I" } : Jvm.MethodName) ({ cls := "SliceWhy$Reasons", name := "kthCause", desc := "(IIZ)I" } : Jvm.MethodName)) ∈ Gw := Gw_in 476 (by decide +kernel) rfl
theorem wd_477 : (Jvm.Cond.code ({ cls := "SliceWhy$Reasons", name := "kthCause", desc := "(IIZ)I" } : Jvm.MethodName) prog_4_method_8_code (7 : Nat) (Option.some Jvm.ClassFile.FieldType.int)) ∈ Gw := Gw_in 477 (by decide +kernel) rfl
theorem wd_478 : (Jvm.Cond.methodLink "SliceWhyLaw" (76 : Nat) ({ cls := "SliceWhy", name := "chop", desc := "(II)I" } : Jvm.MethodName)) ∈ Gw := Gw_in 478 (by decide +kernel) rfl
theorem wd_479 : (Jvm.Cond.instanceMethod ({ cls := "SliceWhy", name := "chop", desc := "(II)I" } : Jvm.MethodName)) ∈ Gw := Gw_in 479 (by decide +kernel) rfl
theorem wd_480 : (Jvm.Cond.selects "SliceWhy" ({ cls := "SliceWhy", name := "chop", desc := "(II)I" } : Jvm.MethodName) ({ cls := "SliceWhy", name := "chop", desc := "(II)I" } : Jvm.MethodName)) ∈ Gw := Gw_in 480 (by decide +kernel) rfl
theorem wd_481 : (Jvm.Cond.code ({ cls := "SliceWhy", name := "chop", desc := "(II)I" } : Jvm.MethodName) prog_1_method_16_code (3 : Nat) (Option.some Jvm.ClassFile.FieldType.int)) ∈ Gw := Gw_in 481 (by decide +kernel) rfl
theorem wd_482 : (Jvm.Cond.methodLink "SliceWhyLaw" (80 : Nat) ({ cls := "SliceWhy", name := "way", desc := "(II)I" } : Jvm.MethodName)) ∈ Gw := Gw_in 482 (by decide +kernel) rfl
theorem wd_483 : (Jvm.Cond.instanceMethod ({ cls := "SliceWhy", name := "way", desc := "(II)I" } : Jvm.MethodName)) ∈ Gw := Gw_in 483 (by decide +kernel) rfl
theorem wd_484 : (Jvm.Cond.selects "SliceWhy" ({ cls := "SliceWhy", name := "way", desc := "(II)I" } : Jvm.MethodName) ({ cls := "SliceWhy", name := "way", desc := "(II)I" } : Jvm.MethodName)) ∈ Gw := Gw_in 484 (by decide +kernel) rfl
theorem wd_485 : (Jvm.Cond.code ({ cls := "SliceWhy", name := "way", desc := "(II)I" } : Jvm.MethodName) prog_1_method_17_code (3 : Nat) (Option.some Jvm.ClassFile.FieldType.int)) ∈ Gw := Gw_in 485 (by decide +kernel) rfl
theorem wd_486 : (Jvm.Cond.methodLink "SliceWhy" (135 : Nat) ({ cls := "SliceWhy", name := "holds", desc := "(II)Z" } : Jvm.MethodName)) ∈ Gw := Gw_in 486 (by decide +kernel) rfl
theorem wd_487 : (Jvm.Cond.methodLink "SliceWhy" (139 : Nat) ({ cls := "SliceWhy$Reasons", name := "shortestWay", desc := "(II[I)I" } : Jvm.MethodName)) ∈ Gw := Gw_in 487 (by decide +kernel) rfl
theorem wd_488 : (Jvm.Cond.instanceMethod ({ cls := "SliceWhy$Reasons", name := "shortestWay", desc := "(II[I)I" } : Jvm.MethodName)) ∈ Gw := Gw_in 488 (by decide +kernel) rfl
theorem wd_489 : (Jvm.Cond.selects "SliceWhy$Reasons" ({ cls := "SliceWhy$Reasons", name := "shortestWay", desc := "(II[I)I" } : Jvm.MethodName) ({ cls := "SliceWhy$Reasons", name := "shortestWay", desc := "(II[I)I" } : Jvm.MethodName)) ∈ Gw := Gw_in 489 (by decide +kernel) rfl
theorem wd_490 : (Jvm.Cond.code ({ cls := "SliceWhy$Reasons", name := "shortestWay", desc := "(II[I)I" } : Jvm.MethodName) prog_4_method_9_code (7 : Nat) (Option.some Jvm.ClassFile.FieldType.int)) ∈ Gw := Gw_in 490 (by decide +kernel) rfl
theorem wd_491 : (Jvm.Cond.methodLink "SliceWhy$Reasons" (59 : Nat) ({ cls := "SliceWhy$Reasons", name := "measureWays", desc := "(II)I" } : Jvm.MethodName)) ∈ Gw := Gw_in 491 (by decide +kernel) rfl
theorem wd_493 : (Jvm.Cond.instanceMethod ({ cls := "SliceWhy$Reasons", name := "measureWays", desc := "(II)I" } : Jvm.MethodName)) ∈ Gw := Gw_in 493 (by decide +kernel) rfl
theorem wd_494 : (Jvm.Cond.code ({ cls := "SliceWhy$Reasons", name := "measureWays", desc := "(II)I" } : Jvm.MethodName) prog_4_method_10_code (4 : Nat) (Option.some Jvm.ClassFile.FieldType.int)) ∈ Gw := Gw_in 494 (by decide +kernel) rfl
theorem wd_495 : (Jvm.Cond.methodLink "SliceWhy$Reasons" (66 : Nat) ({ cls := "SliceWhy$Reasons", name := "allThatHangOn", desc := "(I)I" } : Jvm.MethodName)) ∈ Gw := Gw_in 495 (by decide +kernel) rfl
theorem wd_497 : (Jvm.Cond.instanceMethod ({ cls := "SliceWhy$Reasons", name := "allThatHangOn", desc := "(I)I" } : Jvm.MethodName)) ∈ Gw := Gw_in 497 (by decide +kernel) rfl
theorem wd_498 : (Jvm.Cond.code ({ cls := "SliceWhy$Reasons", name := "allThatHangOn", desc := "(I)I" } : Jvm.MethodName) prog_4_method_11_code (4 : Nat) (Option.some Jvm.ClassFile.FieldType.int)) ∈ Gw := Gw_in 498 (by decide +kernel) rfl
theorem wd_499 : (Jvm.Cond.methodLink "SliceWhy$Reasons" (63 : Nat) ({ cls := "SliceWhy$Reasons", name := "leastOf", desc := "(I)I" } : Jvm.MethodName)) ∈ Gw := Gw_in 499 (by decide +kernel) rfl
theorem wd_500 : (Jvm.Cond.static ({ cls := "SliceWhy$Reasons", name := "leastOf", desc := "(I)I" } : Jvm.MethodName)) ∈ Gw := Gw_in 500 (by decide +kernel) rfl
theorem wd_501 : (Jvm.Cond.code ({ cls := "SliceWhy$Reasons", name := "leastOf", desc := "(I)I" } : Jvm.MethodName) prog_4_method_12_code (2 : Nat) (Option.some Jvm.ClassFile.FieldType.int)) ∈ Gw := Gw_in 501 (by decide +kernel) rfl
theorem wd_502 : (Jvm.Cond.methodLink "SliceWhyLaw" (84 : Nat) ({ cls := "SliceWhy", name := "on", desc := "(I)I" } : Jvm.MethodName)) ∈ Gw := Gw_in 502 (by decide +kernel) rfl
theorem wd_503 : (Jvm.Cond.instanceMethod ({ cls := "SliceWhy", name := "on", desc := "(I)I" } : Jvm.MethodName)) ∈ Gw := Gw_in 503 (by decide +kernel) rfl
theorem wd_504 : (Jvm.Cond.selects "SliceWhy" ({ cls := "SliceWhy", name := "on", desc := "(I)I" } : Jvm.MethodName) ({ cls := "SliceWhy", name := "on", desc := "(I)I" } : Jvm.MethodName)) ∈ Gw := Gw_in 504 (by decide +kernel) rfl
theorem wd_505 : (Jvm.Cond.code ({ cls := "SliceWhy", name := "on", desc := "(I)I" } : Jvm.MethodName) prog_1_method_18_code (2 : Nat) (Option.some Jvm.ClassFile.FieldType.int)) ∈ Gw := Gw_in 505 (by decide +kernel) rfl
theorem wd_506 : (Jvm.Cond.methodLink "SliceWhyLaw" (88 : Nat) ({ cls := "SliceWhy", name := "same", desc := "(I)I" } : Jvm.MethodName)) ∈ Gw := Gw_in 506 (by decide +kernel) rfl
theorem wd_507 : (Jvm.Cond.instanceMethod ({ cls := "SliceWhy", name := "same", desc := "(I)I" } : Jvm.MethodName)) ∈ Gw := Gw_in 507 (by decide +kernel) rfl
theorem wd_508 : (Jvm.Cond.selects "SliceWhy" ({ cls := "SliceWhy", name := "same", desc := "(I)I" } : Jvm.MethodName) ({ cls := "SliceWhy", name := "same", desc := "(I)I" } : Jvm.MethodName)) ∈ Gw := Gw_in 508 (by decide +kernel) rfl
theorem wd_509 : (Jvm.Cond.code ({ cls := "SliceWhy", name := "same", desc := "(I)I" } : Jvm.MethodName) prog_1_method_19_code (2 : Nat) (Option.some Jvm.ClassFile.FieldType.int)) ∈ Gw := Gw_in 509 (by decide +kernel) rfl
theorem wd_510 : (Jvm.Cond.methodLink "SliceWhy" (146 : Nat) ({ cls := "SliceWhy$Machine", name := "toldLike", desc := "(LSliceWhy$Machine;)Z" } : Jvm.MethodName)) ∈ Gw := Gw_in 510 (by decide +kernel) rfl
theorem wd_511 : (Jvm.Cond.instanceMethod ({ cls := "SliceWhy$Machine", name := "toldLike", desc := "(LSliceWhy$Machine;)Z" } : Jvm.MethodName)) ∈ Gw := Gw_in 511 (by decide +kernel) rfl
theorem wd_512 : (Jvm.Cond.selects "SliceWhy$Machine" ({ cls := "SliceWhy$Machine", name := "toldLike", desc := "(LSliceWhy$Machine;)Z" } : Jvm.MethodName) ({ cls := "SliceWhy$Machine", name := "toldLike", desc := "(LSliceWhy$Machine;)Z" } : Jvm.MethodName)) ∈ Gw := Gw_in 512 (by decide +kernel) rfl
theorem wd_513 : (Jvm.Cond.code ({ cls := "SliceWhy$Machine", name := "toldLike", desc := "(LSliceWhy$Machine;)Z" } : Jvm.MethodName) prog_2_method_10_code (3 : Nat) (Option.some Jvm.ClassFile.FieldType.boolean)) ∈ Gw := Gw_in 513 (by decide +kernel) rfl
theorem wd_514 : (Jvm.Cond.methodLink "SliceWhyLaw" (92 : Nat) ({ cls := "SliceWhy", name := "test", desc := "()I" } : Jvm.MethodName)) ∈ Gw := Gw_in 514 (by decide +kernel) rfl
theorem wd_515 : (Jvm.Cond.instanceMethod ({ cls := "SliceWhy", name := "test", desc := "()I" } : Jvm.MethodName)) ∈ Gw := Gw_in 515 (by decide +kernel) rfl
theorem wd_516 : (Jvm.Cond.selects "SliceWhy" ({ cls := "SliceWhy", name := "test", desc := "()I" } : Jvm.MethodName) ({ cls := "SliceWhy", name := "test", desc := "()I" } : Jvm.MethodName)) ∈ Gw := Gw_in 516 (by decide +kernel) rfl
theorem wd_517 : (Jvm.Cond.code ({ cls := "SliceWhy", name := "test", desc := "()I" } : Jvm.MethodName) prog_1_method_20_code (1 : Nat) (Option.some Jvm.ClassFile.FieldType.int)) ∈ Gw := Gw_in 517 (by decide +kernel) rfl
theorem wd_518 : (Jvm.Cond.methodLink "SliceWhy" (153 : Nat) ({ cls := "java/lang/System", name := "arraycopy", desc := "(Ljava/lang/Object;ILjava/lang/Object;II)V" } : Jvm.MethodName)) ∈ Gw := Gw_in 518 (by decide +kernel) rfl
theorem wd_519 : (Jvm.Cond.static ({ cls := "java/lang/System", name := "arraycopy", desc := "(Ljava/lang/Object;ILjava/lang/Object;II)V" } : Jvm.MethodName)) ∈ Gw := Gw_in 519 (by decide +kernel) rfl
theorem wd_520 : (Jvm.Cond.native ({ cls := "java/lang/System", name := "arraycopy", desc := "(Ljava/lang/Object;ILjava/lang/Object;II)V" } : Jvm.MethodName)) ∈ Gw := Gw_in 520 (by decide +kernel) rfl
theorem wd_521 : (Jvm.Cond.methodLink "SliceWhyLaw" (96 : Nat) ({ cls := "SliceWhy", name := "untest", desc := "()I" } : Jvm.MethodName)) ∈ Gw := Gw_in 521 (by decide +kernel) rfl
theorem wd_522 : (Jvm.Cond.instanceMethod ({ cls := "SliceWhy", name := "untest", desc := "()I" } : Jvm.MethodName)) ∈ Gw := Gw_in 522 (by decide +kernel) rfl
theorem wd_523 : (Jvm.Cond.selects "SliceWhy" ({ cls := "SliceWhy", name := "untest", desc := "()I" } : Jvm.MethodName) ({ cls := "SliceWhy", name := "untest", desc := "()I" } : Jvm.MethodName)) ∈ Gw := Gw_in 523 (by decide +kernel) rfl
theorem wd_524 : (Jvm.Cond.code ({ cls := "SliceWhy", name := "untest", desc := "()I" } : Jvm.MethodName) prog_1_method_21_code (2 : Nat) (Option.some Jvm.ClassFile.FieldType.int)) ∈ Gw := Gw_in 524 (by decide +kernel) rfl
theorem wd_525 : (Jvm.Cond.methodLink "SliceWhyLaw" (100 : Nat) ({ cls := "SliceWhy", name := "least", desc := "(I)I" } : Jvm.MethodName)) ∈ Gw := Gw_in 525 (by decide +kernel) rfl
theorem wd_526 : (Jvm.Cond.instanceMethod ({ cls := "SliceWhy", name := "least", desc := "(I)I" } : Jvm.MethodName)) ∈ Gw := Gw_in 526 (by decide +kernel) rfl
theorem wd_527 : (Jvm.Cond.selects "SliceWhy" ({ cls := "SliceWhy", name := "least", desc := "(I)I" } : Jvm.MethodName) ({ cls := "SliceWhy", name := "least", desc := "(I)I" } : Jvm.MethodName)) ∈ Gw := Gw_in 527 (by decide +kernel) rfl
theorem wd_528 : (Jvm.Cond.code ({ cls := "SliceWhy", name := "least", desc := "(I)I" } : Jvm.MethodName) prog_1_method_22_code (6 : Nat) (Option.some Jvm.ClassFile.FieldType.int)) ∈ Gw := Gw_in 528 (by decide +kernel) rfl
theorem wd_529 : (Jvm.Cond.methodLink "SliceWhy" (159 : Nat) ({ cls := "SliceWhy", name := "wholeIsSpentInATest", desc := "(I)Z" } : Jvm.MethodName)) ∈ Gw := Gw_in 529 (by decide +kernel) rfl
theorem wd_531 : (Jvm.Cond.instanceMethod ({ cls := "SliceWhy", name := "wholeIsSpentInATest", desc := "(I)Z" } : Jvm.MethodName)) ∈ Gw := Gw_in 531 (by decide +kernel) rfl
theorem wd_532 : (Jvm.Cond.code ({ cls := "SliceWhy", name := "wholeIsSpentInATest", desc := "(I)Z" } : Jvm.MethodName) prog_1_method_25_code (4 : Nat) (Option.some Jvm.ClassFile.FieldType.boolean)) ∈ Gw := Gw_in 532 (by decide +kernel) rfl
theorem wd_533 : (Jvm.Cond.methodLink "SliceWhy" (162 : Nat) ({ cls := "SliceWhy", name := "withoutNeedless", desc := "(II)I" } : Jvm.MethodName)) ∈ Gw := Gw_in 533 (by decide +kernel) rfl
theorem wd_535 : (Jvm.Cond.instanceMethod ({ cls := "SliceWhy", name := "withoutNeedless", desc := "(II)I" } : Jvm.MethodName)) ∈ Gw := Gw_in 535 (by decide +kernel) rfl
theorem wd_536 : (Jvm.Cond.code ({ cls := "SliceWhy", name := "withoutNeedless", desc := "(II)I" } : Jvm.MethodName) prog_1_method_26_code (5 : Nat) (Option.some Jvm.ClassFile.FieldType.int)) ∈ Gw := Gw_in 536 (by decide +kernel) rfl
theorem wd_537 : (Jvm.Cond.methodLink "SliceWhy" (170 : Nat) ({ cls := "SliceWhy", name := "testsAgree", desc := "(II)Z" } : Jvm.MethodName)) ∈ Gw := Gw_in 537 (by decide +kernel) rfl
theorem wd_539 : (Jvm.Cond.instanceMethod ({ cls := "SliceWhy", name := "testsAgree", desc := "(II)Z" } : Jvm.MethodName)) ∈ Gw := Gw_in 539 (by decide +kernel) rfl
theorem wd_540 : (Jvm.Cond.code ({ cls := "SliceWhy", name := "testsAgree", desc := "(II)Z" } : Jvm.MethodName) prog_1_method_27_code (5 : Nat) (Option.some Jvm.ClassFile.FieldType.boolean)) ∈ Gw := Gw_in 540 (by decide +kernel) rfl
theorem wd_541 : (Jvm.Cond.methodLink "SliceWhyLaw" (104 : Nat) ({ cls := "SliceWhy", name := "count", desc := "(I)I" } : Jvm.MethodName)) ∈ Gw := Gw_in 541 (by decide +kernel) rfl
theorem wd_542 : (Jvm.Cond.instanceMethod ({ cls := "SliceWhy", name := "count", desc := "(I)I" } : Jvm.MethodName)) ∈ Gw := Gw_in 542 (by decide +kernel) rfl
theorem wd_543 : (Jvm.Cond.selects "SliceWhy" ({ cls := "SliceWhy", name := "count", desc := "(I)I" } : Jvm.MethodName) ({ cls := "SliceWhy", name := "count", desc := "(I)I" } : Jvm.MethodName)) ∈ Gw := Gw_in 543 (by decide +kernel) rfl
theorem wd_544 : (Jvm.Cond.code ({ cls := "SliceWhy", name := "count", desc := "(I)I" } : Jvm.MethodName) prog_1_method_23_code (2 : Nat) (Option.some Jvm.ClassFile.FieldType.int)) ∈ Gw := Gw_in 544 (by decide +kernel) rfl
theorem wd_545 : (Jvm.Cond.classLink "SliceWhyLaw" (10 : Nat) "SliceWhyModel") ∈ Gw := Gw_in 545 (by decide +kernel) rfl
theorem wd_546 : (Jvm.Cond.instantiable "SliceWhyModel" (35 : Nat)) ∈ Gw := Gw_in 546 (by decide +kernel) rfl
theorem wd_547 : (Jvm.Cond.methodLink "SliceWhyLaw" (12 : Nat) ({ cls := "SliceWhyModel", name := "<init>", desc := "()V" } : Jvm.MethodName)) ∈ Gw := Gw_in 547 (by decide +kernel) rfl
theorem wd_548 : (Jvm.Cond.instanceMethod ({ cls := "SliceWhyModel", name := "<init>", desc := "()V" } : Jvm.MethodName)) ∈ Gw := Gw_in 548 (by decide +kernel) rfl
theorem wd_549 : (Jvm.Cond.code ({ cls := "SliceWhyModel", name := "<init>", desc := "()V" } : Jvm.MethodName) prog_6_method_1_code (2 : Nat) (Option.none : Option Jvm.ClassFile.FieldType)) ∈ Gw := Gw_in 549 (by decide +kernel) rfl
theorem wd_550 : (Jvm.Cond.methodLink "SliceWhyModel" (1 : Nat) ({ cls := "java/lang/Object", name := "<init>", desc := "()V" } : Jvm.MethodName)) ∈ Gw := Gw_in 550 (by decide +kernel) rfl
theorem wd_551 : (Jvm.Cond.fieldLink "SliceWhyModel" (81 : Nat) "SliceWhyModel" "places" "I") ∈ Gw := Gw_in 551 (by decide +kernel) rfl
theorem wd_552 : (Jvm.Cond.fieldLink "SliceWhyModel" (7 : Nat) "SliceWhyModel" "kinds" "[I") ∈ Gw := Gw_in 552 (by decide +kernel) rfl
theorem wd_553 : (Jvm.Cond.fieldLink "SliceWhyModel" (13 : Nat) "SliceWhyModel" "as" "[I") ∈ Gw := Gw_in 553 (by decide +kernel) rfl
theorem wd_554 : (Jvm.Cond.fieldLink "SliceWhyModel" (16 : Nat) "SliceWhyModel" "bs" "[I") ∈ Gw := Gw_in 554 (by decide +kernel) rfl
theorem wd_555 : (Jvm.Cond.fieldLink "SliceWhyModel" (19 : Nat) "SliceWhyModel" "cs" "[I") ∈ Gw := Gw_in 555 (by decide +kernel) rfl
theorem wd_556 : (Jvm.Cond.fieldLink "SliceWhyModel" (22 : Nat) "SliceWhyModel" "inputs" "[I") ∈ Gw := Gw_in 556 (by decide +kernel) rfl
theorem wd_557 : (Jvm.Cond.fieldLink "SliceWhyModel" (25 : Nat) "SliceWhyModel" "starts" "[I") ∈ Gw := Gw_in 557 (by decide +kernel) rfl
theorem wd_558 : (Jvm.Cond.fieldLink "SliceWhyModel" (28 : Nat) "SliceWhyModel" "failing" "[Z") ∈ Gw := Gw_in 558 (by decide +kernel) rfl
theorem wd_559 : (Jvm.Cond.fieldLink "SliceWhyModel" (32 : Nat) "SliceWhyModel" "maybe" "[I") ∈ Gw := Gw_in 559 (by decide +kernel) rfl
theorem wd_560 : (Jvm.Cond.fieldLink "SliceWhyModel" (228 : Nat) "SliceWhyModel" "tests" "I") ∈ Gw := Gw_in 560 (by decide +kernel) rfl
theorem wd_561 : (Jvm.Cond.fieldLink "SliceWhyModel" (35 : Nat) "SliceWhyModel" "tested" "[I") ∈ Gw := Gw_in 561 (by decide +kernel) rfl
theorem wd_562 : (Jvm.Cond.fieldLink "SliceWhyModel" (199 : Nat) "SliceWhyModel" "runs" "I") ∈ Gw := Gw_in 562 (by decide +kernel) rfl
theorem wd_563 : (Jvm.Cond.fieldLink "SliceWhyModel" (207 : Nat) "SliceWhyModel" "seen" "I") ∈ Gw := Gw_in 563 (by decide +kernel) rfl
theorem wd_564 : (Jvm.Cond.fieldLink "SliceWhyModel" (38 : Nat) "SliceWhyModel" "saw" "[I") ∈ Gw := Gw_in 564 (by decide +kernel) rfl
theorem wd_565 : (Jvm.Cond.fieldLink "SliceWhyModel" (210 : Nat) "SliceWhyModel" "steps" "I") ∈ Gw := Gw_in 565 (by decide +kernel) rfl
theorem wd_566 : (Jvm.Cond.fieldLink "SliceWhyModel" (41 : Nat) "SliceWhyModel" "failedAt" "I") ∈ Gw := Gw_in 566 (by decide +kernel) rfl
theorem wd_567 : (Jvm.Cond.fieldLink "SliceWhyModel" (45 : Nat) "SliceWhyModel" "registers" "[I") ∈ Gw := Gw_in 567 (by decide +kernel) rfl
theorem wd_568 : (Jvm.Cond.fieldLink "SliceWhyModel" (171 : Nat) "SliceWhyModel" "onWay" "I") ∈ Gw := Gw_in 568 (by decide +kernel) rfl
theorem wd_569 : (Jvm.Cond.fieldLink "SliceWhyModel" (48 : Nat) "SliceWhyModel" "wayAt" "[I") ∈ Gw := Gw_in 569 (by decide +kernel) rfl
theorem wd_570 : (Jvm.Cond.fieldLink "SliceWhyModel" (51 : Nat) "SliceWhyModel" "behind" "[I") ∈ Gw := Gw_in 570 (by decide +kernel) rfl
theorem wd_571 : (Jvm.Cond.fieldLink "SliceWhyModel" (54 : Nat) "SliceWhyModel" "fat" "[I") ∈ Gw := Gw_in 571 (by decide +kernel) rfl
theorem wd_572 : (Jvm.Cond.fieldLink "SliceWhyModel" (57 : Nat) "SliceWhyModel" "slim" "[I") ∈ Gw := Gw_in 572 (by decide +kernel) rfl
theorem wd_573 : (Jvm.Cond.fieldLink "SliceWhyModel" (98 : Nat) "SliceWhyModel" "isLooked" "Z") ∈ Gw := Gw_in 573 (by decide +kernel) rfl
theorem wd_574 : (Jvm.Cond.fieldLink "SliceWhyModel" (60 : Nat) "SliceWhyModel" "far" "[I") ∈ Gw := Gw_in 574 (by decide +kernel) rfl
theorem wd_575 : (Jvm.Cond.fieldLink "SliceWhyModel" (63 : Nat) "SliceWhyModel" "\x72" "[I") ∈ Gw := Gw_in 575 (by decide +kernel) rfl
theorem wd_576 : (Jvm.Cond.fieldLink "SliceWhyModel" (66 : Nat) "SliceWhyModel" "items" "[I") ∈ Gw := Gw_in 576 (by decide +kernel) rfl
theorem wd_577 : (Jvm.Cond.fieldLink "SliceWhyModel" (69 : Nat) "SliceWhyModel" "globals" "[I") ∈ Gw := Gw_in 577 (by decide +kernel) rfl
theorem wd_578 : (Jvm.Cond.fieldLink "SliceWhyModel" (72 : Nat) "SliceWhyModel" "rowOf" "[I") ∈ Gw := Gw_in 578 (by decide +kernel) rfl
theorem wd_579 : (Jvm.Cond.fieldLink "SliceWhyModel" (178 : Nat) "SliceWhyModel" "done" "I") ∈ Gw := Gw_in 579 (by decide +kernel) rfl
theorem wd_580 : (Jvm.Cond.fieldLink "SliceWhyModel" (181 : Nat) "SliceWhyModel" "wrongAt" "I") ∈ Gw := Gw_in 580 (by decide +kernel) rfl
theorem wd_581 : (Jvm.Cond.fieldLink "SliceWhyModel" (184 : Nat) "SliceWhyModel" "looks" "I") ∈ Gw := Gw_in 581 (by decide +kernel) rfl
theorem wd_582 : (Jvm.Cond.fieldLink "SliceWhyModel" (75 : Nat) "SliceWhyModel" "looked" "[I") ∈ Gw := Gw_in 582 (by decide +kernel) rfl
theorem wd_583 : (Jvm.Cond.fieldLink "SliceWhyModel" (188 : Nat) "SliceWhyModel" "tells" "I") ∈ Gw := Gw_in 583 (by decide +kernel) rfl
theorem wd_584 : (Jvm.Cond.fieldLink "SliceWhyModel" (217 : Nat) "SliceWhyModel" "dueMany" "I") ∈ Gw := Gw_in 584 (by decide +kernel) rfl
theorem wd_585 : (Jvm.Cond.fieldLink "SliceWhyModel" (78 : Nat) "SliceWhyModel" "due" "[I") ∈ Gw := Gw_in 585 (by decide +kernel) rfl
theorem wd_586 : (Jvm.Cond.lays "SliceWhyModel" "SliceWhyModel" "places" "I") ∈ Gw := Gw_in 586 (by decide +kernel) rfl
theorem wd_588 : (Jvm.Cond.laysFinal "SliceWhyModel" "SliceWhyModel" "kinds" "[I") ∈ Gw := Gw_in 588 (by decide +kernel) rfl
theorem wd_590 : (Jvm.Cond.laysFinal "SliceWhyModel" "SliceWhyModel" "as" "[I") ∈ Gw := Gw_in 590 (by decide +kernel) rfl
theorem wd_592 : (Jvm.Cond.laysFinal "SliceWhyModel" "SliceWhyModel" "bs" "[I") ∈ Gw := Gw_in 592 (by decide +kernel) rfl
theorem wd_594 : (Jvm.Cond.laysFinal "SliceWhyModel" "SliceWhyModel" "cs" "[I") ∈ Gw := Gw_in 594 (by decide +kernel) rfl
theorem wd_596 : (Jvm.Cond.laysFinal "SliceWhyModel" "SliceWhyModel" "inputs" "[I") ∈ Gw := Gw_in 596 (by decide +kernel) rfl
theorem wd_598 : (Jvm.Cond.laysFinal "SliceWhyModel" "SliceWhyModel" "starts" "[I") ∈ Gw := Gw_in 598 (by decide +kernel) rfl
theorem wd_600 : (Jvm.Cond.laysFinal "SliceWhyModel" "SliceWhyModel" "failing" "[Z") ∈ Gw := Gw_in 600 (by decide +kernel) rfl
theorem wd_602 : (Jvm.Cond.laysFinal "SliceWhyModel" "SliceWhyModel" "maybe" "[I") ∈ Gw := Gw_in 602 (by decide +kernel) rfl
theorem wd_604 : (Jvm.Cond.lays "SliceWhyModel" "SliceWhyModel" "tests" "I") ∈ Gw := Gw_in 604 (by decide +kernel) rfl
theorem wd_606 : (Jvm.Cond.laysFinal "SliceWhyModel" "SliceWhyModel" "tested" "[I") ∈ Gw := Gw_in 606 (by decide +kernel) rfl
theorem wd_608 : (Jvm.Cond.lays "SliceWhyModel" "SliceWhyModel" "runs" "I") ∈ Gw := Gw_in 608 (by decide +kernel) rfl
theorem wd_610 : (Jvm.Cond.lays "SliceWhyModel" "SliceWhyModel" "seen" "I") ∈ Gw := Gw_in 610 (by decide +kernel) rfl
theorem wd_612 : (Jvm.Cond.laysFinal "SliceWhyModel" "SliceWhyModel" "saw" "[I") ∈ Gw := Gw_in 612 (by decide +kernel) rfl
theorem wd_614 : (Jvm.Cond.lays "SliceWhyModel" "SliceWhyModel" "steps" "I") ∈ Gw := Gw_in 614 (by decide +kernel) rfl
theorem wd_616 : (Jvm.Cond.lays "SliceWhyModel" "SliceWhyModel" "failedAt" "I") ∈ Gw := Gw_in 616 (by decide +kernel) rfl
theorem wd_618 : (Jvm.Cond.laysFinal "SliceWhyModel" "SliceWhyModel" "registers" "[I") ∈ Gw := Gw_in 618 (by decide +kernel) rfl
theorem wd_620 : (Jvm.Cond.lays "SliceWhyModel" "SliceWhyModel" "onWay" "I") ∈ Gw := Gw_in 620 (by decide +kernel) rfl
theorem wd_622 : (Jvm.Cond.laysFinal "SliceWhyModel" "SliceWhyModel" "wayAt" "[I") ∈ Gw := Gw_in 622 (by decide +kernel) rfl
theorem wd_624 : (Jvm.Cond.laysFinal "SliceWhyModel" "SliceWhyModel" "behind" "[I") ∈ Gw := Gw_in 624 (by decide +kernel) rfl
theorem wd_626 : (Jvm.Cond.laysFinal "SliceWhyModel" "SliceWhyModel" "fat" "[I") ∈ Gw := Gw_in 626 (by decide +kernel) rfl
theorem wd_628 : (Jvm.Cond.laysFinal "SliceWhyModel" "SliceWhyModel" "slim" "[I") ∈ Gw := Gw_in 628 (by decide +kernel) rfl
theorem wd_630 : (Jvm.Cond.lays "SliceWhyModel" "SliceWhyModel" "isLooked" "Z") ∈ Gw := Gw_in 630 (by decide +kernel) rfl
theorem wd_632 : (Jvm.Cond.laysFinal "SliceWhyModel" "SliceWhyModel" "far" "[I") ∈ Gw := Gw_in 632 (by decide +kernel) rfl
theorem wd_634 : (Jvm.Cond.laysFinal "SliceWhyModel" "SliceWhyModel" "\x72" "[I") ∈ Gw := Gw_in 634 (by decide +kernel) rfl
theorem wd_636 : (Jvm.Cond.laysFinal "SliceWhyModel" "SliceWhyModel" "items" "[I") ∈ Gw := Gw_in 636 (by decide +kernel) rfl
theorem wd_638 : (Jvm.Cond.laysFinal "SliceWhyModel" "SliceWhyModel" "globals" "[I") ∈ Gw := Gw_in 638 (by decide +kernel) rfl
theorem wd_640 : (Jvm.Cond.laysFinal "SliceWhyModel" "SliceWhyModel" "rowOf" "[I") ∈ Gw := Gw_in 640 (by decide +kernel) rfl
theorem wd_642 : (Jvm.Cond.lays "SliceWhyModel" "SliceWhyModel" "done" "I") ∈ Gw := Gw_in 642 (by decide +kernel) rfl
theorem wd_644 : (Jvm.Cond.lays "SliceWhyModel" "SliceWhyModel" "wrongAt" "I") ∈ Gw := Gw_in 644 (by decide +kernel) rfl
theorem wd_646 : (Jvm.Cond.lays "SliceWhyModel" "SliceWhyModel" "looks" "I") ∈ Gw := Gw_in 646 (by decide +kernel) rfl
theorem wd_648 : (Jvm.Cond.laysFinal "SliceWhyModel" "SliceWhyModel" "looked" "[I") ∈ Gw := Gw_in 648 (by decide +kernel) rfl
theorem wd_650 : (Jvm.Cond.lays "SliceWhyModel" "SliceWhyModel" "tells" "I") ∈ Gw := Gw_in 650 (by decide +kernel) rfl
theorem wd_652 : (Jvm.Cond.lays "SliceWhyModel" "SliceWhyModel" "dueMany" "I") ∈ Gw := Gw_in 652 (by decide +kernel) rfl
theorem wd_654 : (Jvm.Cond.laysFinal "SliceWhyModel" "SliceWhyModel" "due" "[I") ∈ Gw := Gw_in 654 (by decide +kernel) rfl
theorem wd_657 : (Jvm.Cond.methodLink "SliceWhyLaw" (17 : Nat) ({ cls := "SliceWhyModel", name := "line", desc := "(IIII)I" } : Jvm.MethodName)) ∈ Gw := Gw_in 657 (by decide +kernel) rfl
theorem wd_658 : (Jvm.Cond.instanceMethod ({ cls := "SliceWhyModel", name := "line", desc := "(IIII)I" } : Jvm.MethodName)) ∈ Gw := Gw_in 658 (by decide +kernel) rfl
theorem wd_659 : (Jvm.Cond.selects "SliceWhyModel" ({ cls := "SliceWhyModel", name := "line", desc := "(IIII)I" } : Jvm.MethodName) ({ cls := "SliceWhyModel", name := "line", desc := "(IIII)I" } : Jvm.MethodName)) ∈ Gw := Gw_in 659 (by decide +kernel) rfl
theorem wd_660 : (Jvm.Cond.code ({ cls := "SliceWhyModel", name := "line", desc := "(IIII)I" } : Jvm.MethodName) prog_6_method_7_code (5 : Nat) (Option.some Jvm.ClassFile.FieldType.int)) ∈ Gw := Gw_in 660 (by decide +kernel) rfl
theorem wd_661 : (Jvm.Cond.methodLink "SliceWhyModel" (102 : Nat) ({ cls := "SliceWhyModel", name := "fits", desc := "(IIII)Z" } : Jvm.MethodName)) ∈ Gw := Gw_in 661 (by decide +kernel) rfl
theorem wd_662 : (Jvm.Cond.static ({ cls := "SliceWhyModel", name := "fits", desc := "(IIII)Z" } : Jvm.MethodName)) ∈ Gw := Gw_in 662 (by decide +kernel) rfl
theorem wd_663 : (Jvm.Cond.code ({ cls := "SliceWhyModel", name := "fits", desc := "(IIII)Z" } : Jvm.MethodName) prog_6_method_5_code (4 : Nat) (Option.some Jvm.ClassFile.FieldType.boolean)) ∈ Gw := Gw_in 663 (by decide +kernel) rfl
theorem wd_664 : (Jvm.Cond.methodLink "SliceWhyModel" (90 : Nat) ({ cls := "SliceWhyModel", name := "isRegister", desc := "(I)Z" } : Jvm.MethodName)) ∈ Gw := Gw_in 664 (by decide +kernel) rfl
theorem wd_665 : (Jvm.Cond.static ({ cls := "SliceWhyModel", name := "isRegister", desc := "(I)Z" } : Jvm.MethodName)) ∈ Gw := Gw_in 665 (by decide +kernel) rfl
theorem wd_666 : (Jvm.Cond.code ({ cls := "SliceWhyModel", name := "isRegister", desc := "(I)Z" } : Jvm.MethodName) prog_6_method_4_code (1 : Nat) (Option.some Jvm.ClassFile.FieldType.boolean)) ∈ Gw := Gw_in 666 (by decide +kernel) rfl
theorem wd_667 : (Jvm.Cond.constantLong "SliceWhyModel" (88 : Nat) (7 : Int64)) ∈ Gw := Gw_in 667 (by decide +kernel) rfl
theorem wd_668 : (Jvm.Cond.methodLink "SliceWhyModel" (84 : Nat) ({ cls := "SliceWhyModel", name := "in", desc := "(JJJ)Z" } : Jvm.MethodName)) ∈ Gw := Gw_in 668 (by decide +kernel) rfl
theorem wd_669 : (Jvm.Cond.static ({ cls := "SliceWhyModel", name := "in", desc := "(JJJ)Z" } : Jvm.MethodName)) ∈ Gw := Gw_in 669 (by decide +kernel) rfl
theorem wd_670 : (Jvm.Cond.code ({ cls := "SliceWhyModel", name := "in", desc := "(JJJ)Z" } : Jvm.MethodName) prog_6_method_2_code (6 : Nat) (Option.some Jvm.ClassFile.FieldType.boolean)) ∈ Gw := Gw_in 670 (by decide +kernel) rfl
theorem wd_671 : (Jvm.Cond.constantLong "SliceWhyModel" (94 : Nat) (3 : Int64)) ∈ Gw := Gw_in 671 (by decide +kernel) rfl
theorem wd_672 : (Jvm.Cond.constantLong "SliceWhyModel" (96 : Nat) (24 : Int64)) ∈ Gw := Gw_in 672 (by decide +kernel) rfl
theorem wd_673 : (Jvm.Cond.methodLink "SliceWhyModel" (106 : Nat) ({ cls := "SliceWhyModel", name := "write", desc := "(IIIII)V" } : Jvm.MethodName)) ∈ Gw := Gw_in 673 (by decide +kernel) rfl
theorem wd_675 : (Jvm.Cond.instanceMethod ({ cls := "SliceWhyModel", name := "write", desc := "(IIIII)V" } : Jvm.MethodName)) ∈ Gw := Gw_in 675 (by decide +kernel) rfl
theorem wd_676 : (Jvm.Cond.code ({ cls := "SliceWhyModel", name := "write", desc := "(IIIII)V" } : Jvm.MethodName) prog_6_method_6_code (6 : Nat) (Option.none : Option Jvm.ClassFile.FieldType)) ∈ Gw := Gw_in 676 (by decide +kernel) rfl
theorem wd_677 : (Jvm.Cond.methodLink "SliceWhyLaw" (22 : Nat) ({ cls := "SliceWhyModel", name := "change", desc := "(IIIII)I" } : Jvm.MethodName)) ∈ Gw := Gw_in 677 (by decide +kernel) rfl
theorem wd_678 : (Jvm.Cond.instanceMethod ({ cls := "SliceWhyModel", name := "change", desc := "(IIIII)I" } : Jvm.MethodName)) ∈ Gw := Gw_in 678 (by decide +kernel) rfl
theorem wd_679 : (Jvm.Cond.selects "SliceWhyModel" ({ cls := "SliceWhyModel", name := "change", desc := "(IIIII)I" } : Jvm.MethodName) ({ cls := "SliceWhyModel", name := "change", desc := "(IIIII)I" } : Jvm.MethodName)) ∈ Gw := Gw_in 679 (by decide +kernel) rfl
theorem wd_680 : (Jvm.Cond.code ({ cls := "SliceWhyModel", name := "change", desc := "(IIIII)I" } : Jvm.MethodName) prog_6_method_8_code (7 : Nat) (Option.some Jvm.ClassFile.FieldType.int)) ∈ Gw := Gw_in 680 (by decide +kernel) rfl
theorem wd_681 : (Jvm.Cond.methodLink "SliceWhyModel" (110 : Nat) ({ cls := "SliceWhyModel", name := "isPlace", desc := "(I)Z" } : Jvm.MethodName)) ∈ Gw := Gw_in 681 (by decide +kernel) rfl
theorem wd_683 : (Jvm.Cond.instanceMethod ({ cls := "SliceWhyModel", name := "isPlace", desc := "(I)Z" } : Jvm.MethodName)) ∈ Gw := Gw_in 683 (by decide +kernel) rfl
theorem wd_684 : (Jvm.Cond.code ({ cls := "SliceWhyModel", name := "isPlace", desc := "(I)Z" } : Jvm.MethodName) prog_6_method_3_code (2 : Nat) (Option.some Jvm.ClassFile.FieldType.boolean)) ∈ Gw := Gw_in 684 (by decide +kernel) rfl
theorem wd_685 : (Jvm.Cond.methodLink "SliceWhyLaw" (27 : Nat) ({ cls := "SliceWhyModel", name := "drop", desc := "()I" } : Jvm.MethodName)) ∈ Gw := Gw_in 685 (by decide +kernel) rfl
theorem wd_686 : (Jvm.Cond.instanceMethod ({ cls := "SliceWhyModel", name := "drop", desc := "()I" } : Jvm.MethodName)) ∈ Gw := Gw_in 686 (by decide +kernel) rfl
theorem wd_687 : (Jvm.Cond.selects "SliceWhyModel" ({ cls := "SliceWhyModel", name := "drop", desc := "()I" } : Jvm.MethodName) ({ cls := "SliceWhyModel", name := "drop", desc := "()I" } : Jvm.MethodName)) ∈ Gw := Gw_in 687 (by decide +kernel) rfl
theorem wd_688 : (Jvm.Cond.code ({ cls := "SliceWhyModel", name := "drop", desc := "()I" } : Jvm.MethodName) prog_6_method_9_code (1 : Nat) (Option.some Jvm.ClassFile.FieldType.int)) ∈ Gw := Gw_in 688 (by decide +kernel) rfl
theorem wd_689 : (Jvm.Cond.methodLink "SliceWhyLaw" (32 : Nat) ({ cls := "SliceWhyModel", name := "start", desc := "(IIZ)I" } : Jvm.MethodName)) ∈ Gw := Gw_in 689 (by decide +kernel) rfl
theorem wd_690 : (Jvm.Cond.instanceMethod ({ cls := "SliceWhyModel", name := "start", desc := "(IIZ)I" } : Jvm.MethodName)) ∈ Gw := Gw_in 690 (by decide +kernel) rfl
theorem wd_691 : (Jvm.Cond.selects "SliceWhyModel" ({ cls := "SliceWhyModel", name := "start", desc := "(IIZ)I" } : Jvm.MethodName) ({ cls := "SliceWhyModel", name := "start", desc := "(IIZ)I" } : Jvm.MethodName)) ∈ Gw := Gw_in 691 (by decide +kernel) rfl
theorem wd_692 : (Jvm.Cond.code ({ cls := "SliceWhyModel", name := "start", desc := "(IIZ)I" } : Jvm.MethodName) prog_6_method_10_code (4 : Nat) (Option.some Jvm.ClassFile.FieldType.int)) ∈ Gw := Gw_in 692 (by decide +kernel) rfl
theorem wd_693 : (Jvm.Cond.methodLink "SliceWhyLaw" (37 : Nat) ({ cls := "SliceWhyModel", name := "points", desc := "(II)I" } : Jvm.MethodName)) ∈ Gw := Gw_in 693 (by decide +kernel) rfl
theorem wd_694 : (Jvm.Cond.instanceMethod ({ cls := "SliceWhyModel", name := "points", desc := "(II)I" } : Jvm.MethodName)) ∈ Gw := Gw_in 694 (by decide +kernel) rfl
theorem wd_695 : (Jvm.Cond.selects "SliceWhyModel" ({ cls := "SliceWhyModel", name := "points", desc := "(II)I" } : Jvm.MethodName) ({ cls := "SliceWhyModel", name := "points", desc := "(II)I" } : Jvm.MethodName)) ∈ Gw := Gw_in 695 (by decide +kernel) rfl
theorem wd_696 : (Jvm.Cond.code ({ cls := "SliceWhyModel", name := "points", desc := "(II)I" } : Jvm.MethodName) prog_6_method_11_code (4 : Nat) (Option.some Jvm.ClassFile.FieldType.int)) ∈ Gw := Gw_in 696 (by decide +kernel) rfl
theorem wd_697 : (Jvm.Cond.constantLong "SliceWhyModel" (113 : Nat) (15 : Int64)) ∈ Gw := Gw_in 697 (by decide +kernel) rfl
theorem wd_698 : (Jvm.Cond.methodLink "SliceWhyLaw" (41 : Nat) ({ cls := "SliceWhyModel", name := "input", desc := "(II)I" } : Jvm.MethodName)) ∈ Gw := Gw_in 698 (by decide +kernel) rfl
theorem wd_699 : (Jvm.Cond.instanceMethod ({ cls := "SliceWhyModel", name := "input", desc := "(II)I" } : Jvm.MethodName)) ∈ Gw := Gw_in 699 (by decide +kernel) rfl
theorem wd_700 : (Jvm.Cond.selects "SliceWhyModel" ({ cls := "SliceWhyModel", name := "input", desc := "(II)I" } : Jvm.MethodName) ({ cls := "SliceWhyModel", name := "input", desc := "(II)I" } : Jvm.MethodName)) ∈ Gw := Gw_in 700 (by decide +kernel) rfl
theorem wd_701 : (Jvm.Cond.code ({ cls := "SliceWhyModel", name := "input", desc := "(II)I" } : Jvm.MethodName) prog_6_method_12_code (3 : Nat) (Option.some Jvm.ClassFile.FieldType.int)) ∈ Gw := Gw_in 701 (by decide +kernel) rfl
theorem wd_702 : (Jvm.Cond.methodLink "SliceWhyLaw" (66 : Nat) ({ cls := "SliceWhyModel", name := "follows", desc := "(I)I" } : Jvm.MethodName)) ∈ Gw := Gw_in 702 (by decide +kernel) rfl
theorem wd_703 : (Jvm.Cond.instanceMethod ({ cls := "SliceWhyModel", name := "follows", desc := "(I)I" } : Jvm.MethodName)) ∈ Gw := Gw_in 703 (by decide +kernel) rfl
theorem wd_704 : (Jvm.Cond.selects "SliceWhyModel" ({ cls := "SliceWhyModel", name := "follows", desc := "(I)I" } : Jvm.MethodName) ({ cls := "SliceWhyModel", name := "follows", desc := "(I)I" } : Jvm.MethodName)) ∈ Gw := Gw_in 704 (by decide +kernel) rfl
theorem wd_705 : (Jvm.Cond.code ({ cls := "SliceWhyModel", name := "follows", desc := "(I)I" } : Jvm.MethodName) prog_6_method_18_code (2 : Nat) (Option.some Jvm.ClassFile.FieldType.int)) ∈ Gw := Gw_in 705 (by decide +kernel) rfl
theorem wd_706 : (Jvm.Cond.methodLink "SliceWhyModel" (131 : Nat) ({ cls := "SliceWhyModel", name := "followers", desc := "(I)I" } : Jvm.MethodName)) ∈ Gw := Gw_in 706 (by decide +kernel) rfl
theorem wd_708 : (Jvm.Cond.instanceMethod ({ cls := "SliceWhyModel", name := "followers", desc := "(I)I" } : Jvm.MethodName)) ∈ Gw := Gw_in 708 (by decide +kernel) rfl
theorem wd_709 : (Jvm.Cond.code ({ cls := "SliceWhyModel", name := "followers", desc := "(I)I" } : Jvm.MethodName) prog_6_method_17_code (5 : Nat) (Option.some Jvm.ClassFile.FieldType.int)) ∈ Gw := Gw_in 709 (by decide +kernel) rfl
theorem wd_710 : (Jvm.Cond.methodLink "SliceWhyModel" (127 : Nat) ({ cls := "SliceWhyModel", name := "reach", desc := "(IIZ)I" } : Jvm.MethodName)) ∈ Gw := Gw_in 710 (by decide +kernel) rfl
theorem wd_712 : (Jvm.Cond.instanceMethod ({ cls := "SliceWhyModel", name := "reach", desc := "(IIZ)I" } : Jvm.MethodName)) ∈ Gw := Gw_in 712 (by decide +kernel) rfl
theorem wd_713 : (Jvm.Cond.code ({ cls := "SliceWhyModel", name := "reach", desc := "(IIZ)I" } : Jvm.MethodName) prog_6_method_16_code (7 : Nat) (Option.some Jvm.ClassFile.FieldType.int)) ∈ Gw := Gw_in 713 (by decide +kernel) rfl
theorem wd_714 : (Jvm.Cond.methodLink "SliceWhyModel" (123 : Nat) ({ cls := "SliceWhyModel", name := "nexts", desc := "(IZ)I" } : Jvm.MethodName)) ∈ Gw := Gw_in 714 (by decide +kernel) rfl
theorem wd_716 : (Jvm.Cond.instanceMethod ({ cls := "SliceWhyModel", name := "nexts", desc := "(IZ)I" } : Jvm.MethodName)) ∈ Gw := Gw_in 716 (by decide +kernel) rfl
theorem wd_717 : (Jvm.Cond.code ({ cls := "SliceWhyModel", name := "nexts", desc := "(IZ)I" } : Jvm.MethodName) prog_6_method_15_code (5 : Nat) (Option.some Jvm.ClassFile.FieldType.int)) ∈ Gw := Gw_in 717 (by decide +kernel) rfl
theorem wd_718 : (Jvm.Cond.methodLink "SliceWhyModel" (116 : Nat) ({ cls := "SliceWhyModel", name := "place", desc := "(I)I" } : Jvm.MethodName)) ∈ Gw := Gw_in 718 (by decide +kernel) rfl
theorem wd_720 : (Jvm.Cond.instanceMethod ({ cls := "SliceWhyModel", name := "place", desc := "(I)I" } : Jvm.MethodName)) ∈ Gw := Gw_in 720 (by decide +kernel) rfl
theorem wd_721 : (Jvm.Cond.code ({ cls := "SliceWhyModel", name := "place", desc := "(I)I" } : Jvm.MethodName) prog_6_method_13_code (2 : Nat) (Option.some Jvm.ClassFile.FieldType.int)) ∈ Gw := Gw_in 721 (by decide +kernel) rfl
theorem wd_722 : (Jvm.Cond.constant "SliceWhyModel" (115 : Nat) (16777216 : Int32)) ∈ Gw := Gw_in 722 (by decide +kernel) rfl
theorem wd_723 : (Jvm.Cond.methodLink "SliceWhyModel" (120 : Nat) ({ cls := "SliceWhyModel", name := "canFail", desc := "(I)Z" } : Jvm.MethodName)) ∈ Gw := Gw_in 723 (by decide +kernel) rfl
theorem wd_725 : (Jvm.Cond.instanceMethod ({ cls := "SliceWhyModel", name := "canFail", desc := "(I)Z" } : Jvm.MethodName)) ∈ Gw := Gw_in 725 (by decide +kernel) rfl
theorem wd_726 : (Jvm.Cond.code ({ cls := "SliceWhyModel", name := "canFail", desc := "(I)Z" } : Jvm.MethodName) prog_6_method_14_code (2 : Nat) (Option.some Jvm.ClassFile.FieldType.boolean)) ∈ Gw := Gw_in 726 (by decide +kernel) rfl
theorem wd_727 : (Jvm.Cond.methodLink "SliceWhyLaw" (62 : Nat) ({ cls := "SliceWhyModel", name := "slice", desc := "(II)I" } : Jvm.MethodName)) ∈ Gw := Gw_in 727 (by decide +kernel) rfl
theorem wd_728 : (Jvm.Cond.instanceMethod ({ cls := "SliceWhyModel", name := "slice", desc := "(II)I" } : Jvm.MethodName)) ∈ Gw := Gw_in 728 (by decide +kernel) rfl
theorem wd_729 : (Jvm.Cond.selects "SliceWhyModel" ({ cls := "SliceWhyModel", name := "slice", desc := "(II)I" } : Jvm.MethodName) ({ cls := "SliceWhyModel", name := "slice", desc := "(II)I" } : Jvm.MethodName)) ∈ Gw := Gw_in 729 (by decide +kernel) rfl
theorem wd_730 : (Jvm.Cond.code ({ cls := "SliceWhyModel", name := "slice", desc := "(II)I" } : Jvm.MethodName) prog_6_method_30_code (3 : Nat) (Option.some Jvm.ClassFile.FieldType.int)) ∈ Gw := Gw_in 730 (by decide +kernel) rfl
theorem wd_731 : (Jvm.Cond.methodLink "SliceWhyModel" (165 : Nat) ({ cls := "SliceWhyModel", name := "look", desc := "()V" } : Jvm.MethodName)) ∈ Gw := Gw_in 731 (by decide +kernel) rfl
theorem wd_733 : (Jvm.Cond.instanceMethod ({ cls := "SliceWhyModel", name := "look", desc := "()V" } : Jvm.MethodName)) ∈ Gw := Gw_in 733 (by decide +kernel) rfl
theorem wd_734 : (Jvm.Cond.code ({ cls := "SliceWhyModel", name := "look", desc := "()V" } : Jvm.MethodName) prog_6_method_26_code (3 : Nat) (Option.none : Option Jvm.ClassFile.FieldType)) ∈ Gw := Gw_in 734 (by decide +kernel) rfl
theorem wd_735 : (Jvm.Cond.methodLink "SliceWhyModel" (156 : Nat) ({ cls := "SliceWhyModel", name := "hangs", desc := "(IIZ)I" } : Jvm.MethodName)) ∈ Gw := Gw_in 735 (by decide +kernel) rfl
theorem wd_737 : (Jvm.Cond.instanceMethod ({ cls := "SliceWhyModel", name := "hangs", desc := "(IIZ)I" } : Jvm.MethodName)) ∈ Gw := Gw_in 737 (by decide +kernel) rfl
theorem wd_738 : (Jvm.Cond.code ({ cls := "SliceWhyModel", name := "hangs", desc := "(IIZ)I" } : Jvm.MethodName) prog_6_method_24_code (8 : Nat) (Option.some Jvm.ClassFile.FieldType.int)) ∈ Gw := Gw_in 738 (by decide +kernel) rfl
theorem wd_739 : (Jvm.Cond.methodLink "SliceWhyModel" (147 : Nat) ({ cls := "SliceWhyModel", name := "reads", desc := "(IZ)I" } : Jvm.MethodName)) ∈ Gw := Gw_in 739 (by decide +kernel) rfl
theorem wd_741 : (Jvm.Cond.instanceMethod ({ cls := "SliceWhyModel", name := "reads", desc := "(IZ)I" } : Jvm.MethodName)) ∈ Gw := Gw_in 741 (by decide +kernel) rfl
theorem wd_742 : (Jvm.Cond.code ({ cls := "SliceWhyModel", name := "reads", desc := "(IZ)I" } : Jvm.MethodName) prog_6_method_20_code (3 : Nat) (Option.some Jvm.ClassFile.FieldType.int)) ∈ Gw := Gw_in 742 (by decide +kernel) rfl
theorem wd_743 : (Jvm.Cond.methodLink "SliceWhyModel" (150 : Nat) ({ cls := "SliceWhyModel", name := "settersOf", desc := "(II)I" } : Jvm.MethodName)) ∈ Gw := Gw_in 743 (by decide +kernel) rfl
theorem wd_745 : (Jvm.Cond.instanceMethod ({ cls := "SliceWhyModel", name := "settersOf", desc := "(II)I" } : Jvm.MethodName)) ∈ Gw := Gw_in 745 (by decide +kernel) rfl
theorem wd_746 : (Jvm.Cond.code ({ cls := "SliceWhyModel", name := "settersOf", desc := "(II)I" } : Jvm.MethodName) prog_6_method_23_code (6 : Nat) (Option.some Jvm.ClassFile.FieldType.int)) ∈ Gw := Gw_in 746 (by decide +kernel) rfl
theorem wd_747 : (Jvm.Cond.methodLink "SliceWhyModel" (143 : Nat) ({ cls := "SliceWhyModel", name := "sources", desc := "(II)I" } : Jvm.MethodName)) ∈ Gw := Gw_in 747 (by decide +kernel) rfl
theorem wd_749 : (Jvm.Cond.instanceMethod ({ cls := "SliceWhyModel", name := "sources", desc := "(II)I" } : Jvm.MethodName)) ∈ Gw := Gw_in 749 (by decide +kernel) rfl
theorem wd_750 : (Jvm.Cond.code ({ cls := "SliceWhyModel", name := "sources", desc := "(II)I" } : Jvm.MethodName) prog_6_method_21_code (9 : Nat) (Option.some Jvm.ClassFile.FieldType.int)) ∈ Gw := Gw_in 750 (by decide +kernel) rfl
theorem wd_751 : (Jvm.Cond.methodLink "SliceWhyModel" (136 : Nat) ({ cls := "SliceWhyModel", name := "setsIt", desc := "(II)Z" } : Jvm.MethodName)) ∈ Gw := Gw_in 751 (by decide +kernel) rfl
theorem wd_753 : (Jvm.Cond.instanceMethod ({ cls := "SliceWhyModel", name := "setsIt", desc := "(II)Z" } : Jvm.MethodName)) ∈ Gw := Gw_in 753 (by decide +kernel) rfl
theorem wd_754 : (Jvm.Cond.code ({ cls := "SliceWhyModel", name := "setsIt", desc := "(II)Z" } : Jvm.MethodName) prog_6_method_22_code (3 : Nat) (Option.some Jvm.ClassFile.FieldType.boolean)) ∈ Gw := Gw_in 754 (by decide +kernel) rfl
theorem wd_755 : (Jvm.Cond.methodLink "SliceWhyModel" (140 : Nat) ({ cls := "SliceWhyModel", name := "sets", desc := "(I)I" } : Jvm.MethodName)) ∈ Gw := Gw_in 755 (by decide +kernel) rfl
theorem wd_757 : (Jvm.Cond.instanceMethod ({ cls := "SliceWhyModel", name := "sets", desc := "(I)I" } : Jvm.MethodName)) ∈ Gw := Gw_in 757 (by decide +kernel) rfl
theorem wd_758 : (Jvm.Cond.code ({ cls := "SliceWhyModel", name := "sets", desc := "(I)I" } : Jvm.MethodName) prog_6_method_19_code (3 : Nat) (Option.some Jvm.ClassFile.FieldType.int)) ∈ Gw := Gw_in 758 (by decide +kernel) rfl
theorem wd_759 : (Jvm.Cond.constantLong "SliceWhyModel" (134 : Nat) (6 : Int64)) ∈ Gw := Gw_in 759 (by decide +kernel) rfl
theorem wd_760 : (Jvm.Cond.methodLink "SliceWhyModel" (153 : Nat) ({ cls := "SliceWhyModel", name := "controls", desc := "(I)I" } : Jvm.MethodName)) ∈ Gw := Gw_in 760 (by decide +kernel) rfl
theorem wd_762 : (Jvm.Cond.instanceMethod ({ cls := "SliceWhyModel", name := "controls", desc := "(I)I" } : Jvm.MethodName)) ∈ Gw := Gw_in 762 (by decide +kernel) rfl
theorem wd_763 : (Jvm.Cond.code ({ cls := "SliceWhyModel", name := "controls", desc := "(I)I" } : Jvm.MethodName) prog_6_method_25_code (6 : Nat) (Option.some Jvm.ClassFile.FieldType.int)) ∈ Gw := Gw_in 763 (by decide +kernel) rfl
theorem wd_764 : (Jvm.Cond.methodLink "SliceWhyModel" (162 : Nat) ({ cls := "SliceWhyModel", name := "back", desc := "(IZ)I" } : Jvm.MethodName)) ∈ Gw := Gw_in 764 (by decide +kernel) rfl
theorem wd_766 : (Jvm.Cond.instanceMethod ({ cls := "SliceWhyModel", name := "back", desc := "(IZ)I" } : Jvm.MethodName)) ∈ Gw := Gw_in 766 (by decide +kernel) rfl
theorem wd_767 : (Jvm.Cond.code ({ cls := "SliceWhyModel", name := "back", desc := "(IZ)I" } : Jvm.MethodName) prog_6_method_28_code (6 : Nat) (Option.some Jvm.ClassFile.FieldType.int)) ∈ Gw := Gw_in 767 (by decide +kernel) rfl
theorem wd_768 : (Jvm.Cond.methodLink "SliceWhyModel" (159 : Nat) ({ cls := "SliceWhyModel", name := "on", desc := "(IZ)I" } : Jvm.MethodName)) ∈ Gw := Gw_in 768 (by decide +kernel) rfl
theorem wd_770 : (Jvm.Cond.instanceMethod ({ cls := "SliceWhyModel", name := "on", desc := "(IZ)I" } : Jvm.MethodName)) ∈ Gw := Gw_in 770 (by decide +kernel) rfl
theorem wd_771 : (Jvm.Cond.code ({ cls := "SliceWhyModel", name := "on", desc := "(IZ)I" } : Jvm.MethodName) prog_6_method_27_code (5 : Nat) (Option.some Jvm.ClassFile.FieldType.int)) ∈ Gw := Gw_in 771 (by decide +kernel) rfl
theorem wd_772 : (Jvm.Cond.methodLink "SliceWhyModel" (168 : Nat) ({ cls := "SliceWhyModel", name := "forward", desc := "(IZ)I" } : Jvm.MethodName)) ∈ Gw := Gw_in 772 (by decide +kernel) rfl
theorem wd_774 : (Jvm.Cond.instanceMethod ({ cls := "SliceWhyModel", name := "forward", desc := "(IZ)I" } : Jvm.MethodName)) ∈ Gw := Gw_in 774 (by decide +kernel) rfl
theorem wd_775 : (Jvm.Cond.code ({ cls := "SliceWhyModel", name := "forward", desc := "(IZ)I" } : Jvm.MethodName) prog_6_method_29_code (5 : Nat) (Option.some Jvm.ClassFile.FieldType.int)) ∈ Gw := Gw_in 775 (by decide +kernel) rfl
theorem wd_776 : (Jvm.Cond.methodLink "SliceWhyLaw" (70 : Nat) ({ cls := "SliceWhyModel", name := "causes", desc := "(I)I" } : Jvm.MethodName)) ∈ Gw := Gw_in 776 (by decide +kernel) rfl
theorem wd_777 : (Jvm.Cond.instanceMethod ({ cls := "SliceWhyModel", name := "causes", desc := "(I)I" } : Jvm.MethodName)) ∈ Gw := Gw_in 777 (by decide +kernel) rfl
theorem wd_778 : (Jvm.Cond.selects "SliceWhyModel" ({ cls := "SliceWhyModel", name := "causes", desc := "(I)I" } : Jvm.MethodName) ({ cls := "SliceWhyModel", name := "causes", desc := "(I)I" } : Jvm.MethodName)) ∈ Gw := Gw_in 778 (by decide +kernel) rfl
theorem wd_779 : (Jvm.Cond.code ({ cls := "SliceWhyModel", name := "causes", desc := "(I)I" } : Jvm.MethodName) prog_6_method_31_code (4 : Nat) (Option.some Jvm.ClassFile.FieldType.int)) ∈ Gw := Gw_in 779 (by decide +kernel) rfl
theorem wd_780 : (Jvm.Cond.methodLink "SliceWhyLaw" (75 : Nat) ({ cls := "SliceWhyModel", name := "cause", desc := "(III)I" } : Jvm.MethodName)) ∈ Gw := Gw_in 780 (by decide +kernel) rfl
theorem wd_781 : (Jvm.Cond.instanceMethod ({ cls := "SliceWhyModel", name := "cause", desc := "(III)I" } : Jvm.MethodName)) ∈ Gw := Gw_in 781 (by decide +kernel) rfl
theorem wd_782 : (Jvm.Cond.selects "SliceWhyModel" ({ cls := "SliceWhyModel", name := "cause", desc := "(III)I" } : Jvm.MethodName) ({ cls := "SliceWhyModel", name := "cause", desc := "(III)I" } : Jvm.MethodName)) ∈ Gw := Gw_in 782 (by decide +kernel) rfl
theorem wd_783 : (Jvm.Cond.code ({ cls := "SliceWhyModel", name := "cause", desc := "(III)I" } : Jvm.MethodName) prog_6_method_32_code (6 : Nat) (Option.some Jvm.ClassFile.FieldType.int)) ∈ Gw := Gw_in 783 (by decide +kernel) rfl
theorem wd_784 : (Jvm.Cond.methodLink "SliceWhyLaw" (79 : Nat) ({ cls := "SliceWhyModel", name := "chop", desc := "(II)I" } : Jvm.MethodName)) ∈ Gw := Gw_in 784 (by decide +kernel) rfl
theorem wd_785 : (Jvm.Cond.instanceMethod ({ cls := "SliceWhyModel", name := "chop", desc := "(II)I" } : Jvm.MethodName)) ∈ Gw := Gw_in 785 (by decide +kernel) rfl
theorem wd_786 : (Jvm.Cond.selects "SliceWhyModel" ({ cls := "SliceWhyModel", name := "chop", desc := "(II)I" } : Jvm.MethodName) ({ cls := "SliceWhyModel", name := "chop", desc := "(II)I" } : Jvm.MethodName)) ∈ Gw := Gw_in 786 (by decide +kernel) rfl
theorem wd_787 : (Jvm.Cond.code ({ cls := "SliceWhyModel", name := "chop", desc := "(II)I" } : Jvm.MethodName) prog_6_method_33_code (3 : Nat) (Option.some Jvm.ClassFile.FieldType.int)) ∈ Gw := Gw_in 787 (by decide +kernel) rfl
theorem wd_788 : (Jvm.Cond.methodLink "SliceWhyLaw" (83 : Nat) ({ cls := "SliceWhyModel", name := "way", desc := "(II)I" } : Jvm.MethodName)) ∈ Gw := Gw_in 788 (by decide +kernel) rfl
theorem wd_789 : (Jvm.Cond.instanceMethod ({ cls := "SliceWhyModel", name := "way", desc := "(II)I" } : Jvm.MethodName)) ∈ Gw := Gw_in 789 (by decide +kernel) rfl
theorem wd_790 : (Jvm.Cond.selects "SliceWhyModel" ({ cls := "SliceWhyModel", name := "way", desc := "(II)I" } : Jvm.MethodName) ({ cls := "SliceWhyModel", name := "way", desc := "(II)I" } : Jvm.MethodName)) ∈ Gw := Gw_in 790 (by decide +kernel) rfl
theorem wd_791 : (Jvm.Cond.code ({ cls := "SliceWhyModel", name := "way", desc := "(II)I" } : Jvm.MethodName) prog_6_method_34_code (7 : Nat) (Option.some Jvm.ClassFile.FieldType.int)) ∈ Gw := Gw_in 791 (by decide +kernel) rfl
theorem wd_792 : (Jvm.Cond.methodLink "SliceWhyLaw" (87 : Nat) ({ cls := "SliceWhyModel", name := "on", desc := "(I)I" } : Jvm.MethodName)) ∈ Gw := Gw_in 792 (by decide +kernel) rfl
theorem wd_793 : (Jvm.Cond.instanceMethod ({ cls := "SliceWhyModel", name := "on", desc := "(I)I" } : Jvm.MethodName)) ∈ Gw := Gw_in 793 (by decide +kernel) rfl
theorem wd_794 : (Jvm.Cond.selects "SliceWhyModel" ({ cls := "SliceWhyModel", name := "on", desc := "(I)I" } : Jvm.MethodName) ({ cls := "SliceWhyModel", name := "on", desc := "(I)I" } : Jvm.MethodName)) ∈ Gw := Gw_in 794 (by decide +kernel) rfl
theorem wd_795 : (Jvm.Cond.code ({ cls := "SliceWhyModel", name := "on", desc := "(I)I" } : Jvm.MethodName) prog_6_method_35_code (2 : Nat) (Option.some Jvm.ClassFile.FieldType.int)) ∈ Gw := Gw_in 795 (by decide +kernel) rfl
theorem wd_796 : (Jvm.Cond.methodLink "SliceWhyLaw" (45 : Nat) ({ cls := "SliceWhyModel", name := "run", desc := "(II)I" } : Jvm.MethodName)) ∈ Gw := Gw_in 796 (by decide +kernel) rfl
theorem wd_797 : (Jvm.Cond.instanceMethod ({ cls := "SliceWhyModel", name := "run", desc := "(II)I" } : Jvm.MethodName)) ∈ Gw := Gw_in 797 (by decide +kernel) rfl
theorem wd_798 : (Jvm.Cond.selects "SliceWhyModel" ({ cls := "SliceWhyModel", name := "run", desc := "(II)I" } : Jvm.MethodName) ({ cls := "SliceWhyModel", name := "run", desc := "(II)I" } : Jvm.MethodName)) ∈ Gw := Gw_in 798 (by decide +kernel) rfl
theorem wd_799 : (Jvm.Cond.code ({ cls := "SliceWhyModel", name := "run", desc := "(II)I" } : Jvm.MethodName) prog_6_method_40_code (5 : Nat) (Option.some Jvm.ClassFile.FieldType.int)) ∈ Gw := Gw_in 799 (by decide +kernel) rfl
theorem wd_800 : (Jvm.Cond.constant "SliceWhyModel" (202 : Nat) (16777215 : Int32)) ∈ Gw := Gw_in 800 (by decide +kernel) rfl
theorem wd_801 : (Jvm.Cond.methodLink "SliceWhyModel" (203 : Nat) ({ cls := "SliceWhyModel", name := "go", desc := "(II[II)I" } : Jvm.MethodName)) ∈ Gw := Gw_in 801 (by decide +kernel) rfl
theorem wd_803 : (Jvm.Cond.instanceMethod ({ cls := "SliceWhyModel", name := "go", desc := "(II[II)I" } : Jvm.MethodName)) ∈ Gw := Gw_in 803 (by decide +kernel) rfl
theorem wd_804 : (Jvm.Cond.code ({ cls := "SliceWhyModel", name := "go", desc := "(II[II)I" } : Jvm.MethodName) prog_6_method_39_code (8 : Nat) (Option.some Jvm.ClassFile.FieldType.int)) ∈ Gw := Gw_in 804 (by decide +kernel) rfl
theorem wd_805 : (Jvm.Cond.methodLink "SliceWhyModel" (191 : Nat) ({ cls := "SliceWhyModel", name := "begin", desc := "([II)V" } : Jvm.MethodName)) ∈ Gw := Gw_in 805 (by decide +kernel) rfl
theorem wd_807 : (Jvm.Cond.instanceMethod ({ cls := "SliceWhyModel", name := "begin", desc := "([II)V" } : Jvm.MethodName)) ∈ Gw := Gw_in 807 (by decide +kernel) rfl
theorem wd_808 : (Jvm.Cond.code ({ cls := "SliceWhyModel", name := "begin", desc := "([II)V" } : Jvm.MethodName) prog_6_method_37_code (6 : Nat) (Option.none : Option Jvm.ClassFile.FieldType)) ∈ Gw := Gw_in 808 (by decide +kernel) rfl
theorem wd_809 : (Jvm.Cond.constant "SliceWhyModel" (174 : Nat) (2147483647 : Int32)) ∈ Gw := Gw_in 809 (by decide +kernel) rfl
theorem wd_810 : (Jvm.Cond.methodLink "SliceWhyModel" (175 : Nat) ({ cls := "SliceWhyModel", name := "many", desc := "(I)I" } : Jvm.MethodName)) ∈ Gw := Gw_in 810 (by decide +kernel) rfl
theorem wd_811 : (Jvm.Cond.static ({ cls := "SliceWhyModel", name := "many", desc := "(I)I" } : Jvm.MethodName)) ∈ Gw := Gw_in 811 (by decide +kernel) rfl
theorem wd_812 : (Jvm.Cond.code ({ cls := "SliceWhyModel", name := "many", desc := "(I)I" } : Jvm.MethodName) prog_6_method_36_code (3 : Nat) (Option.some Jvm.ClassFile.FieldType.int)) ∈ Gw := Gw_in 812 (by decide +kernel) rfl
theorem wd_813 : (Jvm.Cond.methodLink "SliceWhyModel" (195 : Nat) ({ cls := "SliceWhyModel", name := "does", desc := "(I[II)Z" } : Jvm.MethodName)) ∈ Gw := Gw_in 813 (by decide +kernel) rfl
theorem wd_815 : (Jvm.Cond.instanceMethod ({ cls := "SliceWhyModel", name := "does", desc := "(I[II)Z" } : Jvm.MethodName)) ∈ Gw := Gw_in 815 (by decide +kernel) rfl
theorem wd_816 : (Jvm.Cond.code ({ cls := "SliceWhyModel", name := "does", desc := "(I[II)Z" } : Jvm.MethodName) prog_6_method_38_code (8 : Nat) (Option.some Jvm.ClassFile.FieldType.boolean)) ∈ Gw := Gw_in 816 (by decide +kernel) rfl
theorem wd_817 : (Jvm.Cond.constant "SliceWhyModel" (187 : Nat) (1000000007 : Int32)) ∈ Gw := Gw_in 817 (by decide +kernel) rfl
theorem wd_818 : (Jvm.Cond.methodLink "SliceWhyLaw" (49 : Nat) ({ cls := "SliceWhyModel", name := "seen", desc := "()I" } : Jvm.MethodName)) ∈ Gw := Gw_in 818 (by decide +kernel) rfl
theorem wd_819 : (Jvm.Cond.instanceMethod ({ cls := "SliceWhyModel", name := "seen", desc := "()I" } : Jvm.MethodName)) ∈ Gw := Gw_in 819 (by decide +kernel) rfl
theorem wd_820 : (Jvm.Cond.selects "SliceWhyModel" ({ cls := "SliceWhyModel", name := "seen", desc := "()I" } : Jvm.MethodName) ({ cls := "SliceWhyModel", name := "seen", desc := "()I" } : Jvm.MethodName)) ∈ Gw := Gw_in 820 (by decide +kernel) rfl
theorem wd_821 : (Jvm.Cond.code ({ cls := "SliceWhyModel", name := "seen", desc := "()I" } : Jvm.MethodName) prog_6_method_41_code (1 : Nat) (Option.some Jvm.ClassFile.FieldType.int)) ∈ Gw := Gw_in 821 (by decide +kernel) rfl
theorem wd_822 : (Jvm.Cond.methodLink "SliceWhyLaw" (54 : Nat) ({ cls := "SliceWhyModel", name := "saw", desc := "(I)I" } : Jvm.MethodName)) ∈ Gw := Gw_in 822 (by decide +kernel) rfl
theorem wd_823 : (Jvm.Cond.instanceMethod ({ cls := "SliceWhyModel", name := "saw", desc := "(I)I" } : Jvm.MethodName)) ∈ Gw := Gw_in 823 (by decide +kernel) rfl
theorem wd_824 : (Jvm.Cond.selects "SliceWhyModel" ({ cls := "SliceWhyModel", name := "saw", desc := "(I)I" } : Jvm.MethodName) ({ cls := "SliceWhyModel", name := "saw", desc := "(I)I" } : Jvm.MethodName)) ∈ Gw := Gw_in 824 (by decide +kernel) rfl
theorem wd_825 : (Jvm.Cond.code ({ cls := "SliceWhyModel", name := "saw", desc := "(I)I" } : Jvm.MethodName) prog_6_method_42_code (2 : Nat) (Option.some Jvm.ClassFile.FieldType.int)) ∈ Gw := Gw_in 825 (by decide +kernel) rfl
theorem wd_826 : (Jvm.Cond.methodLink "SliceWhyLaw" (58 : Nat) ({ cls := "SliceWhyModel", name := "left", desc := "(I)I" } : Jvm.MethodName)) ∈ Gw := Gw_in 826 (by decide +kernel) rfl
theorem wd_827 : (Jvm.Cond.instanceMethod ({ cls := "SliceWhyModel", name := "left", desc := "(I)I" } : Jvm.MethodName)) ∈ Gw := Gw_in 827 (by decide +kernel) rfl
theorem wd_828 : (Jvm.Cond.selects "SliceWhyModel" ({ cls := "SliceWhyModel", name := "left", desc := "(I)I" } : Jvm.MethodName) ({ cls := "SliceWhyModel", name := "left", desc := "(I)I" } : Jvm.MethodName)) ∈ Gw := Gw_in 828 (by decide +kernel) rfl
theorem wd_829 : (Jvm.Cond.code ({ cls := "SliceWhyModel", name := "left", desc := "(I)I" } : Jvm.MethodName) prog_6_method_43_code (2 : Nat) (Option.some Jvm.ClassFile.FieldType.int)) ∈ Gw := Gw_in 829 (by decide +kernel) rfl
theorem wd_830 : (Jvm.Cond.constantLong "SliceWhyModel" (213 : Nat) (2 : Int64)) ∈ Gw := Gw_in 830 (by decide +kernel) rfl
theorem wd_831 : (Jvm.Cond.constantLong "SliceWhyModel" (215 : Nat) (9 : Int64)) ∈ Gw := Gw_in 831 (by decide +kernel) rfl
theorem wd_832 : (Jvm.Cond.methodLink "SliceWhyLaw" (91 : Nat) ({ cls := "SliceWhyModel", name := "same", desc := "(I)I" } : Jvm.MethodName)) ∈ Gw := Gw_in 832 (by decide +kernel) rfl
theorem wd_833 : (Jvm.Cond.instanceMethod ({ cls := "SliceWhyModel", name := "same", desc := "(I)I" } : Jvm.MethodName)) ∈ Gw := Gw_in 833 (by decide +kernel) rfl
theorem wd_834 : (Jvm.Cond.selects "SliceWhyModel" ({ cls := "SliceWhyModel", name := "same", desc := "(I)I" } : Jvm.MethodName) ({ cls := "SliceWhyModel", name := "same", desc := "(I)I" } : Jvm.MethodName)) ∈ Gw := Gw_in 834 (by decide +kernel) rfl
theorem wd_835 : (Jvm.Cond.code ({ cls := "SliceWhyModel", name := "same", desc := "(I)I" } : Jvm.MethodName) prog_6_method_46_code (2 : Nat) (Option.some Jvm.ClassFile.FieldType.int)) ∈ Gw := Gw_in 835 (by decide +kernel) rfl
theorem wd_836 : (Jvm.Cond.methodLink "SliceWhyModel" (220 : Nat) ({ cls := "SliceWhyModel", name := "whole", desc := "(I[II)I" } : Jvm.MethodName)) ∈ Gw := Gw_in 836 (by decide +kernel) rfl
theorem wd_838 : (Jvm.Cond.instanceMethod ({ cls := "SliceWhyModel", name := "whole", desc := "(I[II)I" } : Jvm.MethodName)) ∈ Gw := Gw_in 838 (by decide +kernel) rfl
theorem wd_839 : (Jvm.Cond.code ({ cls := "SliceWhyModel", name := "whole", desc := "(I[II)I" } : Jvm.MethodName) prog_6_method_44_code (6 : Nat) (Option.some Jvm.ClassFile.FieldType.int)) ∈ Gw := Gw_in 839 (by decide +kernel) rfl
theorem wd_840 : (Jvm.Cond.methodLink "SliceWhyModel" (224 : Nat) ({ cls := "SliceWhyModel", name := "isSame", desc := "()Z" } : Jvm.MethodName)) ∈ Gw := Gw_in 840 (by decide +kernel) rfl
theorem wd_842 : (Jvm.Cond.instanceMethod ({ cls := "SliceWhyModel", name := "isSame", desc := "()Z" } : Jvm.MethodName)) ∈ Gw := Gw_in 842 (by decide +kernel) rfl
theorem wd_843 : (Jvm.Cond.code ({ cls := "SliceWhyModel", name := "isSame", desc := "()Z" } : Jvm.MethodName) prog_6_method_45_code (3 : Nat) (Option.some Jvm.ClassFile.FieldType.boolean)) ∈ Gw := Gw_in 843 (by decide +kernel) rfl
theorem wd_844 : (Jvm.Cond.methodLink "SliceWhyLaw" (95 : Nat) ({ cls := "SliceWhyModel", name := "test", desc := "()I" } : Jvm.MethodName)) ∈ Gw := Gw_in 844 (by decide +kernel) rfl
theorem wd_845 : (Jvm.Cond.instanceMethod ({ cls := "SliceWhyModel", name := "test", desc := "()I" } : Jvm.MethodName)) ∈ Gw := Gw_in 845 (by decide +kernel) rfl
theorem wd_846 : (Jvm.Cond.selects "SliceWhyModel" ({ cls := "SliceWhyModel", name := "test", desc := "()I" } : Jvm.MethodName) ({ cls := "SliceWhyModel", name := "test", desc := "()I" } : Jvm.MethodName)) ∈ Gw := Gw_in 846 (by decide +kernel) rfl
theorem wd_847 : (Jvm.Cond.code ({ cls := "SliceWhyModel", name := "test", desc := "()I" } : Jvm.MethodName) prog_6_method_47_code (2 : Nat) (Option.some Jvm.ClassFile.FieldType.int)) ∈ Gw := Gw_in 847 (by decide +kernel) rfl
theorem wd_848 : (Jvm.Cond.methodLink "SliceWhyLaw" (99 : Nat) ({ cls := "SliceWhyModel", name := "untest", desc := "()I" } : Jvm.MethodName)) ∈ Gw := Gw_in 848 (by decide +kernel) rfl
theorem wd_849 : (Jvm.Cond.instanceMethod ({ cls := "SliceWhyModel", name := "untest", desc := "()I" } : Jvm.MethodName)) ∈ Gw := Gw_in 849 (by decide +kernel) rfl
theorem wd_850 : (Jvm.Cond.selects "SliceWhyModel" ({ cls := "SliceWhyModel", name := "untest", desc := "()I" } : Jvm.MethodName) ({ cls := "SliceWhyModel", name := "untest", desc := "()I" } : Jvm.MethodName)) ∈ Gw := Gw_in 850 (by decide +kernel) rfl
theorem wd_851 : (Jvm.Cond.code ({ cls := "SliceWhyModel", name := "untest", desc := "()I" } : Jvm.MethodName) prog_6_method_48_code (2 : Nat) (Option.some Jvm.ClassFile.FieldType.int)) ∈ Gw := Gw_in 851 (by decide +kernel) rfl
theorem wd_852 : (Jvm.Cond.methodLink "SliceWhyLaw" (103 : Nat) ({ cls := "SliceWhyModel", name := "least", desc := "(I)I" } : Jvm.MethodName)) ∈ Gw := Gw_in 852 (by decide +kernel) rfl
theorem wd_853 : (Jvm.Cond.instanceMethod ({ cls := "SliceWhyModel", name := "least", desc := "(I)I" } : Jvm.MethodName)) ∈ Gw := Gw_in 853 (by decide +kernel) rfl
theorem wd_854 : (Jvm.Cond.selects "SliceWhyModel" ({ cls := "SliceWhyModel", name := "least", desc := "(I)I" } : Jvm.MethodName) ({ cls := "SliceWhyModel", name := "least", desc := "(I)I" } : Jvm.MethodName)) ∈ Gw := Gw_in 854 (by decide +kernel) rfl
theorem wd_855 : (Jvm.Cond.code ({ cls := "SliceWhyModel", name := "least", desc := "(I)I" } : Jvm.MethodName) prog_6_method_50_code (6 : Nat) (Option.some Jvm.ClassFile.FieldType.int)) ∈ Gw := Gw_in 855 (by decide +kernel) rfl
theorem wd_856 : (Jvm.Cond.methodLink "SliceWhyModel" (231 : Nat) ({ cls := "SliceWhyModel", name := "agrees", desc := "(II)Z" } : Jvm.MethodName)) ∈ Gw := Gw_in 856 (by decide +kernel) rfl
theorem wd_858 : (Jvm.Cond.instanceMethod ({ cls := "SliceWhyModel", name := "agrees", desc := "(II)Z" } : Jvm.MethodName)) ∈ Gw := Gw_in 858 (by decide +kernel) rfl
theorem wd_859 : (Jvm.Cond.code ({ cls := "SliceWhyModel", name := "agrees", desc := "(II)Z" } : Jvm.MethodName) prog_6_method_49_code (6 : Nat) (Option.some Jvm.ClassFile.FieldType.boolean)) ∈ Gw := Gw_in 859 (by decide +kernel) rfl
theorem wd_860 : (Jvm.Cond.methodLink "SliceWhyLaw" (107 : Nat) ({ cls := "SliceWhyModel", name := "count", desc := "(I)I" } : Jvm.MethodName)) ∈ Gw := Gw_in 860 (by decide +kernel) rfl
theorem wd_861 : (Jvm.Cond.instanceMethod ({ cls := "SliceWhyModel", name := "count", desc := "(I)I" } : Jvm.MethodName)) ∈ Gw := Gw_in 861 (by decide +kernel) rfl
theorem wd_862 : (Jvm.Cond.selects "SliceWhyModel" ({ cls := "SliceWhyModel", name := "count", desc := "(I)I" } : Jvm.MethodName) ({ cls := "SliceWhyModel", name := "count", desc := "(I)I" } : Jvm.MethodName)) ∈ Gw := Gw_in 862 (by decide +kernel) rfl
theorem wd_863 : (Jvm.Cond.code ({ cls := "SliceWhyModel", name := "count", desc := "(I)I" } : Jvm.MethodName) prog_6_method_51_code (2 : Nat) (Option.some Jvm.ClassFile.FieldType.int)) ∈ Gw := Gw_in 863 (by decide +kernel) rfl
set_option maxRecDepth 20000 in
theorem inX0 : ∀ w ∈ u_ws RX0 TX0 9, w ∈ Gw := by decide +kernel
set_option maxRecDepth 20000 in
theorem inX1 : ∀ w ∈ u_ws RX1 TX1 8, w ∈ Gw := by decide +kernel
set_option maxRecDepth 20000 in
theorem inX2 : ∀ w ∈ u_ws RX2 TX2 10, w ∈ Gw := by decide +kernel
set_option maxRecDepth 20000 in
theorem inX3 : ∀ w ∈ u_ws RX3 TX3 12, w ∈ Gw := by decide +kernel
set_option maxRecDepth 20000 in
theorem inX4 : ∀ w ∈ u_ws RX4 TX4 35, w ∈ Gw := by decide +kernel
