theorem kw_5 : (Jvm.Cond.initialized "java/lang/Math") ∈ gA := gA_in (List.mem_of_getElem? (i := 72) (by decide +kernel)) (by decide +kernel)
theorem kw_102 : (Jvm.Cond.static ({ cls := "java/lang/Math", name := "min", desc := "(II)I" } : Jvm.MethodName)) ∈ gA := gA_in (List.mem_of_getElem? (i := 169) (by decide +kernel)) (by decide +kernel)
theorem kw_103 : (Jvm.Cond.code ({ cls := "java/lang/Math", name := "min", desc := "(II)I" } : Jvm.MethodName) prog_9_method_69_code 2 (Option.some Jvm.ClassFile.FieldType.int)) ∈ gA := gA_in (List.mem_of_getElem? (i := 170) (by decide +kernel)) (by decide +kernel)
section
variable {ad : Nat → Nat} {cI cZ cT : ClassId} {v u : ST}
theorem at_C_0 : (wC ad cI cZ cT v u)[0]? = some (ad 0, .inr (4, [.int (u.1 0), .int (u.1 1), .ref (ad 1), .ref (ad 3), .ref (ad 5), .ref (ad 7), .ref (ad 9), .ref (ad 2), .int (u.1 2), .int (u.1 3), .int (u.1 4), .int (u.1 5), .int (u.1 6), .int (u.1 7), .int (u.1 8), .int (u.1 9), .int (u.1 10), .int (u.1 11)])) := rfl
theorem at_C_1 : (wC ad cI cZ cT v u)[1]? = some (ad 1, .inr (2, [.int (u.1 12), .ref (ad 11), .ref (ad 13), .int (u.1 13), .int (u.1 14), .int (u.1 15)])) := rfl
theorem at_C_2 : (wC ad cI cZ cT v u)[2]? = some (ad 2, .inr (3, [.ref (ad 17), .ref (ad 15), .ref (aq ad (u.1 32)), .int (u.1 16), .int (u.1 17), .int (u.1 18), .int (u.1 19), tv ad (u.1 33), .int (u.1 20), .int (u.1 21), .int (u.1 22), .int (u.1 23), .int (u.1 24)])) := rfl
theorem at_C_3 : (wC ad cI cZ cT v u)[3]? = some (ad 3, .inr (0, [.ref (ad 4), .int (u.1 25)])) := rfl
theorem at_C_5 : (wC ad cI cZ cT v u)[5]? = some (ad 5, .inr (0, [.ref (ad 6), .int (u.1 26)])) := rfl
theorem at_C_7 : (wC ad cI cZ cT v u)[7]? = some (ad 7, .inr (0, [.ref (ad 8), .int (u.1 27)])) := rfl
theorem at_C_9 : (wC ad cI cZ cT v u)[9]? = some (ad 9, .inr (0, [.ref (ad 10), .int (u.1 28)])) := rfl
theorem at_C_11 : (wC ad cI cZ cT v u)[11]? = some (ad 11, .inr (0, [.ref (ad 12), .int (u.1 29)])) := rfl
theorem at_C_13 : (wC ad cI cZ cT v u)[13]? = some (ad 13, .inr (0, [.ref (ad 14), .int (u.1 30)])) := rfl
theorem at_C_15 : (wC ad cI cZ cT v u)[15]? = some (ad 15, .inr (0, [.ref (ad 16), .int (u.1 31)])) := rfl
theorem at_M_30 : (wM ad cI cZ cT u v)[30]? = some (ad 30, .inr (5, [.int (v.1 0), .int (v.1 1), .int (v.1 2), .int (v.1 3), .int (v.1 4), .int (v.1 5), .int (v.1 6), .int (v.1 7), .int (v.1 8), .int (v.1 9), .int (v.1 10), .ref (ad 31), .ref (ad 32), .int (v.1 13), .int (v.1 14), .int (v.1 15), .int (v.1 16), .ref (ad 33), .int (v.1 18), .ref (ad 34), .int (v.1 20), .ref (ad 35), .int (v.1 22), .int (v.1 23), .ref (ad 36), .ref (ad 37), .ref (ad 38), .int (v.1 27), .int (v.1 28)])) := rfl
end
