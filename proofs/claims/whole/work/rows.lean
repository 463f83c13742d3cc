section
/-! Leaves of the class and of the reference: static methods over ints and longs alone. Printed by wip/gen/mk1.py. -/
def RX7 : String := "Ruleengine$Rule"
def RX9 : String := "Ruleengine$State"
def RX11 : String := "Ruleengine"
def RX14 : String := "RuleengineModel"
theorem lf_m1 : (-1 : Int32).toInt = -1 := by decide
abbrev cX11_isSlot : ByteArray := prog_1_method_45_code
def yX11_isSlot : MethodName := ⟨RX11, "isSlot", "(I)Z"⟩
def wsX11_isSlot : List Cond := .code yX11_isSlot cX11_isSlot 1 (some .boolean) :: ([])
theorem dX11_isSlot_0 : decode cX11_isSlot 0 = .ok (.iload_n 0, 1) := by decide +kernel
theorem dX11_isSlot_1 : decode cX11_isSlot 1 = .ok (.ifCond .lt 13, 3) := by decide +kernel
theorem dX11_isSlot_4 : decode cX11_isSlot 4 = .ok (.iload_n 0, 1) := by decide +kernel
theorem dX11_isSlot_5 : decode cX11_isSlot 5 = .ok (.bipush 6, 2) := by decide +kernel
theorem dX11_isSlot_7 : decode cX11_isSlot 7 = .ok (.if_icmp .ge 7, 3) := by decide +kernel
theorem dX11_isSlot_10 : decode cX11_isSlot 10 = .ok (.iconst 1, 1) := by decide +kernel
theorem dX11_isSlot_11 : decode cX11_isSlot 11 = .ok (.goto 4, 3) := by decide +kernel
theorem dX11_isSlot_14 : decode cX11_isSlot 14 = .ok (.iconst 0, 1) := by decide +kernel
theorem dX11_isSlot_15 : decode cX11_isSlot 15 = .ok (.ireturn, 1) := by decide +kernel
abbrev cX11_isModule : ByteArray := prog_1_method_46_code
def yX11_isModule : MethodName := ⟨RX11, "isModule", "(I)Z"⟩
def wsX11_isModule : List Cond := .code yX11_isModule cX11_isModule 1 (some .boolean) :: ([])
theorem dX11_isModule_0 : decode cX11_isModule 0 = .ok (.iload_n 0, 1) := by decide +kernel
theorem dX11_isModule_1 : decode cX11_isModule 1 = .ok (.ifCond .lt 12, 3) := by decide +kernel
theorem dX11_isModule_4 : decode cX11_isModule 4 = .ok (.iload_n 0, 1) := by decide +kernel
theorem dX11_isModule_5 : decode cX11_isModule 5 = .ok (.iconst 3, 1) := by decide +kernel
theorem dX11_isModule_6 : decode cX11_isModule 6 = .ok (.if_icmp .ge 7, 3) := by decide +kernel
theorem dX11_isModule_9 : decode cX11_isModule 9 = .ok (.iconst 1, 1) := by decide +kernel
theorem dX11_isModule_10 : decode cX11_isModule 10 = .ok (.goto 4, 3) := by decide +kernel
theorem dX11_isModule_13 : decode cX11_isModule 13 = .ok (.iconst 0, 1) := by decide +kernel
theorem dX11_isModule_14 : decode cX11_isModule 14 = .ok (.ireturn, 1) := by decide +kernel
abbrev cX11_isKind : ByteArray := prog_1_method_47_code
def yX11_isKind : MethodName := ⟨RX11, "isKind", "(I)Z"⟩
def wsX11_isKind : List Cond := .code yX11_isKind cX11_isKind 1 (some .boolean) :: ([])
theorem dX11_isKind_0 : decode cX11_isKind 0 = .ok (.iload_n 0, 1) := by decide +kernel
theorem dX11_isKind_1 : decode cX11_isKind 1 = .ok (.ifCond .lt 13, 3) := by decide +kernel
theorem dX11_isKind_4 : decode cX11_isKind 4 = .ok (.iload_n 0, 1) := by decide +kernel
theorem dX11_isKind_5 : decode cX11_isKind 5 = .ok (.bipush 6, 2) := by decide +kernel
theorem dX11_isKind_7 : decode cX11_isKind 7 = .ok (.if_icmp .ge 7, 3) := by decide +kernel
theorem dX11_isKind_10 : decode cX11_isKind 10 = .ok (.iconst 1, 1) := by decide +kernel
theorem dX11_isKind_11 : decode cX11_isKind 11 = .ok (.goto 4, 3) := by decide +kernel
theorem dX11_isKind_14 : decode cX11_isKind 14 = .ok (.iconst 0, 1) := by decide +kernel
theorem dX11_isKind_15 : decode cX11_isKind 15 = .ok (.ireturn, 1) := by decide +kernel
abbrev cX11_isCode : ByteArray := prog_1_method_48_code
def yX11_isCode : MethodName := ⟨RX11, "isCode", "(I)Z"⟩
def wsX11_isCode : List Cond := .code yX11_isCode cX11_isCode 1 (some .boolean) :: ([])
theorem dX11_isCode_0 : decode cX11_isCode 0 = .ok (.iload_n 0, 1) := by decide +kernel
theorem dX11_isCode_1 : decode cX11_isCode 1 = .ok (.iconst (-1), 1) := by decide +kernel
theorem dX11_isCode_2 : decode cX11_isCode 2 = .ok (.if_icmp .lt 13, 3) := by decide +kernel
theorem dX11_isCode_5 : decode cX11_isCode 5 = .ok (.iload_n 0, 1) := by decide +kernel
theorem dX11_isCode_6 : decode cX11_isCode 6 = .ok (.bipush 39, 2) := by decide +kernel
theorem dX11_isCode_8 : decode cX11_isCode 8 = .ok (.if_icmp .gt 7, 3) := by decide +kernel
theorem dX11_isCode_11 : decode cX11_isCode 11 = .ok (.iconst 1, 1) := by decide +kernel
theorem dX11_isCode_12 : decode cX11_isCode 12 = .ok (.goto 4, 3) := by decide +kernel
theorem dX11_isCode_15 : decode cX11_isCode 15 = .ok (.iconst 0, 1) := by decide +kernel
theorem dX11_isCode_16 : decode cX11_isCode 16 = .ok (.ireturn, 1) := by decide +kernel
abbrev cX11_isValue : ByteArray := prog_1_method_49_code
def yX11_isValue : MethodName := ⟨RX11, "isValue", "(I)Z"⟩
def wsX11_isValue : List Cond := .code yX11_isValue cX11_isValue 1 (some .boolean) :: ([])
theorem dX11_isValue_0 : decode cX11_isValue 0 = .ok (.iload_n 0, 1) := by decide +kernel
theorem dX11_isValue_1 : decode cX11_isValue 1 = .ok (.ifCond .lt 13, 3) := by decide +kernel
theorem dX11_isValue_4 : decode cX11_isValue 4 = .ok (.iload_n 0, 1) := by decide +kernel
theorem dX11_isValue_5 : decode cX11_isValue 5 = .ok (.bipush 10, 2) := by decide +kernel
theorem dX11_isValue_7 : decode cX11_isValue 7 = .ok (.if_icmp .ge 7, 3) := by decide +kernel
theorem dX11_isValue_10 : decode cX11_isValue 10 = .ok (.iconst 1, 1) := by decide +kernel
theorem dX11_isValue_11 : decode cX11_isValue 11 = .ok (.goto 4, 3) := by decide +kernel
theorem dX11_isValue_14 : decode cX11_isValue 14 = .ok (.iconst 0, 1) := by decide +kernel
theorem dX11_isValue_15 : decode cX11_isValue 15 = .ok (.ireturn, 1) := by decide +kernel
abbrev cX11_isVariable : ByteArray := prog_1_method_50_code
def yX11_isVariable : MethodName := ⟨RX11, "isVariable", "(I)Z"⟩
def wsX11_isVariable : List Cond := .code yX11_isVariable cX11_isVariable 1 (some .boolean) :: ([])
theorem dX11_isVariable_0 : decode cX11_isVariable 0 = .ok (.iload_n 0, 1) := by decide +kernel
theorem dX11_isVariable_1 : decode cX11_isVariable 1 = .ok (.bipush 16, 2) := by decide +kernel
theorem dX11_isVariable_3 : decode cX11_isVariable 3 = .ok (.if_icmp .lt 13, 3) := by decide +kernel
theorem dX11_isVariable_6 : decode cX11_isVariable 6 = .ok (.iload_n 0, 1) := by decide +kernel
theorem dX11_isVariable_7 : decode cX11_isVariable 7 = .ok (.bipush 22, 2) := by decide +kernel
theorem dX11_isVariable_9 : decode cX11_isVariable 9 = .ok (.if_icmp .ge 7, 3) := by decide +kernel
theorem dX11_isVariable_12 : decode cX11_isVariable 12 = .ok (.iconst 1, 1) := by decide +kernel
theorem dX11_isVariable_13 : decode cX11_isVariable 13 = .ok (.goto 4, 3) := by decide +kernel
theorem dX11_isVariable_16 : decode cX11_isVariable 16 = .ok (.iconst 0, 1) := by decide +kernel
theorem dX11_isVariable_17 : decode cX11_isVariable 17 = .ok (.ireturn, 1) := by decide +kernel
abbrev cX11_countAfter : ByteArray := prog_1_method_52_code
def yX11_countAfter : MethodName := ⟨RX11, "countAfter", "(II)I"⟩
def wsX11_countAfter : List Cond := .code yX11_countAfter cX11_countAfter 2 (some .int) :: ([])
theorem dX11_countAfter_0 : decode cX11_countAfter 0 = .ok (.iload_n 0, 1) := by decide +kernel
theorem dX11_countAfter_1 : decode cX11_countAfter 1 = .ok (.bipush 60, 2) := by decide +kernel
theorem dX11_countAfter_3 : decode cX11_countAfter 3 = .ok (.if_icmp .gt 8, 3) := by decide +kernel
theorem dX11_countAfter_6 : decode cX11_countAfter 6 = .ok (.iload_n 1, 1) := by decide +kernel
theorem dX11_countAfter_7 : decode cX11_countAfter 7 = .ok (.iconst (-1), 1) := by decide +kernel
theorem dX11_countAfter_8 : decode cX11_countAfter 8 = .ok (.if_icmp .ne 5, 3) := by decide +kernel
theorem dX11_countAfter_11 : decode cX11_countAfter 11 = .ok (.iload_n 0, 1) := by decide +kernel
theorem dX11_countAfter_12 : decode cX11_countAfter 12 = .ok (.ireturn, 1) := by decide +kernel
theorem dX11_countAfter_13 : decode cX11_countAfter 13 = .ok (.iload_n 1, 1) := by decide +kernel
theorem dX11_countAfter_14 : decode cX11_countAfter 14 = .ok (.bipush 38, 2) := by decide +kernel
theorem dX11_countAfter_16 : decode cX11_countAfter 16 = .ok (.if_icmp .ne 5, 3) := by decide +kernel
theorem dX11_countAfter_19 : decode cX11_countAfter 19 = .ok (.iconst 0, 1) := by decide +kernel
theorem dX11_countAfter_20 : decode cX11_countAfter 20 = .ok (.ireturn, 1) := by decide +kernel
theorem dX11_countAfter_21 : decode cX11_countAfter 21 = .ok (.iload_n 1, 1) := by decide +kernel
theorem dX11_countAfter_22 : decode cX11_countAfter 22 = .ok (.bipush 39, 2) := by decide +kernel
theorem dX11_countAfter_24 : decode cX11_countAfter 24 = .ok (.if_icmp .ne 15, 3) := by decide +kernel
theorem dX11_countAfter_27 : decode cX11_countAfter 27 = .ok (.iload_n 0, 1) := by decide +kernel
theorem dX11_countAfter_28 : decode cX11_countAfter 28 = .ok (.ifCond .le 9, 3) := by decide +kernel
theorem dX11_countAfter_31 : decode cX11_countAfter 31 = .ok (.iload_n 0, 1) := by decide +kernel
theorem dX11_countAfter_32 : decode cX11_countAfter 32 = .ok (.iconst 1, 1) := by decide +kernel
theorem dX11_countAfter_33 : decode cX11_countAfter 33 = .ok (.isub, 1) := by decide +kernel
theorem dX11_countAfter_34 : decode cX11_countAfter 34 = .ok (.goto 4, 3) := by decide +kernel
theorem dX11_countAfter_37 : decode cX11_countAfter 37 = .ok (.iconst 0, 1) := by decide +kernel
theorem dX11_countAfter_38 : decode cX11_countAfter 38 = .ok (.ireturn, 1) := by decide +kernel
theorem dX11_countAfter_39 : decode cX11_countAfter 39 = .ok (.iload_n 0, 1) := by decide +kernel
theorem dX11_countAfter_40 : decode cX11_countAfter 40 = .ok (.iconst 1, 1) := by decide +kernel
theorem dX11_countAfter_41 : decode cX11_countAfter 41 = .ok (.iadd, 1) := by decide +kernel
theorem dX11_countAfter_42 : decode cX11_countAfter 42 = .ok (.ireturn, 1) := by decide +kernel
abbrev cX7_numberIn : ByteArray := prog_9_method_3_code
def yX7_numberIn : MethodName := ⟨RX7, "numberIn", "(JI)I"⟩
def wsX7_numberIn : List Cond := .code yX7_numberIn cX7_numberIn 3 (some .int) :: ([])
theorem dX7_numberIn_0 : decode cX7_numberIn 0 = .ok (.lload_n 0, 1) := by decide +kernel
theorem dX7_numberIn_1 : decode cX7_numberIn 1 = .ok (.bipush 8, 2) := by decide +kernel
theorem dX7_numberIn_3 : decode cX7_numberIn 3 = .ok (.iload_n 2, 1) := by decide +kernel
theorem dX7_numberIn_4 : decode cX7_numberIn 4 = .ok (.imul, 1) := by decide +kernel
theorem dX7_numberIn_5 : decode cX7_numberIn 5 = .ok (.lshr, 1) := by decide +kernel
theorem dX7_numberIn_6 : decode cX7_numberIn 6 = .ok (.l2i, 1) := by decide +kernel
theorem dX7_numberIn_7 : decode cX7_numberIn 7 = .ok (.sipush 255, 3) := by decide +kernel
theorem dX7_numberIn_10 : decode cX7_numberIn 10 = .ok (.iand, 1) := by decide +kernel
theorem dX7_numberIn_11 : decode cX7_numberIn 11 = .ok (.ireturn, 1) := by decide +kernel
abbrev cX9_signatureIn : ByteArray := prog_11_method_3_code
def yX9_signatureIn : MethodName := ⟨RX9, "signatureIn", "(J)J"⟩
def wsX9_signatureIn : List Cond := .code yX9_signatureIn cX9_signatureIn 2 (some .long) :: ([.constantLong RX9 51 (1099511627775)])
theorem dX9_signatureIn_0 : decode cX9_signatureIn 0 = .ok (.lload_n 0, 1) := by decide +kernel
theorem dX9_signatureIn_1 : decode cX9_signatureIn 1 = .ok (.bipush 16, 2) := by decide +kernel
theorem dX9_signatureIn_3 : decode cX9_signatureIn 3 = .ok (.lshr, 1) := by decide +kernel
theorem dX9_signatureIn_4 : decode cX9_signatureIn 4 = .ok (.ldc2_w 51, 3) := by decide +kernel
theorem dX9_signatureIn_7 : decode cX9_signatureIn 7 = .ok (.land, 1) := by decide +kernel
theorem dX9_signatureIn_8 : decode cX9_signatureIn 8 = .ok (.lreturn, 1) := by decide +kernel
abbrev cX9_reasonsIn : ByteArray := prog_11_method_4_code
def yX9_reasonsIn : MethodName := ⟨RX9, "reasonsIn", "(J)I"⟩
def wsX9_reasonsIn : List Cond := .code yX9_reasonsIn cX9_reasonsIn 2 (some .int) :: ([.constant RX9 53 (65535)])
theorem dX9_reasonsIn_0 : decode cX9_reasonsIn 0 = .ok (.lload_n 0, 1) := by decide +kernel
theorem dX9_reasonsIn_1 : decode cX9_reasonsIn 1 = .ok (.l2i, 1) := by decide +kernel
theorem dX9_reasonsIn_2 : decode cX9_reasonsIn 2 = .ok (.ldc 53, 2) := by decide +kernel
theorem dX9_reasonsIn_4 : decode cX9_reasonsIn 4 = .ok (.iand, 1) := by decide +kernel
theorem dX9_reasonsIn_5 : decode cX9_reasonsIn 5 = .ok (.ireturn, 1) := by decide +kernel
abbrev cX14_one : ByteArray := prog_15_method_2_code
def yX14_one : MethodName := ⟨RX14, "one", "(Z)I"⟩
def wsX14_one : List Cond := .code yX14_one cX14_one 1 (some .int) :: ([])
theorem dX14_one_0 : decode cX14_one 0 = .ok (.iload_n 0, 1) := by decide +kernel
theorem dX14_one_1 : decode cX14_one 1 = .ok (.ifCond .eq 7, 3) := by decide +kernel
theorem dX14_one_4 : decode cX14_one 4 = .ok (.iconst 1, 1) := by decide +kernel
theorem dX14_one_5 : decode cX14_one 5 = .ok (.goto 4, 3) := by decide +kernel
theorem dX14_one_8 : decode cX14_one 8 = .ok (.iconst 0, 1) := by decide +kernel
theorem dX14_one_9 : decode cX14_one 9 = .ok (.ireturn, 1) := by decide +kernel
abbrev cX14_isIn : ByteArray := prog_15_method_1_code
def yX14_isIn : MethodName := ⟨RX14, "isIn", "(III)Z"⟩
def wsX14_isIn : List Cond := .code yX14_isIn cX14_isIn 3 (some .boolean) :: ([])
theorem dX14_isIn_0 : decode cX14_isIn 0 = .ok (.iload_n 0, 1) := by decide +kernel
theorem dX14_isIn_1 : decode cX14_isIn 1 = .ok (.iload_n 1, 1) := by decide +kernel
theorem dX14_isIn_2 : decode cX14_isIn 2 = .ok (.if_icmp .lt 12, 3) := by decide +kernel
theorem dX14_isIn_5 : decode cX14_isIn 5 = .ok (.iload_n 0, 1) := by decide +kernel
theorem dX14_isIn_6 : decode cX14_isIn 6 = .ok (.iload_n 2, 1) := by decide +kernel
theorem dX14_isIn_7 : decode cX14_isIn 7 = .ok (.if_icmp .gt 7, 3) := by decide +kernel
theorem dX14_isIn_10 : decode cX14_isIn 10 = .ok (.iconst 1, 1) := by decide +kernel
theorem dX14_isIn_11 : decode cX14_isIn 11 = .ok (.goto 4, 3) := by decide +kernel
theorem dX14_isIn_14 : decode cX14_isIn 14 = .ok (.iconst 0, 1) := by decide +kernel
theorem dX14_isIn_15 : decode cX14_isIn 15 = .ok (.ireturn, 1) := by decide +kernel
abbrev cX14_isKind : ByteArray := prog_15_method_3_code
def yX14_isKind : MethodName := ⟨RX14, "isKind", "(C)Z"⟩
def wsX14_isKind : List Cond := .code yX14_isKind cX14_isKind 1 (some .boolean) :: ([])
theorem dX14_isKind_0 : decode cX14_isKind 0 = .ok (.iload_n 0, 1) := by decide +kernel
theorem dX14_isKind_1 : decode cX14_isKind 1 = .ok (.bipush 65, 2) := by decide +kernel
theorem dX14_isKind_3 : decode cX14_isKind 3 = .ok (.if_icmp .lt 13, 3) := by decide +kernel
theorem dX14_isKind_6 : decode cX14_isKind 6 = .ok (.iload_n 0, 1) := by decide +kernel
theorem dX14_isKind_7 : decode cX14_isKind 7 = .ok (.bipush 70, 2) := by decide +kernel
theorem dX14_isKind_9 : decode cX14_isKind 9 = .ok (.if_icmp .gt 7, 3) := by decide +kernel
theorem dX14_isKind_12 : decode cX14_isKind 12 = .ok (.iconst 1, 1) := by decide +kernel
theorem dX14_isKind_13 : decode cX14_isKind 13 = .ok (.goto 4, 3) := by decide +kernel
theorem dX14_isKind_16 : decode cX14_isKind 16 = .ok (.iconst 0, 1) := by decide +kernel
theorem dX14_isKind_17 : decode cX14_isKind 17 = .ok (.ireturn, 1) := by decide +kernel
abbrev cX14_isDigit : ByteArray := prog_15_method_4_code
def yX14_isDigit : MethodName := ⟨RX14, "isDigit", "(C)Z"⟩
def wsX14_isDigit : List Cond := .code yX14_isDigit cX14_isDigit 1 (some .boolean) :: ([])
theorem dX14_isDigit_0 : decode cX14_isDigit 0 = .ok (.iload_n 0, 1) := by decide +kernel
theorem dX14_isDigit_1 : decode cX14_isDigit 1 = .ok (.bipush 48, 2) := by decide +kernel
theorem dX14_isDigit_3 : decode cX14_isDigit 3 = .ok (.if_icmp .lt 13, 3) := by decide +kernel
theorem dX14_isDigit_6 : decode cX14_isDigit 6 = .ok (.iload_n 0, 1) := by decide +kernel
theorem dX14_isDigit_7 : decode cX14_isDigit 7 = .ok (.bipush 57, 2) := by decide +kernel
theorem dX14_isDigit_9 : decode cX14_isDigit 9 = .ok (.if_icmp .gt 7, 3) := by decide +kernel
theorem dX14_isDigit_12 : decode cX14_isDigit 12 = .ok (.iconst 1, 1) := by decide +kernel
theorem dX14_isDigit_13 : decode cX14_isDigit 13 = .ok (.goto 4, 3) := by decide +kernel
theorem dX14_isDigit_16 : decode cX14_isDigit 16 = .ok (.iconst 0, 1) := by decide +kernel
theorem dX14_isDigit_17 : decode cX14_isDigit 17 = .ok (.ireturn, 1) := by decide +kernel
abbrev cX14_isVariable : ByteArray := prog_15_method_5_code
def yX14_isVariable : MethodName := ⟨RX14, "isVariable", "(C)Z"⟩
def wsX14_isVariable : List Cond := .code yX14_isVariable cX14_isVariable 1 (some .boolean) :: ([])
theorem dX14_isVariable_0 : decode cX14_isVariable 0 = .ok (.iload_n 0, 1) := by decide +kernel
theorem dX14_isVariable_1 : decode cX14_isVariable 1 = .ok (.bipush 117, 2) := by decide +kernel
theorem dX14_isVariable_3 : decode cX14_isVariable 3 = .ok (.if_icmp .lt 13, 3) := by decide +kernel
theorem dX14_isVariable_6 : decode cX14_isVariable 6 = .ok (.iload_n 0, 1) := by decide +kernel
theorem dX14_isVariable_7 : decode cX14_isVariable 7 = .ok (.bipush 122, 2) := by decide +kernel
theorem dX14_isVariable_9 : decode cX14_isVariable 9 = .ok (.if_icmp .gt 7, 3) := by decide +kernel
theorem dX14_isVariable_12 : decode cX14_isVariable 12 = .ok (.iconst 1, 1) := by decide +kernel
theorem dX14_isVariable_13 : decode cX14_isVariable 13 = .ok (.goto 4, 3) := by decide +kernel
theorem dX14_isVariable_16 : decode cX14_isVariable 16 = .ok (.iconst 0, 1) := by decide +kernel
theorem dX14_isVariable_17 : decode cX14_isVariable 17 = .ok (.ireturn, 1) := by decide +kernel
set_option maxRecDepth 100000 in
/-- isSlot: 0 to 5 -/
theorem kX11_isSlot (l : Launch) (p0 : Int32) : Met l yX11_isSlot wsX11_isSlot ({ frames := 0, cells := 0, slots := 0, locals := 0 }) (va_Pc [.int p0] (fun _ => True)) (va_Qi (fun (r : Int32) (_ : Unit) => r = if 0 ≤ p0.toInt ∧ p0.toInt < 6 then 1 else 0) (fun _ _ => True) (fun _ => False)) 0 0 (fun _ => False) := by
  refine Met.ofW (cc := cX11_isSlot) (maxL := 1) (ret := (some .boolean)) (by decide) rfl ?_
  intro p e s m args below meth c s₁ B hml hv
  obtain ⟨rfl, -⟩ := hv
  have hx := B.exec
  have hb := B.bytes
  have hr := B.returns
  have hlocks := B.notSynchronized
  have hS : va_S (fun _ => False) s.heap s.heap [] := va_S.rf
  have hl := lv_entry ([.int p0]) (n := 1) (Nat.le_of_ble_eq_true rfl)
  rw [lg_entry_eq]
  generalize (lg_sl ([.int p0]) ++ List.replicate (1 - (lg_sl ([.int p0])).length) Slot.unset).toArray = ls at hl ⊢
  have hl : lv_has ls 1 [(0, .int p0)] := hl
  refine lv_iload_n hx hb dX11_isSlot_0 rfl (lv_at hl 0 rfl) ?_
  refine lv_if_lt hx hb dX11_isSlot_1 rfl (fun q1 => ?_) (fun q1 => ?_)
  · refine lv_iconst (v := (0 : Int32)) hx hb dX11_isSlot_14 (by decide) ?_
    exact W.zret hx hb hr rfl (fun t ht hW => ⟨⟨_, (), rfl, (by simp only [Int32.lt_iff_toInt_lt, Int32.le_iff_toInt_le, Int32.reduceToInt, lf_m1] at *; first | (rw [if_pos (by omega)]) | (rw [if_neg (by omega)])), trivial⟩, hS.F ht⟩) hS.2.2 dX11_isSlot_15
  · refine lv_iload_n hx hb dX11_isSlot_4 rfl (lv_at hl 0 rfl) ?_
    refine lv_bipush (v := (6 : Int32)) hx hb dX11_isSlot_5 (by decide) ?_
    refine lv_icmp_ge hx hb dX11_isSlot_7 rfl (fun q2 => ?_) (fun q2 => ?_)
    · refine lv_iconst (v := (0 : Int32)) hx hb dX11_isSlot_14 (by decide) ?_
      exact W.zret hx hb hr rfl (fun t ht hW => ⟨⟨_, (), rfl, (by simp only [Int32.lt_iff_toInt_lt, Int32.le_iff_toInt_le, Int32.reduceToInt, lf_m1] at *; first | (rw [if_pos (by omega)]) | (rw [if_neg (by omega)])), trivial⟩, hS.F ht⟩) hS.2.2 dX11_isSlot_15
    · refine lv_iconst (v := (1 : Int32)) hx hb dX11_isSlot_10 (by decide) ?_
      refine lv_goto hx hb dX11_isSlot_11 rfl ?_
      exact W.zret hx hb hr rfl (fun t ht hW => ⟨⟨_, (), rfl, (by simp only [Int32.lt_iff_toInt_lt, Int32.le_iff_toInt_le, Int32.reduceToInt, lf_m1] at *; first | (rw [if_pos (by omega)]) | (rw [if_neg (by omega)])), trivial⟩, hS.F ht⟩) hS.2.2 dX11_isSlot_15
set_option maxRecDepth 100000 in
/-- isModule: 0 to 2 -/
theorem kX11_isModule (l : Launch) (p0 : Int32) : Met l yX11_isModule wsX11_isModule ({ frames := 0, cells := 0, slots := 0, locals := 0 }) (va_Pc [.int p0] (fun _ => True)) (va_Qi (fun (r : Int32) (_ : Unit) => r = if 0 ≤ p0.toInt ∧ p0.toInt < 3 then 1 else 0) (fun _ _ => True) (fun _ => False)) 0 0 (fun _ => False) := by
  refine Met.ofW (cc := cX11_isModule) (maxL := 1) (ret := (some .boolean)) (by decide) rfl ?_
  intro p e s m args below meth c s₁ B hml hv
  obtain ⟨rfl, -⟩ := hv
  have hx := B.exec
  have hb := B.bytes
  have hr := B.returns
  have hlocks := B.notSynchronized
  have hS : va_S (fun _ => False) s.heap s.heap [] := va_S.rf
  have hl := lv_entry ([.int p0]) (n := 1) (Nat.le_of_ble_eq_true rfl)
  rw [lg_entry_eq]
  generalize (lg_sl ([.int p0]) ++ List.replicate (1 - (lg_sl ([.int p0])).length) Slot.unset).toArray = ls at hl ⊢
  have hl : lv_has ls 1 [(0, .int p0)] := hl
  refine lv_iload_n hx hb dX11_isModule_0 rfl (lv_at hl 0 rfl) ?_
  refine lv_if_lt hx hb dX11_isModule_1 rfl (fun q1 => ?_) (fun q1 => ?_)
  · refine lv_iconst (v := (0 : Int32)) hx hb dX11_isModule_13 (by decide) ?_
    exact W.zret hx hb hr rfl (fun t ht hW => ⟨⟨_, (), rfl, (by simp only [Int32.lt_iff_toInt_lt, Int32.le_iff_toInt_le, Int32.reduceToInt, lf_m1] at *; first | (rw [if_pos (by omega)]) | (rw [if_neg (by omega)])), trivial⟩, hS.F ht⟩) hS.2.2 dX11_isModule_14
  · refine lv_iload_n hx hb dX11_isModule_4 rfl (lv_at hl 0 rfl) ?_
    refine lv_iconst (v := (3 : Int32)) hx hb dX11_isModule_5 (by decide) ?_
    refine lv_icmp_ge hx hb dX11_isModule_6 rfl (fun q2 => ?_) (fun q2 => ?_)
    · refine lv_iconst (v := (0 : Int32)) hx hb dX11_isModule_13 (by decide) ?_
      exact W.zret hx hb hr rfl (fun t ht hW => ⟨⟨_, (), rfl, (by simp only [Int32.lt_iff_toInt_lt, Int32.le_iff_toInt_le, Int32.reduceToInt, lf_m1] at *; first | (rw [if_pos (by omega)]) | (rw [if_neg (by omega)])), trivial⟩, hS.F ht⟩) hS.2.2 dX11_isModule_14
    · refine lv_iconst (v := (1 : Int32)) hx hb dX11_isModule_9 (by decide) ?_
      refine lv_goto hx hb dX11_isModule_10 rfl ?_
      exact W.zret hx hb hr rfl (fun t ht hW => ⟨⟨_, (), rfl, (by simp only [Int32.lt_iff_toInt_lt, Int32.le_iff_toInt_le, Int32.reduceToInt, lf_m1] at *; first | (rw [if_pos (by omega)]) | (rw [if_neg (by omega)])), trivial⟩, hS.F ht⟩) hS.2.2 dX11_isModule_14
set_option maxRecDepth 100000 in
/-- isKind: 0 to 5 -/
theorem kX11_isKind (l : Launch) (p0 : Int32) : Met l yX11_isKind wsX11_isKind ({ frames := 0, cells := 0, slots := 0, locals := 0 }) (va_Pc [.int p0] (fun _ => True)) (va_Qi (fun (r : Int32) (_ : Unit) => r = if 0 ≤ p0.toInt ∧ p0.toInt < 6 then 1 else 0) (fun _ _ => True) (fun _ => False)) 0 0 (fun _ => False) := by
  refine Met.ofW (cc := cX11_isKind) (maxL := 1) (ret := (some .boolean)) (by decide) rfl ?_
  intro p e s m args below meth c s₁ B hml hv
  obtain ⟨rfl, -⟩ := hv
  have hx := B.exec
  have hb := B.bytes
  have hr := B.returns
  have hlocks := B.notSynchronized
  have hS : va_S (fun _ => False) s.heap s.heap [] := va_S.rf
  have hl := lv_entry ([.int p0]) (n := 1) (Nat.le_of_ble_eq_true rfl)
  rw [lg_entry_eq]
  generalize (lg_sl ([.int p0]) ++ List.replicate (1 - (lg_sl ([.int p0])).length) Slot.unset).toArray = ls at hl ⊢
  have hl : lv_has ls 1 [(0, .int p0)] := hl
  refine lv_iload_n hx hb dX11_isKind_0 rfl (lv_at hl 0 rfl) ?_
  refine lv_if_lt hx hb dX11_isKind_1 rfl (fun q1 => ?_) (fun q1 => ?_)
  · refine lv_iconst (v := (0 : Int32)) hx hb dX11_isKind_14 (by decide) ?_
    exact W.zret hx hb hr rfl (fun t ht hW => ⟨⟨_, (), rfl, (by simp only [Int32.lt_iff_toInt_lt, Int32.le_iff_toInt_le, Int32.reduceToInt, lf_m1] at *; first | (rw [if_pos (by omega)]) | (rw [if_neg (by omega)])), trivial⟩, hS.F ht⟩) hS.2.2 dX11_isKind_15
  · refine lv_iload_n hx hb dX11_isKind_4 rfl (lv_at hl 0 rfl) ?_
    refine lv_bipush (v := (6 : Int32)) hx hb dX11_isKind_5 (by decide) ?_
    refine lv_icmp_ge hx hb dX11_isKind_7 rfl (fun q2 => ?_) (fun q2 => ?_)
    · refine lv_iconst (v := (0 : Int32)) hx hb dX11_isKind_14 (by decide) ?_
      exact W.zret hx hb hr rfl (fun t ht hW => ⟨⟨_, (), rfl, (by simp only [Int32.lt_iff_toInt_lt, Int32.le_iff_toInt_le, Int32.reduceToInt, lf_m1] at *; first | (rw [if_pos (by omega)]) | (rw [if_neg (by omega)])), trivial⟩, hS.F ht⟩) hS.2.2 dX11_isKind_15
    · refine lv_iconst (v := (1 : Int32)) hx hb dX11_isKind_10 (by decide) ?_
      refine lv_goto hx hb dX11_isKind_11 rfl ?_
      exact W.zret hx hb hr rfl (fun t ht hW => ⟨⟨_, (), rfl, (by simp only [Int32.lt_iff_toInt_lt, Int32.le_iff_toInt_le, Int32.reduceToInt, lf_m1] at *; first | (rw [if_pos (by omega)]) | (rw [if_neg (by omega)])), trivial⟩, hS.F ht⟩) hS.2.2 dX11_isKind_15
set_option maxRecDepth 100000 in
/-- isCode: -1 to 39 -/
theorem kX11_isCode (l : Launch) (p0 : Int32) : Met l yX11_isCode wsX11_isCode ({ frames := 0, cells := 0, slots := 0, locals := 0 }) (va_Pc [.int p0] (fun _ => True)) (va_Qi (fun (r : Int32) (_ : Unit) => r = if -1 ≤ p0.toInt ∧ p0.toInt < 40 then 1 else 0) (fun _ _ => True) (fun _ => False)) 0 0 (fun _ => False) := by
  refine Met.ofW (cc := cX11_isCode) (maxL := 1) (ret := (some .boolean)) (by decide) rfl ?_
  intro p e s m args below meth c s₁ B hml hv
  obtain ⟨rfl, -⟩ := hv
  have hx := B.exec
  have hb := B.bytes
  have hr := B.returns
  have hlocks := B.notSynchronized
  have hS : va_S (fun _ => False) s.heap s.heap [] := va_S.rf
  have hl := lv_entry ([.int p0]) (n := 1) (Nat.le_of_ble_eq_true rfl)
  rw [lg_entry_eq]
  generalize (lg_sl ([.int p0]) ++ List.replicate (1 - (lg_sl ([.int p0])).length) Slot.unset).toArray = ls at hl ⊢
  have hl : lv_has ls 1 [(0, .int p0)] := hl
  refine lv_iload_n hx hb dX11_isCode_0 rfl (lv_at hl 0 rfl) ?_
  refine lv_iconst (v := (-1 : Int32)) hx hb dX11_isCode_1 (by decide) ?_
  refine lv_icmp_lt hx hb dX11_isCode_2 rfl (fun q1 => ?_) (fun q1 => ?_)
  · refine lv_iconst (v := (0 : Int32)) hx hb dX11_isCode_15 (by decide) ?_
    exact W.zret hx hb hr rfl (fun t ht hW => ⟨⟨_, (), rfl, (by simp only [Int32.lt_iff_toInt_lt, Int32.le_iff_toInt_le, Int32.reduceToInt, lf_m1] at *; first | (rw [if_pos (by omega)]) | (rw [if_neg (by omega)])), trivial⟩, hS.F ht⟩) hS.2.2 dX11_isCode_16
  · refine lv_iload_n hx hb dX11_isCode_5 rfl (lv_at hl 0 rfl) ?_
    refine lv_bipush (v := (39 : Int32)) hx hb dX11_isCode_6 (by decide) ?_
    refine lv_icmp_gt hx hb dX11_isCode_8 rfl (fun q2 => ?_) (fun q2 => ?_)
    · refine lv_iconst (v := (0 : Int32)) hx hb dX11_isCode_15 (by decide) ?_
      exact W.zret hx hb hr rfl (fun t ht hW => ⟨⟨_, (), rfl, (by simp only [Int32.lt_iff_toInt_lt, Int32.le_iff_toInt_le, Int32.reduceToInt, lf_m1] at *; first | (rw [if_pos (by omega)]) | (rw [if_neg (by omega)])), trivial⟩, hS.F ht⟩) hS.2.2 dX11_isCode_16
    · refine lv_iconst (v := (1 : Int32)) hx hb dX11_isCode_11 (by decide) ?_
      refine lv_goto hx hb dX11_isCode_12 rfl ?_
      exact W.zret hx hb hr rfl (fun t ht hW => ⟨⟨_, (), rfl, (by simp only [Int32.lt_iff_toInt_lt, Int32.le_iff_toInt_le, Int32.reduceToInt, lf_m1] at *; first | (rw [if_pos (by omega)]) | (rw [if_neg (by omega)])), trivial⟩, hS.F ht⟩) hS.2.2 dX11_isCode_16
set_option maxRecDepth 100000 in
/-- isValue: 0 to 9 -/
theorem kX11_isValue (l : Launch) (p0 : Int32) : Met l yX11_isValue wsX11_isValue ({ frames := 0, cells := 0, slots := 0, locals := 0 }) (va_Pc [.int p0] (fun _ => True)) (va_Qi (fun (r : Int32) (_ : Unit) => r = if 0 ≤ p0.toInt ∧ p0.toInt < 10 then 1 else 0) (fun _ _ => True) (fun _ => False)) 0 0 (fun _ => False) := by
  refine Met.ofW (cc := cX11_isValue) (maxL := 1) (ret := (some .boolean)) (by decide) rfl ?_
  intro p e s m args below meth c s₁ B hml hv
  obtain ⟨rfl, -⟩ := hv
  have hx := B.exec
  have hb := B.bytes
  have hr := B.returns
  have hlocks := B.notSynchronized
  have hS : va_S (fun _ => False) s.heap s.heap [] := va_S.rf
  have hl := lv_entry ([.int p0]) (n := 1) (Nat.le_of_ble_eq_true rfl)
  rw [lg_entry_eq]
  generalize (lg_sl ([.int p0]) ++ List.replicate (1 - (lg_sl ([.int p0])).length) Slot.unset).toArray = ls at hl ⊢
  have hl : lv_has ls 1 [(0, .int p0)] := hl
  refine lv_iload_n hx hb dX11_isValue_0 rfl (lv_at hl 0 rfl) ?_
  refine lv_if_lt hx hb dX11_isValue_1 rfl (fun q1 => ?_) (fun q1 => ?_)
  · refine lv_iconst (v := (0 : Int32)) hx hb dX11_isValue_14 (by decide) ?_
    exact W.zret hx hb hr rfl (fun t ht hW => ⟨⟨_, (), rfl, (by simp only [Int32.lt_iff_toInt_lt, Int32.le_iff_toInt_le, Int32.reduceToInt, lf_m1] at *; first | (rw [if_pos (by omega)]) | (rw [if_neg (by omega)])), trivial⟩, hS.F ht⟩) hS.2.2 dX11_isValue_15
  · refine lv_iload_n hx hb dX11_isValue_4 rfl (lv_at hl 0 rfl) ?_
    refine lv_bipush (v := (10 : Int32)) hx hb dX11_isValue_5 (by decide) ?_
    refine lv_icmp_ge hx hb dX11_isValue_7 rfl (fun q2 => ?_) (fun q2 => ?_)
    · refine lv_iconst (v := (0 : Int32)) hx hb dX11_isValue_14 (by decide) ?_
      exact W.zret hx hb hr rfl (fun t ht hW => ⟨⟨_, (), rfl, (by simp only [Int32.lt_iff_toInt_lt, Int32.le_iff_toInt_le, Int32.reduceToInt, lf_m1] at *; first | (rw [if_pos (by omega)]) | (rw [if_neg (by omega)])), trivial⟩, hS.F ht⟩) hS.2.2 dX11_isValue_15
    · refine lv_iconst (v := (1 : Int32)) hx hb dX11_isValue_10 (by decide) ?_
      refine lv_goto hx hb dX11_isValue_11 rfl ?_
      exact W.zret hx hb hr rfl (fun t ht hW => ⟨⟨_, (), rfl, (by simp only [Int32.lt_iff_toInt_lt, Int32.le_iff_toInt_le, Int32.reduceToInt, lf_m1] at *; first | (rw [if_pos (by omega)]) | (rw [if_neg (by omega)])), trivial⟩, hS.F ht⟩) hS.2.2 dX11_isValue_15
set_option maxRecDepth 100000 in
/-- isVariable: u to z, 16 to 21 -/
theorem kX11_isVariable (l : Launch) (p0 : Int32) : Met l yX11_isVariable wsX11_isVariable ({ frames := 0, cells := 0, slots := 0, locals := 0 }) (va_Pc [.int p0] (fun _ => True)) (va_Qi (fun (r : Int32) (_ : Unit) => r = if 16 ≤ p0.toInt ∧ p0.toInt < 22 then 1 else 0) (fun _ _ => True) (fun _ => False)) 0 0 (fun _ => False) := by
  refine Met.ofW (cc := cX11_isVariable) (maxL := 1) (ret := (some .boolean)) (by decide) rfl ?_
  intro p e s m args below meth c s₁ B hml hv
  obtain ⟨rfl, -⟩ := hv
  have hx := B.exec
  have hb := B.bytes
  have hr := B.returns
  have hlocks := B.notSynchronized
  have hS : va_S (fun _ => False) s.heap s.heap [] := va_S.rf
  have hl := lv_entry ([.int p0]) (n := 1) (Nat.le_of_ble_eq_true rfl)
  rw [lg_entry_eq]
  generalize (lg_sl ([.int p0]) ++ List.replicate (1 - (lg_sl ([.int p0])).length) Slot.unset).toArray = ls at hl ⊢
  have hl : lv_has ls 1 [(0, .int p0)] := hl
  refine lv_iload_n hx hb dX11_isVariable_0 rfl (lv_at hl 0 rfl) ?_
  refine lv_bipush (v := (16 : Int32)) hx hb dX11_isVariable_1 (by decide) ?_
  refine lv_icmp_lt hx hb dX11_isVariable_3 rfl (fun q1 => ?_) (fun q1 => ?_)
  · refine lv_iconst (v := (0 : Int32)) hx hb dX11_isVariable_16 (by decide) ?_
    exact W.zret hx hb hr rfl (fun t ht hW => ⟨⟨_, (), rfl, (by simp only [Int32.lt_iff_toInt_lt, Int32.le_iff_toInt_le, Int32.reduceToInt, lf_m1] at *; first | (rw [if_pos (by omega)]) | (rw [if_neg (by omega)])), trivial⟩, hS.F ht⟩) hS.2.2 dX11_isVariable_17
  · refine lv_iload_n hx hb dX11_isVariable_6 rfl (lv_at hl 0 rfl) ?_
    refine lv_bipush (v := (22 : Int32)) hx hb dX11_isVariable_7 (by decide) ?_
    refine lv_icmp_ge hx hb dX11_isVariable_9 rfl (fun q2 => ?_) (fun q2 => ?_)
    · refine lv_iconst (v := (0 : Int32)) hx hb dX11_isVariable_16 (by decide) ?_
      exact W.zret hx hb hr rfl (fun t ht hW => ⟨⟨_, (), rfl, (by simp only [Int32.lt_iff_toInt_lt, Int32.le_iff_toInt_le, Int32.reduceToInt, lf_m1] at *; first | (rw [if_pos (by omega)]) | (rw [if_neg (by omega)])), trivial⟩, hS.F ht⟩) hS.2.2 dX11_isVariable_17
    · refine lv_iconst (v := (1 : Int32)) hx hb dX11_isVariable_12 (by decide) ?_
      refine lv_goto hx hb dX11_isVariable_13 rfl ?_
      exact W.zret hx hb hr rfl (fun t ht hW => ⟨⟨_, (), rfl, (by simp only [Int32.lt_iff_toInt_lt, Int32.le_iff_toInt_le, Int32.reduceToInt, lf_m1] at *; first | (rw [if_pos (by omega)]) | (rw [if_neg (by omega)])), trivial⟩, hS.F ht⟩) hS.2.2 dX11_isVariable_17
set_option maxRecDepth 100000 in
/-- countAfter: how many signs TYPED has behind a code; a count beyond 60 stays -/
theorem kX11_countAfter (l : Launch) (p0 : Int32) (p1 : Int32) : Met l yX11_countAfter wsX11_countAfter ({ frames := 0, cells := 0, slots := 0, locals := 0 }) (va_Pc [.int p0, .int p1] (fun _ => True)) (va_Qi (fun (r : Int32) (_ : Unit) => r = if 60 < p0 ∨ p1 = -1 then p0 else if p1 = 38 then 0 else if p1 = 39 then (if 0 < p0 then p0 - 1 else 0) else p0 + 1) (fun _ _ => True) (fun _ => False)) 0 0 (fun _ => False) := by
  refine Met.ofW (cc := cX11_countAfter) (maxL := 2) (ret := (some .int)) (by decide) rfl ?_
  intro p e s m args below meth c s₁ B hml hv
  obtain ⟨rfl, -⟩ := hv
  have hx := B.exec
  have hb := B.bytes
  have hr := B.returns
  have hlocks := B.notSynchronized
  have hS : va_S (fun _ => False) s.heap s.heap [] := va_S.rf
  have hl := lv_entry ([.int p0, .int p1]) (n := 2) (Nat.le_of_ble_eq_true rfl)
  rw [lg_entry_eq]
  generalize (lg_sl ([.int p0, .int p1]) ++ List.replicate (2 - (lg_sl ([.int p0, .int p1])).length) Slot.unset).toArray = ls at hl ⊢
  have hl : lv_has ls 2 [(0, .int p0), (1, .int p1)] := hl
  refine lv_iload_n hx hb dX11_countAfter_0 rfl (lv_at hl 0 rfl) ?_
  refine lv_bipush (v := (60 : Int32)) hx hb dX11_countAfter_1 (by decide) ?_
  refine lv_icmp_gt hx hb dX11_countAfter_3 rfl (fun q1 => ?_) (fun q1 => ?_)
  · refine lv_iload_n hx hb dX11_countAfter_11 rfl (lv_at hl 0 rfl) ?_
    exact W.iret hx hb hr (fun t ht hW => ⟨⟨_, (), rfl, (by (try simp only [ne_eq, Classical.not_not] at *); first | (simp [*]; done) | (simp [*]; intro h9; exact absurd h9 (Int32.not_lt.mpr (by assumption)))), trivial⟩, hS.F ht⟩) hS.2.2 dX11_countAfter_12
  · refine lv_iload_n hx hb dX11_countAfter_6 rfl (lv_at hl 1 rfl) ?_
    refine lv_iconst (v := (-1 : Int32)) hx hb dX11_countAfter_7 (by decide) ?_
    refine lv_icmp_ne hx hb dX11_countAfter_8 rfl (fun q2 => ?_) (fun q2 => ?_)
    · refine lv_iload_n hx hb dX11_countAfter_13 rfl (lv_at hl 1 rfl) ?_
      refine lv_bipush (v := (38 : Int32)) hx hb dX11_countAfter_14 (by decide) ?_
      refine lv_icmp_ne hx hb dX11_countAfter_16 rfl (fun q3 => ?_) (fun q3 => ?_)
      · refine lv_iload_n hx hb dX11_countAfter_21 rfl (lv_at hl 1 rfl) ?_
        refine lv_bipush (v := (39 : Int32)) hx hb dX11_countAfter_22 (by decide) ?_
        refine lv_icmp_ne hx hb dX11_countAfter_24 rfl (fun q4 => ?_) (fun q4 => ?_)
        · refine lv_iload_n hx hb dX11_countAfter_39 rfl (lv_at hl 0 rfl) ?_
          refine lv_iconst (v := (1 : Int32)) hx hb dX11_countAfter_40 (by decide) ?_
          refine lv_iadd hx hb dX11_countAfter_41 ?_
          exact W.iret hx hb hr (fun t ht hW => ⟨⟨_, (), rfl, (by (try simp only [ne_eq, Classical.not_not] at *); first | (simp [*]; done) | (simp [*]; intro h9; exact absurd h9 (Int32.not_lt.mpr (by assumption)))), trivial⟩, hS.F ht⟩) hS.2.2 dX11_countAfter_42
        · refine lv_iload_n hx hb dX11_countAfter_27 rfl (lv_at hl 0 rfl) ?_
          refine lv_if_le hx hb dX11_countAfter_28 rfl (fun q5 => ?_) (fun q5 => ?_)
          · refine lv_iconst (v := (0 : Int32)) hx hb dX11_countAfter_37 (by decide) ?_
            exact W.iret hx hb hr (fun t ht hW => ⟨⟨_, (), rfl, (by (try simp only [ne_eq, Classical.not_not] at *); first | (simp [*]; done) | (simp [*]; intro h9; exact absurd h9 (Int32.not_lt.mpr (by assumption)))), trivial⟩, hS.F ht⟩) hS.2.2 dX11_countAfter_38
          · refine lv_iload_n hx hb dX11_countAfter_31 rfl (lv_at hl 0 rfl) ?_
            refine lv_iconst (v := (1 : Int32)) hx hb dX11_countAfter_32 (by decide) ?_
            refine lv_isub hx hb dX11_countAfter_33 ?_
            refine lv_goto hx hb dX11_countAfter_34 rfl ?_
            exact W.iret hx hb hr (fun t ht hW => ⟨⟨_, (), rfl, (by (try simp only [ne_eq, Classical.not_not] at *); first | (simp [*]; done) | (simp [*]; intro h9; exact absurd h9 (Int32.not_lt.mpr (by assumption)))), trivial⟩, hS.F ht⟩) hS.2.2 dX11_countAfter_38
      · refine lv_iconst (v := (0 : Int32)) hx hb dX11_countAfter_19 (by decide) ?_
        exact W.iret hx hb hr (fun t ht hW => ⟨⟨_, (), rfl, (by (try simp only [ne_eq, Classical.not_not] at *); first | (simp [*]; done) | (simp [*]; intro h9; exact absurd h9 (Int32.not_lt.mpr (by assumption)))), trivial⟩, hS.F ht⟩) hS.2.2 dX11_countAfter_20
    · refine lv_iload_n hx hb dX11_countAfter_11 rfl (lv_at hl 0 rfl) ?_
      exact W.iret hx hb hr (fun t ht hW => ⟨⟨_, (), rfl, (by (try simp only [ne_eq, Classical.not_not] at *); first | (simp [*]; done) | (simp [*]; intro h9; exact absurd h9 (Int32.not_lt.mpr (by assumption)))), trivial⟩, hS.F ht⟩) hS.2.2 dX11_countAfter_12
set_option maxRecDepth 100000 in
/-- numberIn: the byte of a condition -/
theorem kX7_numberIn (l : Launch) (p0 : Int64) (p1 : Int32) : Met l yX7_numberIn wsX7_numberIn ({ frames := 0, cells := 0, slots := 0, locals := 0 }) (va_Pc [.long p0, .int p1] (fun _ => True)) (va_Qi (fun (r : Int32) (_ : Unit) => r = (p0 >>> ((8 * p1).toInt64 &&& 63)).toInt32 &&& 255) (fun _ _ => True) (fun _ => False)) 0 0 (fun _ => False) := by
  refine Met.ofW (cc := cX7_numberIn) (maxL := 3) (ret := (some .int)) (by decide) rfl ?_
  intro p e s m args below meth c s₁ B hml hv
  obtain ⟨rfl, -⟩ := hv
  have hx := B.exec
  have hb := B.bytes
  have hr := B.returns
  have hlocks := B.notSynchronized
  have hS : va_S (fun _ => False) s.heap s.heap [] := va_S.rf
  have hl := lv_entry ([.long p0, .int p1]) (n := 3) (Nat.le_of_ble_eq_true rfl)
  rw [lg_entry_eq]
  generalize (lg_sl ([.long p0, .int p1]) ++ List.replicate (3 - (lg_sl ([.long p0, .int p1])).length) Slot.unset).toArray = ls at hl ⊢
  have hl : lv_has ls 3 [(0, .long p0), (2, .int p1)] := hl
  refine lv_lload_n hx hb dX7_numberIn_0 rfl (lv_at hl 0 rfl) ?_
  refine lv_bipush (v := (8 : Int32)) hx hb dX7_numberIn_1 (by decide) ?_
  refine lv_iload_n hx hb dX7_numberIn_3 rfl (lv_at hl 1 rfl) ?_
  refine lv_imul hx hb dX7_numberIn_4 ?_
  refine lv_lshr hx hb dX7_numberIn_5 rfl ?_
  refine lv_l2i hx hb dX7_numberIn_6 rfl ?_
  refine lv_sipush (v := (255 : Int32)) hx hb dX7_numberIn_7 (by decide) ?_
  refine lv_iand hx hb dX7_numberIn_10 ?_
  exact W.iret hx hb hr (fun t ht hW => ⟨⟨_, (), rfl, rfl, trivial⟩, hS.F ht⟩) hS.2.2 dX7_numberIn_11
set_option maxRecDepth 100000 in
/-- signatureIn -/
theorem kX9_signatureIn (l : Launch) (p0 : Int64) : Met l yX9_signatureIn wsX9_signatureIn ({ frames := 0, cells := 0, slots := 0, locals := 0 }) (va_Pc [.long p0] (fun _ => True)) (va_Ql (fun (r : Int64) (_ : Unit) => r = (p0 >>> ((16 : Int32).toInt64 &&& 63)) &&& 1099511627775) (fun _ _ => True) (fun _ => False)) 0 0 (fun _ => False) := by
  refine Met.ofW (cc := cX9_signatureIn) (maxL := 2) (ret := (some .long)) (by decide) rfl ?_
  intro p e s m args below meth c s₁ B hml hv
  obtain ⟨rfl, -⟩ := hv
  have hx := B.exec
  have hb := B.bytes
  have hr := B.returns
  have hlocks := B.notSynchronized
  have hts := atoms_spec (ws := wsX9_signatureIn) B.pre
  have hown : s.vm.findClass RX9 = some m.cls := findClass_of_methodNamed B.named
  have hS : va_S (fun _ => False) s.heap s.heap [] := va_S.rf
  have hl := lv_entry ([.long p0]) (n := 2) (Nat.le_of_ble_eq_true rfl)
  rw [lg_entry_eq]
  generalize (lg_sl ([.long p0]) ++ List.replicate (2 - (lg_sl ([.long p0])).length) Slot.unset).toArray = ls at hl ⊢
  have hl : lv_has ls 2 [(0, .long p0)] := hl
  refine lv_lload_n hx hb dX9_signatureIn_0 rfl (lv_at hl 0 rfl) ?_
  refine lv_bipush (v := (16 : Int32)) hx hb dX9_signatureIn_1 (by decide) ?_
  refine lv_lshr hx hb dX9_signatureIn_3 rfl ?_
  refine lv_ldc2 hx hb hown (hts (.constantLong RX9 51 (1099511627775)) (by decide +kernel)) dX9_signatureIn_4 ?_
  refine lv_land hx hb dX9_signatureIn_7 ?_
  exact W.lret hx hb hr (fun t ht hW => ⟨⟨_, (), rfl, rfl, trivial⟩, hS.F ht⟩) hS.2.2 dX9_signatureIn_8
set_option maxRecDepth 100000 in
/-- reasonsIn -/
theorem kX9_reasonsIn (l : Launch) (p0 : Int64) : Met l yX9_reasonsIn wsX9_reasonsIn ({ frames := 0, cells := 0, slots := 0, locals := 0 }) (va_Pc [.long p0] (fun _ => True)) (va_Qi (fun (r : Int32) (_ : Unit) => r = p0.toInt32 &&& 65535) (fun _ _ => True) (fun _ => False)) 0 0 (fun _ => False) := by
  refine Met.ofW (cc := cX9_reasonsIn) (maxL := 2) (ret := (some .int)) (by decide) rfl ?_
  intro p e s m args below meth c s₁ B hml hv
  obtain ⟨rfl, -⟩ := hv
  have hx := B.exec
  have hb := B.bytes
  have hr := B.returns
  have hlocks := B.notSynchronized
  have hts := atoms_spec (ws := wsX9_reasonsIn) B.pre
  have hown : s.vm.findClass RX9 = some m.cls := findClass_of_methodNamed B.named
  have hS : va_S (fun _ => False) s.heap s.heap [] := va_S.rf
  have hl := lv_entry ([.long p0]) (n := 2) (Nat.le_of_ble_eq_true rfl)
  rw [lg_entry_eq]
  generalize (lg_sl ([.long p0]) ++ List.replicate (2 - (lg_sl ([.long p0])).length) Slot.unset).toArray = ls at hl ⊢
  have hl : lv_has ls 2 [(0, .long p0)] := hl
  refine lv_lload_n hx hb dX9_reasonsIn_0 rfl (lv_at hl 0 rfl) ?_
  refine lv_l2i hx hb dX9_reasonsIn_1 rfl ?_
  refine lv_ldc hx hb hown (hts (.constant RX9 53 (65535)) (by decide +kernel)) dX9_reasonsIn_2 ?_
  refine lv_iand hx hb dX9_reasonsIn_4 ?_
  exact W.iret hx hb hr (fun t ht hW => ⟨⟨_, (), rfl, rfl, trivial⟩, hS.F ht⟩) hS.2.2 dX9_reasonsIn_5
set_option maxRecDepth 100000 in
/-- the reference: one -/
theorem kX14_one (l : Launch) (p0 : Int32) : Met l yX14_one wsX14_one ({ frames := 0, cells := 0, slots := 0, locals := 0 }) (va_Pc [.int p0] (fun _ => True)) (va_Qi (fun (r : Int32) (_ : Unit) => r = if p0 = 0 then 0 else 1) (fun _ _ => True) (fun _ => False)) 0 0 (fun _ => False) := by
  refine Met.ofW (cc := cX14_one) (maxL := 1) (ret := (some .int)) (by decide) rfl ?_
  intro p e s m args below meth c s₁ B hml hv
  obtain ⟨rfl, -⟩ := hv
  have hx := B.exec
  have hb := B.bytes
  have hr := B.returns
  have hlocks := B.notSynchronized
  have hS : va_S (fun _ => False) s.heap s.heap [] := va_S.rf
  have hl := lv_entry ([.int p0]) (n := 1) (Nat.le_of_ble_eq_true rfl)
  rw [lg_entry_eq]
  generalize (lg_sl ([.int p0]) ++ List.replicate (1 - (lg_sl ([.int p0])).length) Slot.unset).toArray = ls at hl ⊢
  have hl : lv_has ls 1 [(0, .int p0)] := hl
  refine lv_iload_n hx hb dX14_one_0 rfl (lv_at hl 0 rfl) ?_
  refine lv_if_eq hx hb dX14_one_1 rfl (fun q1 => ?_) (fun q1 => ?_)
  · refine lv_iconst (v := (0 : Int32)) hx hb dX14_one_8 (by decide) ?_
    exact W.iret hx hb hr (fun t ht hW => ⟨⟨_, (), rfl, (by simp_all), trivial⟩, hS.F ht⟩) hS.2.2 dX14_one_9
  · refine lv_iconst (v := (1 : Int32)) hx hb dX14_one_4 (by decide) ?_
    refine lv_goto hx hb dX14_one_5 rfl ?_
    exact W.iret hx hb hr (fun t ht hW => ⟨⟨_, (), rfl, (by simp_all), trivial⟩, hS.F ht⟩) hS.2.2 dX14_one_9
set_option maxRecDepth 100000 in
/-- the reference: isIn -/
theorem kX14_isIn (l : Launch) (p0 : Int32) (p1 : Int32) (p2 : Int32) : Met l yX14_isIn wsX14_isIn ({ frames := 0, cells := 0, slots := 0, locals := 0 }) (va_Pc [.int p0, .int p1, .int p2] (fun _ => True)) (va_Qi (fun (r : Int32) (_ : Unit) => r = if p1 ≤ p0 ∧ p0 ≤ p2 then 1 else 0) (fun _ _ => True) (fun _ => False)) 0 0 (fun _ => False) := by
  refine Met.ofW (cc := cX14_isIn) (maxL := 3) (ret := (some .boolean)) (by decide) rfl ?_
  intro p e s m args below meth c s₁ B hml hv
  obtain ⟨rfl, -⟩ := hv
  have hx := B.exec
  have hb := B.bytes
  have hr := B.returns
  have hlocks := B.notSynchronized
  have hS : va_S (fun _ => False) s.heap s.heap [] := va_S.rf
  have hl := lv_entry ([.int p0, .int p1, .int p2]) (n := 3) (Nat.le_of_ble_eq_true rfl)
  rw [lg_entry_eq]
  generalize (lg_sl ([.int p0, .int p1, .int p2]) ++ List.replicate (3 - (lg_sl ([.int p0, .int p1, .int p2])).length) Slot.unset).toArray = ls at hl ⊢
  have hl : lv_has ls 3 [(0, .int p0), (1, .int p1), (2, .int p2)] := hl
  refine lv_iload_n hx hb dX14_isIn_0 rfl (lv_at hl 0 rfl) ?_
  refine lv_iload_n hx hb dX14_isIn_1 rfl (lv_at hl 1 rfl) ?_
  refine lv_icmp_lt hx hb dX14_isIn_2 rfl (fun q1 => ?_) (fun q1 => ?_)
  · refine lv_iconst (v := (0 : Int32)) hx hb dX14_isIn_14 (by decide) ?_
    exact W.zret hx hb hr rfl (fun t ht hW => ⟨⟨_, (), rfl, (by simp only [Int32.lt_iff_toInt_lt, Int32.le_iff_toInt_le] at *; first | (rw [if_pos (by omega)]) | (rw [if_neg (by omega)])), trivial⟩, hS.F ht⟩) hS.2.2 dX14_isIn_15
  · refine lv_iload_n hx hb dX14_isIn_5 rfl (lv_at hl 0 rfl) ?_
    refine lv_iload_n hx hb dX14_isIn_6 rfl (lv_at hl 2 rfl) ?_
    refine lv_icmp_gt hx hb dX14_isIn_7 rfl (fun q2 => ?_) (fun q2 => ?_)
    · refine lv_iconst (v := (0 : Int32)) hx hb dX14_isIn_14 (by decide) ?_
      exact W.zret hx hb hr rfl (fun t ht hW => ⟨⟨_, (), rfl, (by simp only [Int32.lt_iff_toInt_lt, Int32.le_iff_toInt_le] at *; first | (rw [if_pos (by omega)]) | (rw [if_neg (by omega)])), trivial⟩, hS.F ht⟩) hS.2.2 dX14_isIn_15
    · refine lv_iconst (v := (1 : Int32)) hx hb dX14_isIn_10 (by decide) ?_
      refine lv_goto hx hb dX14_isIn_11 rfl ?_
      exact W.zret hx hb hr rfl (fun t ht hW => ⟨⟨_, (), rfl, (by simp only [Int32.lt_iff_toInt_lt, Int32.le_iff_toInt_le] at *; first | (rw [if_pos (by omega)]) | (rw [if_neg (by omega)])), trivial⟩, hS.F ht⟩) hS.2.2 dX14_isIn_15
set_option maxRecDepth 100000 in
/-- the reference: isKind, A to F -/
theorem kX14_isKind (l : Launch) (p0 : Int32) : Met l yX14_isKind wsX14_isKind ({ frames := 0, cells := 0, slots := 0, locals := 0 }) (va_Pc [.int p0] (fun _ => True)) (va_Qi (fun (r : Int32) (_ : Unit) => r = if 65 ≤ p0.toInt ∧ p0.toInt < 71 then 1 else 0) (fun _ _ => True) (fun _ => False)) 0 0 (fun _ => False) := by
  refine Met.ofW (cc := cX14_isKind) (maxL := 1) (ret := (some .boolean)) (by decide) rfl ?_
  intro p e s m args below meth c s₁ B hml hv
  obtain ⟨rfl, -⟩ := hv
  have hx := B.exec
  have hb := B.bytes
  have hr := B.returns
  have hlocks := B.notSynchronized
  have hS : va_S (fun _ => False) s.heap s.heap [] := va_S.rf
  have hl := lv_entry ([.int p0]) (n := 1) (Nat.le_of_ble_eq_true rfl)
  rw [lg_entry_eq]
  generalize (lg_sl ([.int p0]) ++ List.replicate (1 - (lg_sl ([.int p0])).length) Slot.unset).toArray = ls at hl ⊢
  have hl : lv_has ls 1 [(0, .int p0)] := hl
  refine lv_iload_n hx hb dX14_isKind_0 rfl (lv_at hl 0 rfl) ?_
  refine lv_bipush (v := (65 : Int32)) hx hb dX14_isKind_1 (by decide) ?_
  refine lv_icmp_lt hx hb dX14_isKind_3 rfl (fun q1 => ?_) (fun q1 => ?_)
  · refine lv_iconst (v := (0 : Int32)) hx hb dX14_isKind_16 (by decide) ?_
    exact W.zret hx hb hr rfl (fun t ht hW => ⟨⟨_, (), rfl, (by simp only [Int32.lt_iff_toInt_lt, Int32.le_iff_toInt_le, Int32.reduceToInt, lf_m1] at *; first | (rw [if_pos (by omega)]) | (rw [if_neg (by omega)])), trivial⟩, hS.F ht⟩) hS.2.2 dX14_isKind_17
  · refine lv_iload_n hx hb dX14_isKind_6 rfl (lv_at hl 0 rfl) ?_
    refine lv_bipush (v := (70 : Int32)) hx hb dX14_isKind_7 (by decide) ?_
    refine lv_icmp_gt hx hb dX14_isKind_9 rfl (fun q2 => ?_) (fun q2 => ?_)
    · refine lv_iconst (v := (0 : Int32)) hx hb dX14_isKind_16 (by decide) ?_
      exact W.zret hx hb hr rfl (fun t ht hW => ⟨⟨_, (), rfl, (by simp only [Int32.lt_iff_toInt_lt, Int32.le_iff_toInt_le, Int32.reduceToInt, lf_m1] at *; first | (rw [if_pos (by omega)]) | (rw [if_neg (by omega)])), trivial⟩, hS.F ht⟩) hS.2.2 dX14_isKind_17
    · refine lv_iconst (v := (1 : Int32)) hx hb dX14_isKind_12 (by decide) ?_
      refine lv_goto hx hb dX14_isKind_13 rfl ?_
      exact W.zret hx hb hr rfl (fun t ht hW => ⟨⟨_, (), rfl, (by simp only [Int32.lt_iff_toInt_lt, Int32.le_iff_toInt_le, Int32.reduceToInt, lf_m1] at *; first | (rw [if_pos (by omega)]) | (rw [if_neg (by omega)])), trivial⟩, hS.F ht⟩) hS.2.2 dX14_isKind_17
set_option maxRecDepth 100000 in
/-- the reference: isDigit -/
theorem kX14_isDigit (l : Launch) (p0 : Int32) : Met l yX14_isDigit wsX14_isDigit ({ frames := 0, cells := 0, slots := 0, locals := 0 }) (va_Pc [.int p0] (fun _ => True)) (va_Qi (fun (r : Int32) (_ : Unit) => r = if 48 ≤ p0.toInt ∧ p0.toInt < 58 then 1 else 0) (fun _ _ => True) (fun _ => False)) 0 0 (fun _ => False) := by
  refine Met.ofW (cc := cX14_isDigit) (maxL := 1) (ret := (some .boolean)) (by decide) rfl ?_
  intro p e s m args below meth c s₁ B hml hv
  obtain ⟨rfl, -⟩ := hv
  have hx := B.exec
  have hb := B.bytes
  have hr := B.returns
  have hlocks := B.notSynchronized
  have hS : va_S (fun _ => False) s.heap s.heap [] := va_S.rf
  have hl := lv_entry ([.int p0]) (n := 1) (Nat.le_of_ble_eq_true rfl)
  rw [lg_entry_eq]
  generalize (lg_sl ([.int p0]) ++ List.replicate (1 - (lg_sl ([.int p0])).length) Slot.unset).toArray = ls at hl ⊢
  have hl : lv_has ls 1 [(0, .int p0)] := hl
  refine lv_iload_n hx hb dX14_isDigit_0 rfl (lv_at hl 0 rfl) ?_
  refine lv_bipush (v := (48 : Int32)) hx hb dX14_isDigit_1 (by decide) ?_
  refine lv_icmp_lt hx hb dX14_isDigit_3 rfl (fun q1 => ?_) (fun q1 => ?_)
  · refine lv_iconst (v := (0 : Int32)) hx hb dX14_isDigit_16 (by decide) ?_
    exact W.zret hx hb hr rfl (fun t ht hW => ⟨⟨_, (), rfl, (by simp only [Int32.lt_iff_toInt_lt, Int32.le_iff_toInt_le, Int32.reduceToInt, lf_m1] at *; first | (rw [if_pos (by omega)]) | (rw [if_neg (by omega)])), trivial⟩, hS.F ht⟩) hS.2.2 dX14_isDigit_17
  · refine lv_iload_n hx hb dX14_isDigit_6 rfl (lv_at hl 0 rfl) ?_
    refine lv_bipush (v := (57 : Int32)) hx hb dX14_isDigit_7 (by decide) ?_
    refine lv_icmp_gt hx hb dX14_isDigit_9 rfl (fun q2 => ?_) (fun q2 => ?_)
    · refine lv_iconst (v := (0 : Int32)) hx hb dX14_isDigit_16 (by decide) ?_
      exact W.zret hx hb hr rfl (fun t ht hW => ⟨⟨_, (), rfl, (by simp only [Int32.lt_iff_toInt_lt, Int32.le_iff_toInt_le, Int32.reduceToInt, lf_m1] at *; first | (rw [if_pos (by omega)]) | (rw [if_neg (by omega)])), trivial⟩, hS.F ht⟩) hS.2.2 dX14_isDigit_17
    · refine lv_iconst (v := (1 : Int32)) hx hb dX14_isDigit_12 (by decide) ?_
      refine lv_goto hx hb dX14_isDigit_13 rfl ?_
      exact W.zret hx hb hr rfl (fun t ht hW => ⟨⟨_, (), rfl, (by simp only [Int32.lt_iff_toInt_lt, Int32.le_iff_toInt_le, Int32.reduceToInt, lf_m1] at *; first | (rw [if_pos (by omega)]) | (rw [if_neg (by omega)])), trivial⟩, hS.F ht⟩) hS.2.2 dX14_isDigit_17
set_option maxRecDepth 100000 in
/-- the reference: isVariable, u to z -/
theorem kX14_isVariable (l : Launch) (p0 : Int32) : Met l yX14_isVariable wsX14_isVariable ({ frames := 0, cells := 0, slots := 0, locals := 0 }) (va_Pc [.int p0] (fun _ => True)) (va_Qi (fun (r : Int32) (_ : Unit) => r = if 117 ≤ p0.toInt ∧ p0.toInt < 123 then 1 else 0) (fun _ _ => True) (fun _ => False)) 0 0 (fun _ => False) := by
  refine Met.ofW (cc := cX14_isVariable) (maxL := 1) (ret := (some .boolean)) (by decide) rfl ?_
  intro p e s m args below meth c s₁ B hml hv
  obtain ⟨rfl, -⟩ := hv
  have hx := B.exec
  have hb := B.bytes
  have hr := B.returns
  have hlocks := B.notSynchronized
  have hS : va_S (fun _ => False) s.heap s.heap [] := va_S.rf
  have hl := lv_entry ([.int p0]) (n := 1) (Nat.le_of_ble_eq_true rfl)
  rw [lg_entry_eq]
  generalize (lg_sl ([.int p0]) ++ List.replicate (1 - (lg_sl ([.int p0])).length) Slot.unset).toArray = ls at hl ⊢
  have hl : lv_has ls 1 [(0, .int p0)] := hl
  refine lv_iload_n hx hb dX14_isVariable_0 rfl (lv_at hl 0 rfl) ?_
  refine lv_bipush (v := (117 : Int32)) hx hb dX14_isVariable_1 (by decide) ?_
  refine lv_icmp_lt hx hb dX14_isVariable_3 rfl (fun q1 => ?_) (fun q1 => ?_)
  · refine lv_iconst (v := (0 : Int32)) hx hb dX14_isVariable_16 (by decide) ?_
    exact W.zret hx hb hr rfl (fun t ht hW => ⟨⟨_, (), rfl, (by simp only [Int32.lt_iff_toInt_lt, Int32.le_iff_toInt_le, Int32.reduceToInt, lf_m1] at *; first | (rw [if_pos (by omega)]) | (rw [if_neg (by omega)])), trivial⟩, hS.F ht⟩) hS.2.2 dX14_isVariable_17
  · refine lv_iload_n hx hb dX14_isVariable_6 rfl (lv_at hl 0 rfl) ?_
    refine lv_bipush (v := (122 : Int32)) hx hb dX14_isVariable_7 (by decide) ?_
    refine lv_icmp_gt hx hb dX14_isVariable_9 rfl (fun q2 => ?_) (fun q2 => ?_)
    · refine lv_iconst (v := (0 : Int32)) hx hb dX14_isVariable_16 (by decide) ?_
      exact W.zret hx hb hr rfl (fun t ht hW => ⟨⟨_, (), rfl, (by simp only [Int32.lt_iff_toInt_lt, Int32.le_iff_toInt_le, Int32.reduceToInt, lf_m1] at *; first | (rw [if_pos (by omega)]) | (rw [if_neg (by omega)])), trivial⟩, hS.F ht⟩) hS.2.2 dX14_isVariable_17
    · refine lv_iconst (v := (1 : Int32)) hx hb dX14_isVariable_12 (by decide) ?_
      refine lv_goto hx hb dX14_isVariable_13 rfl ?_
      exact W.zret hx hb hr rfl (fun t ht hW => ⟨⟨_, (), rfl, (by simp only [Int32.lt_iff_toInt_lt, Int32.le_iff_toInt_le, Int32.reduceToInt, lf_m1] at *; first | (rw [if_pos (by omega)]) | (rw [if_neg (by omega)])), trivial⟩, hS.F ht⟩) hS.2.2 dX14_isVariable_17
end
