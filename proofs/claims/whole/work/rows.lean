section
/-! Leaves of the class and of the reference: static methods over ints and longs alone. Printed by wip/gen/mk1.py. -/
def RX7 : String := "Ruleengine$Rule"
def RX9 : String := "Ruleengine$State"
def RX11 : String := "Ruleengine"
def RX14 : String := "RuleengineModel"
theorem lf_m1 : (-1 : Int32).toInt = -1 := by decide
abbrev cX11_isSlot : ByteArray := prog_1_method_45_code
def yX11_isSlot : MethodName := ⟨RX11, "isSlot", "(I)Z"⟩
def wsX11_isSlot : List Cond := .code yX11_isSlot cX11_isSlot 1 (some .boolean) :: ([])
theorem dX11_isSlot_0 : decode cX11_isSlot 0 = .ok (.iload_n 0, 1) := by decide +kernel
theorem dX11_isSlot_1 : decode cX11_isSlot 1 = .ok (.ifCond .lt 13, 3) := by decide +kernel
theorem dX11_isSlot_4 : decode cX11_isSlot 4 = .ok (.iload_n 0, 1) := by decide +kernel
theorem dX11_isSlot_5 : decode cX11_isSlot 5 = .ok (.bipush 6, 2) := by decide +kernel
theorem dX11_isSlot_7 : decode cX11_isSlot 7 = .ok (.if_icmp .ge 7, 3) := by decide +kernel
theorem dX11_isSlot_10 : decode cX11_isSlot 10 = .ok (.iconst 1, 1) := by decide +kernel
theorem dX11_isSlot_11 : decode cX11_isSlot 11 = .ok (.goto 4, 3) := by decide +kernel
theorem dX11_isSlot_14 : decode cX11_isSlot 14 = .ok (.iconst 0, 1) := by decide +kernel
theorem dX11_isSlot_15 : decode cX11_isSlot 15 = .ok (.ireturn, 1) := by decide +kernel
abbrev cX11_isModule : ByteArray := prog_1_method_46_code
def yX11_isModule : MethodName := ⟨RX11, "isModule", "(I)Z"⟩
def wsX11_isModule : List Cond := .code yX11_isModule cX11_isModule 1 (some .boolean) :: ([])
theorem dX11_isModule_0 : decode cX11_isModule 0 = .ok (.iload_n 0, 1) := by decide +kernel
theorem dX11_isModule_1 : decode cX11_isModule 1 = .ok (.ifCond .lt 12, 3) := by decide +kernel
theorem dX11_isModule_4 : decode cX11_isModule 4 = .ok (.iload_n 0, 1) := by decide +kernel
theorem dX11_isModule_5 : decode cX11_isModule 5 = .ok (.iconst 3, 1) := by decide +kernel
theorem dX11_isModule_6 : decode cX11_isModule 6 = .ok (.if_icmp .ge 7, 3) := by decide +kernel
theorem dX11_isModule_9 : decode cX11_isModule 9 = .ok (.iconst 1, 1) := by decide +kernel
theorem dX11_isModule_10 : decode cX11_isModule 10 = .ok (.goto 4, 3) := by decide +kernel
theorem dX11_isModule_13 : decode cX11_isModule 13 = .ok (.iconst 0, 1) := by decide +kernel
theorem dX11_isModule_14 : decode cX11_isModule 14 = .ok (.ireturn, 1) := by decide +kernel
abbrev cX11_isKind : ByteArray := prog_1_method_47_code
def yX11_isKind : MethodName := ⟨RX11, "isKind", "(I)Z"⟩
def wsX11_isKind : List Cond := .code yX11_isKind cX11_isKind 1 (some .boolean) :: ([])
theorem dX11_isKind_0 : decode cX11_isKind 0 = .ok (.iload_n 0, 1) := by decide +kernel
theorem dX11_isKind_1 : decode cX11_isKind 1 = .ok (.ifCond .lt 13, 3) := by decide +kernel
theorem dX11_isKind_4 : decode cX11_isKind 4 = .ok (.iload_n 0, 1) := by decide +kernel
theorem dX11_isKind_5 : decode cX11_isKind 5 = .ok (.bipush 6, 2) := by decide +kernel
theorem dX11_isKind_7 : decode cX11_isKind 7 = .ok (.if_icmp .ge 7, 3) := by decide +kernel
theorem dX11_isKind_10 : decode cX11_isKind 10 = .ok (.iconst 1, 1) := by decide +kernel
theorem dX11_isKind_11 : decode cX11_isKind 11 = .ok (.goto 4, 3) := by decide +kernel
theorem dX11_isKind_14 : decode cX11_isKind 14 = .ok (.iconst 0, 1) := by decide +kernel
theorem dX11_isKind_15 : decode cX11_isKind 15 = .ok (.ireturn, 1) := by decide +kernel
abbrev cX11_isCode : ByteArray := prog_1_method_48_code
def yX11_isCode : MethodName := ⟨RX11, "isCode", "(I)Z"⟩
def wsX11_isCode : List Cond := .code yX11_isCode cX11_isCode 1 (some .boolean) :: ([])
theorem dX11_isCode_0 : decode cX11_isCode 0 = .ok (.iload_n 0, 1) := by decide +kernel
theorem dX11_isCode_1 : decode cX11_isCode 1 = .ok (.iconst (-1), 1) := by decide +kernel
theorem dX11_isCode_2 : decode cX11_isCode 2 = .ok (.if_icmp .lt 13, 3) := by decide +kernel
theorem dX11_isCode_5 : decode cX11_isCode 5 = .ok (.iload_n 0, 1) := by decide +kernel
theorem dX11_isCode_6 : decode cX11_isCode 6 = .ok (.bipush 39, 2) := by decide +kernel
theorem dX11_isCode_8 : decode cX11_isCode 8 = .ok (.if_icmp .gt 7, 3) := by decide +kernel
theorem dX11_isCode_11 : decode cX11_isCode 11 = .ok (.iconst 1, 1) := by decide +kernel
theorem dX11_isCode_12 : decode cX11_isCode 12 = .ok (.goto 4, 3) := by decide +kernel
theorem dX11_isCode_15 : decode cX11_isCode 15 = .ok (.iconst 0, 1) := by decide +kernel
theorem dX11_isCode_16 : decode cX11_isCode 16 = .ok (.ireturn, 1) := by decide +kernel
abbrev cX11_isValue : ByteArray := prog_1_method_49_code
def yX11_isValue : MethodName := ⟨RX11, "isValue", "(I)Z"⟩
def wsX11_isValue : List Cond := .code yX11_isValue cX11_isValue 1 (some .boolean) :: ([])
theorem dX11_isValue_0 : decode cX11_isValue 0 = .ok (.iload_n 0, 1) := by decide +kernel
theorem dX11_isValue_1 : decode cX11_isValue 1 = .ok (.ifCond .lt 13, 3) := by decide +kernel
theorem dX11_isValue_4 : decode cX11_isValue 4 = .ok (.iload_n 0, 1) := by decide +kernel
theorem dX11_isValue_5 : decode cX11_isValue 5 = .ok (.bipush 10, 2) := by decide +kernel
theorem dX11_isValue_7 : decode cX11_isValue 7 = .ok (.if_icmp .ge 7, 3) := by decide +kernel
theorem dX11_isValue_10 : decode cX11_isValue 10 = .ok (.iconst 1, 1) := by decide +kernel
theorem dX11_isValue_11 : decode cX11_isValue 11 = .ok (.goto 4, 3) := by decide +kernel
theorem dX11_isValue_14 : decode cX11_isValue 14 = .ok (.iconst 0, 1) := by decide +kernel
theorem dX11_isValue_15 : decode cX11_isValue 15 = .ok (.ireturn, 1) := by decide +kernel
abbrev cX11_isVariable : ByteArray := prog_1_method_50_code
def yX11_isVariable : MethodName := ⟨RX11, "isVariable", "(I)Z"⟩
def wsX11_isVariable : List Cond := .code yX11_isVariable cX11_isVariable 1 (some .boolean) :: ([])
theorem dX11_isVariable_0 : decode cX11_isVariable 0 = .ok (.iload_n 0, 1) := by decide +kernel
theorem dX11_isVariable_1 : decode cX11_isVariable 1 = .ok (.bipush 16, 2) := by decide +kernel
theorem dX11_isVariable_3 : decode cX11_isVariable 3 = .ok (.if_icmp .lt 13, 3) := by decide +kernel
theorem dX11_isVariable_6 : decode cX11_isVariable 6 = .ok (.iload_n 0, 1) := by decide +kernel
theorem dX11_isVariable_7 : decode cX11_isVariable 7 = .ok (.bipush 22, 2) := by decide +kernel
theorem dX11_isVariable_9 : decode cX11_isVariable 9 = .ok (.if_icmp .ge 7, 3) := by decide +kernel
theorem dX11_isVariable_12 : decode cX11_isVariable 12 = .ok (.iconst 1, 1) := by decide +kernel
theorem dX11_isVariable_13 : decode cX11_isVariable 13 = .ok (.goto 4, 3) := by decide +kernel
theorem dX11_isVariable_16 : decode cX11_isVariable 16 = .ok (.iconst 0, 1) := by decide +kernel
theorem dX11_isVariable_17 : decode cX11_isVariable 17 = .ok (.ireturn, 1) := by decide +kernel
abbrev cX11_countAfter : ByteArray := prog_1_method_52_code
def yX11_countAfter : MethodName := ⟨RX11, "countAfter", "(II)I"⟩
def wsX11_countAfter : List Cond := .code yX11_countAfter cX11_countAfter 2 (some .int) :: ([])
theorem dX11_countAfter_0 : decode cX11_countAfter 0 = .ok (.iload_n 0, 1) := by decide +kernel
theorem dX11_countAfter_1 : decode cX11_countAfter 1 = .ok (.bipush 60, 2) := by decide +kernel
theorem dX11_countAfter_3 : decode cX11_countAfter 3 = .ok (.if_icmp .gt 8, 3) := by decide +kernel
theorem dX11_countAfter_6 : decode cX11_countAfter 6 = .ok (.iload_n 1, 1) := by decide +kernel
theorem dX11_countAfter_7 : decode cX11_countAfter 7 = .ok (.iconst (-1), 1) := by decide +kernel
theorem dX11_countAfter_8 : decode cX11_countAfter 8 = .ok (.if_icmp .ne 5, 3) := by decide +kernel
theorem dX11_countAfter_11 : decode cX11_countAfter 11 = .ok (.iload_n 0, 1) := by decide +kernel
theorem dX11_countAfter_12 : decode cX11_countAfter 12 = .ok (.ireturn, 1) := by decide +kernel
theorem dX11_countAfter_13 : decode cX11_countAfter 13 = .ok (.iload_n 1, 1) := by decide +kernel
theorem dX11_countAfter_14 : decode cX11_countAfter 14 = .ok (.bipush 38, 2) := by decide +kernel
theorem dX11_countAfter_16 : decode cX11_countAfter 16 = .ok (.if_icmp .ne 5, 3) := by decide +kernel
theorem dX11_countAfter_19 : decode cX11_countAfter 19 = .ok (.iconst 0, 1) := by decide +kernel
theorem dX11_countAfter_20 : decode cX11_countAfter 20 = .ok (.ireturn, 1) := by decide +kernel
theorem dX11_countAfter_21 : decode cX11_countAfter 21 = .ok (.iload_n 1, 1) := by decide +kernel
theorem dX11_countAfter_22 : decode cX11_countAfter 22 = .ok (.bipush 39, 2) := by decide +kernel
theorem dX11_countAfter_24 : decode cX11_countAfter 24 = .ok (.if_icmp .ne 15, 3) := by decide +kernel
theorem dX11_countAfter_27 : decode cX11_countAfter 27 = .ok (.iload_n 0, 1) := by decide +kernel
theorem dX11_countAfter_28 : decode cX11_countAfter 28 = .ok (.ifCond .le 9, 3) := by decide +kernel
theorem dX11_countAfter_31 : decode cX11_countAfter 31 = .ok (.iload_n 0, 1) := by decide +kernel
theorem dX11_countAfter_32 : decode cX11_countAfter 32 = .ok (.iconst 1, 1) := by decide +kernel
theorem dX11_countAfter_33 : decode cX11_countAfter 33 = .ok (.isub, 1) := by decide +kernel
theorem dX11_countAfter_34 : decode cX11_countAfter 34 = .ok (.goto 4, 3) := by decide +kernel
theorem dX11_countAfter_37 : decode cX11_countAfter 37 = .ok (.iconst 0, 1) := by decide +kernel
theorem dX11_countAfter_38 : decode cX11_countAfter 38 = .ok (.ireturn, 1) := by decide +kernel
theorem dX11_countAfter_39 : decode cX11_countAfter 39 = .ok (.iload_n 0, 1) := by decide +kernel
theorem dX11_countAfter_40 : decode cX11_countAfter 40 = .ok (.iconst 1, 1) := by decide +kernel
theorem dX11_countAfter_41 : decode cX11_countAfter 41 = .ok (.iadd, 1) := by decide +kernel
theorem dX11_countAfter_42 : decode cX11_countAfter 42 = .ok (.ireturn, 1) := by decide +kernel
abbrev cX7_numberIn : ByteArray := prog_9_method_3_code
def yX7_numberIn : MethodName := ⟨RX7, "numberIn", "(JI)I"⟩
def wsX7_numberIn : List Cond := .code yX7_numberIn cX7_numberIn 3 (some .int) :: ([])
theorem dX7_numberIn_0 : decode cX7_numberIn 0 = .ok (.lload_n 0, 1) := by decide +kernel
theorem dX7_numberIn_1 : decode cX7_numberIn 1 = .ok (.bipush 8, 2) := by decide +kernel
theorem dX7_numberIn_3 : decode cX7_numberIn 3 = .ok (.iload_n 2, 1) := by decide +kernel
theorem dX7_numberIn_4 : decode cX7_numberIn 4 = .ok (.imul, 1) := by decide +kernel
theorem dX7_numberIn_5 : decode cX7_numberIn 5 = .ok (.lshr, 1) := by decide +kernel
theorem dX7_numberIn_6 : decode cX7_numberIn 6 = .ok (.l2i, 1) := by decide +kernel
theorem dX7_numberIn_7 : decode cX7_numberIn 7 = .ok (.sipush 255, 3) := by decide +kernel
theorem dX7_numberIn_10 : decode cX7_numberIn 10 = .ok (.iand, 1) := by decide +kernel
theorem dX7_numberIn_11 : decode cX7_numberIn 11 = .ok (.ireturn, 1) := by decide +kernel
abbrev cX9_signatureIn : ByteArray := prog_11_method_3_code
def yX9_signatureIn : MethodName := ⟨RX9, "signatureIn", "(J)J"⟩
def wsX9_signatureIn : List Cond := .code yX9_signatureIn cX9_signatureIn 2 (some .long) :: ([.constantLong RX9 51 (1099511627775)])
theorem dX9_signatureIn_0 : decode cX9_signatureIn 0 = .ok (.lload_n 0, 1) := by decide +kernel
theorem dX9_signatureIn_1 : decode cX9_signatureIn 1 = .ok (.bipush 16, 2) := by decide +kernel
theorem dX9_signatureIn_3 : decode cX9_signatureIn 3 = .ok (.lshr, 1) := by decide +kernel
theorem dX9_signatureIn_4 : decode cX9_signatureIn 4 = .ok (.ldc2_w 51, 3) := by decide +kernel
theorem dX9_signatureIn_7 : decode cX9_signatureIn 7 = .ok (.land, 1) := by decide +kernel
theorem dX9_signatureIn_8 : decode cX9_signatureIn 8 = .ok (.lreturn, 1) := by decide +kernel
abbrev cX9_reasonsIn : ByteArray := prog_11_method_4_code
def yX9_reasonsIn : MethodName := ⟨RX9, "reasonsIn", "(J)I"⟩
def wsX9_reasonsIn : List Cond := .code yX9_reasonsIn cX9_reasonsIn 2 (some .int) :: ([.constant RX9 53 (65535)])
theorem dX9_reasonsIn_0 : decode cX9_reasonsIn 0 = .ok (.lload_n 0, 1) := by decide +kernel
theorem dX9_reasonsIn_1 : decode cX9_reasonsIn 1 = .ok (.l2i, 1) := by decide +kernel
theorem dX9_reasonsIn_2 : decode cX9_reasonsIn 2 = .ok (.ldc 53, 2) := by decide +kernel
theorem dX9_reasonsIn_4 : decode cX9_reasonsIn 4 = .ok (.iand, 1) := by decide +kernel
theorem dX9_reasonsIn_5 : decode cX9_reasonsIn 5 = .ok (.ireturn, 1) := by decide +kernel
abbrev cX14_one : ByteArray := prog_15_method_2_code
def yX14_one : MethodName := ⟨RX14, "one", "(Z)I"⟩
def wsX14_one : List Cond := .code yX14_one cX14_one 1 (some .int) :: ([])
theorem dX14_one_0 : decode cX14_one 0 = .ok (.iload_n 0, 1) := by decide +kernel
theorem dX14_one_1 : decode cX14_one 1 = .ok (.ifCond .eq 7, 3) := by decide +kernel
theorem dX14_one_4 : decode cX14_one 4 = .ok (.iconst 1, 1) := by decide +kernel
theorem dX14_one_5 : decode cX14_one 5 = .ok (.goto 4, 3) := by decide +kernel
theorem dX14_one_8 : decode cX14_one 8 = .ok (.iconst 0, 1) := by decide +kernel
theorem dX14_one_9 : decode cX14_one 9 = .ok (.ireturn, 1) := by decide +kernel
abbrev cX14_isIn : ByteArray := prog_15_method_1_code
def yX14_isIn : MethodName := ⟨RX14, "isIn", "(III)Z"⟩
def wsX14_isIn : List Cond := .code yX14_isIn cX14_isIn 3 (some .boolean) :: ([])
theorem dX14_isIn_0 : decode cX14_isIn 0 = .ok (.iload_n 0, 1) := by decide +kernel
theorem dX14_isIn_1 : decode cX14_isIn 1 = .ok (.iload_n 1, 1) := by decide +kernel
theorem dX14_isIn_2 : decode cX14_isIn 2 = .ok (.if_icmp .lt 12, 3) := by decide +kernel
theorem dX14_isIn_5 : decode cX14_isIn 5 = .ok (.iload_n 0, 1) := by decide +kernel
theorem dX14_isIn_6 : decode cX14_isIn 6 = .ok (.iload_n 2, 1) := by decide +kernel
theorem dX14_isIn_7 : decode cX14_isIn 7 = .ok (.if_icmp .gt 7, 3) := by decide +kernel
theorem dX14_isIn_10 : decode cX14_isIn 10 = .ok (.iconst 1, 1) := by decide +kernel
theorem dX14_isIn_11 : decode cX14_isIn 11 = .ok (.goto 4, 3) := by decide +kernel
theorem dX14_isIn_14 : decode cX14_isIn 14 = .ok (.iconst 0, 1) := by decide +kernel
theorem dX14_isIn_15 : decode cX14_isIn 15 = .ok (.ireturn, 1) := by decide +kernel
abbrev cX14_isKind : ByteArray := prog_15_method_3_code
def yX14_isKind : MethodName := ⟨RX14, "isKind", "(C)Z"⟩
def wsX14_isKind : List Cond := .code yX14_isKind cX14_isKind 1 (some .boolean) :: ([])
theorem dX14_isKind_0 : decode cX14_isKind 0 = .ok (.iload_n 0, 1) := by decide +kernel
theorem dX14_isKind_1 : decode cX14_isKind 1 = .ok (.bipush 65, 2) := by decide +kernel
theorem dX14_isKind_3 : decode cX14_isKind 3 = .ok (.if_icmp .lt 13, 3) := by decide +kernel
theorem dX14_isKind_6 : decode cX14_isKind 6 = .ok (.iload_n 0, 1) := by decide +kernel
theorem dX14_isKind_7 : decode cX14_isKind 7 = .ok (.bipush 70, 2) := by decide +kernel
theorem dX14_isKind_9 : decode cX14_isKind 9 = .ok (.if_icmp .gt 7, 3) := by decide +kernel
theorem dX14_isKind_12 : decode cX14_isKind 12 = .ok (.iconst 1, 1) := by decide +kernel
theorem dX14_isKind_13 : decode cX14_isKind 13 = .ok (.goto 4, 3) := by decide +kernel
theorem dX14_isKind_16 : decode cX14_isKind 16 = .ok (.iconst 0, 1) := by decide +kernel
theorem dX14_isKind_17 : decode cX14_isKind 17 = .ok (.ireturn, 1) := by decide +kernel
abbrev cX14_isDigit : ByteArray := prog_15_method_4_code
def yX14_isDigit : MethodName := ⟨RX14, "isDigit", "(C)Z"⟩
def wsX14_isDigit : List Cond := .code yX14_isDigit cX14_isDigit 1 (some .boolean) :: ([])
theorem dX14_isDigit_0 : decode cX14_isDigit 0 = .ok (.iload_n 0, 1) := by decide +kernel
theorem dX14_isDigit_1 : decode cX14_isDigit 1 = .ok (.bipush 48, 2) := by decide +kernel
theorem dX14_isDigit_3 : decode cX14_isDigit 3 = .ok (.if_icmp .lt 13, 3) := by decide +kernel
theorem dX14_isDigit_6 : decode cX14_isDigit 6 = .ok (.iload_n 0, 1) := by decide +kernel
theorem dX14_isDigit_7 : decode cX14_isDigit 7 = .ok (.bipush 57, 2) := by decide +kernel
theorem dX14_isDigit_9 : decode cX14_isDigit 9 = .ok (.if_icmp .gt 7, 3) := by decide +kernel
theorem dX14_isDigit_12 : decode cX14_isDigit 12 = .ok (.iconst 1, 1) := by decide +kernel
theorem dX14_isDigit_13 : decode cX14_isDigit 13 = .ok (.goto 4, 3) := by decide +kernel
theorem dX14_isDigit_16 : decode cX14_isDigit 16 = .ok (.iconst 0, 1) := by decide +kernel
theorem dX14_isDigit_17 : decode cX14_isDigit 17 = .ok (.ireturn, 1) := by decide +kernel
abbrev cX14_isVariable : ByteArray := prog_15_method_5_code
def yX14_isVariable : MethodName := ⟨RX14, "isVariable", "(C)Z"⟩
def wsX14_isVariable : List Cond := .code yX14_isVariable cX14_isVariable 1 (some .boolean) :: ([])
theorem dX14_isVariable_0 : decode cX14_isVariable 0 = .ok (.iload_n 0, 1) := by decide +kernel
theorem dX14_isVariable_1 : decode cX14_isVariable 1 = .ok (.bipush 117, 2) := by decide +kernel
theorem dX14_isVariable_3 : decode cX14_isVariable 3 = .ok (.if_icmp .lt 13, 3) := by decide +kernel
theorem dX14_isVariable_6 : decode cX14_isVariable 6 = .ok (.iload_n 0, 1) := by decide +kernel
theorem dX14_isVariable_7 : decode cX14_isVariable 7 = .ok (.bipush 122, 2) := by decide +kernel
theorem dX14_isVariable_9 : decode cX14_isVariable 9 = .ok (.if_icmp .gt 7, 3) := by decide +kernel
theorem dX14_isVariable_12 : decode cX14_isVariable 12 = .ok (.iconst 1, 1) := by decide +kernel
theorem dX14_isVariable_13 : decode cX14_isVariable 13 = .ok (.goto 4, 3) := by decide +kernel
theorem dX14_isVariable_16 : decode cX14_isVariable 16 = .ok (.iconst 0, 1) := by decide +kernel
theorem dX14_isVariable_17 : decode cX14_isVariable 17 = .ok (.ireturn, 1) := by decide +kernel
set_option maxRecDepth 100000 in
/-- isSlot: 0 to 5 -/
theorem kX11_isSlot (l : Launch) (p0 : Int32) : Met l yX11_isSlot wsX11_isSlot ({ frames := 0, cells := 0, slots := 0, locals := 0 }) (va_Pc [.int p0] (fun _ => True)) (va_Qi (fun (r : Int32) (_ : Unit) => r = if 0 ≤ p0.toInt ∧ p0.toInt < 6 then 1 else 0) (fun _ _ => True) (fun _ => False)) 0 0 (fun _ => False) := by
  refine Met.ofW (cc := cX11_isSlot) (maxL := 1) (ret := (some .boolean)) (by decide) rfl ?_
  intro p e s m args below meth c s₁ B hml hv
  obtain ⟨rfl, -⟩ := hv
  have hx := B.exec
  have hb := B.bytes
  have hr := B.returns
  have hlocks := B.notSynchronized
  have hS : va_S (fun _ => False) s.heap s.heap [] := va_S.rf
  have hl := lv_entry ([.int p0]) (n := 1) (Nat.le_of_ble_eq_true rfl)
  rw [lg_entry_eq]
  generalize (lg_sl ([.int p0]) ++ List.replicate (1 - (lg_sl ([.int p0])).length) Slot.unset).toArray = ls at hl ⊢
  have hl : lv_has ls 1 [(0, .int p0)] := hl
  refine lv_iload_n hx hb dX11_isSlot_0 rfl (lv_at hl 0 rfl) ?_
  refine lv_if_lt hx hb dX11_isSlot_1 rfl (fun q1 => ?_) (fun q1 => ?_)
  · refine lv_iconst (v := (0 : Int32)) hx hb dX11_isSlot_14 (by decide) ?_
    exact W.zret hx hb hr rfl (fun t ht hW => ⟨⟨_, (), rfl, (by simp only [Int32.lt_iff_toInt_lt, Int32.le_iff_toInt_le, Int32.reduceToInt, lf_m1] at *; first | (rw [if_pos (by omega)]) | (rw [if_neg (by omega)])), trivial⟩, hS.F ht⟩) hS.2.2 dX11_isSlot_15
  · refine lv_iload_n hx hb dX11_isSlot_4 rfl (lv_at hl 0 rfl) ?_
    refine lv_bipush (v := (6 : Int32)) hx hb dX11_isSlot_5 (by decide) ?_
    refine lv_icmp_ge hx hb dX11_isSlot_7 rfl (fun q2 => ?_) (fun q2 => ?_)
    · refine lv_iconst (v := (0 : Int32)) hx hb dX11_isSlot_14 (by decide) ?_
      exact W.zret hx hb hr rfl (fun t ht hW => ⟨⟨_, (), rfl, (by simp only [Int32.lt_iff_toInt_lt, Int32.le_iff_toInt_le, Int32.reduceToInt, lf_m1] at *; first | (rw [if_pos (by omega)]) | (rw [if_neg (by omega)])), trivial⟩, hS.F ht⟩) hS.2.2 dX11_isSlot_15
    · refine lv_iconst (v := (1 : Int32)) hx hb dX11_isSlot_10 (by decide) ?_
      refine lv_goto hx hb dX11_isSlot_11 rfl ?_
      exact W.zret hx hb hr rfl (fun t ht hW => ⟨⟨_, (), rfl, (by simp only [Int32.lt_iff_toInt_lt, Int32.le_iff_toInt_le, Int32.reduceToInt, lf_m1] at *; first | (rw [if_pos (by omega)]) | (rw [if_neg (by omega)])), trivial⟩, hS.F ht⟩) hS.2.2 dX11_isSlot_15
set_option maxRecDepth 100000 in
/-- isModule: 0 to 2 -/
theorem kX11_isModule (l : Launch) (p0 : Int32) : Met l yX11_isModule wsX11_isModule ({ frames := 0, cells := 0, slots := 0, locals := 0 }) (va_Pc [.int p0] (fun _ => True)) (va_Qi (fun (r : Int32) (_ : Unit) => r = if 0 ≤ p0.toInt ∧ p0.toInt < 3 then 1 else 0) (fun _ _ => True) (fun _ => False)) 0 0 (fun _ => False) := by
  refine Met.ofW (cc := cX11_isModule) (maxL := 1) (ret := (some .boolean)) (by decide) rfl ?_
  intro p e s m args below meth c s₁ B hml hv
  obtain ⟨rfl, -⟩ := hv
  have hx := B.exec
  have hb := B.bytes
  have hr := B.returns
  have hlocks := B.notSynchronized
  have hS : va_S (fun _ => False) s.heap s.heap [] := va_S.rf
  have hl := lv_entry ([.int p0]) (n := 1) (Nat.le_of_ble_eq_true rfl)
  rw [lg_entry_eq]
  generalize (lg_sl ([.int p0]) ++ List.replicate (1 - (lg_sl ([.int p0])).length) Slot.unset).toArray = ls at hl ⊢
  have hl : lv_has ls 1 [(0, .int p0)] := hl
  refine lv_iload_n hx hb dX11_isModule_0 rfl (lv_at hl 0 rfl) ?_
  refine lv_if_lt hx hb dX11_isModule_1 rfl (fun q1 => ?_) (fun q1 => ?_)
  · refine lv_iconst (v := (0 : Int32)) hx hb dX11_isModule_13 (by decide) ?_
    exact W.zret hx hb hr rfl (fun t ht hW => ⟨⟨_, (), rfl, (by simp only [Int32.lt_iff_toInt_lt, Int32.le_iff_toInt_le, Int32.reduceToInt, lf_m1] at *; first | (rw [if_pos (by omega)]) | (rw [if_neg (by omega)])), trivial⟩, hS.F ht⟩) hS.2.2 dX11_isModule_14
  · refine lv_iload_n hx hb dX11_isModule_4 rfl (lv_at hl 0 rfl) ?_
    refine lv_iconst (v := (3 : Int32)) hx hb dX11_isModule_5 (by decide) ?_
    refine lv_icmp_ge hx hb dX11_isModule_6 rfl (fun q2 => ?_) (fun q2 => ?_)
    · refine lv_iconst (v := (0 : Int32)) hx hb dX11_isModule_13 (by decide) ?_
      exact W.zret hx hb hr rfl (fun t ht hW => ⟨⟨_, (), rfl, (by simp only [Int32.lt_iff_toInt_lt, Int32.le_iff_toInt_le, Int32.reduceToInt, lf_m1] at *; first | (rw [if_pos (by omega)]) | (rw [if_neg (by omega)])), trivial⟩, hS.F ht⟩) hS.2.2 dX11_isModule_14
    · refine lv_iconst (v := (1 : Int32)) hx hb dX11_isModule_9 (by decide) ?_
      refine lv_goto hx hb dX11_isModule_10 rfl ?_
      exact W.zret hx hb hr rfl (fun t ht hW => ⟨⟨_, (), rfl, (by simp only [Int32.lt_iff_toInt_lt, Int32.le_iff_toInt_le, Int32.reduceToInt, lf_m1] at *; first | (rw [if_pos (by omega)]) | (rw [if_neg (by omega)])), trivial⟩, hS.F ht⟩) hS.2.2 dX11_isModule_14
set_option maxRecDepth 100000 in
/-- isKind: 0 to 5 -/
theorem kX11_isKind (l : Launch) (p0 : Int32) : Met l yX11_isKind wsX11_isKind ({ frames := 0, cells := 0, slots := 0, locals := 0 }) (va_Pc [.int p0] (fun _ => True)) (va_Qi (fun (r : Int32) (_ : Unit) => r = if 0 ≤ p0.toInt ∧ p0.toInt < 6 then 1 else 0) (fun _ _ => True) (fun _ => False)) 0 0 (fun _ => False) := by
  refine Met.ofW (cc := cX11_isKind) (maxL := 1) (ret := (some .boolean)) (by decide) rfl ?_
  intro p e s m args below meth c s₁ B hml hv
  obtain ⟨rfl, -⟩ := hv
  have hx := B.exec
  have hb := B.bytes
  have hr := B.returns
  have hlocks := B.notSynchronized
  have hS : va_S (fun _ => False) s.heap s.heap [] := va_S.rf
  have hl := lv_entry ([.int p0]) (n := 1) (Nat.le_of_ble_eq_true rfl)
  rw [lg_entry_eq]
  generalize (lg_sl ([.int p0]) ++ List.replicate (1 - (lg_sl ([.int p0])).length) Slot.unset).toArray = ls at hl ⊢
  have hl : lv_has ls 1 [(0, .int p0)] := hl
  refine lv_iload_n hx hb dX11_isKind_0 rfl (lv_at hl 0 rfl) ?_
  refine lv_if_lt hx hb dX11_isKind_1 rfl (fun q1 => ?_) (fun q1 => ?_)
  · refine lv_iconst (v := (0 : Int32)) hx hb dX11_isKind_14 (by decide) ?_
    exact W.zret hx hb hr rfl (fun t ht hW => ⟨⟨_, (), rfl, (by simp only [Int32.lt_iff_toInt_lt, Int32.le_iff_toInt_le, Int32.reduceToInt, lf_m1] at *; first | (rw [if_pos (by omega)]) | (rw [if_neg (by omega)])), trivial⟩, hS.F ht⟩) hS.2.2 dX11_isKind_15
  · refine lv_iload_n hx hb dX11_isKind_4 rfl (lv_at hl 0 rfl) ?_
    refine lv_bipush (v := (6 : Int32)) hx hb dX11_isKind_5 (by decide) ?_
    refine lv_icmp_ge hx hb dX11_isKind_7 rfl (fun q2 => ?_) (fun q2 => ?_)
    · refine lv_iconst (v := (0 : Int32)) hx hb dX11_isKind_14 (by decide) ?_
      exact W.zret hx hb hr rfl (fun t ht hW => ⟨⟨_, (), rfl, (by simp only [Int32.lt_iff_toInt_lt, Int32.le_iff_toInt_le, Int32.reduceToInt, lf_m1] at *; first | (rw [if_pos (by omega)]) | (rw [if_neg (by omega)])), trivial⟩, hS.F ht⟩) hS.2.2 dX11_isKind_15
    · refine lv_iconst (v := (1 : Int32)) hx hb dX11_isKind_10 (by decide) ?_
      refine lv_goto hx hb dX11_isKind_11 rfl ?_
      exact W.zret hx hb hr rfl (fun t ht hW => ⟨⟨_, (), rfl, (by simp only [Int32.lt_iff_toInt_lt, Int32.le_iff_toInt_le, Int32.reduceToInt, lf_m1] at *; first | (rw [if_pos (by omega)]) | (rw [if_neg (by omega)])), trivial⟩, hS.F ht⟩) hS.2.2 dX11_isKind_15
set_option maxRecDepth 100000 in
/-- isCode: -1 to 39 -/
theorem kX11_isCode (l : Launch) (p0 : Int32) : Met l yX11_isCode wsX11_isCode ({ frames := 0, cells := 0, slots := 0, locals := 0 }) (va_Pc [.int p0] (fun _ => True)) (va_Qi (fun (r : Int32) (_ : Unit) => r = if -1 ≤ p0.toInt ∧ p0.toInt < 40 then 1 else 0) (fun _ _ => True) (fun _ => False)) 0 0 (fun _ => False) := by
  refine Met.ofW (cc := cX11_isCode) (maxL := 1) (ret := (some .boolean)) (by decide) rfl ?_
  intro p e s m args below meth c s₁ B hml hv
  obtain ⟨rfl, -⟩ := hv
  have hx := B.exec
  have hb := B.bytes
  have hr := B.returns
  have hlocks := B.notSynchronized
  have hS : va_S (fun _ => False) s.heap s.heap [] := va_S.rf
  have hl := lv_entry ([.int p0]) (n := 1) (Nat.le_of_ble_eq_true rfl)
  rw [lg_entry_eq]
  generalize (lg_sl ([.int p0]) ++ List.replicate (1 - (lg_sl ([.int p0])).length) Slot.unset).toArray = ls at hl ⊢
  have hl : lv_has ls 1 [(0, .int p0)] := hl
  refine lv_iload_n hx hb dX11_isCode_0 rfl (lv_at hl 0 rfl) ?_
  refine lv_iconst (v := (-1 : Int32)) hx hb dX11_isCode_1 (by decide) ?_
  refine lv_icmp_lt hx hb dX11_isCode_2 rfl (fun q1 => ?_) (fun q1 => ?_)
  · refine lv_iconst (v := (0 : Int32)) hx hb dX11_isCode_15 (by decide) ?_
    exact W.zret hx hb hr rfl (fun t ht hW => ⟨⟨_, (), rfl, (by simp only [Int32.lt_iff_toInt_lt, Int32.le_iff_toInt_le, Int32.reduceToInt, lf_m1] at *; first | (rw [if_pos (by omega)]) | (rw [if_neg (by omega)])), trivial⟩, hS.F ht⟩) hS.2.2 dX11_isCode_16
  · refine lv_iload_n hx hb dX11_isCode_5 rfl (lv_at hl 0 rfl) ?_
    refine lv_bipush (v := (39 : Int32)) hx hb dX11_isCode_6 (by decide) ?_
    refine lv_icmp_gt hx hb dX11_isCode_8 rfl (fun q2 => ?_) (fun q2 => ?_)
    · refine lv_iconst (v := (0 : Int32)) hx hb dX11_isCode_15 (by decide) ?_
      exact W.zret hx hb hr rfl (fun t ht hW => ⟨⟨_, (), rfl, (by simp only [Int32.lt_iff_toInt_lt, Int32.le_iff_toInt_le, Int32.reduceToInt, lf_m1] at *; first | (rw [if_pos (by omega)]) | (rw [if_neg (by omega)])), trivial⟩, hS.F ht⟩) hS.2.2 dX11_isCode_16
    · refine lv_iconst (v := (1 : Int32)) hx hb dX11_isCode_11 (by decide) ?_
      refine lv_goto hx hb dX11_isCode_12 rfl ?_
      exact W.zret hx hb hr rfl (fun t ht hW => ⟨⟨_, (), rfl, (by simp only [Int32.lt_iff_toInt_lt, Int32.le_iff_toInt_le, Int32.reduceToInt, lf_m1] at *; first | (rw [if_pos (by omega)]) | (rw [if_neg (by omega)])), trivial⟩, hS.F ht⟩) hS.2.2 dX11_isCode_16
set_option maxRecDepth 100000 in
/-- isValue: 0 to 9 -/
theorem kX11_isValue (l : Launch) (p0 : Int32) : Met l yX11_isValue wsX11_isValue ({ frames := 0, cells := 0, slots := 0, locals := 0 }) (va_Pc [.int p0] (fun _ => True)) (va_Qi (fun (r : Int32) (_ : Unit) => r = if 0 ≤ p0.toInt ∧ p0.toInt < 10 then 1 else 0) (fun _ _ => True) (fun _ => False)) 0 0 (fun _ => False) := by
  refine Met.ofW (cc := cX11_isValue) (maxL := 1) (ret := (some .boolean)) (by decide) rfl ?_
  intro p e s m args below meth c s₁ B hml hv
  obtain ⟨rfl, -⟩ := hv
  have hx := B.exec
  have hb := B.bytes
  have hr := B.returns
  have hlocks := B.notSynchronized
  have hS : va_S (fun _ => False) s.heap s.heap [] := va_S.rf
  have hl := lv_entry ([.int p0]) (n := 1) (Nat.le_of_ble_eq_true rfl)
  rw [lg_entry_eq]
  generalize (lg_sl ([.int p0]) ++ List.replicate (1 - (lg_sl ([.int p0])).length) Slot.unset).toArray = ls at hl ⊢
  have hl : lv_has ls 1 [(0, .int p0)] := hl
  refine lv_iload_n hx hb dX11_isValue_0 rfl (lv_at hl 0 rfl) ?_
  refine lv_if_lt hx hb dX11_isValue_1 rfl (fun q1 => ?_) (fun q1 => ?_)
  · refine lv_iconst (v := (0 : Int32)) hx hb dX11_isValue_14 (by decide) ?_
    exact W.zret hx hb hr rfl (fun t ht hW => ⟨⟨_, (), rfl, (by simp only [Int32.lt_iff_toInt_lt, Int32.le_iff_toInt_le, Int32.reduceToInt, lf_m1] at *; first | (rw [if_pos (by omega)]) | (rw [if_neg (by omega)])), trivial⟩, hS.F ht⟩) hS.2.2 dX11_isValue_15
  · refine lv_iload_n hx hb dX11_isValue_4 rfl (lv_at hl 0 rfl) ?_
    refine lv_bipush (v := (10 : Int32)) hx hb dX11_isValue_5 (by decide) ?_
    refine lv_icmp_ge hx hb dX11_isValue_7 rfl (fun q2 => ?_) (fun q2 => ?_)
    · refine lv_iconst (v := (0 : Int32)) hx hb dX11_isValue_14 (by decide) ?_
      exact W.zret hx hb hr rfl (fun t ht hW => ⟨⟨_, (), rfl, (by simp only [Int32.lt_iff_toInt_lt, Int32.le_iff_toInt_le, Int32.reduceToInt, lf_m1] at *; first | (rw [if_pos (by omega)]) | (rw [if_neg (by omega)])), trivial⟩, hS.F ht⟩) hS.2.2 dX11_isValue_15
    · refine lv_iconst (v := (1 : Int32)) hx hb dX11_isValue_10 (by decide) ?_
      refine lv_goto hx hb dX11_isValue_11 rfl ?_
      exact W.zret hx hb hr rfl (fun t ht hW => ⟨⟨_, (), rfl, (by simp only [Int32.lt_iff_toInt_lt, Int32.le_iff_toInt_le, Int32.reduceToInt, lf_m1] at *; first | (rw [if_pos (by omega)]) | (rw [if_neg (by omega)])), trivial⟩, hS.F ht⟩) hS.2.2 dX11_isValue_15
set_option maxRecDepth 100000 in
/-- isVariable: u to z, 16 to 21 -/
theorem kX11_isVariable (l : Launch) (p0 : Int32) : Met l yX11_isVariable wsX11_isVariable ({ frames := 0, cells := 0, slots := 0, locals := 0 }) (va_Pc [.int p0] (fun _ => True)) (va_Qi (fun (r : Int32) (_ : Unit) => r = if 16 ≤ p0.toInt ∧ p0.toInt < 22 then 1 else 0) (fun _ _ => True) (fun _ => False)) 0 0 (fun _ => False) := by
  refine Met.ofW (cc := cX11_isVariable) (maxL := 1) (ret := (some .boolean)) (by decide) rfl ?_
  intro p e s m args below meth c s₁ B hml hv
  obtain ⟨rfl, -⟩ := hv
  have hx := B.exec
  have hb := B.bytes
  have hr := B.returns
  have hlocks := B.notSynchronized
  have hS : va_S (fun _ => False) s.heap s.heap [] := va_S.rf
  have hl := lv_entry ([.int p0]) (n := 1) (Nat.le_of_ble_eq_true rfl)
  rw [lg_entry_eq]
  generalize (lg_sl ([.int p0]) ++ List.replicate (1 - (lg_sl ([.int p0])).length) Slot.unset).toArray = ls at hl ⊢
  have hl : lv_has ls 1 [(0, .int p0)] := hl
  refine lv_iload_n hx hb dX11_isVariable_0 rfl (lv_at hl 0 rfl) ?_
  refine lv_bipush (v := (16 : Int32)) hx hb dX11_isVariable_1 (by decide) ?_
  refine lv_icmp_lt hx hb dX11_isVariable_3 rfl (fun q1 => ?_) (fun q1 => ?_)
  · refine lv_iconst (v := (0 : Int32)) hx hb dX11_isVariable_16 (by decide) ?_
    exact W.zret hx hb hr rfl (fun t ht hW => ⟨⟨_, (), rfl, (by simp only [Int32.lt_iff_toInt_lt, Int32.le_iff_toInt_le, Int32.reduceToInt, lf_m1] at *; first | (rw [if_pos (by omega)]) | (rw [if_neg (by omega)])), trivial⟩, hS.F ht⟩) hS.2.2 dX11_isVariable_17
  · refine lv_iload_n hx hb dX11_isVariable_6 rfl (lv_at hl 0 rfl) ?_
    refine lv_bipush (v := (22 : Int32)) hx hb dX11_isVariable_7 (by decide) ?_
    refine lv_icmp_ge hx hb dX11_isVariable_9 rfl (fun q2 => ?_) (fun q2 => ?_)
    · refine lv_iconst (v := (0 : Int32)) hx hb dX11_isVariable_16 (by decide) ?_
      exact W.zret hx hb hr rfl (fun t ht hW => ⟨⟨_, (), rfl, (by simp only [Int32.lt_iff_toInt_lt, Int32.le_iff_toInt_le, Int32.reduceToInt, lf_m1] at *; first | (rw [if_pos (by omega)]) | (rw [if_neg (by omega)])), trivial⟩, hS.F ht⟩) hS.2.2 dX11_isVariable_17
    · refine lv_iconst (v := (1 : Int32)) hx hb dX11_isVariable_12 (by decide) ?_
      refine lv_goto hx hb dX11_isVariable_13 rfl ?_
      exact W.zret hx hb hr rfl (fun t ht hW => ⟨⟨_, (), rfl, (by simp only [Int32.lt_iff_toInt_lt, Int32.le_iff_toInt_le, Int32.reduceToInt, lf_m1] at *; first | (rw [if_pos (by omega)]) | (rw [if_neg (by omega)])), trivial⟩, hS.F ht⟩) hS.2.2 dX11_isVariable_17
set_option maxRecDepth 100000 in
/-- countAfter: how many signs TYPED has behind a code; a count beyond 60 stays -/
theorem kX11_countAfter (l : Launch) (p0 : Int32) (p1 : Int32) : Met l yX11_countAfter wsX11_countAfter ({ frames := 0, cells := 0, slots := 0, locals := 0 }) (va_Pc [.int p0, .int p1] (fun _ => True)) (va_Qi (fun (r : Int32) (_ : Unit) => r = if 60 < p0 ∨ p1 = -1 then p0 else if p1 = 38 then 0 else if p1 = 39 then (if 0 < p0 then p0 - 1 else 0) else p0 + 1) (fun _ _ => True) (fun _ => False)) 0 0 (fun _ => False) := by
  refine Met.ofW (cc := cX11_countAfter) (maxL := 2) (ret := (some .int)) (by decide) rfl ?_
  intro p e s m args below meth c s₁ B hml hv
  obtain ⟨rfl, -⟩ := hv
  have hx := B.exec
  have hb := B.bytes
  have hr := B.returns
  have hlocks := B.notSynchronized
  have hS : va_S (fun _ => False) s.heap s.heap [] := va_S.rf
  have hl := lv_entry ([.int p0, .int p1]) (n := 2) (Nat.le_of_ble_eq_true rfl)
  rw [lg_entry_eq]
  generalize (lg_sl ([.int p0, .int p1]) ++ List.replicate (2 - (lg_sl ([.int p0, .int p1])).length) Slot.unset).toArray = ls at hl ⊢
  have hl : lv_has ls 2 [(0, .int p0), (1, .int p1)] := hl
  refine lv_iload_n hx hb dX11_countAfter_0 rfl (lv_at hl 0 rfl) ?_
  refine lv_bipush (v := (60 : Int32)) hx hb dX11_countAfter_1 (by decide) ?_
  refine lv_icmp_gt hx hb dX11_countAfter_3 rfl (fun q1 => ?_) (fun q1 => ?_)
  · refine lv_iload_n hx hb dX11_countAfter_11 rfl (lv_at hl 0 rfl) ?_
    exact W.iret hx hb hr (fun t ht hW => ⟨⟨_, (), rfl, (by (try simp only [ne_eq, Classical.not_not] at *); first | (simp [*]; done) | (simp [*]; intro h9; exact absurd h9 (Int32.not_lt.mpr (by assumption)))), trivial⟩, hS.F ht⟩) hS.2.2 dX11_countAfter_12
  · refine lv_iload_n hx hb dX11_countAfter_6 rfl (lv_at hl 1 rfl) ?_
    refine lv_iconst (v := (-1 : Int32)) hx hb dX11_countAfter_7 (by decide) ?_
    refine lv_icmp_ne hx hb dX11_countAfter_8 rfl (fun q2 => ?_) (fun q2 => ?_)
    · refine lv_iload_n hx hb dX11_countAfter_13 rfl (lv_at hl 1 rfl) ?_
      refine lv_bipush (v := (38 : Int32)) hx hb dX11_countAfter_14 (by decide) ?_
      refine lv_icmp_ne hx hb dX11_countAfter_16 rfl (fun q3 => ?_) (fun q3 => ?_)
      · refine lv_iload_n hx hb dX11_countAfter_21 rfl (lv_at hl 1 rfl) ?_
        refine lv_bipush (v := (39 : Int32)) hx hb dX11_countAfter_22 (by decide) ?_
        refine lv_icmp_ne hx hb dX11_countAfter_24 rfl (fun q4 => ?_) (fun q4 => ?_)
        · refine lv_iload_n hx hb dX11_countAfter_39 rfl (lv_at hl 0 rfl) ?_
          refine lv_iconst (v := (1 : Int32)) hx hb dX11_countAfter_40 (by decide) ?_
          refine lv_iadd hx hb dX11_countAfter_41 ?_
          exact W.iret hx hb hr (fun t ht hW => ⟨⟨_, (), rfl, (by (try simp only [ne_eq, Classical.not_not] at *); first | (simp [*]; done) | (simp [*]; intro h9; exact absurd h9 (Int32.not_lt.mpr (by assumption)))), trivial⟩, hS.F ht⟩) hS.2.2 dX11_countAfter_42
        · refine lv_iload_n hx hb dX11_countAfter_27 rfl (lv_at hl 0 rfl) ?_
          refine lv_if_le hx hb dX11_countAfter_28 rfl (fun q5 => ?_) (fun q5 => ?_)
          · refine lv_iconst (v := (0 : Int32)) hx hb dX11_countAfter_37 (by decide) ?_
            exact W.iret hx hb hr (fun t ht hW => ⟨⟨_, (), rfl, (by (try simp only [ne_eq, Classical.not_not] at *); first | (simp [*]; done) | (simp [*]; intro h9; exact absurd h9 (Int32.not_lt.mpr (by assumption)))), trivial⟩, hS.F ht⟩) hS.2.2 dX11_countAfter_38
          · refine lv_iload_n hx hb dX11_countAfter_31 rfl (lv_at hl 0 rfl) ?_
            refine lv_iconst (v := (1 : Int32)) hx hb dX11_countAfter_32 (by decide) ?_
            refine lv_isub hx hb dX11_countAfter_33 ?_
            refine lv_goto hx hb dX11_countAfter_34 rfl ?_
            exact W.iret hx hb hr (fun t ht hW => ⟨⟨_, (), rfl, (by (try simp only [ne_eq, Classical.not_not] at *); first | (simp [*]; done) | (simp [*]; intro h9; exact absurd h9 (Int32.not_lt.mpr (by assumption)))), trivial⟩, hS.F ht⟩) hS.2.2 dX11_countAfter_38
      · refine lv_iconst (v := (0 : Int32)) hx hb dX11_countAfter_19 (by decide) ?_
        exact W.iret hx hb hr (fun t ht hW => ⟨⟨_, (), rfl, (by (try simp only [ne_eq, Classical.not_not] at *); first | (simp [*]; done) | (simp [*]; intro h9; exact absurd h9 (Int32.not_lt.mpr (by assumption)))), trivial⟩, hS.F ht⟩) hS.2.2 dX11_countAfter_20
    · refine lv_iload_n hx hb dX11_countAfter_11 rfl (lv_at hl 0 rfl) ?_
      exact W.iret hx hb hr (fun t ht hW => ⟨⟨_, (), rfl, (by (try simp only [ne_eq, Classical.not_not] at *); first | (simp [*]; done) | (simp [*]; intro h9; exact absurd h9 (Int32.not_lt.mpr (by assumption)))), trivial⟩, hS.F ht⟩) hS.2.2 dX11_countAfter_12
set_option maxRecDepth 100000 in
/-- numberIn: the byte of a condition -/
theorem kX7_numberIn (l : Launch) (p0 : Int64) (p1 : Int32) : Met l yX7_numberIn wsX7_numberIn ({ frames := 0, cells := 0, slots := 0, locals := 0 }) (va_Pc [.long p0, .int p1] (fun _ => True)) (va_Qi (fun (r : Int32) (_ : Unit) => r = (p0 >>> ((8 * p1).toInt64 &&& 63)).toInt32 &&& 255) (fun _ _ => True) (fun _ => False)) 0 0 (fun _ => False) := by
  refine Met.ofW (cc := cX7_numberIn) (maxL := 3) (ret := (some .int)) (by decide) rfl ?_
  intro p e s m args below meth c s₁ B hml hv
  obtain ⟨rfl, -⟩ := hv
  have hx := B.exec
  have hb := B.bytes
  have hr := B.returns
  have hlocks := B.notSynchronized
  have hS : va_S (fun _ => False) s.heap s.heap [] := va_S.rf
  have hl := lv_entry ([.long p0, .int p1]) (n := 3) (Nat.le_of_ble_eq_true rfl)
  rw [lg_entry_eq]
  generalize (lg_sl ([.long p0, .int p1]) ++ List.replicate (3 - (lg_sl ([.long p0, .int p1])).length) Slot.unset).toArray = ls at hl ⊢
  have hl : lv_has ls 3 [(0, .long p0), (2, .int p1)] := hl
  refine lv_lload_n hx hb dX7_numberIn_0 rfl (lv_at hl 0 rfl) ?_
  refine lv_bipush (v := (8 : Int32)) hx hb dX7_numberIn_1 (by decide) ?_
  refine lv_iload_n hx hb dX7_numberIn_3 rfl (lv_at hl 1 rfl) ?_
  refine lv_imul hx hb dX7_numberIn_4 ?_
  refine lv_lshr hx hb dX7_numberIn_5 rfl ?_
  refine lv_l2i hx hb dX7_numberIn_6 rfl ?_
  refine lv_sipush (v := (255 : Int32)) hx hb dX7_numberIn_7 (by decide) ?_
  refine lv_iand hx hb dX7_numberIn_10 ?_
  exact W.iret hx hb hr (fun t ht hW => ⟨⟨_, (), rfl, rfl, trivial⟩, hS.F ht⟩) hS.2.2 dX7_numberIn_11
set_option maxRecDepth 100000 in
/-- signatureIn -/
theorem kX9_signatureIn (l : Launch) (p0 : Int64) : Met l yX9_signatureIn wsX9_signatureIn ({ frames := 0, cells := 0, slots := 0, locals := 0 }) (va_Pc [.long p0] (fun _ => True)) (va_Ql (fun (r : Int64) (_ : Unit) => r = (p0 >>> ((16 : Int32).toInt64 &&& 63)) &&& 1099511627775) (fun _ _ => True) (fun _ => False)) 0 0 (fun _ => False) := by
  refine Met.ofW (cc := cX9_signatureIn) (maxL := 2) (ret := (some .long)) (by decide) rfl ?_
  intro p e s m args below meth c s₁ B hml hv
  obtain ⟨rfl, -⟩ := hv
  have hx := B.exec
  have hb := B.bytes
  have hr := B.returns
  have hlocks := B.notSynchronized
  have hts := atoms_spec (ws := wsX9_signatureIn) B.pre
  have hown : s.vm.findClass RX9 = some m.cls := findClass_of_methodNamed B.named
  have hS : va_S (fun _ => False) s.heap s.heap [] := va_S.rf
  have hl := lv_entry ([.long p0]) (n := 2) (Nat.le_of_ble_eq_true rfl)
  rw [lg_entry_eq]
  generalize (lg_sl ([.long p0]) ++ List.replicate (2 - (lg_sl ([.long p0])).length) Slot.unset).toArray = ls at hl ⊢
  have hl : lv_has ls 2 [(0, .long p0)] := hl
  refine lv_lload_n hx hb dX9_signatureIn_0 rfl (lv_at hl 0 rfl) ?_
  refine lv_bipush (v := (16 : Int32)) hx hb dX9_signatureIn_1 (by decide) ?_
  refine lv_lshr hx hb dX9_signatureIn_3 rfl ?_
  refine lv_ldc2 hx hb hown (hts (.constantLong RX9 51 (1099511627775)) (by decide +kernel)) dX9_signatureIn_4 ?_
  refine lv_land hx hb dX9_signatureIn_7 ?_
  exact W.lret hx hb hr (fun t ht hW => ⟨⟨_, (), rfl, rfl, trivial⟩, hS.F ht⟩) hS.2.2 dX9_signatureIn_8
set_option maxRecDepth 100000 in
/-- reasonsIn -/
theorem kX9_reasonsIn (l : Launch) (p0 : Int64) : Met l yX9_reasonsIn wsX9_reasonsIn ({ frames := 0, cells := 0, slots := 0, locals := 0 }) (va_Pc [.long p0] (fun _ => True)) (va_Qi (fun (r : Int32) (_ : Unit) => r = p0.toInt32 &&& 65535) (fun _ _ => True) (fun _ => False)) 0 0 (fun _ => False) := by
  refine Met.ofW (cc := cX9_reasonsIn) (maxL := 2) (ret := (some .int)) (by decide) rfl ?_
  intro p e s m args below meth c s₁ B hml hv
  obtain ⟨rfl, -⟩ := hv
  have hx := B.exec
  have hb := B.bytes
  have hr := B.returns
  have hlocks := B.notSynchronized
  have hts := atoms_spec (ws := wsX9_reasonsIn) B.pre
  have hown : s.vm.findClass RX9 = some m.cls := findClass_of_methodNamed B.named
  have hS : va_S (fun _ => False) s.heap s.heap [] := va_S.rf
  have hl := lv_entry ([.long p0]) (n := 2) (Nat.le_of_ble_eq_true rfl)
  rw [lg_entry_eq]
  generalize (lg_sl ([.long p0]) ++ List.replicate (2 - (lg_sl ([.long p0])).length) Slot.unset).toArray = ls at hl ⊢
  have hl : lv_has ls 2 [(0, .long p0)] := hl
  refine lv_lload_n hx hb dX9_reasonsIn_0 rfl (lv_at hl 0 rfl) ?_
  refine lv_l2i hx hb dX9_reasonsIn_1 rfl ?_
  refine lv_ldc hx hb hown (hts (.constant RX9 53 (65535)) (by decide +kernel)) dX9_reasonsIn_2 ?_
  refine lv_iand hx hb dX9_reasonsIn_4 ?_
  exact W.iret hx hb hr (fun t ht hW => ⟨⟨_, (), rfl, rfl, trivial⟩, hS.F ht⟩) hS.2.2 dX9_reasonsIn_5
set_option maxRecDepth 100000 in
/-- the reference: one -/
theorem kX14_one (l : Launch) (p0 : Int32) : Met l yX14_one wsX14_one ({ frames := 0, cells := 0, slots := 0, locals := 0 }) (va_Pc [.int p0] (fun _ => True)) (va_Qi (fun (r : Int32) (_ : Unit) => r = if p0 = 0 then 0 else 1) (fun _ _ => True) (fun _ => False)) 0 0 (fun _ => False) := by
  refine Met.ofW (cc := cX14_one) (maxL := 1) (ret := (some .int)) (by decide) rfl ?_
  intro p e s m args below meth c s₁ B hml hv
  obtain ⟨rfl, -⟩ := hv
  have hx := B.exec
  have hb := B.bytes
  have hr := B.returns
  have hlocks := B.notSynchronized
  have hS : va_S (fun _ => False) s.heap s.heap [] := va_S.rf
  have hl := lv_entry ([.int p0]) (n := 1) (Nat.le_of_ble_eq_true rfl)
  rw [lg_entry_eq]
  generalize (lg_sl ([.int p0]) ++ List.replicate (1 - (lg_sl ([.int p0])).length) Slot.unset).toArray = ls at hl ⊢
  have hl : lv_has ls 1 [(0, .int p0)] := hl
  refine lv_iload_n hx hb dX14_one_0 rfl (lv_at hl 0 rfl) ?_
  refine lv_if_eq hx hb dX14_one_1 rfl (fun q1 => ?_) (fun q1 => ?_)
  · refine lv_iconst (v := (0 : Int32)) hx hb dX14_one_8 (by decide) ?_
    exact W.iret hx hb hr (fun t ht hW => ⟨⟨_, (), rfl, (by simp_all), trivial⟩, hS.F ht⟩) hS.2.2 dX14_one_9
  · refine lv_iconst (v := (1 : Int32)) hx hb dX14_one_4 (by decide) ?_
    refine lv_goto hx hb dX14_one_5 rfl ?_
    exact W.iret hx hb hr (fun t ht hW => ⟨⟨_, (), rfl, (by simp_all), trivial⟩, hS.F ht⟩) hS.2.2 dX14_one_9
set_option maxRecDepth 100000 in
/-- the reference: isIn -/
theorem kX14_isIn (l : Launch) (p0 : Int32) (p1 : Int32) (p2 : Int32) : Met l yX14_isIn wsX14_isIn ({ frames := 0, cells := 0, slots := 0, locals := 0 }) (va_Pc [.int p0, .int p1, .int p2] (fun _ => True)) (va_Qi (fun (r : Int32) (_ : Unit) => r = if p1 ≤ p0 ∧ p0 ≤ p2 then 1 else 0) (fun _ _ => True) (fun _ => False)) 0 0 (fun _ => False) := by
  refine Met.ofW (cc := cX14_isIn) (maxL := 3) (ret := (some .boolean)) (by decide) rfl ?_
  intro p e s m args below meth c s₁ B hml hv
  obtain ⟨rfl, -⟩ := hv
  have hx := B.exec
  have hb := B.bytes
  have hr := B.returns
  have hlocks := B.notSynchronized
  have hS : va_S (fun _ => False) s.heap s.heap [] := va_S.rf
  have hl := lv_entry ([.int p0, .int p1, .int p2]) (n := 3) (Nat.le_of_ble_eq_true rfl)
  rw [lg_entry_eq]
  generalize (lg_sl ([.int p0, .int p1, .int p2]) ++ List.replicate (3 - (lg_sl ([.int p0, .int p1, .int p2])).length) Slot.unset).toArray = ls at hl ⊢
  have hl : lv_has ls 3 [(0, .int p0), (1, .int p1), (2, .int p2)] := hl
  refine lv_iload_n hx hb dX14_isIn_0 rfl (lv_at hl 0 rfl) ?_
  refine lv_iload_n hx hb dX14_isIn_1 rfl (lv_at hl 1 rfl) ?_
  refine lv_icmp_lt hx hb dX14_isIn_2 rfl (fun q1 => ?_) (fun q1 => ?_)
  · refine lv_iconst (v := (0 : Int32)) hx hb dX14_isIn_14 (by decide) ?_
    exact W.zret hx hb hr rfl (fun t ht hW => ⟨⟨_, (), rfl, (by simp only [Int32.lt_iff_toInt_lt, Int32.le_iff_toInt_le] at *; first | (rw [if_pos (by omega)]) | (rw [if_neg (by omega)])), trivial⟩, hS.F ht⟩) hS.2.2 dX14_isIn_15
  · refine lv_iload_n hx hb dX14_isIn_5 rfl (lv_at hl 0 rfl) ?_
    refine lv_iload_n hx hb dX14_isIn_6 rfl (lv_at hl 2 rfl) ?_
    refine lv_icmp_gt hx hb dX14_isIn_7 rfl (fun q2 => ?_) (fun q2 => ?_)
    · refine lv_iconst (v := (0 : Int32)) hx hb dX14_isIn_14 (by decide) ?_
      exact W.zret hx hb hr rfl (fun t ht hW => ⟨⟨_, (), rfl, (by simp only [Int32.lt_iff_toInt_lt, Int32.le_iff_toInt_le] at *; first | (rw [if_pos (by omega)]) | (rw [if_neg (by omega)])), trivial⟩, hS.F ht⟩) hS.2.2 dX14_isIn_15
    · refine lv_iconst (v := (1 : Int32)) hx hb dX14_isIn_10 (by decide) ?_
      refine lv_goto hx hb dX14_isIn_11 rfl ?_
      exact W.zret hx hb hr rfl (fun t ht hW => ⟨⟨_, (), rfl, (by simp only [Int32.lt_iff_toInt_lt, Int32.le_iff_toInt_le] at *; first | (rw [if_pos (by omega)]) | (rw [if_neg (by omega)])), trivial⟩, hS.F ht⟩) hS.2.2 dX14_isIn_15
set_option maxRecDepth 100000 in
/-- the reference: isKind, A to F -/
theorem kX14_isKind (l : Launch) (p0 : Int32) : Met l yX14_isKind wsX14_isKind ({ frames := 0, cells := 0, slots := 0, locals := 0 }) (va_Pc [.int p0] (fun _ => True)) (va_Qi (fun (r : Int32) (_ : Unit) => r = if 65 ≤ p0.toInt ∧ p0.toInt < 71 then 1 else 0) (fun _ _ => True) (fun _ => False)) 0 0 (fun _ => False) := by
  refine Met.ofW (cc := cX14_isKind) (maxL := 1) (ret := (some .boolean)) (by decide) rfl ?_
  intro p e s m args below meth c s₁ B hml hv
  obtain ⟨rfl, -⟩ := hv
  have hx := B.exec
  have hb := B.bytes
  have hr := B.returns
  have hlocks := B.notSynchronized
  have hS : va_S (fun _ => False) s.heap s.heap [] := va_S.rf
  have hl := lv_entry ([.int p0]) (n := 1) (Nat.le_of_ble_eq_true rfl)
  rw [lg_entry_eq]
  generalize (lg_sl ([.int p0]) ++ List.replicate (1 - (lg_sl ([.int p0])).length) Slot.unset).toArray = ls at hl ⊢
  have hl : lv_has ls 1 [(0, .int p0)] := hl
  refine lv_iload_n hx hb dX14_isKind_0 rfl (lv_at hl 0 rfl) ?_
  refine lv_bipush (v := (65 : Int32)) hx hb dX14_isKind_1 (by decide) ?_
  refine lv_icmp_lt hx hb dX14_isKind_3 rfl (fun q1 => ?_) (fun q1 => ?_)
  · refine lv_iconst (v := (0 : Int32)) hx hb dX14_isKind_16 (by decide) ?_
    exact W.zret hx hb hr rfl (fun t ht hW => ⟨⟨_, (), rfl, (by simp only [Int32.lt_iff_toInt_lt, Int32.le_iff_toInt_le, Int32.reduceToInt, lf_m1] at *; first | (rw [if_pos (by omega)]) | (rw [if_neg (by omega)])), trivial⟩, hS.F ht⟩) hS.2.2 dX14_isKind_17
  · refine lv_iload_n hx hb dX14_isKind_6 rfl (lv_at hl 0 rfl) ?_
    refine lv_bipush (v := (70 : Int32)) hx hb dX14_isKind_7 (by decide) ?_
    refine lv_icmp_gt hx hb dX14_isKind_9 rfl (fun q2 => ?_) (fun q2 => ?_)
    · refine lv_iconst (v := (0 : Int32)) hx hb dX14_isKind_16 (by decide) ?_
      exact W.zret hx hb hr rfl (fun t ht hW => ⟨⟨_, (), rfl, (by simp only [Int32.lt_iff_toInt_lt, Int32.le_iff_toInt_le, Int32.reduceToInt, lf_m1] at *; first | (rw [if_pos (by omega)]) | (rw [if_neg (by omega)])), trivial⟩, hS.F ht⟩) hS.2.2 dX14_isKind_17
    · refine lv_iconst (v := (1 : Int32)) hx hb dX14_isKind_12 (by decide) ?_
      refine lv_goto hx hb dX14_isKind_13 rfl ?_
      exact W.zret hx hb hr rfl (fun t ht hW => ⟨⟨_, (), rfl, (by simp only [Int32.lt_iff_toInt_lt, Int32.le_iff_toInt_le, Int32.reduceToInt, lf_m1] at *; first | (rw [if_pos (by omega)]) | (rw [if_neg (by omega)])), trivial⟩, hS.F ht⟩) hS.2.2 dX14_isKind_17
set_option maxRecDepth 100000 in
/-- the reference: isDigit -/
theorem kX14_isDigit (l : Launch) (p0 : Int32) : Met l yX14_isDigit wsX14_isDigit ({ frames := 0, cells := 0, slots := 0, locals := 0 }) (va_Pc [.int p0] (fun _ => True)) (va_Qi (fun (r : Int32) (_ : Unit) => r = if 48 ≤ p0.toInt ∧ p0.toInt < 58 then 1 else 0) (fun _ _ => True) (fun _ => False)) 0 0 (fun _ => False) := by
  refine Met.ofW (cc := cX14_isDigit) (maxL := 1) (ret := (some .boolean)) (by decide) rfl ?_
  intro p e s m args below meth c s₁ B hml hv
  obtain ⟨rfl, -⟩ := hv
  have hx := B.exec
  have hb := B.bytes
  have hr := B.returns
  have hlocks := B.notSynchronized
  have hS : va_S (fun _ => False) s.heap s.heap [] := va_S.rf
  have hl := lv_entry ([.int p0]) (n := 1) (Nat.le_of_ble_eq_true rfl)
  rw [lg_entry_eq]
  generalize (lg_sl ([.int p0]) ++ List.replicate (1 - (lg_sl ([.int p0])).length) Slot.unset).toArray = ls at hl ⊢
  have hl : lv_has ls 1 [(0, .int p0)] := hl
  refine lv_iload_n hx hb dX14_isDigit_0 rfl (lv_at hl 0 rfl) ?_
  refine lv_bipush (v := (48 : Int32)) hx hb dX14_isDigit_1 (by decide) ?_
  refine lv_icmp_lt hx hb dX14_isDigit_3 rfl (fun q1 => ?_) (fun q1 => ?_)
  · refine lv_iconst (v := (0 : Int32)) hx hb dX14_isDigit_16 (by decide) ?_
    exact W.zret hx hb hr rfl (fun t ht hW => ⟨⟨_, (), rfl, (by simp only [Int32.lt_iff_toInt_lt, Int32.le_iff_toInt_le, Int32.reduceToInt, lf_m1] at *; first | (rw [if_pos (by omega)]) | (rw [if_neg (by omega)])), trivial⟩, hS.F ht⟩) hS.2.2 dX14_isDigit_17
  · refine lv_iload_n hx hb dX14_isDigit_6 rfl (lv_at hl 0 rfl) ?_
    refine lv_bipush (v := (57 : Int32)) hx hb dX14_isDigit_7 (by decide) ?_
    refine lv_icmp_gt hx hb dX14_isDigit_9 rfl (fun q2 => ?_) (fun q2 => ?_)
    · refine lv_iconst (v := (0 : Int32)) hx hb dX14_isDigit_16 (by decide) ?_
      exact W.zret hx hb hr rfl (fun t ht hW => ⟨⟨_, (), rfl, (by simp only [Int32.lt_iff_toInt_lt, Int32.le_iff_toInt_le, Int32.reduceToInt, lf_m1] at *; first | (rw [if_pos (by omega)]) | (rw [if_neg (by omega)])), trivial⟩, hS.F ht⟩) hS.2.2 dX14_isDigit_17
    · refine lv_iconst (v := (1 : Int32)) hx hb dX14_isDigit_12 (by decide) ?_
      refine lv_goto hx hb dX14_isDigit_13 rfl ?_
      exact W.zret hx hb hr rfl (fun t ht hW => ⟨⟨_, (), rfl, (by simp only [Int32.lt_iff_toInt_lt, Int32.le_iff_toInt_le, Int32.reduceToInt, lf_m1] at *; first | (rw [if_pos (by omega)]) | (rw [if_neg (by omega)])), trivial⟩, hS.F ht⟩) hS.2.2 dX14_isDigit_17
set_option maxRecDepth 100000 in
/-- the reference: isVariable, u to z -/
theorem kX14_isVariable (l : Launch) (p0 : Int32) : Met l yX14_isVariable wsX14_isVariable ({ frames := 0, cells := 0, slots := 0, locals := 0 }) (va_Pc [.int p0] (fun _ => True)) (va_Qi (fun (r : Int32) (_ : Unit) => r = if 117 ≤ p0.toInt ∧ p0.toInt < 123 then 1 else 0) (fun _ _ => True) (fun _ => False)) 0 0 (fun _ => False) := by
  refine Met.ofW (cc := cX14_isVariable) (maxL := 1) (ret := (some .boolean)) (by decide) rfl ?_
  intro p e s m args below meth c s₁ B hml hv
  obtain ⟨rfl, -⟩ := hv
  have hx := B.exec
  have hb := B.bytes
  have hr := B.returns
  have hlocks := B.notSynchronized
  have hS : va_S (fun _ => False) s.heap s.heap [] := va_S.rf
  have hl := lv_entry ([.int p0]) (n := 1) (Nat.le_of_ble_eq_true rfl)
  rw [lg_entry_eq]
  generalize (lg_sl ([.int p0]) ++ List.replicate (1 - (lg_sl ([.int p0])).length) Slot.unset).toArray = ls at hl ⊢
  have hl : lv_has ls 1 [(0, .int p0)] := hl
  refine lv_iload_n hx hb dX14_isVariable_0 rfl (lv_at hl 0 rfl) ?_
  refine lv_bipush (v := (117 : Int32)) hx hb dX14_isVariable_1 (by decide) ?_
  refine lv_icmp_lt hx hb dX14_isVariable_3 rfl (fun q1 => ?_) (fun q1 => ?_)
  · refine lv_iconst (v := (0 : Int32)) hx hb dX14_isVariable_16 (by decide) ?_
    exact W.zret hx hb hr rfl (fun t ht hW => ⟨⟨_, (), rfl, (by simp only [Int32.lt_iff_toInt_lt, Int32.le_iff_toInt_le, Int32.reduceToInt, lf_m1] at *; first | (rw [if_pos (by omega)]) | (rw [if_neg (by omega)])), trivial⟩, hS.F ht⟩) hS.2.2 dX14_isVariable_17
  · refine lv_iload_n hx hb dX14_isVariable_6 rfl (lv_at hl 0 rfl) ?_
    refine lv_bipush (v := (122 : Int32)) hx hb dX14_isVariable_7 (by decide) ?_
    refine lv_icmp_gt hx hb dX14_isVariable_9 rfl (fun q2 => ?_) (fun q2 => ?_)
    · refine lv_iconst (v := (0 : Int32)) hx hb dX14_isVariable_16 (by decide) ?_
      exact W.zret hx hb hr rfl (fun t ht hW => ⟨⟨_, (), rfl, (by simp only [Int32.lt_iff_toInt_lt, Int32.le_iff_toInt_le, Int32.reduceToInt, lf_m1] at *; first | (rw [if_pos (by omega)]) | (rw [if_neg (by omega)])), trivial⟩, hS.F ht⟩) hS.2.2 dX14_isVariable_17
    · refine lv_iconst (v := (1 : Int32)) hx hb dX14_isVariable_12 (by decide) ?_
      refine lv_goto hx hb dX14_isVariable_13 rfl ?_
      exact W.zret hx hb hr rfl (fun t ht hW => ⟨⟨_, (), rfl, (by simp only [Int32.lt_iff_toInt_lt, Int32.le_iff_toInt_le, Int32.reduceToInt, lf_m1] at *; first | (rw [if_pos (by omega)]) | (rw [if_neg (by omega)])), trivial⟩, hS.F ht⟩) hS.2.2 dX14_isVariable_17
end
section
/-! Constructors of the class without loops. Printed by wip/gen/mk2.py. -/
def RX0 : String := "Ruleengine$Atom"
def TX0 : u_T := fun k => match k with
  | 0 => ("Ruleengine$Atom", "kind", "I", false)
  | 1 => ("Ruleengine$Atom", "sign", "[I", true)
  | 2 => ("Ruleengine$Atom", "want", "[I", true)
  | 3 => ("Ruleengine$Atom", "isFirstSecond", "Z", false)
  | 4 => ("Ruleengine$Atom", "isFirstThird", "Z", false)
  | _ => ("Ruleengine$Atom", "isSecondThird", "Z", false)
def tyX0 : Nat → FieldType := fun k => match k with
  | 0 => .int
  | 1 => .array .int
  | 2 => .array .int
  | 3 => .boolean
  | 4 => .boolean
  | _ => .boolean
abbrev wsX00 : List Cond := u_ws RX0 TX0 6
theorem nmX0 : ∀ a, a < 6 → ∀ b, b < 6 → a ≠ b → (TX0 a).2.1 ≠ (TX0 b).2.1 := by decide +kernel
theorem tyX0_ok : ∀ k, k < 6 → parseFieldDescriptor (TX0 k).2.2.1 = some (tyX0 k) := by decide +kernel
def RX1 : String := "Ruleengine$Coulds"
def TX1 : u_T := fun k => match k with
  | 0 => ("Ruleengine$Search", "state", "LRuleengine$State;", true)
  | 1 => ("Ruleengine$Search", "pool", "[LRuleengine$Fact;", true)
  | 2 => ("Ruleengine$Search", "poolSize", "I", false)
  | 3 => ("Ruleengine$Search", "isEnough", "Z", false)
  | 4 => ("Ruleengine$Search", "values", "[I", true)
  | 5 => ("Ruleengine$Search", "reached", "[I", true)
  | 6 => ("Ruleengine$Coulds", "isSeen", "[B", true)
  | _ => ("Ruleengine$Coulds", "gathered", "I", false)
def tyX1 : Nat → FieldType := fun k => match k with
  | 0 => .object "Ruleengine$State"
  | 1 => .array (.object "Ruleengine$Fact")
  | 2 => .int
  | 3 => .boolean
  | 4 => .array .int
  | 5 => .array .int
  | 6 => .array .byte
  | _ => .int
abbrev wsX10 : List Cond := u_ws RX1 TX1 8
theorem nmX1 : ∀ a, a < 8 → ∀ b, b < 8 → a ≠ b → (TX1 a).2.1 ≠ (TX1 b).2.1 := by decide +kernel
theorem tyX1_ok : ∀ k, k < 8 → parseFieldDescriptor (TX1 k).2.2.1 = some (tyX1 k) := by decide +kernel
def RX2 : String := "Ruleengine$Fact"
def TX2 : u_T := fun k => match k with
  | 0 => ("Ruleengine$Fact", "number", "I", false)
  | 1 => ("Ruleengine$Fact", "kind", "I", false)
  | 2 => ("Ruleengine$Fact", "value", "[I", true)
  | 3 => ("Ruleengine$Fact", "minute", "I", false)
  | _ => ("Ruleengine$Fact", "isTold", "Z", false)
def tyX2 : Nat → FieldType := fun k => match k with
  | 0 => .int
  | 1 => .int
  | 2 => .array .int
  | 3 => .int
  | _ => .boolean
abbrev wsX20 : List Cond := u_ws RX2 TX2 5
theorem nmX2 : ∀ a, a < 5 → ∀ b, b < 5 → a ≠ b → (TX2 a).2.1 ≠ (TX2 b).2.1 := by decide +kernel
theorem tyX2_ok : ∀ k, k < 5 → parseFieldDescriptor (TX2 k).2.2.1 = some (tyX2 k) := by decide +kernel
def RX3 : String := "Ruleengine$Layers"
def TX3 : u_T := fun k => match k with
  | 0 => ("Ruleengine$Layers", "ofKind", "[I", true)
  | 1 => ("Ruleengine$Layers", "ofRule", "[I", true)
  | _ => ("Ruleengine$Layers", "isRing", "Z", false)
def tyX3 : Nat → FieldType := fun k => match k with
  | 0 => .array .int
  | 1 => .array .int
  | _ => .boolean
abbrev wsX30 : List Cond := u_ws RX3 TX3 3
theorem nmX3 : ∀ a, a < 3 → ∀ b, b < 3 → a ≠ b → (TX3 a).2.1 ≠ (TX3 b).2.1 := by decide +kernel
theorem tyX3_ok : ∀ k, k < 3 → parseFieldDescriptor (TX3 k).2.2.1 = some (tyX3 k) := by decide +kernel
def RX4 : String := "Ruleengine$Matches"
def TX4 : u_T := fun k => match k with
  | 0 => ("Ruleengine$Search", "state", "LRuleengine$State;", true)
  | 1 => ("Ruleengine$Search", "pool", "[LRuleengine$Fact;", true)
  | 2 => ("Ruleengine$Search", "poolSize", "I", false)
  | 3 => ("Ruleengine$Search", "isEnough", "Z", false)
  | 4 => ("Ruleengine$Search", "values", "[I", true)
  | 5 => ("Ruleengine$Search", "reached", "[I", true)
  | 6 => ("Ruleengine$Matches", "placeByAge", "[I", true)
  | 7 => ("Ruleengine$Matches", "aged", "I", false)
  | 8 => ("Ruleengine$Matches", "foundCount", "[I", true)
  | 9 => ("Ruleengine$Matches", "partial", "[[I", true)
  | 10 => ("Ruleengine$Matches", "age", "[I", true)
  | 11 => ("Ruleengine$Matches", "isAged", "Z", false)
  | 12 => ("Ruleengine$Matches", "found", "[[I", true)
  | 13 => ("Ruleengine$Matches", "isDone", "[[B", true)
  | 14 => ("Ruleengine$Matches", "isFresh", "[Z", true)
  | 15 => ("Ruleengine$Matches", "agenda", "[I", false)
  | _ => ("Ruleengine$Matches", "slot", "I", false)
def tyX4 : Nat → FieldType := fun k => match k with
  | 0 => .object "Ruleengine$State"
  | 1 => .array (.object "Ruleengine$Fact")
  | 2 => .int
  | 3 => .boolean
  | 4 => .array .int
  | 5 => .array .int
  | 6 => .array .int
  | 7 => .int
  | 8 => .array .int
  | 9 => .array (.array .int)
  | 10 => .array .int
  | 11 => .boolean
  | 12 => .array (.array .int)
  | 13 => .array (.array .byte)
  | 14 => .array .boolean
  | 15 => .array .int
  | _ => .int
abbrev wsX40 : List Cond := u_ws RX4 TX4 17
theorem nmX4 : ∀ a, a < 17 → ∀ b, b < 17 → a ≠ b → (TX4 a).2.1 ≠ (TX4 b).2.1 := by decide +kernel
theorem tyX4_ok : ∀ k, k < 17 → parseFieldDescriptor (TX4 k).2.2.1 = some (tyX4 k) := by decide +kernel
def RX5 : String := "Ruleengine$Part"
def TX5 : u_T := fun k => match k with
  | 0 => ("Ruleengine$Part", "sort", "I", false)
  | 1 => ("Ruleengine$Part", "atom", "LRuleengine$Atom;", true)
  | 2 => ("Ruleengine$Part", "left", "I", false)
  | 3 => ("Ruleengine$Part", "right", "I", false)
  | 4 => ("Ruleengine$Part", "relation", "I", false)
  | 5 => ("Ruleengine$Part", "isNew", "Z", false)
  | _ => ("Ruleengine$Part", "at", "I", false)
def tyX5 : Nat → FieldType := fun k => match k with
  | 0 => .int
  | 1 => .object "Ruleengine$Atom"
  | 2 => .int
  | 3 => .int
  | 4 => .int
  | 5 => .boolean
  | _ => .int
abbrev wsX50 : List Cond := u_ws RX5 TX5 7
theorem nmX5 : ∀ a, a < 7 → ∀ b, b < 7 → a ≠ b → (TX5 a).2.1 ≠ (TX5 b).2.1 := by decide +kernel
theorem tyX5_ok : ∀ k, k < 7 → parseFieldDescriptor (TX5 k).2.2.1 = some (tyX5 k) := by decide +kernel
def RX6 : String := "Ruleengine$Reader"
def TX6 : u_T := fun k => match k with
  | 0 => ("Ruleengine$Reader", "sign", "[I", true)
  | 1 => ("Ruleengine$Reader", "count", "I", false)
  | 2 => ("Ruleengine$Reader", "isUnfit", "Z", false)
  | 3 => ("Ruleengine$Reader", "place", "I", false)
  | 4 => ("Ruleengine$Reader", "isBroken", "Z", false)
  | 5 => ("Ruleengine$Reader", "known", "I", false)
  | 6 => ("Ruleengine$Reader", "draft", "LRuleengine$Rule;", false)
  | 7 => ("Ruleengine$Reader", "spare", "LRuleengine$Part;", true)
  | _ => ("Ruleengine$Reader", "line", "Ljava/lang/StringBuilder;", true)
def tyX6 : Nat → FieldType := fun k => match k with
  | 0 => .array .int
  | 1 => .int
  | 2 => .boolean
  | 3 => .int
  | 4 => .boolean
  | 5 => .int
  | 6 => .object "Ruleengine$Rule"
  | 7 => .object "Ruleengine$Part"
  | _ => .object "java/lang/StringBuilder"
abbrev wsX60 : List Cond := u_ws RX6 TX6 9
theorem nmX6 : ∀ a, a < 9 → ∀ b, b < 9 → a ≠ b → (TX6 a).2.1 ≠ (TX6 b).2.1 := by decide +kernel
theorem tyX6_ok : ∀ k, k < 9 → parseFieldDescriptor (TX6 k).2.2.1 = some (tyX6 k) := by decide +kernel
def TX7 : u_T := fun k => match k with
  | 0 => ("Ruleengine$Rule", "typedAs", "Ljava/lang/String;", false)
  | 1 => ("Ruleengine$Rule", "urgency", "I", false)
  | 2 => ("Ruleengine$Rule", "module", "I", false)
  | 3 => ("Ruleengine$Rule", "condition", "[LRuleengine$Part;", true)
  | 4 => ("Ruleengine$Rule", "end", "[I", true)
  | 5 => ("Ruleengine$Rule", "conditionCount", "I", false)
  | 6 => ("Ruleengine$Rule", "hasAt", "[I", true)
  | 7 => ("Ruleengine$Rule", "hasCount", "I", false)
  | 8 => ("Ruleengine$Rule", "act", "[LRuleengine$Part;", true)
  | 9 => ("Ruleengine$Rule", "actCount", "I", false)
  | _ => ("Ruleengine$Rule", "kinds", "I", false)
def tyX7 : Nat → FieldType := fun k => match k with
  | 0 => .object "java/lang/String"
  | 1 => .int
  | 2 => .int
  | 3 => .array (.object "Ruleengine$Part")
  | 4 => .array .int
  | 5 => .int
  | 6 => .array .int
  | 7 => .int
  | 8 => .array (.object "Ruleengine$Part")
  | 9 => .int
  | _ => .int
abbrev wsX70 : List Cond := u_ws RX7 TX7 11
theorem nmX7 : ∀ a, a < 11 → ∀ b, b < 11 → a ≠ b → (TX7 a).2.1 ≠ (TX7 b).2.1 := by decide +kernel
theorem tyX7_ok : ∀ k, k < 11 → parseFieldDescriptor (TX7 k).2.2.1 = some (tyX7 k) := by decide +kernel
def TX9 : u_T := fun k => match k with
  | 0 => ("Ruleengine$State", "fact", "[LRuleengine$Fact;", true)
  | 1 => ("Ruleengine$State", "came", "I", false)
  | 2 => ("Ruleengine$State", "minute", "I", false)
  | 3 => ("Ruleengine$State", "windowMinutes", "[I", true)
  | 4 => ("Ruleengine$State", "windowMost", "[I", true)
  | 5 => ("Ruleengine$State", "rule", "[LRuleengine$Rule;", true)
  | 6 => ("Ruleengine$State", "done", "[J", false)
  | 7 => ("Ruleengine$State", "doneCount", "I", false)
  | 8 => ("Ruleengine$State", "doneEver", "I", false)
  | 9 => ("Ruleengine$State", "stack", "[I", true)
  | 10 => ("Ruleengine$State", "stackSize", "I", false)
  | 11 => ("Ruleengine$State", "written", "[I", true)
  | _ => ("Ruleengine$State", "writtenCount", "I", false)
def tyX9 : Nat → FieldType := fun k => match k with
  | 0 => .array (.object "Ruleengine$Fact")
  | 1 => .int
  | 2 => .int
  | 3 => .array .int
  | 4 => .array .int
  | 5 => .array (.object "Ruleengine$Rule")
  | 6 => .array .long
  | 7 => .int
  | 8 => .int
  | 9 => .array .int
  | 10 => .int
  | 11 => .array .int
  | _ => .int
abbrev wsX90 : List Cond := u_ws RX9 TX9 13
theorem nmX9 : ∀ a, a < 13 → ∀ b, b < 13 → a ≠ b → (TX9 a).2.1 ≠ (TX9 b).2.1 := by decide +kernel
theorem tyX9_ok : ∀ k, k < 13 → parseFieldDescriptor (TX9 k).2.2.1 = some (tyX9 k) := by decide +kernel
def RX10 : String := "Ruleengine$Work"
def TX10 : u_T := fun k => match k with
  | 0 => ("Ruleengine$Work", "state", "LRuleengine$State;", true)
  | 1 => ("Ruleengine$Work", "matches", "LRuleengine$Matches;", true)
  | 2 => ("Ruleengine$Work", "isStopped", "Z", false)
  | 3 => ("Ruleengine$Work", "rank", "[I", true)
  | 4 => ("Ruleengine$Work", "touched", "I", false)
  | 5 => ("Ruleengine$Work", "current", "I", false)
  | 6 => ("Ruleengine$Work", "values", "[I", true)
  | 7 => ("Ruleengine$Work", "numbers", "[I", true)
  | _ => ("Ruleengine$Work", "made", "LRuleengine$Fact;", true)
def tyX10 : Nat → FieldType := fun k => match k with
  | 0 => .object "Ruleengine$State"
  | 1 => .object "Ruleengine$Matches"
  | 2 => .boolean
  | 3 => .array .int
  | 4 => .int
  | 5 => .int
  | 6 => .array .int
  | 7 => .array .int
  | _ => .object "Ruleengine$Fact"
abbrev wsX100 : List Cond := u_ws RX10 TX10 9
theorem nmX10 : ∀ a, a < 9 → ∀ b, b < 9 → a ≠ b → (TX10 a).2.1 ≠ (TX10 b).2.1 := by decide +kernel
theorem tyX10_ok : ∀ k, k < 9 → parseFieldDescriptor (TX10 k).2.2.1 = some (tyX10 k) := by decide +kernel
def TX11 : u_T := fun k => match k with
  | 0 => ("Ruleengine", "state", "LRuleengine$State;", true)
  | 1 => ("Ruleengine", "matches", "LRuleengine$Matches;", true)
  | 2 => ("Ruleengine", "work", "LRuleengine$Work;", true)
  | 3 => ("Ruleengine", "coulds", "LRuleengine$Coulds;", true)
  | 4 => ("Ruleengine", "layers", "LRuleengine$Layers;", true)
  | 5 => ("Ruleengine", "reader", "LRuleengine$Reader;", true)
  | 6 => ("Ruleengine", "asked", "LRuleengine$Fact;", true)
  | 7 => ("Ruleengine", "past", "[LRuleengine$State;", true)
  | 8 => ("Ruleengine", "pastStart", "I", false)
  | 9 => ("Ruleengine", "pastCount", "I", false)
  | 10 => ("Ruleengine", "knocked", "I", false)
  | _ => ("Ruleengine", "line", "Ljava/lang/StringBuilder;", true)
def tyX11 : Nat → FieldType := fun k => match k with
  | 0 => .object "Ruleengine$State"
  | 1 => .object "Ruleengine$Matches"
  | 2 => .object "Ruleengine$Work"
  | 3 => .object "Ruleengine$Coulds"
  | 4 => .object "Ruleengine$Layers"
  | 5 => .object "Ruleengine$Reader"
  | 6 => .object "Ruleengine$Fact"
  | 7 => .array (.object "Ruleengine$State")
  | 8 => .int
  | 9 => .int
  | 10 => .int
  | _ => .object "java/lang/StringBuilder"
abbrev wsX110 : List Cond := u_ws RX11 TX11 12
theorem nmX11 : ∀ a, a < 12 → ∀ b, b < 12 → a ≠ b → (TX11 a).2.1 ≠ (TX11 b).2.1 := by decide +kernel
theorem tyX11_ok : ∀ k, k < 12 → parseFieldDescriptor (TX11 k).2.2.1 = some (tyX11 k) := by decide +kernel
def RX12 : String := "RuleengineLaw$Out"
def TX12 : u_T := fun k => match k with
  | 0 => ("RuleengineLaw$Out", "n", "J", false)
  | _ => ("RuleengineLaw$Out", "s", "Ljava/lang/String;", false)
def tyX12 : Nat → FieldType := fun k => match k with
  | 0 => .long
  | _ => .object "java/lang/String"
abbrev wsX120 : List Cond := u_ws RX12 TX12 2
theorem nmX12 : ∀ a, a < 2 → ∀ b, b < 2 → a ≠ b → (TX12 a).2.1 ≠ (TX12 b).2.1 := by decide +kernel
theorem tyX12_ok : ∀ k, k < 2 → parseFieldDescriptor (TX12 k).2.2.1 = some (tyX12 k) := by decide +kernel
def RX13 : String := "RuleengineModel$World"
def TX13 : u_T := fun k => match k with
  | 0 => ("RuleengineModel$World", "facts", "Ljava/util/ArrayList;", true)
  | 1 => ("RuleengineModel$World", "done", "Ljava/util/ArrayList;", true)
  | 2 => ("RuleengineModel$World", "reasons", "Ljava/util/ArrayList;", true)
  | 3 => ("RuleengineModel$World", "stack", "Ljava/util/ArrayList;", true)
  | 4 => ("RuleengineModel$World", "written", "Ljava/util/ArrayList;", true)
  | 5 => ("RuleengineModel$World", "texts", "[Ljava/lang/String;", true)
  | 6 => ("RuleengineModel$World", "rules", "[[I", true)
  | 7 => ("RuleengineModel$World", "windows", "[[I", true)
  | 8 => ("RuleengineModel$World", "minute", "I", false)
  | 9 => ("RuleengineModel$World", "came", "I", false)
  | 10 => ("RuleengineModel$World", "ids", "I", false)
  | _ => ("RuleengineModel$World", "deeds", "I", false)
def tyX13 : Nat → FieldType := fun k => match k with
  | 0 => .object "java/util/ArrayList"
  | 1 => .object "java/util/ArrayList"
  | 2 => .object "java/util/ArrayList"
  | 3 => .object "java/util/ArrayList"
  | 4 => .object "java/util/ArrayList"
  | 5 => .array (.object "java/lang/String")
  | 6 => .array (.array .int)
  | 7 => .array (.array .int)
  | 8 => .int
  | 9 => .int
  | 10 => .int
  | _ => .int
abbrev wsX130 : List Cond := u_ws RX13 TX13 12
theorem nmX13 : ∀ a, a < 12 → ∀ b, b < 12 → a ≠ b → (TX13 a).2.1 ≠ (TX13 b).2.1 := by decide +kernel
theorem tyX13_ok : ∀ k, k < 12 → parseFieldDescriptor (TX13 k).2.2.1 = some (tyX13 k) := by decide +kernel
def TX14 : u_T := fun k => match k with
  | 0 => ("RuleengineModel", "thrown", "I", false)
  | 1 => ("RuleengineModel", "typed", "Ljava/lang/String;", false)
  | 2 => ("RuleengineModel", "knocks", "I", false)
  | _ => ("RuleengineModel", "worlds", "Ljava/util/ArrayList;", true)
def tyX14 : Nat → FieldType := fun k => match k with
  | 0 => .int
  | 1 => .object "java/lang/String"
  | 2 => .int
  | _ => .object "java/util/ArrayList"
abbrev wsX140 : List Cond := u_ws RX14 TX14 4
theorem nmX14 : ∀ a, a < 4 → ∀ b, b < 4 → a ≠ b → (TX14 a).2.1 ≠ (TX14 b).2.1 := by decide +kernel
theorem tyX14_ok : ∀ k, k < 4 → parseFieldDescriptor (TX14 k).2.2.1 = some (tyX14 k) := by decide +kernel
/-! ===== BEGIN words of one list among another's, by their places ===== -/
theorem goodIn_r {big : List Cond} (ws : List Cond) (ps : List Nat) (hp : ws = ps.filterMap (fun i => big[i]?)) (h : ws.all goodWord = true) : GoodIn big ws := by
  intro w hw
  have h1 := List.all_eq_true.mp h w hw
  rw [hp] at hw
  obtain ⟨i, -, hi⟩ := List.mem_filterMap.mp hw
  have hm : w ∈ big := by first | exact List.mem_of_getElem? hi | exact List.getElem?_mem hi
  exact ⟨hm, good_of_word h1⟩
theorem goodIn_app {big a b : List Cond} (ha : GoodIn big a) (hb : GoodIn big b) : GoodIn big (a ++ b) := fun w h => (List.mem_append.mp h).elim (ha w) (hb w)
theorem goodIn_ca {big a b : List Cond} {c : Cond} (ha : GoodIn big (c :: a)) (hb : GoodIn big b) : GoodIn big (c :: (a ++ b)) := fun w h => (List.mem_cons.mp h).elim (fun e => ha w (List.mem_cons.mpr (Or.inl e))) (fun h => (List.mem_append.mp h).elim (fun h => ha w (List.mem_cons.mpr (Or.inr h))) (hb w))
theorem goodIn_sub {big ws : List Cond} (hm : ∀ w ∈ ws, w ∈ big) (h : ws.all goodWord = true) : GoodIn big ws := fun w hw => ⟨hm w hw, good_of_word (List.all_eq_true.mp h w hw)⟩
abbrev CL : List vw_C := [(RX0, TX0, 6), (RX1, TX1, 8), (RX2, TX2, 5), (RX3, TX3, 3), (RX4, TX4, 17), (RX5, TX5, 7), (RX6, TX6, 9), (RX7, TX7, 11), (RX9, TX9, 13), (RX10, TX10, 9), (RX11, TX11, 12), (RX12, TX12, 2), (RX13, TX13, 12), (RX14, TX14, 4)]
abbrev cX2_init : ByteArray := prog_4_method_1_code
def yX2_init : MethodName := ⟨RX2, "<init>", "()V"⟩
def wsX2_init : List Cond := .code yX2_init cX2_init 1 none :: ([.methodLink RX2 3 objectInit, .instanceMethod objectInit, .code objectInit ⟨#[0xb1]⟩ 1 none, .fieldLink RX2 9 "Ruleengine$Fact" "kind" "I", .arrayClass .int, .fieldLink RX2 15 "Ruleengine$Fact" "value" "[I"] ++ wsX20)
theorem dX2_init_0 : decode cX2_init 0 = .ok (.aload_n 0, 1) := by decide +kernel
theorem dX2_init_1 : decode cX2_init 1 = .ok (.invokespecial 3, 3) := by decide +kernel
theorem dX2_init_4 : decode cX2_init 4 = .ok (.aload_n 0, 1) := by decide +kernel
theorem dX2_init_5 : decode cX2_init 5 = .ok (.iconst (-1), 1) := by decide +kernel
theorem dX2_init_6 : decode cX2_init 6 = .ok (.putfield 9, 3) := by decide +kernel
theorem dX2_init_9 : decode cX2_init 9 = .ok (.aload_n 0, 1) := by decide +kernel
theorem dX2_init_10 : decode cX2_init 10 = .ok (.iconst 3, 1) := by decide +kernel
theorem dX2_init_11 : decode cX2_init 11 = .ok (.newarray .int, 2) := by decide +kernel
theorem dX2_init_13 : decode cX2_init 13 = .ok (.putfield 15, 3) := by decide +kernel
theorem dX2_init_16 : decode cX2_init 16 = .ok (.return_, 1) := by decide +kernel
set_option maxHeartbeats 4000000 in
set_option maxRecDepth 100000 in
/-- Fact() -/
theorem kX2_init (l : Launch) (dC : Nat → ClassId) (dI : Nat → Nat → Nat) (h0 : Nat) (sz : Nat) : Met l yX2_init wsX2_init ({ frames := 1, cells := 1, slots := 3, locals := 12 }) (va_Pc [.ref h0] (fun U => U.heap.size = sz ∧ va_P (dC, dI) CL [(h0, .inr (2, [.int 0, .int 0, .null, .int 0, .int 0]))] U.heap ∧ va_K (dC, dI) CL [] U ∧ va_D (fun _ => True) [(h0, .inr (2, [.int 0, .int 0, .null, .int 0, .int 0]))])) (va_Qv (fun _ : Unit => True) (fun _ t => ∃ (q11 : Nat) (cq11 : ClassId), va_P (dC, dI) CL [(h0, .inr (2, [.int 0, .int (-1), .ref q11, .int 0, .int 0])), (q11, .inl (cq11, 3, .inl (fun _ => 0)))] t.heap ∧ va_K (dC, dI) CL [(cq11, .int)] t ∧ va_D (va_A [(h0, .inr (2, [.int 0, .int 0, .null, .int 0, .int 0]))] sz) [(h0, .inr (2, [.int 0, .int (-1), .ref q11, .int 0, .int 0])), (q11, .inl (cq11, 3, .inl (fun _ => 0)))]) (va_A [(h0, .inr (2, [.int 0, .int 0, .null, .int 0, .int 0]))] sz)) 1 3 (va_A [(h0, .inr (2, [.int 0, .int 0, .null, .int 0, .int 0]))] sz) := by
  refine Met.ofW (cc := cX2_init) (maxL := 1) (ret := none) (by decide) rfl ?_
  intro p e s m args below meth c s₁ B hml hv
  obtain ⟨rfl, hsz, hP, hK, hD0⟩ := hv
  have hx := B.exec
  have hb := B.bytes
  have hr := B.returns
  have hts := atoms_spec (ws := wsX2_init) B.pre
  have hown : s.vm.findClass RX2 = some m.cls := findClass_of_methodNamed B.named
  have hlocks := B.notSynchronized
  have hin : meth.name = "<init>" := (name_of_methodNamed B.named B.method).1
  subst hsz
  have hD := hD0.self (sz := s.heap.size)
  generalize hAe : va_A [(h0, .inr (2, [.int 0, .int 0, .null, .int 0, .int 0]))] s.heap.size = A at hD ⊢
  have hA : ∀ q : Nat, s.heap.size ≤ q → A q := fun q h => by rw [← hAe]; exact Or.inr h
  have hS : va_S A s.heap s.heap [] := va_S.rf
  have hP : va_P (dC, dI) CL [(h0, .inr (2, [.int 0, .int 0, .null, .int 0, .int 0]))] s.heap := hP
  have hl := lv_entry ([.ref h0]) (n := 1) (Nat.le_of_ble_eq_true rfl)
  rw [lg_entry_eq]
  generalize (lg_sl ([.ref h0]) ++ List.replicate (1 - (lg_sl ([.ref h0])).length) Slot.unset).toArray = ls at hl ⊢
  have hl : lv_has ls 1 [(0, .ref h0)] := hl
  refine lv_aload_n hx hb dX2_init_0 rfl (lv_at hl 0 rfl) ?_
  refine W.objInit hx hb hown (hts (.methodLink RX2 3 objectInit) (by decide +kernel)) (hts (.instanceMethod objectInit) (by decide +kernel)) (hts _ (List.mem_cons_of_mem _ ((List.mem_append_left _ (List.mem_of_getElem? (i := 2) rfl))))) rfl (by rw [hml]; exact hl.1) rfl dX2_init_1 (Nat.le_of_ble_eq_true rfl) (Nat.le_of_ble_eq_true rfl) ?_
  refine W.eq (g2 := F0 m 4 ls []) rfl ?_
  refine lv_aload_n hx hb dX2_init_4 rfl (lv_at hl 0 rfl) ?_
  refine lv_iconst (v := (-1 : Int32)) hx hb dX2_init_5 (by decide) ?_
  refine va_put (D := (dC, dI)) (ci := 2) (v := .int (-1)) (ty := tyX2 1) (C := RX2) (T := TX2) (N := 5) hx hb hts (by decide +kernel) tyX2 tyX2_ok nmX2 hown hK hP hD hS 0 rfl rfl 1 (by decide) (hts (.fieldLink RX2 9 "Ruleengine$Fact" "kind" "I") (by decide +kernel)) (fun _ h9 => h9) rfl  (by decide +kernel) rfl rfl (Nat.le_of_ble_eq_true rfl) dX2_init_6 (fun H locs hP hD hS => ?_)
  have hP : va_P (dC, dI) CL [(h0, .inr (2, [.int 0, .int (-1), .null, .int 0, .int 0]))] H := hP
  have hD : va_D A [(h0, .inr (2, [.int 0, .int (-1), .null, .int 0, .int 0]))] := hD
  refine lv_aload_n hx hb dX2_init_9 rfl (lv_at hl 0 rfl) ?_
  refine lv_iconst (v := (3 : Int32)) hx hb dX2_init_10 (by decide) ?_
  refine va_newa (atype := .int) (ty := .int) (a0 := (3, .inl (fun _ => 0))) (N' := 3) hx hb (hts (.arrayClass .int) (by decide +kernel)) rfl hK hP hD hS hA (fun _ => rfl) (by decide) (by decide) (by decide) (show 1 ≤ 1 by decide) (show 3 ≤ 3 by decide) dX2_init_11 (fun q11 cq11 H hK hP hD hS => ?_)
  have hP : va_P (dC, dI) CL [(h0, .inr (2, [.int 0, .int (-1), .null, .int 0, .int 0])), (q11, .inl (cq11, 3, .inl (fun _ => 0)))] H := hP
  have hD : va_D A [(h0, .inr (2, [.int 0, .int (-1), .null, .int 0, .int 0])), (q11, .inl (cq11, 3, .inl (fun _ => 0)))] := hD
  have hK : va_K (dC, dI) CL [(cq11, .int)] s := hK
  refine W.widen (k := 1) (n := 3) (by omega) (by omega) ?_
  refine va_putF (D := (dC, dI)) (ci := 2) (v := .ref q11) (ty := tyX2 2) (C := RX2) (T := TX2) (N := 5) hx hb hts (by decide +kernel) tyX2 tyX2_ok nmX2 hown hK hP hD hS 0 rfl rfl 2 (by decide) (hts (.fieldLink RX2 15 "Ruleengine$Fact" "value" "[I") (by decide +kernel)) (fun _ h9 => h9) rfl hin rfl (by decide +kernel) rfl rfl (Nat.le_of_ble_eq_true rfl) dX2_init_13 (fun H locs hP hD hS => ?_)
  have hP : va_P (dC, dI) CL [(h0, .inr (2, [.int 0, .int (-1), .ref q11, .int 0, .int 0])), (q11, .inl (cq11, 3, .inl (fun _ => 0)))] H := hP
  have hD : va_D A [(h0, .inr (2, [.int 0, .int (-1), .ref q11, .int 0, .int 0])), (q11, .inl (cq11, 3, .inl (fun _ => 0)))] := hD
  have hP9 := hP
  exact W.vret hx hb hr (fun t ht hW => ⟨⟨(), rfl, trivial, q11, cq11, by rw [ht]; exact hP, va_K.moved hW.alike hK, hD⟩, hS.F ht⟩) hS.2.2 dX2_init_16
abbrev cX0_init : ByteArray := prog_2_method_1_code
def yX0_init : MethodName := ⟨RX0, "<init>", "()V"⟩
def wsX0_init : List Cond := .code yX0_init cX0_init 1 none :: ([.methodLink RX0 3 objectInit, .instanceMethod objectInit, .code objectInit ⟨#[0xb1]⟩ 1 none, .arrayClass .int, .fieldLink RX0 9 "Ruleengine$Atom" "sign" "[I", .fieldLink RX0 15 "Ruleengine$Atom" "want" "[I"] ++ wsX00)
theorem dX0_init_0 : decode cX0_init 0 = .ok (.aload_n 0, 1) := by decide +kernel
theorem dX0_init_1 : decode cX0_init 1 = .ok (.invokespecial 3, 3) := by decide +kernel
theorem dX0_init_4 : decode cX0_init 4 = .ok (.aload_n 0, 1) := by decide +kernel
theorem dX0_init_5 : decode cX0_init 5 = .ok (.iconst 3, 1) := by decide +kernel
theorem dX0_init_6 : decode cX0_init 6 = .ok (.newarray .int, 2) := by decide +kernel
theorem dX0_init_8 : decode cX0_init 8 = .ok (.putfield 9, 3) := by decide +kernel
theorem dX0_init_11 : decode cX0_init 11 = .ok (.aload_n 0, 1) := by decide +kernel
theorem dX0_init_12 : decode cX0_init 12 = .ok (.iconst 3, 1) := by decide +kernel
theorem dX0_init_13 : decode cX0_init 13 = .ok (.newarray .int, 2) := by decide +kernel
theorem dX0_init_15 : decode cX0_init 15 = .ok (.putfield 15, 3) := by decide +kernel
theorem dX0_init_18 : decode cX0_init 18 = .ok (.return_, 1) := by decide +kernel
set_option maxHeartbeats 4000000 in
set_option maxRecDepth 100000 in
/-- Atom() -/
theorem kX0_init (l : Launch) (dC : Nat → ClassId) (dI : Nat → Nat → Nat) (h0 : Nat) (sz : Nat) : Met l yX0_init wsX0_init ({ frames := 1, cells := 2, slots := 6, locals := 12 }) (va_Pc [.ref h0] (fun U => U.heap.size = sz ∧ va_P (dC, dI) CL [(h0, .inr (0, [.int 0, .null, .null, .int 0, .int 0, .int 0]))] U.heap ∧ va_K (dC, dI) CL [] U ∧ va_D (fun _ => True) [(h0, .inr (0, [.int 0, .null, .null, .int 0, .int 0, .int 0]))])) (va_Qv (fun _ : Unit => True) (fun _ t => ∃ (q6 : Nat) (q13 : Nat) (cq6 : ClassId) (cq13 : ClassId), va_P (dC, dI) CL [(h0, .inr (0, [.int 0, .ref q6, .ref q13, .int 0, .int 0, .int 0])), (q6, .inl (cq6, 3, .inl (fun _ => 0))), (q13, .inl (cq13, 3, .inl (fun _ => 0)))] t.heap ∧ va_K (dC, dI) CL [(cq6, .int), (cq13, .int)] t ∧ va_D (va_A [(h0, .inr (0, [.int 0, .null, .null, .int 0, .int 0, .int 0]))] sz) [(h0, .inr (0, [.int 0, .ref q6, .ref q13, .int 0, .int 0, .int 0])), (q6, .inl (cq6, 3, .inl (fun _ => 0))), (q13, .inl (cq13, 3, .inl (fun _ => 0)))]) (va_A [(h0, .inr (0, [.int 0, .null, .null, .int 0, .int 0, .int 0]))] sz)) 2 6 (va_A [(h0, .inr (0, [.int 0, .null, .null, .int 0, .int 0, .int 0]))] sz) := by
  refine Met.ofW (cc := cX0_init) (maxL := 1) (ret := none) (by decide) rfl ?_
  intro p e s m args below meth c s₁ B hml hv
  obtain ⟨rfl, hsz, hP, hK, hD0⟩ := hv
  have hx := B.exec
  have hb := B.bytes
  have hr := B.returns
  have hts := atoms_spec (ws := wsX0_init) B.pre
  have hown : s.vm.findClass RX0 = some m.cls := findClass_of_methodNamed B.named
  have hlocks := B.notSynchronized
  have hin : meth.name = "<init>" := (name_of_methodNamed B.named B.method).1
  subst hsz
  have hD := hD0.self (sz := s.heap.size)
  generalize hAe : va_A [(h0, .inr (0, [.int 0, .null, .null, .int 0, .int 0, .int 0]))] s.heap.size = A at hD ⊢
  have hA : ∀ q : Nat, s.heap.size ≤ q → A q := fun q h => by rw [← hAe]; exact Or.inr h
  have hS : va_S A s.heap s.heap [] := va_S.rf
  have hP : va_P (dC, dI) CL [(h0, .inr (0, [.int 0, .null, .null, .int 0, .int 0, .int 0]))] s.heap := hP
  have hl := lv_entry ([.ref h0]) (n := 1) (Nat.le_of_ble_eq_true rfl)
  rw [lg_entry_eq]
  generalize (lg_sl ([.ref h0]) ++ List.replicate (1 - (lg_sl ([.ref h0])).length) Slot.unset).toArray = ls at hl ⊢
  have hl : lv_has ls 1 [(0, .ref h0)] := hl
  refine lv_aload_n hx hb dX0_init_0 rfl (lv_at hl 0 rfl) ?_
  refine W.objInit hx hb hown (hts (.methodLink RX0 3 objectInit) (by decide +kernel)) (hts (.instanceMethod objectInit) (by decide +kernel)) (hts _ (List.mem_cons_of_mem _ ((List.mem_append_left _ (List.mem_of_getElem? (i := 2) rfl))))) rfl (by rw [hml]; exact hl.1) rfl dX0_init_1 (Nat.le_of_ble_eq_true rfl) (Nat.le_of_ble_eq_true rfl) ?_
  refine W.eq (g2 := F0 m 4 ls []) rfl ?_
  refine lv_aload_n hx hb dX0_init_4 rfl (lv_at hl 0 rfl) ?_
  refine lv_iconst (v := (3 : Int32)) hx hb dX0_init_5 (by decide) ?_
  refine va_newa (atype := .int) (ty := .int) (a0 := (3, .inl (fun _ => 0))) (N' := 3) hx hb (hts (.arrayClass .int) (by decide +kernel)) rfl hK hP hD hS hA (fun _ => rfl) (by decide) (by decide) (by decide) (show 1 ≤ 2 by decide) (show 3 ≤ 6 by decide) dX0_init_6 (fun q6 cq6 H hK hP hD hS => ?_)
  have hP : va_P (dC, dI) CL [(h0, .inr (0, [.int 0, .null, .null, .int 0, .int 0, .int 0])), (q6, .inl (cq6, 3, .inl (fun _ => 0)))] H := hP
  have hD : va_D A [(h0, .inr (0, [.int 0, .null, .null, .int 0, .int 0, .int 0])), (q6, .inl (cq6, 3, .inl (fun _ => 0)))] := hD
  have hK : va_K (dC, dI) CL [(cq6, .int)] s := hK
  refine W.widen (k := 1) (n := 3) (by omega) (by omega) ?_
  refine va_putF (D := (dC, dI)) (ci := 0) (v := .ref q6) (ty := tyX0 1) (C := RX0) (T := TX0) (N := 6) hx hb hts (by decide +kernel) tyX0 tyX0_ok nmX0 hown hK hP hD hS 0 rfl rfl 1 (by decide) (hts (.fieldLink RX0 9 "Ruleengine$Atom" "sign" "[I") (by decide +kernel)) (fun _ h9 => h9) rfl hin rfl (by decide +kernel) rfl rfl (Nat.le_of_ble_eq_true rfl) dX0_init_8 (fun H locs hP hD hS => ?_)
  have hP : va_P (dC, dI) CL [(h0, .inr (0, [.int 0, .ref q6, .null, .int 0, .int 0, .int 0])), (q6, .inl (cq6, 3, .inl (fun _ => 0)))] H := hP
  have hD : va_D A [(h0, .inr (0, [.int 0, .ref q6, .null, .int 0, .int 0, .int 0])), (q6, .inl (cq6, 3, .inl (fun _ => 0)))] := hD
  refine lv_aload_n hx hb dX0_init_11 rfl (lv_at hl 0 rfl) ?_
  refine lv_iconst (v := (3 : Int32)) hx hb dX0_init_12 (by decide) ?_
  refine va_newa (atype := .int) (ty := .int) (a0 := (3, .inl (fun _ => 0))) (N' := 3) hx hb (hts (.arrayClass .int) (by decide +kernel)) rfl hK hP hD hS hA (fun _ => rfl) (by decide) (by decide) (by decide) (show 2 ≤ 2 by decide) (show 6 ≤ 6 by decide) dX0_init_13 (fun q13 cq13 H hK hP hD hS => ?_)
  have hP : va_P (dC, dI) CL [(h0, .inr (0, [.int 0, .ref q6, .null, .int 0, .int 0, .int 0])), (q6, .inl (cq6, 3, .inl (fun _ => 0))), (q13, .inl (cq13, 3, .inl (fun _ => 0)))] H := hP
  have hD : va_D A [(h0, .inr (0, [.int 0, .ref q6, .null, .int 0, .int 0, .int 0])), (q6, .inl (cq6, 3, .inl (fun _ => 0))), (q13, .inl (cq13, 3, .inl (fun _ => 0)))] := hD
  have hK : va_K (dC, dI) CL [(cq6, .int), (cq13, .int)] s := hK
  refine W.widen (k := 2) (n := 6) (by omega) (by omega) ?_
  refine va_putF (D := (dC, dI)) (ci := 0) (v := .ref q13) (ty := tyX0 2) (C := RX0) (T := TX0) (N := 6) hx hb hts (by decide +kernel) tyX0 tyX0_ok nmX0 hown hK hP hD hS 0 rfl rfl 2 (by decide) (hts (.fieldLink RX0 15 "Ruleengine$Atom" "want" "[I") (by decide +kernel)) (fun _ h9 => h9) rfl hin rfl (by decide +kernel) rfl rfl (Nat.le_of_ble_eq_true rfl) dX0_init_15 (fun H locs hP hD hS => ?_)
  have hP : va_P (dC, dI) CL [(h0, .inr (0, [.int 0, .ref q6, .ref q13, .int 0, .int 0, .int 0])), (q6, .inl (cq6, 3, .inl (fun _ => 0))), (q13, .inl (cq13, 3, .inl (fun _ => 0)))] H := hP
  have hD : va_D A [(h0, .inr (0, [.int 0, .ref q6, .ref q13, .int 0, .int 0, .int 0])), (q6, .inl (cq6, 3, .inl (fun _ => 0))), (q13, .inl (cq13, 3, .inl (fun _ => 0)))] := hD
  have hP9 := hP
  exact W.vret hx hb hr (fun t ht hW => ⟨⟨(), rfl, trivial, q6, q13, cq6, cq13, by rw [ht]; exact hP, va_K.moved hW.alike hK, hD⟩, hS.F ht⟩) hS.2.2 dX0_init_18
abbrev cX3_init : ByteArray := prog_5_method_1_code
def yX3_init : MethodName := ⟨RX3, "<init>", "()V"⟩
def wsX3_init : List Cond := .code yX3_init cX3_init 1 none :: ([.methodLink RX3 3 objectInit, .instanceMethod objectInit, .code objectInit ⟨#[0xb1]⟩ 1 none, .arrayClass .int, .fieldLink RX3 9 "Ruleengine$Layers" "ofKind" "[I", .fieldLink RX3 15 "Ruleengine$Layers" "ofRule" "[I"] ++ wsX30)
theorem dX3_init_0 : decode cX3_init 0 = .ok (.aload_n 0, 1) := by decide +kernel
theorem dX3_init_1 : decode cX3_init 1 = .ok (.invokespecial 3, 3) := by decide +kernel
theorem dX3_init_4 : decode cX3_init 4 = .ok (.aload_n 0, 1) := by decide +kernel
theorem dX3_init_5 : decode cX3_init 5 = .ok (.bipush 6, 2) := by decide +kernel
theorem dX3_init_7 : decode cX3_init 7 = .ok (.newarray .int, 2) := by decide +kernel
theorem dX3_init_9 : decode cX3_init 9 = .ok (.putfield 9, 3) := by decide +kernel
theorem dX3_init_12 : decode cX3_init 12 = .ok (.aload_n 0, 1) := by decide +kernel
theorem dX3_init_13 : decode cX3_init 13 = .ok (.bipush 6, 2) := by decide +kernel
theorem dX3_init_15 : decode cX3_init 15 = .ok (.newarray .int, 2) := by decide +kernel
theorem dX3_init_17 : decode cX3_init 17 = .ok (.putfield 15, 3) := by decide +kernel
theorem dX3_init_20 : decode cX3_init 20 = .ok (.return_, 1) := by decide +kernel
set_option maxHeartbeats 4000000 in
set_option maxRecDepth 100000 in
/-- Layers() -/
theorem kX3_init (l : Launch) (dC : Nat → ClassId) (dI : Nat → Nat → Nat) (h0 : Nat) (sz : Nat) : Met l yX3_init wsX3_init ({ frames := 1, cells := 2, slots := 12, locals := 12 }) (va_Pc [.ref h0] (fun U => U.heap.size = sz ∧ va_P (dC, dI) CL [(h0, .inr (3, [.null, .null, .int 0]))] U.heap ∧ va_K (dC, dI) CL [] U ∧ va_D (fun _ => True) [(h0, .inr (3, [.null, .null, .int 0]))])) (va_Qv (fun _ : Unit => True) (fun _ t => ∃ (q7 : Nat) (q15 : Nat) (cq7 : ClassId) (cq15 : ClassId), va_P (dC, dI) CL [(h0, .inr (3, [.ref q7, .ref q15, .int 0])), (q7, .inl (cq7, 6, .inl (fun _ => 0))), (q15, .inl (cq15, 6, .inl (fun _ => 0)))] t.heap ∧ va_K (dC, dI) CL [(cq7, .int), (cq15, .int)] t ∧ va_D (va_A [(h0, .inr (3, [.null, .null, .int 0]))] sz) [(h0, .inr (3, [.ref q7, .ref q15, .int 0])), (q7, .inl (cq7, 6, .inl (fun _ => 0))), (q15, .inl (cq15, 6, .inl (fun _ => 0)))]) (va_A [(h0, .inr (3, [.null, .null, .int 0]))] sz)) 2 12 (va_A [(h0, .inr (3, [.null, .null, .int 0]))] sz) := by
  refine Met.ofW (cc := cX3_init) (maxL := 1) (ret := none) (by decide) rfl ?_
  intro p e s m args below meth c s₁ B hml hv
  obtain ⟨rfl, hsz, hP, hK, hD0⟩ := hv
  have hx := B.exec
  have hb := B.bytes
  have hr := B.returns
  have hts := atoms_spec (ws := wsX3_init) B.pre
  have hown : s.vm.findClass RX3 = some m.cls := findClass_of_methodNamed B.named
  have hlocks := B.notSynchronized
  have hin : meth.name = "<init>" := (name_of_methodNamed B.named B.method).1
  subst hsz
  have hD := hD0.self (sz := s.heap.size)
  generalize hAe : va_A [(h0, .inr (3, [.null, .null, .int 0]))] s.heap.size = A at hD ⊢
  have hA : ∀ q : Nat, s.heap.size ≤ q → A q := fun q h => by rw [← hAe]; exact Or.inr h
  have hS : va_S A s.heap s.heap [] := va_S.rf
  have hP : va_P (dC, dI) CL [(h0, .inr (3, [.null, .null, .int 0]))] s.heap := hP
  have hl := lv_entry ([.ref h0]) (n := 1) (Nat.le_of_ble_eq_true rfl)
  rw [lg_entry_eq]
  generalize (lg_sl ([.ref h0]) ++ List.replicate (1 - (lg_sl ([.ref h0])).length) Slot.unset).toArray = ls at hl ⊢
  have hl : lv_has ls 1 [(0, .ref h0)] := hl
  refine lv_aload_n hx hb dX3_init_0 rfl (lv_at hl 0 rfl) ?_
  refine W.objInit hx hb hown (hts (.methodLink RX3 3 objectInit) (by decide +kernel)) (hts (.instanceMethod objectInit) (by decide +kernel)) (hts _ (List.mem_cons_of_mem _ ((List.mem_append_left _ (List.mem_of_getElem? (i := 2) rfl))))) rfl (by rw [hml]; exact hl.1) rfl dX3_init_1 (Nat.le_of_ble_eq_true rfl) (Nat.le_of_ble_eq_true rfl) ?_
  refine W.eq (g2 := F0 m 4 ls []) rfl ?_
  refine lv_aload_n hx hb dX3_init_4 rfl (lv_at hl 0 rfl) ?_
  refine lv_bipush (v := (6 : Int32)) hx hb dX3_init_5 (by decide) ?_
  refine va_newa (atype := .int) (ty := .int) (a0 := (6, .inl (fun _ => 0))) (N' := 6) hx hb (hts (.arrayClass .int) (by decide +kernel)) rfl hK hP hD hS hA (fun _ => rfl) (by decide) (by decide) (by decide) (show 1 ≤ 2 by decide) (show 6 ≤ 12 by decide) dX3_init_7 (fun q7 cq7 H hK hP hD hS => ?_)
  have hP : va_P (dC, dI) CL [(h0, .inr (3, [.null, .null, .int 0])), (q7, .inl (cq7, 6, .inl (fun _ => 0)))] H := hP
  have hD : va_D A [(h0, .inr (3, [.null, .null, .int 0])), (q7, .inl (cq7, 6, .inl (fun _ => 0)))] := hD
  have hK : va_K (dC, dI) CL [(cq7, .int)] s := hK
  refine W.widen (k := 1) (n := 6) (by omega) (by omega) ?_
  refine va_putF (D := (dC, dI)) (ci := 3) (v := .ref q7) (ty := tyX3 0) (C := RX3) (T := TX3) (N := 3) hx hb hts (by decide +kernel) tyX3 tyX3_ok nmX3 hown hK hP hD hS 0 rfl rfl 0 (by decide) (hts (.fieldLink RX3 9 "Ruleengine$Layers" "ofKind" "[I") (by decide +kernel)) (fun _ h9 => h9) rfl hin rfl (by decide +kernel) rfl rfl (Nat.le_of_ble_eq_true rfl) dX3_init_9 (fun H locs hP hD hS => ?_)
  have hP : va_P (dC, dI) CL [(h0, .inr (3, [.ref q7, .null, .int 0])), (q7, .inl (cq7, 6, .inl (fun _ => 0)))] H := hP
  have hD : va_D A [(h0, .inr (3, [.ref q7, .null, .int 0])), (q7, .inl (cq7, 6, .inl (fun _ => 0)))] := hD
  refine lv_aload_n hx hb dX3_init_12 rfl (lv_at hl 0 rfl) ?_
  refine lv_bipush (v := (6 : Int32)) hx hb dX3_init_13 (by decide) ?_
  refine va_newa (atype := .int) (ty := .int) (a0 := (6, .inl (fun _ => 0))) (N' := 6) hx hb (hts (.arrayClass .int) (by decide +kernel)) rfl hK hP hD hS hA (fun _ => rfl) (by decide) (by decide) (by decide) (show 2 ≤ 2 by decide) (show 12 ≤ 12 by decide) dX3_init_15 (fun q15 cq15 H hK hP hD hS => ?_)
  have hP : va_P (dC, dI) CL [(h0, .inr (3, [.ref q7, .null, .int 0])), (q7, .inl (cq7, 6, .inl (fun _ => 0))), (q15, .inl (cq15, 6, .inl (fun _ => 0)))] H := hP
  have hD : va_D A [(h0, .inr (3, [.ref q7, .null, .int 0])), (q7, .inl (cq7, 6, .inl (fun _ => 0))), (q15, .inl (cq15, 6, .inl (fun _ => 0)))] := hD
  have hK : va_K (dC, dI) CL [(cq7, .int), (cq15, .int)] s := hK
  refine W.widen (k := 2) (n := 12) (by omega) (by omega) ?_
  refine va_putF (D := (dC, dI)) (ci := 3) (v := .ref q15) (ty := tyX3 1) (C := RX3) (T := TX3) (N := 3) hx hb hts (by decide +kernel) tyX3 tyX3_ok nmX3 hown hK hP hD hS 0 rfl rfl 1 (by decide) (hts (.fieldLink RX3 15 "Ruleengine$Layers" "ofRule" "[I") (by decide +kernel)) (fun _ h9 => h9) rfl hin rfl (by decide +kernel) rfl rfl (Nat.le_of_ble_eq_true rfl) dX3_init_17 (fun H locs hP hD hS => ?_)
  have hP : va_P (dC, dI) CL [(h0, .inr (3, [.ref q7, .ref q15, .int 0])), (q7, .inl (cq7, 6, .inl (fun _ => 0))), (q15, .inl (cq15, 6, .inl (fun _ => 0)))] H := hP
  have hD : va_D A [(h0, .inr (3, [.ref q7, .ref q15, .int 0])), (q7, .inl (cq7, 6, .inl (fun _ => 0))), (q15, .inl (cq15, 6, .inl (fun _ => 0)))] := hD
  have hP9 := hP
  exact W.vret hx hb hr (fun t ht hW => ⟨⟨(), rfl, trivial, q7, q15, cq7, cq15, by rw [ht]; exact hP, va_K.moved hW.alike hK, hD⟩, hS.F ht⟩) hS.2.2 dX3_init_20
abbrev cX5_init : ByteArray := prog_7_method_1_code
def yX5_init : MethodName := ⟨RX5, "<init>", "()V"⟩
def wsX5_init : List Cond := .code yX5_init cX5_init 1 none :: ([.methodLink RX5 1 objectInit, .instanceMethod objectInit, .code objectInit ⟨#[0xb1]⟩ 1 none, .classLink RX5 7 RX0, .instantiable RX0 6, .initialized RX0, .fieldLink RX5 10 "Ruleengine$Part" "atom" "LRuleengine$Atom;", .instanceMethod yX0_init, .code yX0_init cX0_init 1 none, .methodLink RX0 3 objectInit, .arrayClass .int, .fieldLink RX0 9 "Ruleengine$Atom" "sign" "[I", .fieldLink RX0 15 "Ruleengine$Atom" "want" "[I"] ++ wsX00 ++ wsX50)
theorem dX5_init_0 : decode cX5_init 0 = .ok (.aload_n 0, 1) := by decide +kernel
theorem dX5_init_1 : decode cX5_init 1 = .ok (.invokespecial 1, 3) := by decide +kernel
theorem dX5_init_4 : decode cX5_init 4 = .ok (.aload_n 0, 1) := by decide +kernel
theorem dX5_init_5 : decode cX5_init 5 = .ok (.new 7, 3) := by decide +kernel
theorem dX5_init_8 : decode cX5_init 8 = .ok (.dup, 1) := by decide +kernel
theorem dX5_init_9 : decode cX5_init 9 = .ok (.invokespecial 9, 3) := by decide +kernel
theorem dX5_init_12 : decode cX5_init 12 = .ok (.putfield 10, 3) := by decide +kernel
theorem dX5_init_15 : decode cX5_init 15 = .ok (.return_, 1) := by decide +kernel
theorem ggX5_init_X0_init : GoodIn wsX5_init wsX0_init := goodIn_r _ [9, 10, 2, 3, 11, 12, 13, 14, 15, 16, 17, 18, 19] (by decide +kernel) (by decide +kernel)
set_option maxHeartbeats 4000000 in
set_option maxRecDepth 100000 in
/-- Part(): its atom with it -/
theorem kX5_init (l : Launch) (dC : Nat → ClassId) (dI : Nat → Nat → Nat) (h0 : Nat) (sz : Nat) : Met l yX5_init wsX5_init ({ frames := 2, cells := 3, slots := 12, locals := 32 }) (va_Pc [.ref h0] (fun U => U.heap.size = sz ∧ va_Nw (.methodLinkNest RX5 9 yX0_init "Ruleengine") U ∧ va_P (dC, dI) CL [(h0, .inr (5, [.int 0, .null, .int 0, .int 0, .int 0, .int 0, .int 0]))] U.heap ∧ va_K (dC, dI) CL [] U ∧ va_D (fun _ => True) [(h0, .inr (5, [.int 0, .null, .int 0, .int 0, .int 0, .int 0, .int 0]))])) (va_Qv (fun _ : Unit => True) (fun _ t => ∃ (q5 : Nat) (q5_q6 : Nat) (q5_q13 : Nat) (cq5_q6 : ClassId) (cq5_q13 : ClassId), va_P (dC, dI) CL [(h0, .inr (5, [.int 0, .ref q5, .int 0, .int 0, .int 0, .int 0, .int 0])), (q5, .inr (0, [.int 0, .ref q5_q6, .ref q5_q13, .int 0, .int 0, .int 0])), (q5_q6, .inl (cq5_q6, 3, .inl (fun _ => 0))), (q5_q13, .inl (cq5_q13, 3, .inl (fun _ => 0)))] t.heap ∧ va_K (dC, dI) CL [(cq5_q6, .int), (cq5_q13, .int)] t ∧ va_D (va_A [(h0, .inr (5, [.int 0, .null, .int 0, .int 0, .int 0, .int 0, .int 0]))] sz) [(h0, .inr (5, [.int 0, .ref q5, .int 0, .int 0, .int 0, .int 0, .int 0])), (q5, .inr (0, [.int 0, .ref q5_q6, .ref q5_q13, .int 0, .int 0, .int 0])), (q5_q6, .inl (cq5_q6, 3, .inl (fun _ => 0))), (q5_q13, .inl (cq5_q13, 3, .inl (fun _ => 0)))]) (va_A [(h0, .inr (5, [.int 0, .null, .int 0, .int 0, .int 0, .int 0, .int 0]))] sz)) 3 12 (va_A [(h0, .inr (5, [.int 0, .null, .int 0, .int 0, .int 0, .int 0, .int 0]))] sz) := by
  refine Met.ofW (cc := cX5_init) (maxL := 1) (ret := none) (by decide) rfl ?_
  intro p e s m args below meth c s₁ B hml hv
  obtain ⟨rfl, hsz, hNw, hP, hK, hD0⟩ := hv
  have hx := B.exec
  have hb := B.bytes
  have hr := B.returns
  have hts := atoms_spec (ws := wsX5_init) B.pre
  have hown : s.vm.findClass RX5 = some m.cls := findClass_of_methodNamed B.named
  have hlocks := B.notSynchronized
  have hin : meth.name = "<init>" := (name_of_methodNamed B.named B.method).1
  subst hsz
  have hD := hD0.self (sz := s.heap.size)
  generalize hAe : va_A [(h0, .inr (5, [.int 0, .null, .int 0, .int 0, .int 0, .int 0, .int 0]))] s.heap.size = A at hD ⊢
  have hA : ∀ q : Nat, s.heap.size ≤ q → A q := fun q h => by rw [← hAe]; exact Or.inr h
  have hS : va_S A s.heap s.heap [] := va_S.rf
  have hP : va_P (dC, dI) CL [(h0, .inr (5, [.int 0, .null, .int 0, .int 0, .int 0, .int 0, .int 0]))] s.heap := hP
  have hl := lv_entry ([.ref h0]) (n := 1) (Nat.le_of_ble_eq_true rfl)
  rw [lg_entry_eq]
  generalize (lg_sl ([.ref h0]) ++ List.replicate (1 - (lg_sl ([.ref h0])).length) Slot.unset).toArray = ls at hl ⊢
  have hl : lv_has ls 1 [(0, .ref h0)] := hl
  refine lv_aload_n hx hb dX5_init_0 rfl (lv_at hl 0 rfl) ?_
  refine W.objInit hx hb hown (hts (.methodLink RX5 1 objectInit) (by decide +kernel)) (hts (.instanceMethod objectInit) (by decide +kernel)) (hts _ (List.mem_cons_of_mem _ ((List.mem_append_left _ (List.mem_of_getElem? (i := 2) rfl))))) rfl (by rw [hml]; exact hl.1) rfl dX5_init_1 (Nat.le_of_ble_eq_true rfl) (Nat.le_of_ble_eq_true rfl) ?_
  refine W.eq (g2 := F0 m 4 ls []) rfl ?_
  refine lv_aload_n hx hb dX5_init_4 rfl (lv_at hl 0 rfl) ?_
  refine va_new (ci := 0) (fs := [.int 0, .null, .null, .int 0, .int 0, .int 0]) (C := RX0) (T := TX0) (N := 6) hx hb hts (by decide +kernel) tyX0 tyX0_ok hown (hts (.classLink RX5 7 RX0) (by decide +kernel)) (hts (.instantiable RX0 6) (by decide +kernel)) (hts (.initialized RX0) (by decide +kernel)) hK hP hD hS hA rfl (fun j hj => by rcases (show j = 0 ∨ j = 1 ∨ j = 2 ∨ j = 3 ∨ j = 4 ∨ j = 5 by omega) with rfl | rfl | rfl | rfl | rfl | rfl <;> rfl) (show 1 ≤ 3 by decide) (show 6 ≤ 12 by decide) dX5_init_5 (fun q5 H hP hD hS => ?_)
  have hP : va_P (dC, dI) CL [(h0, .inr (5, [.int 0, .null, .int 0, .int 0, .int 0, .int 0, .int 0])), (q5, .inr (0, [.int 0, .null, .null, .int 0, .int 0, .int 0]))] H := hP
  have hD : va_D A [(h0, .inr (5, [.int 0, .null, .int 0, .int 0, .int 0, .int 0, .int 0])), (q5, .inr (0, [.int 0, .null, .null, .int 0, .int 0, .int 0]))] := hD
  refine W.widen (k := 1) (n := 6) (by omega) (by omega) ?_
  refine lv_dup hx hb dX5_init_8 rfl ?_
  have hPc := hP.sub (ws' := [(q5, .inr (0, [.int 0, .null, .null, .int 0, .int 0, .int 0]))]) [1] rfl
  have hDc := hD.sub (ws' := [(q5, .inr (0, [.int 0, .null, .null, .int 0, .int 0, .int 0]))]) [1] (by decide) rfl
  have hKc := hK.sub (tys' := []) [] rfl
  have hFc := va_free (wc := [(q5, .inr (0, [.int 0, .null, .null, .int 0, .int 0, .int 0]))]) hD hS hA [1] rfl
  refine va_callv (va_runIN (As := []) (rest := [.ref q5, .ref h0]) ⟨hx, hb, hml, hown, hts⟩ (kX0_init l dC dI q5 H.size) ⟨va_cnB 0 hts ggX5_init_X0_init rfl rfl rfl hNw (hts (.initialized RX0) (by decide +kernel)) (by decide +kernel) ⟨Nat.le_of_ble_eq_true rfl, Nat.le_of_ble_eq_true rfl⟩, rfl, hts (.instanceMethod yX0_init) (by decide +kernel)⟩ ⟨fun a U g mk q => by obtain ⟨q0, q1, qP, qK, qD⟩ := q; exact ⟨q0, q1, qP, va_K.moved (u := U) (U := U.calling g mk a) (Vm.Alike.refl U.vm) qK, qD⟩, fun U hU hW => ⟨rfl, by rw [hU], by rw [hU]; exact hPc, va_K.moved hW.alike hKc, hDc.weaken (fun _ _ _ _ => trivial)⟩⟩ rfl rfl hl.1 rfl (lv_room (Nat.le_of_ble_eq_true rfl)) dX5_init_9 ⟨(show 3 ≤ 3 by decide), (show 12 ≤ 12 by decide)⟩) hS (fun q _ h => hFc q h) hFc (fun u t H1 locs ht hvm hw hB hz1 hk1 hS => ?_)
  obtain ⟨q5_q6, q5_q13, cq5_q6, cq5_q13, hP1, hK1, hD1⟩ := hB
  rw [ht] at hP1
  have hK1 := va_K.moved hvm.symm hK1
  obtain ⟨hP, hD⟩ := va_join (wr := [(h0, .inr (5, [.int 0, .null, .int 0, .int 0, .int 0, .int 0, .int 0]))]) (w1 := [(q5, .inr (0, [.int 0, .ref q5_q6, .ref q5_q13, .int 0, .int 0, .int 0])), (q5_q6, .inl (cq5_q6, 3, .inl (fun _ => 0))), (q5_q13, .inl (cq5_q13, 3, .inl (fun _ => 0)))]) hP hD [1] [0] rfl rfl (by decide) (by decide) hk1 hFc hP1 hD1
  have hK := (hK.sub (tys' := []) [] rfl).app hK1
  generalize H1 = H at hP hS ⊢
  have hP : va_P (dC, dI) CL [(h0, .inr (5, [.int 0, .null, .int 0, .int 0, .int 0, .int 0, .int 0])), (q5, .inr (0, [.int 0, .ref q5_q6, .ref q5_q13, .int 0, .int 0, .int 0])), (q5_q6, .inl (cq5_q6, 3, .inl (fun _ => 0))), (q5_q13, .inl (cq5_q13, 3, .inl (fun _ => 0)))] H := hP
  have hD : va_D A [(h0, .inr (5, [.int 0, .null, .int 0, .int 0, .int 0, .int 0, .int 0])), (q5, .inr (0, [.int 0, .ref q5_q6, .ref q5_q13, .int 0, .int 0, .int 0])), (q5_q6, .inl (cq5_q6, 3, .inl (fun _ => 0))), (q5_q13, .inl (cq5_q13, 3, .inl (fun _ => 0)))] := hD
  have hK : va_K (dC, dI) CL [(cq5_q6, .int), (cq5_q13, .int)] s := hK
  refine W.widen (k := 3) (n := 12) (by omega) (by omega) ?_
  refine va_putF (D := (dC, dI)) (ci := 5) (v := .ref q5) (ty := tyX5 1) (C := RX5) (T := TX5) (N := 7) hx hb hts (by decide +kernel) tyX5 tyX5_ok nmX5 hown hK hP hD hS 0 rfl rfl 1 (by decide) (hts (.fieldLink RX5 10 "Ruleengine$Part" "atom" "LRuleengine$Atom;") (by decide +kernel)) (fun _ h9 => h9) rfl hin rfl (by decide +kernel) rfl rfl (Nat.le_of_ble_eq_true rfl) dX5_init_12 (fun H locs hP hD hS => ?_)
  have hP : va_P (dC, dI) CL [(h0, .inr (5, [.int 0, .ref q5, .int 0, .int 0, .int 0, .int 0, .int 0])), (q5, .inr (0, [.int 0, .ref q5_q6, .ref q5_q13, .int 0, .int 0, .int 0])), (q5_q6, .inl (cq5_q6, 3, .inl (fun _ => 0))), (q5_q13, .inl (cq5_q13, 3, .inl (fun _ => 0)))] H := hP
  have hD : va_D A [(h0, .inr (5, [.int 0, .ref q5, .int 0, .int 0, .int 0, .int 0, .int 0])), (q5, .inr (0, [.int 0, .ref q5_q6, .ref q5_q13, .int 0, .int 0, .int 0])), (q5_q6, .inl (cq5_q6, 3, .inl (fun _ => 0))), (q5_q13, .inl (cq5_q13, 3, .inl (fun _ => 0)))] := hD
  have hP9 := hP
  exact W.vret hx hb hr (fun t ht hW => ⟨⟨(), rfl, trivial, q5, q5_q6, q5_q13, cq5_q6, cq5_q13, by rw [ht]; exact hP, va_K.moved hW.alike hK, hD⟩, hS.F ht⟩) hS.2.2 dX5_init_15
end
section
/-! Methods that read: Fact.isAlike, Atom.fits. Printed by wip/gen/mk3.py. -/
abbrev cX2_isAlike : ByteArray := prog_4_method_5_code
def yX2_isAlike : MethodName := ⟨RX2, "isAlike", "(LRuleengine$Fact;)Z"⟩
def wqX2_isAlike : List Cond := .code yX2_isAlike cX2_isAlike 2 (some .boolean) :: ([.fieldLink RX2 9 "Ruleengine$Fact" "kind" "I", .fieldLink RX2 15 "Ruleengine$Fact" "value" "[I"] ++ wsX20)
theorem dX2_isAlike_0 : decode cX2_isAlike 0 = .ok (.aload_n 0, 1) := by decide +kernel
theorem dX2_isAlike_1 : decode cX2_isAlike 1 = .ok (.getfield 9, 3) := by decide +kernel
theorem dX2_isAlike_4 : decode cX2_isAlike 4 = .ok (.aload_n 1, 1) := by decide +kernel
theorem dX2_isAlike_5 : decode cX2_isAlike 5 = .ok (.getfield 9, 3) := by decide +kernel
theorem dX2_isAlike_8 : decode cX2_isAlike 8 = .ok (.if_icmp .ne 52, 3) := by decide +kernel
theorem dX2_isAlike_11 : decode cX2_isAlike 11 = .ok (.aload_n 0, 1) := by decide +kernel
theorem dX2_isAlike_12 : decode cX2_isAlike 12 = .ok (.getfield 15, 3) := by decide +kernel
theorem dX2_isAlike_15 : decode cX2_isAlike 15 = .ok (.iconst 0, 1) := by decide +kernel
theorem dX2_isAlike_16 : decode cX2_isAlike 16 = .ok (.iaload, 1) := by decide +kernel
theorem dX2_isAlike_17 : decode cX2_isAlike 17 = .ok (.aload_n 1, 1) := by decide +kernel
theorem dX2_isAlike_18 : decode cX2_isAlike 18 = .ok (.getfield 15, 3) := by decide +kernel
theorem dX2_isAlike_21 : decode cX2_isAlike 21 = .ok (.iconst 0, 1) := by decide +kernel
theorem dX2_isAlike_22 : decode cX2_isAlike 22 = .ok (.iaload, 1) := by decide +kernel
theorem dX2_isAlike_23 : decode cX2_isAlike 23 = .ok (.if_icmp .ne 37, 3) := by decide +kernel
theorem dX2_isAlike_26 : decode cX2_isAlike 26 = .ok (.aload_n 0, 1) := by decide +kernel
theorem dX2_isAlike_27 : decode cX2_isAlike 27 = .ok (.getfield 15, 3) := by decide +kernel
theorem dX2_isAlike_30 : decode cX2_isAlike 30 = .ok (.iconst 1, 1) := by decide +kernel
theorem dX2_isAlike_31 : decode cX2_isAlike 31 = .ok (.iaload, 1) := by decide +kernel
theorem dX2_isAlike_32 : decode cX2_isAlike 32 = .ok (.aload_n 1, 1) := by decide +kernel
theorem dX2_isAlike_33 : decode cX2_isAlike 33 = .ok (.getfield 15, 3) := by decide +kernel
theorem dX2_isAlike_36 : decode cX2_isAlike 36 = .ok (.iconst 1, 1) := by decide +kernel
theorem dX2_isAlike_37 : decode cX2_isAlike 37 = .ok (.iaload, 1) := by decide +kernel
theorem dX2_isAlike_38 : decode cX2_isAlike 38 = .ok (.if_icmp .ne 22, 3) := by decide +kernel
theorem dX2_isAlike_41 : decode cX2_isAlike 41 = .ok (.aload_n 0, 1) := by decide +kernel
theorem dX2_isAlike_42 : decode cX2_isAlike 42 = .ok (.getfield 15, 3) := by decide +kernel
theorem dX2_isAlike_45 : decode cX2_isAlike 45 = .ok (.iconst 2, 1) := by decide +kernel
theorem dX2_isAlike_46 : decode cX2_isAlike 46 = .ok (.iaload, 1) := by decide +kernel
theorem dX2_isAlike_47 : decode cX2_isAlike 47 = .ok (.aload_n 1, 1) := by decide +kernel
theorem dX2_isAlike_48 : decode cX2_isAlike 48 = .ok (.getfield 15, 3) := by decide +kernel
theorem dX2_isAlike_51 : decode cX2_isAlike 51 = .ok (.iconst 2, 1) := by decide +kernel
theorem dX2_isAlike_52 : decode cX2_isAlike 52 = .ok (.iaload, 1) := by decide +kernel
theorem dX2_isAlike_53 : decode cX2_isAlike 53 = .ok (.if_icmp .ne 7, 3) := by decide +kernel
theorem dX2_isAlike_56 : decode cX2_isAlike 56 = .ok (.iconst 1, 1) := by decide +kernel
theorem dX2_isAlike_57 : decode cX2_isAlike 57 = .ok (.goto 4, 3) := by decide +kernel
theorem dX2_isAlike_60 : decode cX2_isAlike 60 = .ok (.iconst 0, 1) := by decide +kernel
theorem dX2_isAlike_61 : decode cX2_isAlike 61 = .ok (.ireturn, 1) := by decide +kernel
set_option maxHeartbeats 8000000 in
set_option maxRecDepth 100000 in
/-- Fact.isAlike: the same kind and values -/
theorem kX2_isAlike (l : Launch) (dC : Nat → ClassId) (dI : Nat → Nat → Nat) (sz : Nat) (h0 vl0 h1 vl1 : Nat) (c0 c1 : ClassId) (nm0 kd0 mi0 td0 nm1 kd1 mi1 td1 : Int32) (v0 v1 : Nat → Int32) : Met l yX2_isAlike wqX2_isAlike ({ frames := 0, cells := 0, slots := 0, locals := 0 }) (va_Pc [.ref h0, .ref h1] (fun U => U.heap.size = sz ∧ va_P (dC, dI) CL [(h0, .inr (2, [.int nm0, .int kd0, .ref vl0, .int mi0, .int td0])), (vl0, .inl (c0, 3, .inl v0)), (h1, .inr (2, [.int nm1, .int kd1, .ref vl1, .int mi1, .int td1])), (vl1, .inl (c1, 3, .inl v1))] U.heap ∧ va_K (dC, dI) CL [(c0, .int), (c1, .int)] U ∧ va_D (fun _ => True) [(h0, .inr (2, [.int nm0, .int kd0, .ref vl0, .int mi0, .int td0])), (vl0, .inl (c0, 3, .inl v0)), (h1, .inr (2, [.int nm1, .int kd1, .ref vl1, .int mi1, .int td1])), (vl1, .inl (c1, 3, .inl v1))])) (va_Qi (fun (r : Int32) (_ : Unit) => r = if kd0 = kd1 ∧ v0 0 = v1 0 ∧ v0 1 = v1 1 ∧ v0 2 = v1 2 then 1 else 0) (fun _ t => va_P (dC, dI) CL [(h0, .inr (2, [.int nm0, .int kd0, .ref vl0, .int mi0, .int td0])), (vl0, .inl (c0, 3, .inl v0)), (h1, .inr (2, [.int nm1, .int kd1, .ref vl1, .int mi1, .int td1])), (vl1, .inl (c1, 3, .inl v1))] t.heap ∧ va_K (dC, dI) CL [(c0, .int), (c1, .int)] t ∧ va_D (fun _ => True) [(h0, .inr (2, [.int nm0, .int kd0, .ref vl0, .int mi0, .int td0])), (vl0, .inl (c0, 3, .inl v0)), (h1, .inr (2, [.int nm1, .int kd1, .ref vl1, .int mi1, .int td1])), (vl1, .inl (c1, 3, .inl v1))]) (fun _ => False)) 0 0 (fun _ => False) := by
  refine Met.ofW (cc := cX2_isAlike) (maxL := 2) (ret := (some .boolean)) (by decide) rfl ?_
  intro p e s m args below meth c s₁ B hml hv
  obtain ⟨rfl, hsz, hP, hK, hD⟩ := hv
  have hx := B.exec
  have hb := B.bytes
  have hr := B.returns
  have hts := atoms_spec (ws := wqX2_isAlike) B.pre
  have hown : s.vm.findClass RX2 = some m.cls := findClass_of_methodNamed B.named
  have hlocks := B.notSynchronized
  have hS : va_S (fun _ => False) s.heap s.heap [] := va_S.rf
  have hl := lv_entry ([.ref h0, .ref h1]) (n := 2) (Nat.le_of_ble_eq_true rfl)
  rw [lg_entry_eq]
  generalize (lg_sl ([.ref h0, .ref h1]) ++ List.replicate (2 - (lg_sl ([.ref h0, .ref h1])).length) Slot.unset).toArray = ls at hl ⊢
  have hl : lv_has ls 2 [(0, .ref h0), (1, .ref h1)] := hl
  refine lv_aload_n hx hb dX2_isAlike_0 rfl (lv_at hl 0 rfl) ?_
  refine va_get (D := (dC, dI)) (ci := 2) (v := .int kd0) (C := RX2) (T := TX2) (N := 5) hx hb hts (by decide +kernel) hown hK hP 0 rfl rfl 1 (by decide) (hts (.fieldLink RX2 9 "Ruleengine$Fact" "kind" "I") (by decide +kernel)) (fun _ h9 => h9) rfl dX2_isAlike_1 ?_
  refine lv_aload_n hx hb dX2_isAlike_4 rfl (lv_at hl 1 rfl) ?_
  refine va_get (D := (dC, dI)) (ci := 2) (v := .int kd1) (C := RX2) (T := TX2) (N := 5) hx hb hts (by decide +kernel) hown hK hP 2 rfl rfl 1 (by decide) (hts (.fieldLink RX2 9 "Ruleengine$Fact" "kind" "I") (by decide +kernel)) (fun _ h9 => h9) rfl dX2_isAlike_5 ?_
  refine lv_icmp_ne hx hb dX2_isAlike_8 rfl (fun q1 => ?_) (fun q1 => ?_)
  · refine lv_iconst (v := (0 : Int32)) hx hb dX2_isAlike_60 (by decide) ?_
    exact W.zret hx hb hr rfl (fun t ht hW => ⟨⟨_, (), rfl, (by simp_all), by rw [ht]; exact hP, va_K.moved hW.alike hK, hD⟩, hS.F ht⟩) hS.2.2 dX2_isAlike_61
  · refine lv_aload_n hx hb dX2_isAlike_11 rfl (lv_at hl 0 rfl) ?_
    refine va_get (D := (dC, dI)) (ci := 2) (v := .ref vl0) (C := RX2) (T := TX2) (N := 5) hx hb hts (by decide +kernel) hown hK hP 0 rfl rfl 2 (by decide) (hts (.fieldLink RX2 15 "Ruleengine$Fact" "value" "[I") (by decide +kernel)) (fun _ h9 => h9) rfl dX2_isAlike_12 ?_
    refine lv_iconst (v := (0 : Int32)) hx hb dX2_isAlike_15 (by decide) ?_
    refine va_iald (i := (0)) hx hb hK hP 1 0 rfl rfl (by unfold vp_in; decide) dX2_isAlike_16 ?_
    refine W.eq (g2 := F0 m 17 _ (.int (v0 0) :: [])) rfl ?_
    refine lv_aload_n hx hb dX2_isAlike_17 rfl (lv_at hl 1 rfl) ?_
    refine va_get (D := (dC, dI)) (ci := 2) (v := .ref vl1) (C := RX2) (T := TX2) (N := 5) hx hb hts (by decide +kernel) hown hK hP 2 rfl rfl 2 (by decide) (hts (.fieldLink RX2 15 "Ruleengine$Fact" "value" "[I") (by decide +kernel)) (fun _ h9 => h9) rfl dX2_isAlike_18 ?_
    refine lv_iconst (v := (0 : Int32)) hx hb dX2_isAlike_21 (by decide) ?_
    refine va_iald (i := (0)) hx hb hK hP 3 1 rfl rfl (by unfold vp_in; decide) dX2_isAlike_22 ?_
    refine W.eq (g2 := F0 m 23 _ (.int (v1 0) :: [.int (v0 0)])) rfl ?_
    refine lv_icmp_ne hx hb dX2_isAlike_23 rfl (fun q2 => ?_) (fun q2 => ?_)
    · refine lv_iconst (v := (0 : Int32)) hx hb dX2_isAlike_60 (by decide) ?_
      exact W.zret hx hb hr rfl (fun t ht hW => ⟨⟨_, (), rfl, (by simp_all), by rw [ht]; exact hP, va_K.moved hW.alike hK, hD⟩, hS.F ht⟩) hS.2.2 dX2_isAlike_61
    · refine lv_aload_n hx hb dX2_isAlike_26 rfl (lv_at hl 0 rfl) ?_
      refine va_get (D := (dC, dI)) (ci := 2) (v := .ref vl0) (C := RX2) (T := TX2) (N := 5) hx hb hts (by decide +kernel) hown hK hP 0 rfl rfl 2 (by decide) (hts (.fieldLink RX2 15 "Ruleengine$Fact" "value" "[I") (by decide +kernel)) (fun _ h9 => h9) rfl dX2_isAlike_27 ?_
      refine lv_iconst (v := (1 : Int32)) hx hb dX2_isAlike_30 (by decide) ?_
      refine va_iald (i := (1)) hx hb hK hP 1 0 rfl rfl (by unfold vp_in; decide) dX2_isAlike_31 ?_
      refine W.eq (g2 := F0 m 32 _ (.int (v0 1) :: [])) rfl ?_
      refine lv_aload_n hx hb dX2_isAlike_32 rfl (lv_at hl 1 rfl) ?_
      refine va_get (D := (dC, dI)) (ci := 2) (v := .ref vl1) (C := RX2) (T := TX2) (N := 5) hx hb hts (by decide +kernel) hown hK hP 2 rfl rfl 2 (by decide) (hts (.fieldLink RX2 15 "Ruleengine$Fact" "value" "[I") (by decide +kernel)) (fun _ h9 => h9) rfl dX2_isAlike_33 ?_
      refine lv_iconst (v := (1 : Int32)) hx hb dX2_isAlike_36 (by decide) ?_
      refine va_iald (i := (1)) hx hb hK hP 3 1 rfl rfl (by unfold vp_in; decide) dX2_isAlike_37 ?_
      refine W.eq (g2 := F0 m 38 _ (.int (v1 1) :: [.int (v0 1)])) rfl ?_
      refine lv_icmp_ne hx hb dX2_isAlike_38 rfl (fun q3 => ?_) (fun q3 => ?_)
      · refine lv_iconst (v := (0 : Int32)) hx hb dX2_isAlike_60 (by decide) ?_
        exact W.zret hx hb hr rfl (fun t ht hW => ⟨⟨_, (), rfl, (by simp_all), by rw [ht]; exact hP, va_K.moved hW.alike hK, hD⟩, hS.F ht⟩) hS.2.2 dX2_isAlike_61
      · refine lv_aload_n hx hb dX2_isAlike_41 rfl (lv_at hl 0 rfl) ?_
        refine va_get (D := (dC, dI)) (ci := 2) (v := .ref vl0) (C := RX2) (T := TX2) (N := 5) hx hb hts (by decide +kernel) hown hK hP 0 rfl rfl 2 (by decide) (hts (.fieldLink RX2 15 "Ruleengine$Fact" "value" "[I") (by decide +kernel)) (fun _ h9 => h9) rfl dX2_isAlike_42 ?_
        refine lv_iconst (v := (2 : Int32)) hx hb dX2_isAlike_45 (by decide) ?_
        refine va_iald (i := (2)) hx hb hK hP 1 0 rfl rfl (by unfold vp_in; decide) dX2_isAlike_46 ?_
        refine W.eq (g2 := F0 m 47 _ (.int (v0 2) :: [])) rfl ?_
        refine lv_aload_n hx hb dX2_isAlike_47 rfl (lv_at hl 1 rfl) ?_
        refine va_get (D := (dC, dI)) (ci := 2) (v := .ref vl1) (C := RX2) (T := TX2) (N := 5) hx hb hts (by decide +kernel) hown hK hP 2 rfl rfl 2 (by decide) (hts (.fieldLink RX2 15 "Ruleengine$Fact" "value" "[I") (by decide +kernel)) (fun _ h9 => h9) rfl dX2_isAlike_48 ?_
        refine lv_iconst (v := (2 : Int32)) hx hb dX2_isAlike_51 (by decide) ?_
        refine va_iald (i := (2)) hx hb hK hP 3 1 rfl rfl (by unfold vp_in; decide) dX2_isAlike_52 ?_
        refine W.eq (g2 := F0 m 53 _ (.int (v1 2) :: [.int (v0 2)])) rfl ?_
        refine lv_icmp_ne hx hb dX2_isAlike_53 rfl (fun q4 => ?_) (fun q4 => ?_)
        · refine lv_iconst (v := (0 : Int32)) hx hb dX2_isAlike_60 (by decide) ?_
          exact W.zret hx hb hr rfl (fun t ht hW => ⟨⟨_, (), rfl, (by simp_all), by rw [ht]; exact hP, va_K.moved hW.alike hK, hD⟩, hS.F ht⟩) hS.2.2 dX2_isAlike_61
        · refine lv_iconst (v := (1 : Int32)) hx hb dX2_isAlike_56 (by decide) ?_
          refine lv_goto hx hb dX2_isAlike_57 rfl ?_
          exact W.zret hx hb hr rfl (fun t ht hW => ⟨⟨_, (), rfl, (by simp_all), by rw [ht]; exact hP, va_K.moved hW.alike hK, hD⟩, hS.F ht⟩) hS.2.2 dX2_isAlike_61
/-- an index into the six values -/
theorem lf_var {x : Int32} (h1 : ¬ x < 16) (h2 : ¬ 22 ≤ x) : vp_in (x - 16) 6 := by
  simp only [Int32.lt_iff_toInt_lt, Int32.le_iff_toInt_le, Int32.reduceToInt] at h1 h2
  have h3 : x.toInt = 16 ∨ x.toInt = 17 ∨ x.toInt = 18 ∨ x.toInt = 19 ∨ x.toInt = 20 ∨ x.toInt = 21 := by omega
  rcases h3 with h | h | h | h | h | h
  · obtain rfl : x = 16 := Int32.toInt_inj.mp (h.trans (by decide))
    unfold vp_in; decide
  · obtain rfl : x = 17 := Int32.toInt_inj.mp (h.trans (by decide))
    unfold vp_in; decide
  · obtain rfl : x = 18 := Int32.toInt_inj.mp (h.trans (by decide))
    unfold vp_in; decide
  · obtain rfl : x = 19 := Int32.toInt_inj.mp (h.trans (by decide))
    unfold vp_in; decide
  · obtain rfl : x = 20 := Int32.toInt_inj.mp (h.trans (by decide))
    unfold vp_in; decide
  · obtain rfl : x = 21 := Int32.toInt_inj.mp (h.trans (by decide))
    unfold vp_in; decide
/-- what a field of a fact must hold: the value of a variable that has one, anything for a blank, else the digit -/
def lf_want (w v vs : Nat → Int32) (i : Nat) : Int32 := if 16 ≤ w i ∧ w i < 22 then vs (w i - 16).toNatClampNeg else if w i = 22 then v i else w i
theorem lf_want_var {w v vs : Nat → Int32} {i : Nat} (h1 : ¬ w i < 16) (h2 : ¬ 22 ≤ w i) : lf_want w v vs i = vs (w i - 16).toNatClampNeg := if_pos ⟨Int32.not_lt.mp h1, Int32.not_le.mp h2⟩
theorem lf_want_low {w v vs : Nat → Int32} {i : Nat} (h1 : w i < 16) : lf_want w v vs i = w i := by
  have h2 : ¬ (16 ≤ w i ∧ w i < 22) := fun h => absurd h1 (Int32.not_lt.mpr h.1)
  have h3 : ¬ w i = 22 := fun h => by rw [h] at h1; exact absurd h1 (by decide)
  unfold lf_want; rw [if_neg h2, if_neg h3]
theorem lf_want_blank {w v vs : Nat → Int32} {i : Nat} (h1 : w i = 22) : lf_want w v vs i = v i := by
  have h2 : ¬ (16 ≤ w i ∧ w i < 22) := fun h => by rw [h1] at h; exact absurd h.2 (by decide)
  unfold lf_want; rw [if_neg h2, if_pos h1]
theorem lf_want_high {w v vs : Nat → Int32} {i : Nat} (h1 : 22 ≤ w i) (h3 : w i ≠ 22) : lf_want w v vs i = w i := by
  have h2 : ¬ (16 ≤ w i ∧ w i < 22) := fun h => absurd h1 (Int32.not_le.mpr h.2)
  unfold lf_want; rw [if_neg h2, if_neg h3]
abbrev cX0_fits : ByteArray := prog_2_method_6_code
def yX0_fits : MethodName := ⟨RX0, "fits", "(LRuleengine$Fact;[I)Z"⟩
def wqX0_fits : List Cond := .code yX0_fits cX0_fits 5 (some .boolean) :: ([.fieldLink RX0 43 "Ruleengine$Fact" "kind" "I", .fieldLink RX0 25 "Ruleengine$Atom" "kind" "I", .fieldLink RX0 15 "Ruleengine$Atom" "want" "[I", .fieldLink RX0 46 "Ruleengine$Fact" "value" "[I", .fieldLink RX0 33 "Ruleengine$Atom" "isFirstSecond" "Z", .fieldLink RX0 37 "Ruleengine$Atom" "isFirstThird" "Z", .fieldLink RX0 40 "Ruleengine$Atom" "isSecondThird" "Z"] ++ wsX20 ++ wsX00)
theorem dX0_fits_0 : decode cX0_fits 0 = .ok (.aload_n 1, 1) := by decide +kernel
theorem dX0_fits_1 : decode cX0_fits 1 = .ok (.getfield 43, 3) := by decide +kernel
theorem dX0_fits_4 : decode cX0_fits 4 = .ok (.aload_n 0, 1) := by decide +kernel
theorem dX0_fits_5 : decode cX0_fits 5 = .ok (.getfield 25, 3) := by decide +kernel
theorem dX0_fits_8 : decode cX0_fits 8 = .ok (.if_icmp .eq 5, 3) := by decide +kernel
theorem dX0_fits_11 : decode cX0_fits 11 = .ok (.iconst 0, 1) := by decide +kernel
theorem dX0_fits_12 : decode cX0_fits 12 = .ok (.ireturn, 1) := by decide +kernel
theorem dX0_fits_13 : decode cX0_fits 13 = .ok (.iconst 0, 1) := by decide +kernel
theorem dX0_fits_14 : decode cX0_fits 14 = .ok (.istore_n 3, 1) := by decide +kernel
theorem dX0_fits_15 : decode cX0_fits 15 = .ok (.iload_n 3, 1) := by decide +kernel
theorem dX0_fits_16 : decode cX0_fits 16 = .ok (.iconst 3, 1) := by decide +kernel
theorem dX0_fits_17 : decode cX0_fits 17 = .ok (.if_icmp .ge 71, 3) := by decide +kernel
theorem dX0_fits_20 : decode cX0_fits 20 = .ok (.aload_n 0, 1) := by decide +kernel
theorem dX0_fits_21 : decode cX0_fits 21 = .ok (.getfield 15, 3) := by decide +kernel
theorem dX0_fits_24 : decode cX0_fits 24 = .ok (.iload_n 3, 1) := by decide +kernel
theorem dX0_fits_25 : decode cX0_fits 25 = .ok (.iaload, 1) := by decide +kernel
theorem dX0_fits_26 : decode cX0_fits 26 = .ok (.istore 4, 2) := by decide +kernel
theorem dX0_fits_28 : decode cX0_fits 28 = .ok (.iload 4, 2) := by decide +kernel
theorem dX0_fits_30 : decode cX0_fits 30 = .ok (.bipush 16, 2) := by decide +kernel
theorem dX0_fits_32 : decode cX0_fits 32 = .ok (.if_icmp .lt 22, 3) := by decide +kernel
theorem dX0_fits_35 : decode cX0_fits 35 = .ok (.iload 4, 2) := by decide +kernel
theorem dX0_fits_37 : decode cX0_fits 37 = .ok (.bipush 22, 2) := by decide +kernel
theorem dX0_fits_39 : decode cX0_fits 39 = .ok (.if_icmp .ge 15, 3) := by decide +kernel
theorem dX0_fits_42 : decode cX0_fits 42 = .ok (.aload_n 2, 1) := by decide +kernel
theorem dX0_fits_43 : decode cX0_fits 43 = .ok (.iload 4, 2) := by decide +kernel
theorem dX0_fits_45 : decode cX0_fits 45 = .ok (.bipush 16, 2) := by decide +kernel
theorem dX0_fits_47 : decode cX0_fits 47 = .ok (.isub, 1) := by decide +kernel
theorem dX0_fits_48 : decode cX0_fits 48 = .ok (.iaload, 1) := by decide +kernel
theorem dX0_fits_49 : decode cX0_fits 49 = .ok (.istore 4, 2) := by decide +kernel
theorem dX0_fits_51 : decode cX0_fits 51 = .ok (.goto 18, 3) := by decide +kernel
theorem dX0_fits_54 : decode cX0_fits 54 = .ok (.iload 4, 2) := by decide +kernel
theorem dX0_fits_56 : decode cX0_fits 56 = .ok (.bipush 22, 2) := by decide +kernel
theorem dX0_fits_58 : decode cX0_fits 58 = .ok (.if_icmp .ne 11, 3) := by decide +kernel
theorem dX0_fits_61 : decode cX0_fits 61 = .ok (.aload_n 1, 1) := by decide +kernel
theorem dX0_fits_62 : decode cX0_fits 62 = .ok (.getfield 46, 3) := by decide +kernel
theorem dX0_fits_65 : decode cX0_fits 65 = .ok (.iload_n 3, 1) := by decide +kernel
theorem dX0_fits_66 : decode cX0_fits 66 = .ok (.iaload, 1) := by decide +kernel
theorem dX0_fits_67 : decode cX0_fits 67 = .ok (.istore 4, 2) := by decide +kernel
theorem dX0_fits_69 : decode cX0_fits 69 = .ok (.iload 4, 2) := by decide +kernel
theorem dX0_fits_71 : decode cX0_fits 71 = .ok (.aload_n 1, 1) := by decide +kernel
theorem dX0_fits_72 : decode cX0_fits 72 = .ok (.getfield 46, 3) := by decide +kernel
theorem dX0_fits_75 : decode cX0_fits 75 = .ok (.iload_n 3, 1) := by decide +kernel
theorem dX0_fits_76 : decode cX0_fits 76 = .ok (.iaload, 1) := by decide +kernel
theorem dX0_fits_77 : decode cX0_fits 77 = .ok (.if_icmp .eq 5, 3) := by decide +kernel
theorem dX0_fits_80 : decode cX0_fits 80 = .ok (.iconst 0, 1) := by decide +kernel
theorem dX0_fits_81 : decode cX0_fits 81 = .ok (.ireturn, 1) := by decide +kernel
theorem dX0_fits_82 : decode cX0_fits 82 = .ok (.iinc 3 1, 3) := by decide +kernel
theorem dX0_fits_85 : decode cX0_fits 85 = .ok (.goto (-70), 3) := by decide +kernel
theorem dX0_fits_88 : decode cX0_fits 88 = .ok (.aload_n 0, 1) := by decide +kernel
theorem dX0_fits_89 : decode cX0_fits 89 = .ok (.getfield 33, 3) := by decide +kernel
theorem dX0_fits_92 : decode cX0_fits 92 = .ok (.ifCond .eq 18, 3) := by decide +kernel
theorem dX0_fits_95 : decode cX0_fits 95 = .ok (.aload_n 1, 1) := by decide +kernel
theorem dX0_fits_96 : decode cX0_fits 96 = .ok (.getfield 46, 3) := by decide +kernel
theorem dX0_fits_99 : decode cX0_fits 99 = .ok (.iconst 0, 1) := by decide +kernel
theorem dX0_fits_100 : decode cX0_fits 100 = .ok (.iaload, 1) := by decide +kernel
theorem dX0_fits_101 : decode cX0_fits 101 = .ok (.aload_n 1, 1) := by decide +kernel
theorem dX0_fits_102 : decode cX0_fits 102 = .ok (.getfield 46, 3) := by decide +kernel
theorem dX0_fits_105 : decode cX0_fits 105 = .ok (.iconst 1, 1) := by decide +kernel
theorem dX0_fits_106 : decode cX0_fits 106 = .ok (.iaload, 1) := by decide +kernel
theorem dX0_fits_107 : decode cX0_fits 107 = .ok (.if_icmp .ne 51, 3) := by decide +kernel
theorem dX0_fits_110 : decode cX0_fits 110 = .ok (.aload_n 0, 1) := by decide +kernel
theorem dX0_fits_111 : decode cX0_fits 111 = .ok (.getfield 37, 3) := by decide +kernel
theorem dX0_fits_114 : decode cX0_fits 114 = .ok (.ifCond .eq 18, 3) := by decide +kernel
theorem dX0_fits_117 : decode cX0_fits 117 = .ok (.aload_n 1, 1) := by decide +kernel
theorem dX0_fits_118 : decode cX0_fits 118 = .ok (.getfield 46, 3) := by decide +kernel
theorem dX0_fits_121 : decode cX0_fits 121 = .ok (.iconst 0, 1) := by decide +kernel
theorem dX0_fits_122 : decode cX0_fits 122 = .ok (.iaload, 1) := by decide +kernel
theorem dX0_fits_123 : decode cX0_fits 123 = .ok (.aload_n 1, 1) := by decide +kernel
theorem dX0_fits_124 : decode cX0_fits 124 = .ok (.getfield 46, 3) := by decide +kernel
theorem dX0_fits_127 : decode cX0_fits 127 = .ok (.iconst 2, 1) := by decide +kernel
theorem dX0_fits_128 : decode cX0_fits 128 = .ok (.iaload, 1) := by decide +kernel
theorem dX0_fits_129 : decode cX0_fits 129 = .ok (.if_icmp .ne 29, 3) := by decide +kernel
theorem dX0_fits_132 : decode cX0_fits 132 = .ok (.aload_n 0, 1) := by decide +kernel
theorem dX0_fits_133 : decode cX0_fits 133 = .ok (.getfield 40, 3) := by decide +kernel
theorem dX0_fits_136 : decode cX0_fits 136 = .ok (.ifCond .eq 18, 3) := by decide +kernel
theorem dX0_fits_139 : decode cX0_fits 139 = .ok (.aload_n 1, 1) := by decide +kernel
theorem dX0_fits_140 : decode cX0_fits 140 = .ok (.getfield 46, 3) := by decide +kernel
theorem dX0_fits_143 : decode cX0_fits 143 = .ok (.iconst 1, 1) := by decide +kernel
theorem dX0_fits_144 : decode cX0_fits 144 = .ok (.iaload, 1) := by decide +kernel
theorem dX0_fits_145 : decode cX0_fits 145 = .ok (.aload_n 1, 1) := by decide +kernel
theorem dX0_fits_146 : decode cX0_fits 146 = .ok (.getfield 46, 3) := by decide +kernel
theorem dX0_fits_149 : decode cX0_fits 149 = .ok (.iconst 2, 1) := by decide +kernel
theorem dX0_fits_150 : decode cX0_fits 150 = .ok (.iaload, 1) := by decide +kernel
theorem dX0_fits_151 : decode cX0_fits 151 = .ok (.if_icmp .ne 7, 3) := by decide +kernel
theorem dX0_fits_154 : decode cX0_fits 154 = .ok (.iconst 1, 1) := by decide +kernel
theorem dX0_fits_155 : decode cX0_fits 155 = .ok (.goto 4, 3) := by decide +kernel
theorem dX0_fits_158 : decode cX0_fits 158 = .ok (.iconst 0, 1) := by decide +kernel
theorem dX0_fits_159 : decode cX0_fits 159 = .ok (.ireturn, 1) := by decide +kernel
set_option maxHeartbeats 8000000 in
set_option maxRecDepth 100000 in
/-- Atom.fits: whether a fact fits an atom, by the values that its variables have -/
theorem kX0_fits (l : Launch) (dC : Nat → ClassId) (dI : Nat → Nat → Nat) (sz : Nat) (h0 sg wt h1 vl g : Nat) (cw cv cg : ClassId) (kd e12 e13 e23 nm fk mi td : Int32) (w v vs : Nat → Int32) : Met l yX0_fits wqX0_fits ({ frames := 0, cells := 0, slots := 0, locals := 0 }) (va_Pc [.ref h0, .ref h1, .ref g] (fun U => U.heap.size = sz ∧ va_P (dC, dI) CL [(h0, .inr (0, [.int kd, .ref sg, .ref wt, .int e12, .int e13, .int e23])), (wt, .inl (cw, 3, .inl w)), (h1, .inr (2, [.int nm, .int fk, .ref vl, .int mi, .int td])), (vl, .inl (cv, 3, .inl v)), (g, .inl (cg, 6, .inl vs))] U.heap ∧ va_K (dC, dI) CL [(cw, .int), (cv, .int), (cg, .int)] U ∧ va_D (fun _ => True) [(h0, .inr (0, [.int kd, .ref sg, .ref wt, .int e12, .int e13, .int e23])), (wt, .inl (cw, 3, .inl w)), (h1, .inr (2, [.int nm, .int fk, .ref vl, .int mi, .int td])), (vl, .inl (cv, 3, .inl v)), (g, .inl (cg, 6, .inl vs))])) (va_Qi (fun (r : Int32) (_ : Unit) => r = if fk = kd ∧ lf_want w v vs 0 = v 0 ∧ lf_want w v vs 1 = v 1 ∧ lf_want w v vs 2 = v 2 ∧ (e12 = 0 ∨ v 0 = v 1) ∧ (e13 = 0 ∨ v 0 = v 2) ∧ (e23 = 0 ∨ v 1 = v 2) then 1 else 0) (fun _ t => va_P (dC, dI) CL [(h0, .inr (0, [.int kd, .ref sg, .ref wt, .int e12, .int e13, .int e23])), (wt, .inl (cw, 3, .inl w)), (h1, .inr (2, [.int nm, .int fk, .ref vl, .int mi, .int td])), (vl, .inl (cv, 3, .inl v)), (g, .inl (cg, 6, .inl vs))] t.heap ∧ va_K (dC, dI) CL [(cw, .int), (cv, .int), (cg, .int)] t ∧ va_D (fun _ => True) [(h0, .inr (0, [.int kd, .ref sg, .ref wt, .int e12, .int e13, .int e23])), (wt, .inl (cw, 3, .inl w)), (h1, .inr (2, [.int nm, .int fk, .ref vl, .int mi, .int td])), (vl, .inl (cv, 3, .inl v)), (g, .inl (cg, 6, .inl vs))]) (fun _ => False)) 0 0 (fun _ => False) := by
  refine Met.ofW (cc := cX0_fits) (maxL := 5) (ret := (some .boolean)) (by decide) rfl ?_
  intro p e s m args below meth c s₁ B hml hv
  obtain ⟨rfl, hsz, hP, hK, hD⟩ := hv
  have hx := B.exec
  have hb := B.bytes
  have hr := B.returns
  have hts := atoms_spec (ws := wqX0_fits) B.pre
  have hown : s.vm.findClass RX0 = some m.cls := findClass_of_methodNamed B.named
  have hlocks := B.notSynchronized
  have hS : va_S (fun _ => False) s.heap s.heap [] := va_S.rf
  have hl := lv_entry ([.ref h0, .ref h1, .ref g]) (n := 5) (Nat.le_of_ble_eq_true rfl)
  rw [lg_entry_eq]
  generalize (lg_sl ([.ref h0, .ref h1, .ref g]) ++ List.replicate (5 - (lg_sl ([.ref h0, .ref h1, .ref g])).length) Slot.unset).toArray = ls at hl ⊢
  have hl : lv_has ls 5 [(0, .ref h0), (1, .ref h1), (2, .ref g)] := hl
  have it3 : ∀ ls : Array Slot, fk = kd → lv_has ls 5 [(3, .int (3)), (0, .ref h0), (1, .ref h1), (2, .ref g)] → lf_want w v vs 0 = v 0 → lf_want w v vs 1 = v 1 → lf_want w v vs 2 = v 2 → W p l e (headSpec wqX0_fits ({ frames := 0, cells := 0, slots := 0, locals := 0 })).room s m #[.ref h0, .ref h1, .ref g] below meth c s.heap [] 0 0 (MQ below (va_Qi (fun (r : Int32) (_ : Unit) => r = if fk = kd ∧ lf_want w v vs 0 = v 0 ∧ lf_want w v vs 1 = v 1 ∧ lf_want w v vs 2 = v 2 ∧ (e12 = 0 ∨ v 0 = v 1) ∧ (e13 = 0 ∨ v 0 = v 2) ∧ (e23 = 0 ∨ v 1 = v 2) then 1 else 0) (fun _ t => va_P (dC, dI) CL [(h0, .inr (0, [.int kd, .ref sg, .ref wt, .int e12, .int e13, .int e23])), (wt, .inl (cw, 3, .inl w)), (h1, .inr (2, [.int nm, .int fk, .ref vl, .int mi, .int td])), (vl, .inl (cv, 3, .inl v)), (g, .inl (cg, 6, .inl vs))] t.heap ∧ va_K (dC, dI) CL [(cw, .int), (cv, .int), (cg, .int)] t ∧ va_D (fun _ => True) [(h0, .inr (0, [.int kd, .ref sg, .ref wt, .int e12, .int e13, .int e23])), (wt, .inl (cw, 3, .inl w)), (h1, .inr (2, [.int nm, .int fk, .ref vl, .int mi, .int td])), (vl, .inl (cv, 3, .inl v)), (g, .inl (cg, 6, .inl vs))]) (fun _ => False)) #[.ref h0, .ref h1, .ref g] s 0 0 (fun _ => False)) (F0 m 15 ls []) := by
    intro ls hk hl a0 a1 a2
    refine lv_iload_n hx hb dX0_fits_15 rfl (lv_at hl 0 rfl) ?_
    refine lv_iconst (v := (3 : Int32)) hx hb dX0_fits_16 (by decide) ?_
    refine lv_icmp_ge hx hb dX0_fits_17 rfl (fun _ => ?_) (fun q => absurd (by decide) q)
    refine lv_aload_n hx hb dX0_fits_88 rfl (lv_at hl 1 rfl) ?_
    refine va_get (D := (dC, dI)) (ci := 0) (v := .int e12) (C := RX0) (T := TX0) (N := 6) hx hb hts (by decide +kernel) hown hK hP 0 rfl rfl 3 (by decide) (hts (.fieldLink RX0 33 "Ruleengine$Atom" "isFirstSecond" "Z") (by decide +kernel)) (fun _ h9 => h9) rfl dX0_fits_89 ?_
    refine lv_if_eq hx hb dX0_fits_92 rfl (fun q2 => ?_) (fun q2 => ?_)
    · refine lv_aload_n hx hb dX0_fits_110 rfl (lv_at hl 1 rfl) ?_
      refine va_get (D := (dC, dI)) (ci := 0) (v := .int e13) (C := RX0) (T := TX0) (N := 6) hx hb hts (by decide +kernel) hown hK hP 0 rfl rfl 4 (by decide) (hts (.fieldLink RX0 37 "Ruleengine$Atom" "isFirstThird" "Z") (by decide +kernel)) (fun _ h9 => h9) rfl dX0_fits_111 ?_
      refine lv_if_eq hx hb dX0_fits_114 rfl (fun q3 => ?_) (fun q3 => ?_)
      · refine lv_aload_n hx hb dX0_fits_132 rfl (lv_at hl 1 rfl) ?_
        refine va_get (D := (dC, dI)) (ci := 0) (v := .int e23) (C := RX0) (T := TX0) (N := 6) hx hb hts (by decide +kernel) hown hK hP 0 rfl rfl 5 (by decide) (hts (.fieldLink RX0 40 "Ruleengine$Atom" "isSecondThird" "Z") (by decide +kernel)) (fun _ h9 => h9) rfl dX0_fits_133 ?_
        refine lv_if_eq hx hb dX0_fits_136 rfl (fun q4 => ?_) (fun q4 => ?_)
        · refine lv_iconst (v := (1 : Int32)) hx hb dX0_fits_154 (by decide) ?_
          refine lv_goto hx hb dX0_fits_155 rfl ?_
          exact W.zret hx hb hr rfl (fun t ht hW => ⟨⟨_, (), rfl, (by first | (rw [if_pos (by simp_all)]; done) | (rw [if_neg (by simp_all)]; done) | simp_all), by rw [ht]; exact hP, va_K.moved hW.alike hK, hD⟩, hS.F ht⟩) hS.2.2 dX0_fits_159
        · refine lv_aload_n hx hb dX0_fits_139 rfl (lv_at hl 2 rfl) ?_
          refine va_get (D := (dC, dI)) (ci := 2) (v := .ref vl) (C := RX2) (T := TX2) (N := 5) hx hb hts (by decide +kernel) hown hK hP 2 rfl rfl 2 (by decide) (hts (.fieldLink RX0 46 "Ruleengine$Fact" "value" "[I") (by decide +kernel)) (fun _ h9 => h9) rfl dX0_fits_140 ?_
          refine lv_iconst (v := (1 : Int32)) hx hb dX0_fits_143 (by decide) ?_
          refine va_iald (i := (1)) hx hb hK hP 3 1 rfl rfl (by unfold vp_in; decide) dX0_fits_144 ?_
          refine W.eq (g2 := F0 m 145 _ (.int (v 1) :: [])) rfl ?_
          refine lv_aload_n hx hb dX0_fits_145 rfl (lv_at hl 2 rfl) ?_
          refine va_get (D := (dC, dI)) (ci := 2) (v := .ref vl) (C := RX2) (T := TX2) (N := 5) hx hb hts (by decide +kernel) hown hK hP 2 rfl rfl 2 (by decide) (hts (.fieldLink RX0 46 "Ruleengine$Fact" "value" "[I") (by decide +kernel)) (fun _ h9 => h9) rfl dX0_fits_146 ?_
          refine lv_iconst (v := (2 : Int32)) hx hb dX0_fits_149 (by decide) ?_
          refine va_iald (i := (2)) hx hb hK hP 3 1 rfl rfl (by unfold vp_in; decide) dX0_fits_150 ?_
          refine W.eq (g2 := F0 m 151 _ (.int (v 2) :: [.int (v 1)])) rfl ?_
          refine lv_icmp_ne hx hb dX0_fits_151 rfl (fun q5 => ?_) (fun q5 => ?_)
          · refine lv_iconst (v := (0 : Int32)) hx hb dX0_fits_158 (by decide) ?_
            exact W.zret hx hb hr rfl (fun t ht hW => ⟨⟨_, (), rfl, (by first | (rw [if_pos (by simp_all)]; done) | (rw [if_neg (by simp_all)]; done) | simp_all), by rw [ht]; exact hP, va_K.moved hW.alike hK, hD⟩, hS.F ht⟩) hS.2.2 dX0_fits_159
          · refine lv_iconst (v := (1 : Int32)) hx hb dX0_fits_154 (by decide) ?_
            refine lv_goto hx hb dX0_fits_155 rfl ?_
            exact W.zret hx hb hr rfl (fun t ht hW => ⟨⟨_, (), rfl, (by first | (rw [if_pos (by simp_all)]; done) | (rw [if_neg (by simp_all)]; done) | simp_all), by rw [ht]; exact hP, va_K.moved hW.alike hK, hD⟩, hS.F ht⟩) hS.2.2 dX0_fits_159
      · refine lv_aload_n hx hb dX0_fits_117 rfl (lv_at hl 2 rfl) ?_
        refine va_get (D := (dC, dI)) (ci := 2) (v := .ref vl) (C := RX2) (T := TX2) (N := 5) hx hb hts (by decide +kernel) hown hK hP 2 rfl rfl 2 (by decide) (hts (.fieldLink RX0 46 "Ruleengine$Fact" "value" "[I") (by decide +kernel)) (fun _ h9 => h9) rfl dX0_fits_118 ?_
        refine lv_iconst (v := (0 : Int32)) hx hb dX0_fits_121 (by decide) ?_
        refine va_iald (i := (0)) hx hb hK hP 3 1 rfl rfl (by unfold vp_in; decide) dX0_fits_122 ?_
        refine W.eq (g2 := F0 m 123 _ (.int (v 0) :: [])) rfl ?_
        refine lv_aload_n hx hb dX0_fits_123 rfl (lv_at hl 2 rfl) ?_
        refine va_get (D := (dC, dI)) (ci := 2) (v := .ref vl) (C := RX2) (T := TX2) (N := 5) hx hb hts (by decide +kernel) hown hK hP 2 rfl rfl 2 (by decide) (hts (.fieldLink RX0 46 "Ruleengine$Fact" "value" "[I") (by decide +kernel)) (fun _ h9 => h9) rfl dX0_fits_124 ?_
        refine lv_iconst (v := (2 : Int32)) hx hb dX0_fits_127 (by decide) ?_
        refine va_iald (i := (2)) hx hb hK hP 3 1 rfl rfl (by unfold vp_in; decide) dX0_fits_128 ?_
        refine W.eq (g2 := F0 m 129 _ (.int (v 2) :: [.int (v 0)])) rfl ?_
        refine lv_icmp_ne hx hb dX0_fits_129 rfl (fun q6 => ?_) (fun q6 => ?_)
        · refine lv_iconst (v := (0 : Int32)) hx hb dX0_fits_158 (by decide) ?_
          exact W.zret hx hb hr rfl (fun t ht hW => ⟨⟨_, (), rfl, (by first | (rw [if_pos (by simp_all)]; done) | (rw [if_neg (by simp_all)]; done) | simp_all), by rw [ht]; exact hP, va_K.moved hW.alike hK, hD⟩, hS.F ht⟩) hS.2.2 dX0_fits_159
        · refine lv_aload_n hx hb dX0_fits_132 rfl (lv_at hl 1 rfl) ?_
          refine va_get (D := (dC, dI)) (ci := 0) (v := .int e23) (C := RX0) (T := TX0) (N := 6) hx hb hts (by decide +kernel) hown hK hP 0 rfl rfl 5 (by decide) (hts (.fieldLink RX0 40 "Ruleengine$Atom" "isSecondThird" "Z") (by decide +kernel)) (fun _ h9 => h9) rfl dX0_fits_133 ?_
          refine lv_if_eq hx hb dX0_fits_136 rfl (fun q7 => ?_) (fun q7 => ?_)
          · refine lv_iconst (v := (1 : Int32)) hx hb dX0_fits_154 (by decide) ?_
            refine lv_goto hx hb dX0_fits_155 rfl ?_
            exact W.zret hx hb hr rfl (fun t ht hW => ⟨⟨_, (), rfl, (by first | (rw [if_pos (by simp_all)]; done) | (rw [if_neg (by simp_all)]; done) | simp_all), by rw [ht]; exact hP, va_K.moved hW.alike hK, hD⟩, hS.F ht⟩) hS.2.2 dX0_fits_159
          · refine lv_aload_n hx hb dX0_fits_139 rfl (lv_at hl 2 rfl) ?_
            refine va_get (D := (dC, dI)) (ci := 2) (v := .ref vl) (C := RX2) (T := TX2) (N := 5) hx hb hts (by decide +kernel) hown hK hP 2 rfl rfl 2 (by decide) (hts (.fieldLink RX0 46 "Ruleengine$Fact" "value" "[I") (by decide +kernel)) (fun _ h9 => h9) rfl dX0_fits_140 ?_
            refine lv_iconst (v := (1 : Int32)) hx hb dX0_fits_143 (by decide) ?_
            refine va_iald (i := (1)) hx hb hK hP 3 1 rfl rfl (by unfold vp_in; decide) dX0_fits_144 ?_
            refine W.eq (g2 := F0 m 145 _ (.int (v 1) :: [])) rfl ?_
            refine lv_aload_n hx hb dX0_fits_145 rfl (lv_at hl 2 rfl) ?_
            refine va_get (D := (dC, dI)) (ci := 2) (v := .ref vl) (C := RX2) (T := TX2) (N := 5) hx hb hts (by decide +kernel) hown hK hP 2 rfl rfl 2 (by decide) (hts (.fieldLink RX0 46 "Ruleengine$Fact" "value" "[I") (by decide +kernel)) (fun _ h9 => h9) rfl dX0_fits_146 ?_
            refine lv_iconst (v := (2 : Int32)) hx hb dX0_fits_149 (by decide) ?_
            refine va_iald (i := (2)) hx hb hK hP 3 1 rfl rfl (by unfold vp_in; decide) dX0_fits_150 ?_
            refine W.eq (g2 := F0 m 151 _ (.int (v 2) :: [.int (v 1)])) rfl ?_
            refine lv_icmp_ne hx hb dX0_fits_151 rfl (fun q8 => ?_) (fun q8 => ?_)
            · refine lv_iconst (v := (0 : Int32)) hx hb dX0_fits_158 (by decide) ?_
              exact W.zret hx hb hr rfl (fun t ht hW => ⟨⟨_, (), rfl, (by first | (rw [if_pos (by simp_all)]; done) | (rw [if_neg (by simp_all)]; done) | simp_all), by rw [ht]; exact hP, va_K.moved hW.alike hK, hD⟩, hS.F ht⟩) hS.2.2 dX0_fits_159
            · refine lv_iconst (v := (1 : Int32)) hx hb dX0_fits_154 (by decide) ?_
              refine lv_goto hx hb dX0_fits_155 rfl ?_
              exact W.zret hx hb hr rfl (fun t ht hW => ⟨⟨_, (), rfl, (by first | (rw [if_pos (by simp_all)]; done) | (rw [if_neg (by simp_all)]; done) | simp_all), by rw [ht]; exact hP, va_K.moved hW.alike hK, hD⟩, hS.F ht⟩) hS.2.2 dX0_fits_159
    · refine lv_aload_n hx hb dX0_fits_95 rfl (lv_at hl 2 rfl) ?_
      refine va_get (D := (dC, dI)) (ci := 2) (v := .ref vl) (C := RX2) (T := TX2) (N := 5) hx hb hts (by decide +kernel) hown hK hP 2 rfl rfl 2 (by decide) (hts (.fieldLink RX0 46 "Ruleengine$Fact" "value" "[I") (by decide +kernel)) (fun _ h9 => h9) rfl dX0_fits_96 ?_
      refine lv_iconst (v := (0 : Int32)) hx hb dX0_fits_99 (by decide) ?_
      refine va_iald (i := (0)) hx hb hK hP 3 1 rfl rfl (by unfold vp_in; decide) dX0_fits_100 ?_
      refine W.eq (g2 := F0 m 101 _ (.int (v 0) :: [])) rfl ?_
      refine lv_aload_n hx hb dX0_fits_101 rfl (lv_at hl 2 rfl) ?_
      refine va_get (D := (dC, dI)) (ci := 2) (v := .ref vl) (C := RX2) (T := TX2) (N := 5) hx hb hts (by decide +kernel) hown hK hP 2 rfl rfl 2 (by decide) (hts (.fieldLink RX0 46 "Ruleengine$Fact" "value" "[I") (by decide +kernel)) (fun _ h9 => h9) rfl dX0_fits_102 ?_
      refine lv_iconst (v := (1 : Int32)) hx hb dX0_fits_105 (by decide) ?_
      refine va_iald (i := (1)) hx hb hK hP 3 1 rfl rfl (by unfold vp_in; decide) dX0_fits_106 ?_
      refine W.eq (g2 := F0 m 107 _ (.int (v 1) :: [.int (v 0)])) rfl ?_
      refine lv_icmp_ne hx hb dX0_fits_107 rfl (fun q9 => ?_) (fun q9 => ?_)
      · refine lv_iconst (v := (0 : Int32)) hx hb dX0_fits_158 (by decide) ?_
        exact W.zret hx hb hr rfl (fun t ht hW => ⟨⟨_, (), rfl, (by first | (rw [if_pos (by simp_all)]; done) | (rw [if_neg (by simp_all)]; done) | simp_all), by rw [ht]; exact hP, va_K.moved hW.alike hK, hD⟩, hS.F ht⟩) hS.2.2 dX0_fits_159
      · refine lv_aload_n hx hb dX0_fits_110 rfl (lv_at hl 1 rfl) ?_
        refine va_get (D := (dC, dI)) (ci := 0) (v := .int e13) (C := RX0) (T := TX0) (N := 6) hx hb hts (by decide +kernel) hown hK hP 0 rfl rfl 4 (by decide) (hts (.fieldLink RX0 37 "Ruleengine$Atom" "isFirstThird" "Z") (by decide +kernel)) (fun _ h9 => h9) rfl dX0_fits_111 ?_
        refine lv_if_eq hx hb dX0_fits_114 rfl (fun q10 => ?_) (fun q10 => ?_)
        · refine lv_aload_n hx hb dX0_fits_132 rfl (lv_at hl 1 rfl) ?_
          refine va_get (D := (dC, dI)) (ci := 0) (v := .int e23) (C := RX0) (T := TX0) (N := 6) hx hb hts (by decide +kernel) hown hK hP 0 rfl rfl 5 (by decide) (hts (.fieldLink RX0 40 "Ruleengine$Atom" "isSecondThird" "Z") (by decide +kernel)) (fun _ h9 => h9) rfl dX0_fits_133 ?_
          refine lv_if_eq hx hb dX0_fits_136 rfl (fun q11 => ?_) (fun q11 => ?_)
          · refine lv_iconst (v := (1 : Int32)) hx hb dX0_fits_154 (by decide) ?_
            refine lv_goto hx hb dX0_fits_155 rfl ?_
            exact W.zret hx hb hr rfl (fun t ht hW => ⟨⟨_, (), rfl, (by first | (rw [if_pos (by simp_all)]; done) | (rw [if_neg (by simp_all)]; done) | simp_all), by rw [ht]; exact hP, va_K.moved hW.alike hK, hD⟩, hS.F ht⟩) hS.2.2 dX0_fits_159
          · refine lv_aload_n hx hb dX0_fits_139 rfl (lv_at hl 2 rfl) ?_
            refine va_get (D := (dC, dI)) (ci := 2) (v := .ref vl) (C := RX2) (T := TX2) (N := 5) hx hb hts (by decide +kernel) hown hK hP 2 rfl rfl 2 (by decide) (hts (.fieldLink RX0 46 "Ruleengine$Fact" "value" "[I") (by decide +kernel)) (fun _ h9 => h9) rfl dX0_fits_140 ?_
            refine lv_iconst (v := (1 : Int32)) hx hb dX0_fits_143 (by decide) ?_
            refine va_iald (i := (1)) hx hb hK hP 3 1 rfl rfl (by unfold vp_in; decide) dX0_fits_144 ?_
            refine W.eq (g2 := F0 m 145 _ (.int (v 1) :: [])) rfl ?_
            refine lv_aload_n hx hb dX0_fits_145 rfl (lv_at hl 2 rfl) ?_
            refine va_get (D := (dC, dI)) (ci := 2) (v := .ref vl) (C := RX2) (T := TX2) (N := 5) hx hb hts (by decide +kernel) hown hK hP 2 rfl rfl 2 (by decide) (hts (.fieldLink RX0 46 "Ruleengine$Fact" "value" "[I") (by decide +kernel)) (fun _ h9 => h9) rfl dX0_fits_146 ?_
            refine lv_iconst (v := (2 : Int32)) hx hb dX0_fits_149 (by decide) ?_
            refine va_iald (i := (2)) hx hb hK hP 3 1 rfl rfl (by unfold vp_in; decide) dX0_fits_150 ?_
            refine W.eq (g2 := F0 m 151 _ (.int (v 2) :: [.int (v 1)])) rfl ?_
            refine lv_icmp_ne hx hb dX0_fits_151 rfl (fun q12 => ?_) (fun q12 => ?_)
            · refine lv_iconst (v := (0 : Int32)) hx hb dX0_fits_158 (by decide) ?_
              exact W.zret hx hb hr rfl (fun t ht hW => ⟨⟨_, (), rfl, (by first | (rw [if_pos (by simp_all)]; done) | (rw [if_neg (by simp_all)]; done) | simp_all), by rw [ht]; exact hP, va_K.moved hW.alike hK, hD⟩, hS.F ht⟩) hS.2.2 dX0_fits_159
            · refine lv_iconst (v := (1 : Int32)) hx hb dX0_fits_154 (by decide) ?_
              refine lv_goto hx hb dX0_fits_155 rfl ?_
              exact W.zret hx hb hr rfl (fun t ht hW => ⟨⟨_, (), rfl, (by first | (rw [if_pos (by simp_all)]; done) | (rw [if_neg (by simp_all)]; done) | simp_all), by rw [ht]; exact hP, va_K.moved hW.alike hK, hD⟩, hS.F ht⟩) hS.2.2 dX0_fits_159
        · refine lv_aload_n hx hb dX0_fits_117 rfl (lv_at hl 2 rfl) ?_
          refine va_get (D := (dC, dI)) (ci := 2) (v := .ref vl) (C := RX2) (T := TX2) (N := 5) hx hb hts (by decide +kernel) hown hK hP 2 rfl rfl 2 (by decide) (hts (.fieldLink RX0 46 "Ruleengine$Fact" "value" "[I") (by decide +kernel)) (fun _ h9 => h9) rfl dX0_fits_118 ?_
          refine lv_iconst (v := (0 : Int32)) hx hb dX0_fits_121 (by decide) ?_
          refine va_iald (i := (0)) hx hb hK hP 3 1 rfl rfl (by unfold vp_in; decide) dX0_fits_122 ?_
          refine W.eq (g2 := F0 m 123 _ (.int (v 0) :: [])) rfl ?_
          refine lv_aload_n hx hb dX0_fits_123 rfl (lv_at hl 2 rfl) ?_
          refine va_get (D := (dC, dI)) (ci := 2) (v := .ref vl) (C := RX2) (T := TX2) (N := 5) hx hb hts (by decide +kernel) hown hK hP 2 rfl rfl 2 (by decide) (hts (.fieldLink RX0 46 "Ruleengine$Fact" "value" "[I") (by decide +kernel)) (fun _ h9 => h9) rfl dX0_fits_124 ?_
          refine lv_iconst (v := (2 : Int32)) hx hb dX0_fits_127 (by decide) ?_
          refine va_iald (i := (2)) hx hb hK hP 3 1 rfl rfl (by unfold vp_in; decide) dX0_fits_128 ?_
          refine W.eq (g2 := F0 m 129 _ (.int (v 2) :: [.int (v 0)])) rfl ?_
          refine lv_icmp_ne hx hb dX0_fits_129 rfl (fun q13 => ?_) (fun q13 => ?_)
          · refine lv_iconst (v := (0 : Int32)) hx hb dX0_fits_158 (by decide) ?_
            exact W.zret hx hb hr rfl (fun t ht hW => ⟨⟨_, (), rfl, (by first | (rw [if_pos (by simp_all)]; done) | (rw [if_neg (by simp_all)]; done) | simp_all), by rw [ht]; exact hP, va_K.moved hW.alike hK, hD⟩, hS.F ht⟩) hS.2.2 dX0_fits_159
          · refine lv_aload_n hx hb dX0_fits_132 rfl (lv_at hl 1 rfl) ?_
            refine va_get (D := (dC, dI)) (ci := 0) (v := .int e23) (C := RX0) (T := TX0) (N := 6) hx hb hts (by decide +kernel) hown hK hP 0 rfl rfl 5 (by decide) (hts (.fieldLink RX0 40 "Ruleengine$Atom" "isSecondThird" "Z") (by decide +kernel)) (fun _ h9 => h9) rfl dX0_fits_133 ?_
            refine lv_if_eq hx hb dX0_fits_136 rfl (fun q14 => ?_) (fun q14 => ?_)
            · refine lv_iconst (v := (1 : Int32)) hx hb dX0_fits_154 (by decide) ?_
              refine lv_goto hx hb dX0_fits_155 rfl ?_
              exact W.zret hx hb hr rfl (fun t ht hW => ⟨⟨_, (), rfl, (by first | (rw [if_pos (by simp_all)]; done) | (rw [if_neg (by simp_all)]; done) | simp_all), by rw [ht]; exact hP, va_K.moved hW.alike hK, hD⟩, hS.F ht⟩) hS.2.2 dX0_fits_159
            · refine lv_aload_n hx hb dX0_fits_139 rfl (lv_at hl 2 rfl) ?_
              refine va_get (D := (dC, dI)) (ci := 2) (v := .ref vl) (C := RX2) (T := TX2) (N := 5) hx hb hts (by decide +kernel) hown hK hP 2 rfl rfl 2 (by decide) (hts (.fieldLink RX0 46 "Ruleengine$Fact" "value" "[I") (by decide +kernel)) (fun _ h9 => h9) rfl dX0_fits_140 ?_
              refine lv_iconst (v := (1 : Int32)) hx hb dX0_fits_143 (by decide) ?_
              refine va_iald (i := (1)) hx hb hK hP 3 1 rfl rfl (by unfold vp_in; decide) dX0_fits_144 ?_
              refine W.eq (g2 := F0 m 145 _ (.int (v 1) :: [])) rfl ?_
              refine lv_aload_n hx hb dX0_fits_145 rfl (lv_at hl 2 rfl) ?_
              refine va_get (D := (dC, dI)) (ci := 2) (v := .ref vl) (C := RX2) (T := TX2) (N := 5) hx hb hts (by decide +kernel) hown hK hP 2 rfl rfl 2 (by decide) (hts (.fieldLink RX0 46 "Ruleengine$Fact" "value" "[I") (by decide +kernel)) (fun _ h9 => h9) rfl dX0_fits_146 ?_
              refine lv_iconst (v := (2 : Int32)) hx hb dX0_fits_149 (by decide) ?_
              refine va_iald (i := (2)) hx hb hK hP 3 1 rfl rfl (by unfold vp_in; decide) dX0_fits_150 ?_
              refine W.eq (g2 := F0 m 151 _ (.int (v 2) :: [.int (v 1)])) rfl ?_
              refine lv_icmp_ne hx hb dX0_fits_151 rfl (fun q15 => ?_) (fun q15 => ?_)
              · refine lv_iconst (v := (0 : Int32)) hx hb dX0_fits_158 (by decide) ?_
                exact W.zret hx hb hr rfl (fun t ht hW => ⟨⟨_, (), rfl, (by first | (rw [if_pos (by simp_all)]; done) | (rw [if_neg (by simp_all)]; done) | simp_all), by rw [ht]; exact hP, va_K.moved hW.alike hK, hD⟩, hS.F ht⟩) hS.2.2 dX0_fits_159
              · refine lv_iconst (v := (1 : Int32)) hx hb dX0_fits_154 (by decide) ?_
                refine lv_goto hx hb dX0_fits_155 rfl ?_
                exact W.zret hx hb hr rfl (fun t ht hW => ⟨⟨_, (), rfl, (by first | (rw [if_pos (by simp_all)]; done) | (rw [if_neg (by simp_all)]; done) | simp_all), by rw [ht]; exact hP, va_K.moved hW.alike hK, hD⟩, hS.F ht⟩) hS.2.2 dX0_fits_159
  have it2 : ∀ ls : Array Slot, fk = kd → lv_has ls 5 [(3, .int (2)), (0, .ref h0), (1, .ref h1), (2, .ref g)] → lf_want w v vs 0 = v 0 → lf_want w v vs 1 = v 1 → W p l e (headSpec wqX0_fits ({ frames := 0, cells := 0, slots := 0, locals := 0 })).room s m #[.ref h0, .ref h1, .ref g] below meth c s.heap [] 0 0 (MQ below (va_Qi (fun (r : Int32) (_ : Unit) => r = if fk = kd ∧ lf_want w v vs 0 = v 0 ∧ lf_want w v vs 1 = v 1 ∧ lf_want w v vs 2 = v 2 ∧ (e12 = 0 ∨ v 0 = v 1) ∧ (e13 = 0 ∨ v 0 = v 2) ∧ (e23 = 0 ∨ v 1 = v 2) then 1 else 0) (fun _ t => va_P (dC, dI) CL [(h0, .inr (0, [.int kd, .ref sg, .ref wt, .int e12, .int e13, .int e23])), (wt, .inl (cw, 3, .inl w)), (h1, .inr (2, [.int nm, .int fk, .ref vl, .int mi, .int td])), (vl, .inl (cv, 3, .inl v)), (g, .inl (cg, 6, .inl vs))] t.heap ∧ va_K (dC, dI) CL [(cw, .int), (cv, .int), (cg, .int)] t ∧ va_D (fun _ => True) [(h0, .inr (0, [.int kd, .ref sg, .ref wt, .int e12, .int e13, .int e23])), (wt, .inl (cw, 3, .inl w)), (h1, .inr (2, [.int nm, .int fk, .ref vl, .int mi, .int td])), (vl, .inl (cv, 3, .inl v)), (g, .inl (cg, 6, .inl vs))]) (fun _ => False)) #[.ref h0, .ref h1, .ref g] s 0 0 (fun _ => False)) (F0 m 15 ls []) := by
    intro ls hk hl a0 a1
    refine lv_iload_n hx hb dX0_fits_15 rfl (lv_at hl 0 rfl) ?_
    refine lv_iconst (v := (3 : Int32)) hx hb dX0_fits_16 (by decide) ?_
    refine lv_icmp_ge hx hb dX0_fits_17 rfl (fun q => absurd q (by decide)) (fun _ => ?_)
    refine lv_aload_n hx hb dX0_fits_20 rfl (lv_at hl 1 rfl) ?_
    refine va_get (D := (dC, dI)) (ci := 0) (v := .ref wt) (C := RX0) (T := TX0) (N := 6) hx hb hts (by decide +kernel) hown hK hP 0 rfl rfl 2 (by decide) (hts (.fieldLink RX0 15 "Ruleengine$Atom" "want" "[I") (by decide +kernel)) (fun _ h9 => h9) rfl dX0_fits_21 ?_
    refine lv_iload_n hx hb dX0_fits_24 rfl (lv_at hl 0 rfl) ?_
    refine va_iald (i := (2)) hx hb hK hP 1 0 rfl rfl (by unfold vp_in; decide) dX0_fits_25 ?_
    refine W.eq (g2 := F0 m 26 _ (.int (w 2) :: [])) rfl ?_
    refine lv_istore (lv' := [(4, .int (w 2)), (3, .int (2)), (0, .ref h0), (1, .ref h1), (2, .ref g)]) hx hb dX0_fits_26 hl (by decide) rfl (fun ls hl => ?_)
    refine lv_iload hx hb dX0_fits_28 (lv_at hl 0 rfl) ?_
    refine lv_bipush (v := (16 : Int32)) hx hb dX0_fits_30 (by decide) ?_
    refine lv_icmp_lt hx hb dX0_fits_32 rfl (fun q17 => ?_) (fun q17 => ?_)
    · refine lv_iload hx hb dX0_fits_54 (lv_at hl 0 rfl) ?_
      refine lv_bipush (v := (22 : Int32)) hx hb dX0_fits_56 (by decide) ?_
      refine lv_icmp_ne hx hb dX0_fits_58 rfl (fun q18 => ?_) (fun q18 => ?_)
      · refine lv_iload hx hb dX0_fits_69 (lv_at hl 0 rfl) ?_
        refine lv_aload_n hx hb dX0_fits_71 rfl (lv_at hl 3 rfl) ?_
        refine va_get (D := (dC, dI)) (ci := 2) (v := .ref vl) (C := RX2) (T := TX2) (N := 5) hx hb hts (by decide +kernel) hown hK hP 2 rfl rfl 2 (by decide) (hts (.fieldLink RX0 46 "Ruleengine$Fact" "value" "[I") (by decide +kernel)) (fun _ h9 => h9) rfl dX0_fits_72 ?_
        refine lv_iload_n hx hb dX0_fits_75 rfl (lv_at hl 1 rfl) ?_
        refine va_iald (i := (2)) hx hb hK hP 3 1 rfl rfl (by unfold vp_in; decide) dX0_fits_76 ?_
        refine W.eq (g2 := F0 m 77 _ (.int (v 2) :: [.int (w 2)])) rfl ?_
        refine lv_icmp_eq hx hb dX0_fits_77 rfl (fun q19 => ?_) (fun q19 => ?_)
        · refine lv_iinc (v := (3)) (lv' := [(3, .int (3)), (4, .int (w 2)), (0, .ref h0), (1, .ref h1), (2, .ref g)]) hx hb dX0_fits_82 hl (k := 1) rfl (by decide) (by decide) rfl (fun ls hl => ?_)
          refine lv_goto hx hb dX0_fits_85 rfl ?_
          exact it3 ls hk (lv_sub hl [0, 2, 3, 4] rfl) a0 a1 (by first | (rw [lf_want_var (by assumption) (by assumption)]; assumption) | (rw [lf_want_low (by assumption)]; assumption) | (rw [lf_want_blank (by assumption)]) | (rw [lf_want_high (by assumption) (by assumption)]; assumption))
        · refine lv_iconst (v := (0 : Int32)) hx hb dX0_fits_80 (by decide) ?_
          exact W.zret hx hb hr rfl (fun t ht hW => ⟨⟨_, (), rfl, (by rw [if_neg]; rintro ⟨-, b0, b1, b2, -⟩; first | (rw [lf_want_var (by assumption) (by assumption)] at b2; contradiction) | (rw [lf_want_low (by assumption)] at b2; contradiction) | (rw [lf_want_high (by assumption) (by assumption)] at b2; contradiction) | exact absurd rfl (by assumption)), by rw [ht]; exact hP, va_K.moved hW.alike hK, hD⟩, hS.F ht⟩) hS.2.2 dX0_fits_81
      · refine lv_aload_n hx hb dX0_fits_61 rfl (lv_at hl 3 rfl) ?_
        refine va_get (D := (dC, dI)) (ci := 2) (v := .ref vl) (C := RX2) (T := TX2) (N := 5) hx hb hts (by decide +kernel) hown hK hP 2 rfl rfl 2 (by decide) (hts (.fieldLink RX0 46 "Ruleengine$Fact" "value" "[I") (by decide +kernel)) (fun _ h9 => h9) rfl dX0_fits_62 ?_
        refine lv_iload_n hx hb dX0_fits_65 rfl (lv_at hl 1 rfl) ?_
        refine va_iald (i := (2)) hx hb hK hP 3 1 rfl rfl (by unfold vp_in; decide) dX0_fits_66 ?_
        refine W.eq (g2 := F0 m 67 _ (.int (v 2) :: [])) rfl ?_
        refine lv_istore (lv' := [(4, .int (v 2)), (3, .int (2)), (0, .ref h0), (1, .ref h1), (2, .ref g)]) hx hb dX0_fits_67 hl (by decide) rfl (fun ls hl => ?_)
        refine lv_iload hx hb dX0_fits_69 (lv_at hl 0 rfl) ?_
        refine lv_aload_n hx hb dX0_fits_71 rfl (lv_at hl 3 rfl) ?_
        refine va_get (D := (dC, dI)) (ci := 2) (v := .ref vl) (C := RX2) (T := TX2) (N := 5) hx hb hts (by decide +kernel) hown hK hP 2 rfl rfl 2 (by decide) (hts (.fieldLink RX0 46 "Ruleengine$Fact" "value" "[I") (by decide +kernel)) (fun _ h9 => h9) rfl dX0_fits_72 ?_
        refine lv_iload_n hx hb dX0_fits_75 rfl (lv_at hl 1 rfl) ?_
        refine va_iald (i := (2)) hx hb hK hP 3 1 rfl rfl (by unfold vp_in; decide) dX0_fits_76 ?_
        refine W.eq (g2 := F0 m 77 _ (.int (v 2) :: [.int (v 2)])) rfl ?_
        refine lv_icmp_eq hx hb dX0_fits_77 rfl (fun q20 => ?_) (fun q20 => ?_)
        · refine lv_iinc (v := (3)) (lv' := [(3, .int (3)), (4, .int (v 2)), (0, .ref h0), (1, .ref h1), (2, .ref g)]) hx hb dX0_fits_82 hl (k := 1) rfl (by decide) (by decide) rfl (fun ls hl => ?_)
          refine lv_goto hx hb dX0_fits_85 rfl ?_
          exact it3 ls hk (lv_sub hl [0, 2, 3, 4] rfl) a0 a1 (by first | (rw [lf_want_var (by assumption) (by assumption)]; assumption) | (rw [lf_want_low (by assumption)]; assumption) | (rw [lf_want_blank (by assumption)]) | (rw [lf_want_high (by assumption) (by assumption)]; assumption))
        · refine lv_iconst (v := (0 : Int32)) hx hb dX0_fits_80 (by decide) ?_
          exact W.zret hx hb hr rfl (fun t ht hW => ⟨⟨_, (), rfl, (by rw [if_neg]; rintro ⟨-, b0, b1, b2, -⟩; first | (rw [lf_want_var (by assumption) (by assumption)] at b2; contradiction) | (rw [lf_want_low (by assumption)] at b2; contradiction) | (rw [lf_want_high (by assumption) (by assumption)] at b2; contradiction) | exact absurd rfl (by assumption)), by rw [ht]; exact hP, va_K.moved hW.alike hK, hD⟩, hS.F ht⟩) hS.2.2 dX0_fits_81
    · refine lv_iload hx hb dX0_fits_35 (lv_at hl 0 rfl) ?_
      refine lv_bipush (v := (22 : Int32)) hx hb dX0_fits_37 (by decide) ?_
      refine lv_icmp_ge hx hb dX0_fits_39 rfl (fun q21 => ?_) (fun q21 => ?_)
      · refine lv_iload hx hb dX0_fits_54 (lv_at hl 0 rfl) ?_
        refine lv_bipush (v := (22 : Int32)) hx hb dX0_fits_56 (by decide) ?_
        refine lv_icmp_ne hx hb dX0_fits_58 rfl (fun q22 => ?_) (fun q22 => ?_)
        · refine lv_iload hx hb dX0_fits_69 (lv_at hl 0 rfl) ?_
          refine lv_aload_n hx hb dX0_fits_71 rfl (lv_at hl 3 rfl) ?_
          refine va_get (D := (dC, dI)) (ci := 2) (v := .ref vl) (C := RX2) (T := TX2) (N := 5) hx hb hts (by decide +kernel) hown hK hP 2 rfl rfl 2 (by decide) (hts (.fieldLink RX0 46 "Ruleengine$Fact" "value" "[I") (by decide +kernel)) (fun _ h9 => h9) rfl dX0_fits_72 ?_
          refine lv_iload_n hx hb dX0_fits_75 rfl (lv_at hl 1 rfl) ?_
          refine va_iald (i := (2)) hx hb hK hP 3 1 rfl rfl (by unfold vp_in; decide) dX0_fits_76 ?_
          refine W.eq (g2 := F0 m 77 _ (.int (v 2) :: [.int (w 2)])) rfl ?_
          refine lv_icmp_eq hx hb dX0_fits_77 rfl (fun q23 => ?_) (fun q23 => ?_)
          · refine lv_iinc (v := (3)) (lv' := [(3, .int (3)), (4, .int (w 2)), (0, .ref h0), (1, .ref h1), (2, .ref g)]) hx hb dX0_fits_82 hl (k := 1) rfl (by decide) (by decide) rfl (fun ls hl => ?_)
            refine lv_goto hx hb dX0_fits_85 rfl ?_
            exact it3 ls hk (lv_sub hl [0, 2, 3, 4] rfl) a0 a1 (by first | (rw [lf_want_var (by assumption) (by assumption)]; assumption) | (rw [lf_want_low (by assumption)]; assumption) | (rw [lf_want_blank (by assumption)]) | (rw [lf_want_high (by assumption) (by assumption)]; assumption))
          · refine lv_iconst (v := (0 : Int32)) hx hb dX0_fits_80 (by decide) ?_
            exact W.zret hx hb hr rfl (fun t ht hW => ⟨⟨_, (), rfl, (by rw [if_neg]; rintro ⟨-, b0, b1, b2, -⟩; first | (rw [lf_want_var (by assumption) (by assumption)] at b2; contradiction) | (rw [lf_want_low (by assumption)] at b2; contradiction) | (rw [lf_want_high (by assumption) (by assumption)] at b2; contradiction) | exact absurd rfl (by assumption)), by rw [ht]; exact hP, va_K.moved hW.alike hK, hD⟩, hS.F ht⟩) hS.2.2 dX0_fits_81
        · refine lv_aload_n hx hb dX0_fits_61 rfl (lv_at hl 3 rfl) ?_
          refine va_get (D := (dC, dI)) (ci := 2) (v := .ref vl) (C := RX2) (T := TX2) (N := 5) hx hb hts (by decide +kernel) hown hK hP 2 rfl rfl 2 (by decide) (hts (.fieldLink RX0 46 "Ruleengine$Fact" "value" "[I") (by decide +kernel)) (fun _ h9 => h9) rfl dX0_fits_62 ?_
          refine lv_iload_n hx hb dX0_fits_65 rfl (lv_at hl 1 rfl) ?_
          refine va_iald (i := (2)) hx hb hK hP 3 1 rfl rfl (by unfold vp_in; decide) dX0_fits_66 ?_
          refine W.eq (g2 := F0 m 67 _ (.int (v 2) :: [])) rfl ?_
          refine lv_istore (lv' := [(4, .int (v 2)), (3, .int (2)), (0, .ref h0), (1, .ref h1), (2, .ref g)]) hx hb dX0_fits_67 hl (by decide) rfl (fun ls hl => ?_)
          refine lv_iload hx hb dX0_fits_69 (lv_at hl 0 rfl) ?_
          refine lv_aload_n hx hb dX0_fits_71 rfl (lv_at hl 3 rfl) ?_
          refine va_get (D := (dC, dI)) (ci := 2) (v := .ref vl) (C := RX2) (T := TX2) (N := 5) hx hb hts (by decide +kernel) hown hK hP 2 rfl rfl 2 (by decide) (hts (.fieldLink RX0 46 "Ruleengine$Fact" "value" "[I") (by decide +kernel)) (fun _ h9 => h9) rfl dX0_fits_72 ?_
          refine lv_iload_n hx hb dX0_fits_75 rfl (lv_at hl 1 rfl) ?_
          refine va_iald (i := (2)) hx hb hK hP 3 1 rfl rfl (by unfold vp_in; decide) dX0_fits_76 ?_
          refine W.eq (g2 := F0 m 77 _ (.int (v 2) :: [.int (v 2)])) rfl ?_
          refine lv_icmp_eq hx hb dX0_fits_77 rfl (fun q24 => ?_) (fun q24 => ?_)
          · refine lv_iinc (v := (3)) (lv' := [(3, .int (3)), (4, .int (v 2)), (0, .ref h0), (1, .ref h1), (2, .ref g)]) hx hb dX0_fits_82 hl (k := 1) rfl (by decide) (by decide) rfl (fun ls hl => ?_)
            refine lv_goto hx hb dX0_fits_85 rfl ?_
            exact it3 ls hk (lv_sub hl [0, 2, 3, 4] rfl) a0 a1 (by first | (rw [lf_want_var (by assumption) (by assumption)]; assumption) | (rw [lf_want_low (by assumption)]; assumption) | (rw [lf_want_blank (by assumption)]) | (rw [lf_want_high (by assumption) (by assumption)]; assumption))
          · refine lv_iconst (v := (0 : Int32)) hx hb dX0_fits_80 (by decide) ?_
            exact W.zret hx hb hr rfl (fun t ht hW => ⟨⟨_, (), rfl, (by rw [if_neg]; rintro ⟨-, b0, b1, b2, -⟩; first | (rw [lf_want_var (by assumption) (by assumption)] at b2; contradiction) | (rw [lf_want_low (by assumption)] at b2; contradiction) | (rw [lf_want_high (by assumption) (by assumption)] at b2; contradiction) | exact absurd rfl (by assumption)), by rw [ht]; exact hP, va_K.moved hW.alike hK, hD⟩, hS.F ht⟩) hS.2.2 dX0_fits_81
      · refine lv_aload_n hx hb dX0_fits_42 rfl (lv_at hl 4 rfl) ?_
        refine lv_iload hx hb dX0_fits_43 (lv_at hl 0 rfl) ?_
        refine lv_bipush (v := (16 : Int32)) hx hb dX0_fits_45 (by decide) ?_
        refine lv_isub hx hb dX0_fits_47 ?_
        refine va_iald (i := ((w 2) - (16))) hx hb hK hP 4 2 rfl rfl (lf_var (by assumption) (by assumption)) dX0_fits_48 ?_
        refine lv_istore (lv' := [(4, .int (vs (((w 2) - (16))).toNatClampNeg)), (3, .int (2)), (0, .ref h0), (1, .ref h1), (2, .ref g)]) hx hb dX0_fits_49 hl (by decide) rfl (fun ls hl => ?_)
        refine lv_goto hx hb dX0_fits_51 rfl ?_
        refine lv_iload hx hb dX0_fits_69 (lv_at hl 0 rfl) ?_
        refine lv_aload_n hx hb dX0_fits_71 rfl (lv_at hl 3 rfl) ?_
        refine va_get (D := (dC, dI)) (ci := 2) (v := .ref vl) (C := RX2) (T := TX2) (N := 5) hx hb hts (by decide +kernel) hown hK hP 2 rfl rfl 2 (by decide) (hts (.fieldLink RX0 46 "Ruleengine$Fact" "value" "[I") (by decide +kernel)) (fun _ h9 => h9) rfl dX0_fits_72 ?_
        refine lv_iload_n hx hb dX0_fits_75 rfl (lv_at hl 1 rfl) ?_
        refine va_iald (i := (2)) hx hb hK hP 3 1 rfl rfl (by unfold vp_in; decide) dX0_fits_76 ?_
        refine W.eq (g2 := F0 m 77 _ (.int (v 2) :: [.int (vs (((w 2) - (16))).toNatClampNeg)])) rfl ?_
        refine lv_icmp_eq hx hb dX0_fits_77 rfl (fun q25 => ?_) (fun q25 => ?_)
        · refine lv_iinc (v := (3)) (lv' := [(3, .int (3)), (4, .int (vs (((w 2) - (16))).toNatClampNeg)), (0, .ref h0), (1, .ref h1), (2, .ref g)]) hx hb dX0_fits_82 hl (k := 1) rfl (by decide) (by decide) rfl (fun ls hl => ?_)
          refine lv_goto hx hb dX0_fits_85 rfl ?_
          exact it3 ls hk (lv_sub hl [0, 2, 3, 4] rfl) a0 a1 (by first | (rw [lf_want_var (by assumption) (by assumption)]; assumption) | (rw [lf_want_low (by assumption)]; assumption) | (rw [lf_want_blank (by assumption)]) | (rw [lf_want_high (by assumption) (by assumption)]; assumption))
        · refine lv_iconst (v := (0 : Int32)) hx hb dX0_fits_80 (by decide) ?_
          exact W.zret hx hb hr rfl (fun t ht hW => ⟨⟨_, (), rfl, (by rw [if_neg]; rintro ⟨-, b0, b1, b2, -⟩; first | (rw [lf_want_var (by assumption) (by assumption)] at b2; contradiction) | (rw [lf_want_low (by assumption)] at b2; contradiction) | (rw [lf_want_high (by assumption) (by assumption)] at b2; contradiction) | exact absurd rfl (by assumption)), by rw [ht]; exact hP, va_K.moved hW.alike hK, hD⟩, hS.F ht⟩) hS.2.2 dX0_fits_81
  have it1 : ∀ ls : Array Slot, fk = kd → lv_has ls 5 [(3, .int (1)), (0, .ref h0), (1, .ref h1), (2, .ref g)] → lf_want w v vs 0 = v 0 → W p l e (headSpec wqX0_fits ({ frames := 0, cells := 0, slots := 0, locals := 0 })).room s m #[.ref h0, .ref h1, .ref g] below meth c s.heap [] 0 0 (MQ below (va_Qi (fun (r : Int32) (_ : Unit) => r = if fk = kd ∧ lf_want w v vs 0 = v 0 ∧ lf_want w v vs 1 = v 1 ∧ lf_want w v vs 2 = v 2 ∧ (e12 = 0 ∨ v 0 = v 1) ∧ (e13 = 0 ∨ v 0 = v 2) ∧ (e23 = 0 ∨ v 1 = v 2) then 1 else 0) (fun _ t => va_P (dC, dI) CL [(h0, .inr (0, [.int kd, .ref sg, .ref wt, .int e12, .int e13, .int e23])), (wt, .inl (cw, 3, .inl w)), (h1, .inr (2, [.int nm, .int fk, .ref vl, .int mi, .int td])), (vl, .inl (cv, 3, .inl v)), (g, .inl (cg, 6, .inl vs))] t.heap ∧ va_K (dC, dI) CL [(cw, .int), (cv, .int), (cg, .int)] t ∧ va_D (fun _ => True) [(h0, .inr (0, [.int kd, .ref sg, .ref wt, .int e12, .int e13, .int e23])), (wt, .inl (cw, 3, .inl w)), (h1, .inr (2, [.int nm, .int fk, .ref vl, .int mi, .int td])), (vl, .inl (cv, 3, .inl v)), (g, .inl (cg, 6, .inl vs))]) (fun _ => False)) #[.ref h0, .ref h1, .ref g] s 0 0 (fun _ => False)) (F0 m 15 ls []) := by
    intro ls hk hl a0
    refine lv_iload_n hx hb dX0_fits_15 rfl (lv_at hl 0 rfl) ?_
    refine lv_iconst (v := (3 : Int32)) hx hb dX0_fits_16 (by decide) ?_
    refine lv_icmp_ge hx hb dX0_fits_17 rfl (fun q => absurd q (by decide)) (fun _ => ?_)
    refine lv_aload_n hx hb dX0_fits_20 rfl (lv_at hl 1 rfl) ?_
    refine va_get (D := (dC, dI)) (ci := 0) (v := .ref wt) (C := RX0) (T := TX0) (N := 6) hx hb hts (by decide +kernel) hown hK hP 0 rfl rfl 2 (by decide) (hts (.fieldLink RX0 15 "Ruleengine$Atom" "want" "[I") (by decide +kernel)) (fun _ h9 => h9) rfl dX0_fits_21 ?_
    refine lv_iload_n hx hb dX0_fits_24 rfl (lv_at hl 0 rfl) ?_
    refine va_iald (i := (1)) hx hb hK hP 1 0 rfl rfl (by unfold vp_in; decide) dX0_fits_25 ?_
    refine W.eq (g2 := F0 m 26 _ (.int (w 1) :: [])) rfl ?_
    refine lv_istore (lv' := [(4, .int (w 1)), (3, .int (1)), (0, .ref h0), (1, .ref h1), (2, .ref g)]) hx hb dX0_fits_26 hl (by decide) rfl (fun ls hl => ?_)
    refine lv_iload hx hb dX0_fits_28 (lv_at hl 0 rfl) ?_
    refine lv_bipush (v := (16 : Int32)) hx hb dX0_fits_30 (by decide) ?_
    refine lv_icmp_lt hx hb dX0_fits_32 rfl (fun q27 => ?_) (fun q27 => ?_)
    · refine lv_iload hx hb dX0_fits_54 (lv_at hl 0 rfl) ?_
      refine lv_bipush (v := (22 : Int32)) hx hb dX0_fits_56 (by decide) ?_
      refine lv_icmp_ne hx hb dX0_fits_58 rfl (fun q28 => ?_) (fun q28 => ?_)
      · refine lv_iload hx hb dX0_fits_69 (lv_at hl 0 rfl) ?_
        refine lv_aload_n hx hb dX0_fits_71 rfl (lv_at hl 3 rfl) ?_
        refine va_get (D := (dC, dI)) (ci := 2) (v := .ref vl) (C := RX2) (T := TX2) (N := 5) hx hb hts (by decide +kernel) hown hK hP 2 rfl rfl 2 (by decide) (hts (.fieldLink RX0 46 "Ruleengine$Fact" "value" "[I") (by decide +kernel)) (fun _ h9 => h9) rfl dX0_fits_72 ?_
        refine lv_iload_n hx hb dX0_fits_75 rfl (lv_at hl 1 rfl) ?_
        refine va_iald (i := (1)) hx hb hK hP 3 1 rfl rfl (by unfold vp_in; decide) dX0_fits_76 ?_
        refine W.eq (g2 := F0 m 77 _ (.int (v 1) :: [.int (w 1)])) rfl ?_
        refine lv_icmp_eq hx hb dX0_fits_77 rfl (fun q29 => ?_) (fun q29 => ?_)
        · refine lv_iinc (v := (2)) (lv' := [(3, .int (2)), (4, .int (w 1)), (0, .ref h0), (1, .ref h1), (2, .ref g)]) hx hb dX0_fits_82 hl (k := 1) rfl (by decide) (by decide) rfl (fun ls hl => ?_)
          refine lv_goto hx hb dX0_fits_85 rfl ?_
          exact it2 ls hk (lv_sub hl [0, 2, 3, 4] rfl) a0 (by first | (rw [lf_want_var (by assumption) (by assumption)]; assumption) | (rw [lf_want_low (by assumption)]; assumption) | (rw [lf_want_blank (by assumption)]) | (rw [lf_want_high (by assumption) (by assumption)]; assumption))
        · refine lv_iconst (v := (0 : Int32)) hx hb dX0_fits_80 (by decide) ?_
          exact W.zret hx hb hr rfl (fun t ht hW => ⟨⟨_, (), rfl, (by rw [if_neg]; rintro ⟨-, b0, b1, b2, -⟩; first | (rw [lf_want_var (by assumption) (by assumption)] at b1; contradiction) | (rw [lf_want_low (by assumption)] at b1; contradiction) | (rw [lf_want_high (by assumption) (by assumption)] at b1; contradiction) | exact absurd rfl (by assumption)), by rw [ht]; exact hP, va_K.moved hW.alike hK, hD⟩, hS.F ht⟩) hS.2.2 dX0_fits_81
      · refine lv_aload_n hx hb dX0_fits_61 rfl (lv_at hl 3 rfl) ?_
        refine va_get (D := (dC, dI)) (ci := 2) (v := .ref vl) (C := RX2) (T := TX2) (N := 5) hx hb hts (by decide +kernel) hown hK hP 2 rfl rfl 2 (by decide) (hts (.fieldLink RX0 46 "Ruleengine$Fact" "value" "[I") (by decide +kernel)) (fun _ h9 => h9) rfl dX0_fits_62 ?_
        refine lv_iload_n hx hb dX0_fits_65 rfl (lv_at hl 1 rfl) ?_
        refine va_iald (i := (1)) hx hb hK hP 3 1 rfl rfl (by unfold vp_in; decide) dX0_fits_66 ?_
        refine W.eq (g2 := F0 m 67 _ (.int (v 1) :: [])) rfl ?_
        refine lv_istore (lv' := [(4, .int (v 1)), (3, .int (1)), (0, .ref h0), (1, .ref h1), (2, .ref g)]) hx hb dX0_fits_67 hl (by decide) rfl (fun ls hl => ?_)
        refine lv_iload hx hb dX0_fits_69 (lv_at hl 0 rfl) ?_
        refine lv_aload_n hx hb dX0_fits_71 rfl (lv_at hl 3 rfl) ?_
        refine va_get (D := (dC, dI)) (ci := 2) (v := .ref vl) (C := RX2) (T := TX2) (N := 5) hx hb hts (by decide +kernel) hown hK hP 2 rfl rfl 2 (by decide) (hts (.fieldLink RX0 46 "Ruleengine$Fact" "value" "[I") (by decide +kernel)) (fun _ h9 => h9) rfl dX0_fits_72 ?_
        refine lv_iload_n hx hb dX0_fits_75 rfl (lv_at hl 1 rfl) ?_
        refine va_iald (i := (1)) hx hb hK hP 3 1 rfl rfl (by unfold vp_in; decide) dX0_fits_76 ?_
        refine W.eq (g2 := F0 m 77 _ (.int (v 1) :: [.int (v 1)])) rfl ?_
        refine lv_icmp_eq hx hb dX0_fits_77 rfl (fun q30 => ?_) (fun q30 => ?_)
        · refine lv_iinc (v := (2)) (lv' := [(3, .int (2)), (4, .int (v 1)), (0, .ref h0), (1, .ref h1), (2, .ref g)]) hx hb dX0_fits_82 hl (k := 1) rfl (by decide) (by decide) rfl (fun ls hl => ?_)
          refine lv_goto hx hb dX0_fits_85 rfl ?_
          exact it2 ls hk (lv_sub hl [0, 2, 3, 4] rfl) a0 (by first | (rw [lf_want_var (by assumption) (by assumption)]; assumption) | (rw [lf_want_low (by assumption)]; assumption) | (rw [lf_want_blank (by assumption)]) | (rw [lf_want_high (by assumption) (by assumption)]; assumption))
        · refine lv_iconst (v := (0 : Int32)) hx hb dX0_fits_80 (by decide) ?_
          exact W.zret hx hb hr rfl (fun t ht hW => ⟨⟨_, (), rfl, (by rw [if_neg]; rintro ⟨-, b0, b1, b2, -⟩; first | (rw [lf_want_var (by assumption) (by assumption)] at b1; contradiction) | (rw [lf_want_low (by assumption)] at b1; contradiction) | (rw [lf_want_high (by assumption) (by assumption)] at b1; contradiction) | exact absurd rfl (by assumption)), by rw [ht]; exact hP, va_K.moved hW.alike hK, hD⟩, hS.F ht⟩) hS.2.2 dX0_fits_81
    · refine lv_iload hx hb dX0_fits_35 (lv_at hl 0 rfl) ?_
      refine lv_bipush (v := (22 : Int32)) hx hb dX0_fits_37 (by decide) ?_
      refine lv_icmp_ge hx hb dX0_fits_39 rfl (fun q31 => ?_) (fun q31 => ?_)
      · refine lv_iload hx hb dX0_fits_54 (lv_at hl 0 rfl) ?_
        refine lv_bipush (v := (22 : Int32)) hx hb dX0_fits_56 (by decide) ?_
        refine lv_icmp_ne hx hb dX0_fits_58 rfl (fun q32 => ?_) (fun q32 => ?_)
        · refine lv_iload hx hb dX0_fits_69 (lv_at hl 0 rfl) ?_
          refine lv_aload_n hx hb dX0_fits_71 rfl (lv_at hl 3 rfl) ?_
          refine va_get (D := (dC, dI)) (ci := 2) (v := .ref vl) (C := RX2) (T := TX2) (N := 5) hx hb hts (by decide +kernel) hown hK hP 2 rfl rfl 2 (by decide) (hts (.fieldLink RX0 46 "Ruleengine$Fact" "value" "[I") (by decide +kernel)) (fun _ h9 => h9) rfl dX0_fits_72 ?_
          refine lv_iload_n hx hb dX0_fits_75 rfl (lv_at hl 1 rfl) ?_
          refine va_iald (i := (1)) hx hb hK hP 3 1 rfl rfl (by unfold vp_in; decide) dX0_fits_76 ?_
          refine W.eq (g2 := F0 m 77 _ (.int (v 1) :: [.int (w 1)])) rfl ?_
          refine lv_icmp_eq hx hb dX0_fits_77 rfl (fun q33 => ?_) (fun q33 => ?_)
          · refine lv_iinc (v := (2)) (lv' := [(3, .int (2)), (4, .int (w 1)), (0, .ref h0), (1, .ref h1), (2, .ref g)]) hx hb dX0_fits_82 hl (k := 1) rfl (by decide) (by decide) rfl (fun ls hl => ?_)
            refine lv_goto hx hb dX0_fits_85 rfl ?_
            exact it2 ls hk (lv_sub hl [0, 2, 3, 4] rfl) a0 (by first | (rw [lf_want_var (by assumption) (by assumption)]; assumption) | (rw [lf_want_low (by assumption)]; assumption) | (rw [lf_want_blank (by assumption)]) | (rw [lf_want_high (by assumption) (by assumption)]; assumption))
          · refine lv_iconst (v := (0 : Int32)) hx hb dX0_fits_80 (by decide) ?_
            exact W.zret hx hb hr rfl (fun t ht hW => ⟨⟨_, (), rfl, (by rw [if_neg]; rintro ⟨-, b0, b1, b2, -⟩; first | (rw [lf_want_var (by assumption) (by assumption)] at b1; contradiction) | (rw [lf_want_low (by assumption)] at b1; contradiction) | (rw [lf_want_high (by assumption) (by assumption)] at b1; contradiction) | exact absurd rfl (by assumption)), by rw [ht]; exact hP, va_K.moved hW.alike hK, hD⟩, hS.F ht⟩) hS.2.2 dX0_fits_81
        · refine lv_aload_n hx hb dX0_fits_61 rfl (lv_at hl 3 rfl) ?_
          refine va_get (D := (dC, dI)) (ci := 2) (v := .ref vl) (C := RX2) (T := TX2) (N := 5) hx hb hts (by decide +kernel) hown hK hP 2 rfl rfl 2 (by decide) (hts (.fieldLink RX0 46 "Ruleengine$Fact" "value" "[I") (by decide +kernel)) (fun _ h9 => h9) rfl dX0_fits_62 ?_
          refine lv_iload_n hx hb dX0_fits_65 rfl (lv_at hl 1 rfl) ?_
          refine va_iald (i := (1)) hx hb hK hP 3 1 rfl rfl (by unfold vp_in; decide) dX0_fits_66 ?_
          refine W.eq (g2 := F0 m 67 _ (.int (v 1) :: [])) rfl ?_
          refine lv_istore (lv' := [(4, .int (v 1)), (3, .int (1)), (0, .ref h0), (1, .ref h1), (2, .ref g)]) hx hb dX0_fits_67 hl (by decide) rfl (fun ls hl => ?_)
          refine lv_iload hx hb dX0_fits_69 (lv_at hl 0 rfl) ?_
          refine lv_aload_n hx hb dX0_fits_71 rfl (lv_at hl 3 rfl) ?_
          refine va_get (D := (dC, dI)) (ci := 2) (v := .ref vl) (C := RX2) (T := TX2) (N := 5) hx hb hts (by decide +kernel) hown hK hP 2 rfl rfl 2 (by decide) (hts (.fieldLink RX0 46 "Ruleengine$Fact" "value" "[I") (by decide +kernel)) (fun _ h9 => h9) rfl dX0_fits_72 ?_
          refine lv_iload_n hx hb dX0_fits_75 rfl (lv_at hl 1 rfl) ?_
          refine va_iald (i := (1)) hx hb hK hP 3 1 rfl rfl (by unfold vp_in; decide) dX0_fits_76 ?_
          refine W.eq (g2 := F0 m 77 _ (.int (v 1) :: [.int (v 1)])) rfl ?_
          refine lv_icmp_eq hx hb dX0_fits_77 rfl (fun q34 => ?_) (fun q34 => ?_)
          · refine lv_iinc (v := (2)) (lv' := [(3, .int (2)), (4, .int (v 1)), (0, .ref h0), (1, .ref h1), (2, .ref g)]) hx hb dX0_fits_82 hl (k := 1) rfl (by decide) (by decide) rfl (fun ls hl => ?_)
            refine lv_goto hx hb dX0_fits_85 rfl ?_
            exact it2 ls hk (lv_sub hl [0, 2, 3, 4] rfl) a0 (by first | (rw [lf_want_var (by assumption) (by assumption)]; assumption) | (rw [lf_want_low (by assumption)]; assumption) | (rw [lf_want_blank (by assumption)]) | (rw [lf_want_high (by assumption) (by assumption)]; assumption))
          · refine lv_iconst (v := (0 : Int32)) hx hb dX0_fits_80 (by decide) ?_
            exact W.zret hx hb hr rfl (fun t ht hW => ⟨⟨_, (), rfl, (by rw [if_neg]; rintro ⟨-, b0, b1, b2, -⟩; first | (rw [lf_want_var (by assumption) (by assumption)] at b1; contradiction) | (rw [lf_want_low (by assumption)] at b1; contradiction) | (rw [lf_want_high (by assumption) (by assumption)] at b1; contradiction) | exact absurd rfl (by assumption)), by rw [ht]; exact hP, va_K.moved hW.alike hK, hD⟩, hS.F ht⟩) hS.2.2 dX0_fits_81
      · refine lv_aload_n hx hb dX0_fits_42 rfl (lv_at hl 4 rfl) ?_
        refine lv_iload hx hb dX0_fits_43 (lv_at hl 0 rfl) ?_
        refine lv_bipush (v := (16 : Int32)) hx hb dX0_fits_45 (by decide) ?_
        refine lv_isub hx hb dX0_fits_47 ?_
        refine va_iald (i := ((w 1) - (16))) hx hb hK hP 4 2 rfl rfl (lf_var (by assumption) (by assumption)) dX0_fits_48 ?_
        refine lv_istore (lv' := [(4, .int (vs (((w 1) - (16))).toNatClampNeg)), (3, .int (1)), (0, .ref h0), (1, .ref h1), (2, .ref g)]) hx hb dX0_fits_49 hl (by decide) rfl (fun ls hl => ?_)
        refine lv_goto hx hb dX0_fits_51 rfl ?_
        refine lv_iload hx hb dX0_fits_69 (lv_at hl 0 rfl) ?_
        refine lv_aload_n hx hb dX0_fits_71 rfl (lv_at hl 3 rfl) ?_
        refine va_get (D := (dC, dI)) (ci := 2) (v := .ref vl) (C := RX2) (T := TX2) (N := 5) hx hb hts (by decide +kernel) hown hK hP 2 rfl rfl 2 (by decide) (hts (.fieldLink RX0 46 "Ruleengine$Fact" "value" "[I") (by decide +kernel)) (fun _ h9 => h9) rfl dX0_fits_72 ?_
        refine lv_iload_n hx hb dX0_fits_75 rfl (lv_at hl 1 rfl) ?_
        refine va_iald (i := (1)) hx hb hK hP 3 1 rfl rfl (by unfold vp_in; decide) dX0_fits_76 ?_
        refine W.eq (g2 := F0 m 77 _ (.int (v 1) :: [.int (vs (((w 1) - (16))).toNatClampNeg)])) rfl ?_
        refine lv_icmp_eq hx hb dX0_fits_77 rfl (fun q35 => ?_) (fun q35 => ?_)
        · refine lv_iinc (v := (2)) (lv' := [(3, .int (2)), (4, .int (vs (((w 1) - (16))).toNatClampNeg)), (0, .ref h0), (1, .ref h1), (2, .ref g)]) hx hb dX0_fits_82 hl (k := 1) rfl (by decide) (by decide) rfl (fun ls hl => ?_)
          refine lv_goto hx hb dX0_fits_85 rfl ?_
          exact it2 ls hk (lv_sub hl [0, 2, 3, 4] rfl) a0 (by first | (rw [lf_want_var (by assumption) (by assumption)]; assumption) | (rw [lf_want_low (by assumption)]; assumption) | (rw [lf_want_blank (by assumption)]) | (rw [lf_want_high (by assumption) (by assumption)]; assumption))
        · refine lv_iconst (v := (0 : Int32)) hx hb dX0_fits_80 (by decide) ?_
          exact W.zret hx hb hr rfl (fun t ht hW => ⟨⟨_, (), rfl, (by rw [if_neg]; rintro ⟨-, b0, b1, b2, -⟩; first | (rw [lf_want_var (by assumption) (by assumption)] at b1; contradiction) | (rw [lf_want_low (by assumption)] at b1; contradiction) | (rw [lf_want_high (by assumption) (by assumption)] at b1; contradiction) | exact absurd rfl (by assumption)), by rw [ht]; exact hP, va_K.moved hW.alike hK, hD⟩, hS.F ht⟩) hS.2.2 dX0_fits_81
  have it0 : ∀ ls : Array Slot, fk = kd → lv_has ls 5 [(3, .int (0)), (0, .ref h0), (1, .ref h1), (2, .ref g)] → W p l e (headSpec wqX0_fits ({ frames := 0, cells := 0, slots := 0, locals := 0 })).room s m #[.ref h0, .ref h1, .ref g] below meth c s.heap [] 0 0 (MQ below (va_Qi (fun (r : Int32) (_ : Unit) => r = if fk = kd ∧ lf_want w v vs 0 = v 0 ∧ lf_want w v vs 1 = v 1 ∧ lf_want w v vs 2 = v 2 ∧ (e12 = 0 ∨ v 0 = v 1) ∧ (e13 = 0 ∨ v 0 = v 2) ∧ (e23 = 0 ∨ v 1 = v 2) then 1 else 0) (fun _ t => va_P (dC, dI) CL [(h0, .inr (0, [.int kd, .ref sg, .ref wt, .int e12, .int e13, .int e23])), (wt, .inl (cw, 3, .inl w)), (h1, .inr (2, [.int nm, .int fk, .ref vl, .int mi, .int td])), (vl, .inl (cv, 3, .inl v)), (g, .inl (cg, 6, .inl vs))] t.heap ∧ va_K (dC, dI) CL [(cw, .int), (cv, .int), (cg, .int)] t ∧ va_D (fun _ => True) [(h0, .inr (0, [.int kd, .ref sg, .ref wt, .int e12, .int e13, .int e23])), (wt, .inl (cw, 3, .inl w)), (h1, .inr (2, [.int nm, .int fk, .ref vl, .int mi, .int td])), (vl, .inl (cv, 3, .inl v)), (g, .inl (cg, 6, .inl vs))]) (fun _ => False)) #[.ref h0, .ref h1, .ref g] s 0 0 (fun _ => False)) (F0 m 15 ls []) := by
    intro ls hk hl 
    refine lv_iload_n hx hb dX0_fits_15 rfl (lv_at hl 0 rfl) ?_
    refine lv_iconst (v := (3 : Int32)) hx hb dX0_fits_16 (by decide) ?_
    refine lv_icmp_ge hx hb dX0_fits_17 rfl (fun q => absurd q (by decide)) (fun _ => ?_)
    refine lv_aload_n hx hb dX0_fits_20 rfl (lv_at hl 1 rfl) ?_
    refine va_get (D := (dC, dI)) (ci := 0) (v := .ref wt) (C := RX0) (T := TX0) (N := 6) hx hb hts (by decide +kernel) hown hK hP 0 rfl rfl 2 (by decide) (hts (.fieldLink RX0 15 "Ruleengine$Atom" "want" "[I") (by decide +kernel)) (fun _ h9 => h9) rfl dX0_fits_21 ?_
    refine lv_iload_n hx hb dX0_fits_24 rfl (lv_at hl 0 rfl) ?_
    refine va_iald (i := (0)) hx hb hK hP 1 0 rfl rfl (by unfold vp_in; decide) dX0_fits_25 ?_
    refine W.eq (g2 := F0 m 26 _ (.int (w 0) :: [])) rfl ?_
    refine lv_istore (lv' := [(4, .int (w 0)), (3, .int (0)), (0, .ref h0), (1, .ref h1), (2, .ref g)]) hx hb dX0_fits_26 hl (by decide) rfl (fun ls hl => ?_)
    refine lv_iload hx hb dX0_fits_28 (lv_at hl 0 rfl) ?_
    refine lv_bipush (v := (16 : Int32)) hx hb dX0_fits_30 (by decide) ?_
    refine lv_icmp_lt hx hb dX0_fits_32 rfl (fun q37 => ?_) (fun q37 => ?_)
    · refine lv_iload hx hb dX0_fits_54 (lv_at hl 0 rfl) ?_
      refine lv_bipush (v := (22 : Int32)) hx hb dX0_fits_56 (by decide) ?_
      refine lv_icmp_ne hx hb dX0_fits_58 rfl (fun q38 => ?_) (fun q38 => ?_)
      · refine lv_iload hx hb dX0_fits_69 (lv_at hl 0 rfl) ?_
        refine lv_aload_n hx hb dX0_fits_71 rfl (lv_at hl 3 rfl) ?_
        refine va_get (D := (dC, dI)) (ci := 2) (v := .ref vl) (C := RX2) (T := TX2) (N := 5) hx hb hts (by decide +kernel) hown hK hP 2 rfl rfl 2 (by decide) (hts (.fieldLink RX0 46 "Ruleengine$Fact" "value" "[I") (by decide +kernel)) (fun _ h9 => h9) rfl dX0_fits_72 ?_
        refine lv_iload_n hx hb dX0_fits_75 rfl (lv_at hl 1 rfl) ?_
        refine va_iald (i := (0)) hx hb hK hP 3 1 rfl rfl (by unfold vp_in; decide) dX0_fits_76 ?_
        refine W.eq (g2 := F0 m 77 _ (.int (v 0) :: [.int (w 0)])) rfl ?_
        refine lv_icmp_eq hx hb dX0_fits_77 rfl (fun q39 => ?_) (fun q39 => ?_)
        · refine lv_iinc (v := (1)) (lv' := [(3, .int (1)), (4, .int (w 0)), (0, .ref h0), (1, .ref h1), (2, .ref g)]) hx hb dX0_fits_82 hl (k := 1) rfl (by decide) (by decide) rfl (fun ls hl => ?_)
          refine lv_goto hx hb dX0_fits_85 rfl ?_
          exact it1 ls hk (lv_sub hl [0, 2, 3, 4] rfl)  (by first | (rw [lf_want_var (by assumption) (by assumption)]; assumption) | (rw [lf_want_low (by assumption)]; assumption) | (rw [lf_want_blank (by assumption)]) | (rw [lf_want_high (by assumption) (by assumption)]; assumption))
        · refine lv_iconst (v := (0 : Int32)) hx hb dX0_fits_80 (by decide) ?_
          exact W.zret hx hb hr rfl (fun t ht hW => ⟨⟨_, (), rfl, (by rw [if_neg]; rintro ⟨-, b0, b1, b2, -⟩; first | (rw [lf_want_var (by assumption) (by assumption)] at b0; contradiction) | (rw [lf_want_low (by assumption)] at b0; contradiction) | (rw [lf_want_high (by assumption) (by assumption)] at b0; contradiction) | exact absurd rfl (by assumption)), by rw [ht]; exact hP, va_K.moved hW.alike hK, hD⟩, hS.F ht⟩) hS.2.2 dX0_fits_81
      · refine lv_aload_n hx hb dX0_fits_61 rfl (lv_at hl 3 rfl) ?_
        refine va_get (D := (dC, dI)) (ci := 2) (v := .ref vl) (C := RX2) (T := TX2) (N := 5) hx hb hts (by decide +kernel) hown hK hP 2 rfl rfl 2 (by decide) (hts (.fieldLink RX0 46 "Ruleengine$Fact" "value" "[I") (by decide +kernel)) (fun _ h9 => h9) rfl dX0_fits_62 ?_
        refine lv_iload_n hx hb dX0_fits_65 rfl (lv_at hl 1 rfl) ?_
        refine va_iald (i := (0)) hx hb hK hP 3 1 rfl rfl (by unfold vp_in; decide) dX0_fits_66 ?_
        refine W.eq (g2 := F0 m 67 _ (.int (v 0) :: [])) rfl ?_
        refine lv_istore (lv' := [(4, .int (v 0)), (3, .int (0)), (0, .ref h0), (1, .ref h1), (2, .ref g)]) hx hb dX0_fits_67 hl (by decide) rfl (fun ls hl => ?_)
        refine lv_iload hx hb dX0_fits_69 (lv_at hl 0 rfl) ?_
        refine lv_aload_n hx hb dX0_fits_71 rfl (lv_at hl 3 rfl) ?_
        refine va_get (D := (dC, dI)) (ci := 2) (v := .ref vl) (C := RX2) (T := TX2) (N := 5) hx hb hts (by decide +kernel) hown hK hP 2 rfl rfl 2 (by decide) (hts (.fieldLink RX0 46 "Ruleengine$Fact" "value" "[I") (by decide +kernel)) (fun _ h9 => h9) rfl dX0_fits_72 ?_
        refine lv_iload_n hx hb dX0_fits_75 rfl (lv_at hl 1 rfl) ?_
        refine va_iald (i := (0)) hx hb hK hP 3 1 rfl rfl (by unfold vp_in; decide) dX0_fits_76 ?_
        refine W.eq (g2 := F0 m 77 _ (.int (v 0) :: [.int (v 0)])) rfl ?_
        refine lv_icmp_eq hx hb dX0_fits_77 rfl (fun q40 => ?_) (fun q40 => ?_)
        · refine lv_iinc (v := (1)) (lv' := [(3, .int (1)), (4, .int (v 0)), (0, .ref h0), (1, .ref h1), (2, .ref g)]) hx hb dX0_fits_82 hl (k := 1) rfl (by decide) (by decide) rfl (fun ls hl => ?_)
          refine lv_goto hx hb dX0_fits_85 rfl ?_
          exact it1 ls hk (lv_sub hl [0, 2, 3, 4] rfl)  (by first | (rw [lf_want_var (by assumption) (by assumption)]; assumption) | (rw [lf_want_low (by assumption)]; assumption) | (rw [lf_want_blank (by assumption)]) | (rw [lf_want_high (by assumption) (by assumption)]; assumption))
        · refine lv_iconst (v := (0 : Int32)) hx hb dX0_fits_80 (by decide) ?_
          exact W.zret hx hb hr rfl (fun t ht hW => ⟨⟨_, (), rfl, (by rw [if_neg]; rintro ⟨-, b0, b1, b2, -⟩; first | (rw [lf_want_var (by assumption) (by assumption)] at b0; contradiction) | (rw [lf_want_low (by assumption)] at b0; contradiction) | (rw [lf_want_high (by assumption) (by assumption)] at b0; contradiction) | exact absurd rfl (by assumption)), by rw [ht]; exact hP, va_K.moved hW.alike hK, hD⟩, hS.F ht⟩) hS.2.2 dX0_fits_81
    · refine lv_iload hx hb dX0_fits_35 (lv_at hl 0 rfl) ?_
      refine lv_bipush (v := (22 : Int32)) hx hb dX0_fits_37 (by decide) ?_
      refine lv_icmp_ge hx hb dX0_fits_39 rfl (fun q41 => ?_) (fun q41 => ?_)
      · refine lv_iload hx hb dX0_fits_54 (lv_at hl 0 rfl) ?_
        refine lv_bipush (v := (22 : Int32)) hx hb dX0_fits_56 (by decide) ?_
        refine lv_icmp_ne hx hb dX0_fits_58 rfl (fun q42 => ?_) (fun q42 => ?_)
        · refine lv_iload hx hb dX0_fits_69 (lv_at hl 0 rfl) ?_
          refine lv_aload_n hx hb dX0_fits_71 rfl (lv_at hl 3 rfl) ?_
          refine va_get (D := (dC, dI)) (ci := 2) (v := .ref vl) (C := RX2) (T := TX2) (N := 5) hx hb hts (by decide +kernel) hown hK hP 2 rfl rfl 2 (by decide) (hts (.fieldLink RX0 46 "Ruleengine$Fact" "value" "[I") (by decide +kernel)) (fun _ h9 => h9) rfl dX0_fits_72 ?_
          refine lv_iload_n hx hb dX0_fits_75 rfl (lv_at hl 1 rfl) ?_
          refine va_iald (i := (0)) hx hb hK hP 3 1 rfl rfl (by unfold vp_in; decide) dX0_fits_76 ?_
          refine W.eq (g2 := F0 m 77 _ (.int (v 0) :: [.int (w 0)])) rfl ?_
          refine lv_icmp_eq hx hb dX0_fits_77 rfl (fun q43 => ?_) (fun q43 => ?_)
          · refine lv_iinc (v := (1)) (lv' := [(3, .int (1)), (4, .int (w 0)), (0, .ref h0), (1, .ref h1), (2, .ref g)]) hx hb dX0_fits_82 hl (k := 1) rfl (by decide) (by decide) rfl (fun ls hl => ?_)
            refine lv_goto hx hb dX0_fits_85 rfl ?_
            exact it1 ls hk (lv_sub hl [0, 2, 3, 4] rfl)  (by first | (rw [lf_want_var (by assumption) (by assumption)]; assumption) | (rw [lf_want_low (by assumption)]; assumption) | (rw [lf_want_blank (by assumption)]) | (rw [lf_want_high (by assumption) (by assumption)]; assumption))
          · refine lv_iconst (v := (0 : Int32)) hx hb dX0_fits_80 (by decide) ?_
            exact W.zret hx hb hr rfl (fun t ht hW => ⟨⟨_, (), rfl, (by rw [if_neg]; rintro ⟨-, b0, b1, b2, -⟩; first | (rw [lf_want_var (by assumption) (by assumption)] at b0; contradiction) | (rw [lf_want_low (by assumption)] at b0; contradiction) | (rw [lf_want_high (by assumption) (by assumption)] at b0; contradiction) | exact absurd rfl (by assumption)), by rw [ht]; exact hP, va_K.moved hW.alike hK, hD⟩, hS.F ht⟩) hS.2.2 dX0_fits_81
        · refine lv_aload_n hx hb dX0_fits_61 rfl (lv_at hl 3 rfl) ?_
          refine va_get (D := (dC, dI)) (ci := 2) (v := .ref vl) (C := RX2) (T := TX2) (N := 5) hx hb hts (by decide +kernel) hown hK hP 2 rfl rfl 2 (by decide) (hts (.fieldLink RX0 46 "Ruleengine$Fact" "value" "[I") (by decide +kernel)) (fun _ h9 => h9) rfl dX0_fits_62 ?_
          refine lv_iload_n hx hb dX0_fits_65 rfl (lv_at hl 1 rfl) ?_
          refine va_iald (i := (0)) hx hb hK hP 3 1 rfl rfl (by unfold vp_in; decide) dX0_fits_66 ?_
          refine W.eq (g2 := F0 m 67 _ (.int (v 0) :: [])) rfl ?_
          refine lv_istore (lv' := [(4, .int (v 0)), (3, .int (0)), (0, .ref h0), (1, .ref h1), (2, .ref g)]) hx hb dX0_fits_67 hl (by decide) rfl (fun ls hl => ?_)
          refine lv_iload hx hb dX0_fits_69 (lv_at hl 0 rfl) ?_
          refine lv_aload_n hx hb dX0_fits_71 rfl (lv_at hl 3 rfl) ?_
          refine va_get (D := (dC, dI)) (ci := 2) (v := .ref vl) (C := RX2) (T := TX2) (N := 5) hx hb hts (by decide +kernel) hown hK hP 2 rfl rfl 2 (by decide) (hts (.fieldLink RX0 46 "Ruleengine$Fact" "value" "[I") (by decide +kernel)) (fun _ h9 => h9) rfl dX0_fits_72 ?_
          refine lv_iload_n hx hb dX0_fits_75 rfl (lv_at hl 1 rfl) ?_
          refine va_iald (i := (0)) hx hb hK hP 3 1 rfl rfl (by unfold vp_in; decide) dX0_fits_76 ?_
          refine W.eq (g2 := F0 m 77 _ (.int (v 0) :: [.int (v 0)])) rfl ?_
          refine lv_icmp_eq hx hb dX0_fits_77 rfl (fun q44 => ?_) (fun q44 => ?_)
          · refine lv_iinc (v := (1)) (lv' := [(3, .int (1)), (4, .int (v 0)), (0, .ref h0), (1, .ref h1), (2, .ref g)]) hx hb dX0_fits_82 hl (k := 1) rfl (by decide) (by decide) rfl (fun ls hl => ?_)
            refine lv_goto hx hb dX0_fits_85 rfl ?_
            exact it1 ls hk (lv_sub hl [0, 2, 3, 4] rfl)  (by first | (rw [lf_want_var (by assumption) (by assumption)]; assumption) | (rw [lf_want_low (by assumption)]; assumption) | (rw [lf_want_blank (by assumption)]) | (rw [lf_want_high (by assumption) (by assumption)]; assumption))
          · refine lv_iconst (v := (0 : Int32)) hx hb dX0_fits_80 (by decide) ?_
            exact W.zret hx hb hr rfl (fun t ht hW => ⟨⟨_, (), rfl, (by rw [if_neg]; rintro ⟨-, b0, b1, b2, -⟩; first | (rw [lf_want_var (by assumption) (by assumption)] at b0; contradiction) | (rw [lf_want_low (by assumption)] at b0; contradiction) | (rw [lf_want_high (by assumption) (by assumption)] at b0; contradiction) | exact absurd rfl (by assumption)), by rw [ht]; exact hP, va_K.moved hW.alike hK, hD⟩, hS.F ht⟩) hS.2.2 dX0_fits_81
      · refine lv_aload_n hx hb dX0_fits_42 rfl (lv_at hl 4 rfl) ?_
        refine lv_iload hx hb dX0_fits_43 (lv_at hl 0 rfl) ?_
        refine lv_bipush (v := (16 : Int32)) hx hb dX0_fits_45 (by decide) ?_
        refine lv_isub hx hb dX0_fits_47 ?_
        refine va_iald (i := ((w 0) - (16))) hx hb hK hP 4 2 rfl rfl (lf_var (by assumption) (by assumption)) dX0_fits_48 ?_
        refine lv_istore (lv' := [(4, .int (vs (((w 0) - (16))).toNatClampNeg)), (3, .int (0)), (0, .ref h0), (1, .ref h1), (2, .ref g)]) hx hb dX0_fits_49 hl (by decide) rfl (fun ls hl => ?_)
        refine lv_goto hx hb dX0_fits_51 rfl ?_
        refine lv_iload hx hb dX0_fits_69 (lv_at hl 0 rfl) ?_
        refine lv_aload_n hx hb dX0_fits_71 rfl (lv_at hl 3 rfl) ?_
        refine va_get (D := (dC, dI)) (ci := 2) (v := .ref vl) (C := RX2) (T := TX2) (N := 5) hx hb hts (by decide +kernel) hown hK hP 2 rfl rfl 2 (by decide) (hts (.fieldLink RX0 46 "Ruleengine$Fact" "value" "[I") (by decide +kernel)) (fun _ h9 => h9) rfl dX0_fits_72 ?_
        refine lv_iload_n hx hb dX0_fits_75 rfl (lv_at hl 1 rfl) ?_
        refine va_iald (i := (0)) hx hb hK hP 3 1 rfl rfl (by unfold vp_in; decide) dX0_fits_76 ?_
        refine W.eq (g2 := F0 m 77 _ (.int (v 0) :: [.int (vs (((w 0) - (16))).toNatClampNeg)])) rfl ?_
        refine lv_icmp_eq hx hb dX0_fits_77 rfl (fun q45 => ?_) (fun q45 => ?_)
        · refine lv_iinc (v := (1)) (lv' := [(3, .int (1)), (4, .int (vs (((w 0) - (16))).toNatClampNeg)), (0, .ref h0), (1, .ref h1), (2, .ref g)]) hx hb dX0_fits_82 hl (k := 1) rfl (by decide) (by decide) rfl (fun ls hl => ?_)
          refine lv_goto hx hb dX0_fits_85 rfl ?_
          exact it1 ls hk (lv_sub hl [0, 2, 3, 4] rfl)  (by first | (rw [lf_want_var (by assumption) (by assumption)]; assumption) | (rw [lf_want_low (by assumption)]; assumption) | (rw [lf_want_blank (by assumption)]) | (rw [lf_want_high (by assumption) (by assumption)]; assumption))
        · refine lv_iconst (v := (0 : Int32)) hx hb dX0_fits_80 (by decide) ?_
          exact W.zret hx hb hr rfl (fun t ht hW => ⟨⟨_, (), rfl, (by rw [if_neg]; rintro ⟨-, b0, b1, b2, -⟩; first | (rw [lf_want_var (by assumption) (by assumption)] at b0; contradiction) | (rw [lf_want_low (by assumption)] at b0; contradiction) | (rw [lf_want_high (by assumption) (by assumption)] at b0; contradiction) | exact absurd rfl (by assumption)), by rw [ht]; exact hP, va_K.moved hW.alike hK, hD⟩, hS.F ht⟩) hS.2.2 dX0_fits_81
  refine lv_aload_n hx hb dX0_fits_0 rfl (lv_at hl 1 rfl) ?_
  refine va_get (D := (dC, dI)) (ci := 2) (v := .int fk) (C := RX2) (T := TX2) (N := 5) hx hb hts (by decide +kernel) hown hK hP 2 rfl rfl 1 (by decide) (hts (.fieldLink RX0 43 "Ruleengine$Fact" "kind" "I") (by decide +kernel)) (fun _ h9 => h9) rfl dX0_fits_1 ?_
  refine lv_aload_n hx hb dX0_fits_4 rfl (lv_at hl 0 rfl) ?_
  refine va_get (D := (dC, dI)) (ci := 0) (v := .int kd) (C := RX0) (T := TX0) (N := 6) hx hb hts (by decide +kernel) hown hK hP 0 rfl rfl 0 (by decide) (hts (.fieldLink RX0 25 "Ruleengine$Atom" "kind" "I") (by decide +kernel)) (fun _ h9 => h9) rfl dX0_fits_5 ?_
  refine lv_icmp_eq hx hb dX0_fits_8 rfl (fun q46 => ?_) (fun q46 => ?_)
  · refine lv_iconst (v := (0 : Int32)) hx hb dX0_fits_13 (by decide) ?_
    refine lv_istore_n (lv' := [(3, .int (0)), (0, .ref h0), (1, .ref h1), (2, .ref g)]) hx hb dX0_fits_14 rfl hl (by decide) rfl (fun ls hl => ?_)
    exact it0 ls (by assumption) (lv_sub hl [0, 1, 2, 3] rfl)
  · refine lv_iconst (v := (0 : Int32)) hx hb dX0_fits_11 (by decide) ?_
    exact W.zret hx hb hr rfl (fun t ht hW => ⟨⟨_, (), rfl, (by rw [if_neg]; rintro ⟨b, -⟩; contradiction), by rw [ht]; exact hP, va_K.moved hW.alike hK, hD⟩, hS.F ht⟩) hS.2.2 dX0_fits_12
end
section
/-! More that reads: worthOf, moduleAt, keyCount, placeIn, next. Printed by wip/gen/mk4.py. -/
theorem lf_five {x : Int32} (h1 : ¬ x < 1) (h2 : ¬ 5 < x) : vp_in (x - 1) 5 := by
  simp only [Int32.lt_iff_toInt_lt, Int32.reduceToInt] at h1 h2
  have h3 : x.toInt = 1 ∨ x.toInt = 2 ∨ x.toInt = 3 ∨ x.toInt = 4 ∨ x.toInt = 5 := by omega
  rcases h3 with h | h | h | h | h
  · obtain rfl : x = 1 := Int32.toInt_inj.mp (h.trans (by decide))
    unfold vp_in; decide
  · obtain rfl : x = 2 := Int32.toInt_inj.mp (h.trans (by decide))
    unfold vp_in; decide
  · obtain rfl : x = 3 := Int32.toInt_inj.mp (h.trans (by decide))
    unfold vp_in; decide
  · obtain rfl : x = 4 := Int32.toInt_inj.mp (h.trans (by decide))
    unfold vp_in; decide
  · obtain rfl : x = 5 := Int32.toInt_inj.mp (h.trans (by decide))
    unfold vp_in; decide
abbrev cX11_worthOf : ByteArray := prog_1_method_53_code
def yX11_worthOf : MethodName := ⟨RX11, "worthOf", "(I[I)I"⟩
def wqX11_worthOf : List Cond := .code yX11_worthOf cX11_worthOf 2 (some .int) :: ([])
theorem dX11_worthOf_0 : decode cX11_worthOf 0 = .ok (.iload_n 0, 1) := by decide +kernel
theorem dX11_worthOf_1 : decode cX11_worthOf 1 = .ok (.bipush 16, 2) := by decide +kernel
theorem dX11_worthOf_3 : decode cX11_worthOf 3 = .ok (.if_icmp .lt 18, 3) := by decide +kernel
theorem dX11_worthOf_6 : decode cX11_worthOf 6 = .ok (.iload_n 0, 1) := by decide +kernel
theorem dX11_worthOf_7 : decode cX11_worthOf 7 = .ok (.bipush 22, 2) := by decide +kernel
theorem dX11_worthOf_9 : decode cX11_worthOf 9 = .ok (.if_icmp .ge 12, 3) := by decide +kernel
theorem dX11_worthOf_12 : decode cX11_worthOf 12 = .ok (.aload_n 1, 1) := by decide +kernel
theorem dX11_worthOf_13 : decode cX11_worthOf 13 = .ok (.iload_n 0, 1) := by decide +kernel
theorem dX11_worthOf_14 : decode cX11_worthOf 14 = .ok (.bipush 16, 2) := by decide +kernel
theorem dX11_worthOf_16 : decode cX11_worthOf 16 = .ok (.isub, 1) := by decide +kernel
theorem dX11_worthOf_17 : decode cX11_worthOf 17 = .ok (.iaload, 1) := by decide +kernel
theorem dX11_worthOf_18 : decode cX11_worthOf 18 = .ok (.goto 4, 3) := by decide +kernel
theorem dX11_worthOf_21 : decode cX11_worthOf 21 = .ok (.iload_n 0, 1) := by decide +kernel
theorem dX11_worthOf_22 : decode cX11_worthOf 22 = .ok (.ireturn, 1) := by decide +kernel
set_option maxHeartbeats 8000000 in
set_option maxRecDepth 100000 in
/-- worthOf: what a digit or a variable stands for -/
theorem kX11_worthOf (l : Launch) (dC : Nat → ClassId) (dI : Nat → Nat → Nat) (sz : Nat) (g : Nat) (cg : ClassId) (p0 : Int32) (vs : Nat → Int32) : Met l yX11_worthOf wqX11_worthOf ({ frames := 0, cells := 0, slots := 0, locals := 0 }) (va_Pc [.int p0, .ref g] (fun U => U.heap.size = sz ∧ va_P (dC, dI) CL [(g, .inl (cg, 6, .inl vs))] U.heap ∧ va_K (dC, dI) CL [(cg, .int)] U ∧ va_D (fun _ => True) [(g, .inl (cg, 6, .inl vs))])) (va_Qi (fun (r : Int32) (_ : Unit) => r = if 16 ≤ p0 ∧ p0 < 22 then vs (p0 - 16).toNatClampNeg else p0) (fun _ t => va_P (dC, dI) CL [(g, .inl (cg, 6, .inl vs))] t.heap ∧ va_K (dC, dI) CL [(cg, .int)] t ∧ va_D (fun _ => True) [(g, .inl (cg, 6, .inl vs))]) (fun _ => False)) 0 0 (fun _ => False) := by
  refine Met.ofW (cc := cX11_worthOf) (maxL := 2) (ret := (some .int)) (by decide) rfl ?_
  intro p e s m args below meth c s₁ B hml hv
  obtain ⟨rfl, hsz, hP, hK, hD⟩ := hv
  have hx := B.exec
  have hb := B.bytes
  have hr := B.returns
  have hts := atoms_spec (ws := wqX11_worthOf) B.pre
  have hown : s.vm.findClass RX11 = some m.cls := findClass_of_methodNamed B.named
  have hlocks := B.notSynchronized
  have hS : va_S (fun _ => False) s.heap s.heap [] := va_S.rf
  have hl := lv_entry ([.int p0, .ref g]) (n := 2) (Nat.le_of_ble_eq_true rfl)
  rw [lg_entry_eq]
  generalize (lg_sl ([.int p0, .ref g]) ++ List.replicate (2 - (lg_sl ([.int p0, .ref g])).length) Slot.unset).toArray = ls at hl ⊢
  have hl : lv_has ls 2 [(0, .int p0), (1, .ref g)] := hl
  refine lv_iload_n hx hb dX11_worthOf_0 rfl (lv_at hl 0 rfl) ?_
  refine lv_bipush (v := (16 : Int32)) hx hb dX11_worthOf_1 (by decide) ?_
  refine lv_icmp_lt hx hb dX11_worthOf_3 rfl (fun q1 => ?_) (fun q1 => ?_)
  · refine lv_iload_n hx hb dX11_worthOf_21 rfl (lv_at hl 0 rfl) ?_
    exact W.iret hx hb hr (fun t ht hW => ⟨⟨_, (), rfl, (by first | exact (if_pos ⟨Int32.not_lt.mp (by assumption), Int32.not_le.mp (by assumption)⟩).symm | exact (if_neg (fun h => absurd (by assumption) (Int32.not_lt.mpr h.1))).symm | exact (if_neg (fun h => absurd (by assumption) (Int32.not_le.mpr h.2))).symm), by rw [ht]; exact hP, va_K.moved hW.alike hK, hD⟩, hS.F ht⟩) hS.2.2 dX11_worthOf_22
  · refine lv_iload_n hx hb dX11_worthOf_6 rfl (lv_at hl 0 rfl) ?_
    refine lv_bipush (v := (22 : Int32)) hx hb dX11_worthOf_7 (by decide) ?_
    refine lv_icmp_ge hx hb dX11_worthOf_9 rfl (fun q2 => ?_) (fun q2 => ?_)
    · refine lv_iload_n hx hb dX11_worthOf_21 rfl (lv_at hl 0 rfl) ?_
      exact W.iret hx hb hr (fun t ht hW => ⟨⟨_, (), rfl, (by first | exact (if_pos ⟨Int32.not_lt.mp (by assumption), Int32.not_le.mp (by assumption)⟩).symm | exact (if_neg (fun h => absurd (by assumption) (Int32.not_lt.mpr h.1))).symm | exact (if_neg (fun h => absurd (by assumption) (Int32.not_le.mpr h.2))).symm), by rw [ht]; exact hP, va_K.moved hW.alike hK, hD⟩, hS.F ht⟩) hS.2.2 dX11_worthOf_22
    · refine lv_aload_n hx hb dX11_worthOf_12 rfl (lv_at hl 1 rfl) ?_
      refine lv_iload_n hx hb dX11_worthOf_13 rfl (lv_at hl 0 rfl) ?_
      refine lv_bipush (v := (16 : Int32)) hx hb dX11_worthOf_14 (by decide) ?_
      refine lv_isub hx hb dX11_worthOf_16 ?_
      refine va_iald (i := (p0 - (16))) hx hb hK hP 0 0 rfl rfl (lf_var (by assumption) (by assumption)) dX11_worthOf_17 ?_
      refine lv_goto hx hb dX11_worthOf_18 rfl ?_
      exact W.iret hx hb hr (fun t ht hW => ⟨⟨_, (), rfl, (by first | exact (if_pos ⟨Int32.not_lt.mp (by assumption), Int32.not_le.mp (by assumption)⟩).symm | exact (if_neg (fun h => absurd (by assumption) (Int32.not_lt.mpr h.1))).symm | exact (if_neg (fun h => absurd (by assumption) (Int32.not_le.mpr h.2))).symm), by rw [ht]; exact hP, va_K.moved hW.alike hK, hD⟩, hS.F ht⟩) hS.2.2 dX11_worthOf_22
abbrev cX9_moduleAt : ByteArray := prog_11_method_20_code
def yX9_moduleAt : MethodName := ⟨RX9, "moduleAt", "(I)I"⟩
def wqX9_moduleAt : List Cond := .code yX9_moduleAt cX9_moduleAt 2 (some .int) :: ([.fieldLink RX9 34 "Ruleengine$State" "stack" "[I"] ++ wsX90)
theorem dX9_moduleAt_0 : decode cX9_moduleAt 0 = .ok (.iload_n 1, 1) := by decide +kernel
theorem dX9_moduleAt_1 : decode cX9_moduleAt 1 = .ok (.iconst 1, 1) := by decide +kernel
theorem dX9_moduleAt_2 : decode cX9_moduleAt 2 = .ok (.if_icmp .lt 19, 3) := by decide +kernel
theorem dX9_moduleAt_5 : decode cX9_moduleAt 5 = .ok (.iload_n 1, 1) := by decide +kernel
theorem dX9_moduleAt_6 : decode cX9_moduleAt 6 = .ok (.iconst 5, 1) := by decide +kernel
theorem dX9_moduleAt_7 : decode cX9_moduleAt 7 = .ok (.if_icmp .gt 14, 3) := by decide +kernel
theorem dX9_moduleAt_10 : decode cX9_moduleAt 10 = .ok (.aload_n 0, 1) := by decide +kernel
theorem dX9_moduleAt_11 : decode cX9_moduleAt 11 = .ok (.getfield 34, 3) := by decide +kernel
theorem dX9_moduleAt_14 : decode cX9_moduleAt 14 = .ok (.iload_n 1, 1) := by decide +kernel
theorem dX9_moduleAt_15 : decode cX9_moduleAt 15 = .ok (.iconst 1, 1) := by decide +kernel
theorem dX9_moduleAt_16 : decode cX9_moduleAt 16 = .ok (.isub, 1) := by decide +kernel
theorem dX9_moduleAt_17 : decode cX9_moduleAt 17 = .ok (.iaload, 1) := by decide +kernel
theorem dX9_moduleAt_18 : decode cX9_moduleAt 18 = .ok (.goto 4, 3) := by decide +kernel
theorem dX9_moduleAt_21 : decode cX9_moduleAt 21 = .ok (.iconst 0, 1) := by decide +kernel
theorem dX9_moduleAt_22 : decode cX9_moduleAt 22 = .ok (.ireturn, 1) := by decide +kernel
set_option maxHeartbeats 8000000 in
set_option maxRecDepth 100000 in
/-- State.moduleAt: the last one of so many modules; 0 where there are not so many -/
theorem kX9_moduleAt (l : Launch) (dC : Nat → ClassId) (dI : Nat → Nat → Nat) (sz : Nat) (h0 fa wm wc ru dn_ sk wr : Nat) (ck : ClassId) (ca mi dn de ss wn : Int32) (k : Nat → Int32) (p0 : Int32) : Met l yX9_moduleAt wqX9_moduleAt ({ frames := 0, cells := 0, slots := 0, locals := 0 }) (va_Pc [.ref h0, .int p0] (fun U => U.heap.size = sz ∧ va_P (dC, dI) CL [(h0, .inr (8, [.ref fa, .int ca, .int mi, .ref wm, .ref wc, .ref ru, .ref dn_, .int dn, .int de, .ref sk, .int ss, .ref wr, .int wn])), (sk, .inl (ck, 5, .inl k))] U.heap ∧ va_K (dC, dI) CL [(ck, .int)] U ∧ va_D (fun _ => True) [(h0, .inr (8, [.ref fa, .int ca, .int mi, .ref wm, .ref wc, .ref ru, .ref dn_, .int dn, .int de, .ref sk, .int ss, .ref wr, .int wn])), (sk, .inl (ck, 5, .inl k))])) (va_Qi (fun (r : Int32) (_ : Unit) => r = if 1 ≤ p0 ∧ p0 ≤ 5 then k (p0 - 1).toNatClampNeg else 0) (fun _ t => va_P (dC, dI) CL [(h0, .inr (8, [.ref fa, .int ca, .int mi, .ref wm, .ref wc, .ref ru, .ref dn_, .int dn, .int de, .ref sk, .int ss, .ref wr, .int wn])), (sk, .inl (ck, 5, .inl k))] t.heap ∧ va_K (dC, dI) CL [(ck, .int)] t ∧ va_D (fun _ => True) [(h0, .inr (8, [.ref fa, .int ca, .int mi, .ref wm, .ref wc, .ref ru, .ref dn_, .int dn, .int de, .ref sk, .int ss, .ref wr, .int wn])), (sk, .inl (ck, 5, .inl k))]) (fun _ => False)) 0 0 (fun _ => False) := by
  refine Met.ofW (cc := cX9_moduleAt) (maxL := 2) (ret := (some .int)) (by decide) rfl ?_
  intro p e s m args below meth c s₁ B hml hv
  obtain ⟨rfl, hsz, hP, hK, hD⟩ := hv
  have hx := B.exec
  have hb := B.bytes
  have hr := B.returns
  have hts := atoms_spec (ws := wqX9_moduleAt) B.pre
  have hown : s.vm.findClass RX9 = some m.cls := findClass_of_methodNamed B.named
  have hlocks := B.notSynchronized
  have hS : va_S (fun _ => False) s.heap s.heap [] := va_S.rf
  have hl := lv_entry ([.ref h0, .int p0]) (n := 2) (Nat.le_of_ble_eq_true rfl)
  rw [lg_entry_eq]
  generalize (lg_sl ([.ref h0, .int p0]) ++ List.replicate (2 - (lg_sl ([.ref h0, .int p0])).length) Slot.unset).toArray = ls at hl ⊢
  have hl : lv_has ls 2 [(0, .ref h0), (1, .int p0)] := hl
  refine lv_iload_n hx hb dX9_moduleAt_0 rfl (lv_at hl 1 rfl) ?_
  refine lv_iconst (v := (1 : Int32)) hx hb dX9_moduleAt_1 (by decide) ?_
  refine lv_icmp_lt hx hb dX9_moduleAt_2 rfl (fun q1 => ?_) (fun q1 => ?_)
  · refine lv_iconst (v := (0 : Int32)) hx hb dX9_moduleAt_21 (by decide) ?_
    exact W.iret hx hb hr (fun t ht hW => ⟨⟨_, (), rfl, (by first | exact (if_pos ⟨Int32.not_lt.mp (by assumption), Int32.not_lt.mp (by assumption)⟩).symm | exact (if_neg (fun h => absurd (by assumption) (Int32.not_lt.mpr h.1))).symm | exact (if_neg (fun h => absurd (by assumption) (Int32.not_lt.mpr h.2))).symm), by rw [ht]; exact hP, va_K.moved hW.alike hK, hD⟩, hS.F ht⟩) hS.2.2 dX9_moduleAt_22
  · refine lv_iload_n hx hb dX9_moduleAt_5 rfl (lv_at hl 1 rfl) ?_
    refine lv_iconst (v := (5 : Int32)) hx hb dX9_moduleAt_6 (by decide) ?_
    refine lv_icmp_gt hx hb dX9_moduleAt_7 rfl (fun q2 => ?_) (fun q2 => ?_)
    · refine lv_iconst (v := (0 : Int32)) hx hb dX9_moduleAt_21 (by decide) ?_
      exact W.iret hx hb hr (fun t ht hW => ⟨⟨_, (), rfl, (by first | exact (if_pos ⟨Int32.not_lt.mp (by assumption), Int32.not_lt.mp (by assumption)⟩).symm | exact (if_neg (fun h => absurd (by assumption) (Int32.not_lt.mpr h.1))).symm | exact (if_neg (fun h => absurd (by assumption) (Int32.not_lt.mpr h.2))).symm), by rw [ht]; exact hP, va_K.moved hW.alike hK, hD⟩, hS.F ht⟩) hS.2.2 dX9_moduleAt_22
    · refine lv_aload_n hx hb dX9_moduleAt_10 rfl (lv_at hl 0 rfl) ?_
      refine va_get (D := (dC, dI)) (ci := 8) (v := .ref sk) (C := RX9) (T := TX9) (N := 13) hx hb hts (by decide +kernel) hown hK hP 0 rfl rfl 9 (by decide) (hts (.fieldLink RX9 34 "Ruleengine$State" "stack" "[I") (by decide +kernel)) (fun _ h9 => h9) rfl dX9_moduleAt_11 ?_
      refine lv_iload_n hx hb dX9_moduleAt_14 rfl (lv_at hl 1 rfl) ?_
      refine lv_iconst (v := (1 : Int32)) hx hb dX9_moduleAt_15 (by decide) ?_
      refine lv_isub hx hb dX9_moduleAt_16 ?_
      refine va_iald (i := (p0 - (1))) hx hb hK hP 1 0 rfl rfl (lf_five (by assumption) (by assumption)) dX9_moduleAt_17 ?_
      refine lv_goto hx hb dX9_moduleAt_18 rfl ?_
      exact W.iret hx hb hr (fun t ht hW => ⟨⟨_, (), rfl, (by first | exact (if_pos ⟨Int32.not_lt.mp (by assumption), Int32.not_lt.mp (by assumption)⟩).symm | exact (if_neg (fun h => absurd (by assumption) (Int32.not_lt.mpr h.1))).symm | exact (if_neg (fun h => absurd (by assumption) (Int32.not_lt.mpr h.2))).symm), by rw [ht]; exact hP, va_K.moved hW.alike hK, hD⟩, hS.F ht⟩) hS.2.2 dX9_moduleAt_22
abbrev cX7_keyCount : ByteArray := prog_9_method_6_code
def yX7_keyCount : MethodName := ⟨RX7, "keyCount", "()I"⟩
def wqX7_keyCount : List Cond := .code yX7_keyCount cX7_keyCount 1 (some .int) :: ([.fieldLink RX7 38 "Ruleengine$Rule" "hasCount" "I"] ++ wsX70)
theorem dX7_keyCount_0 : decode cX7_keyCount 0 = .ok (.iconst 1, 1) := by decide +kernel
theorem dX7_keyCount_1 : decode cX7_keyCount 1 = .ok (.iconst 4, 1) := by decide +kernel
theorem dX7_keyCount_2 : decode cX7_keyCount 2 = .ok (.aload_n 0, 1) := by decide +kernel
theorem dX7_keyCount_3 : decode cX7_keyCount 3 = .ok (.getfield 38, 3) := by decide +kernel
theorem dX7_keyCount_6 : decode cX7_keyCount 6 = .ok (.imul, 1) := by decide +kernel
theorem dX7_keyCount_7 : decode cX7_keyCount 7 = .ok (.ishl, 1) := by decide +kernel
theorem dX7_keyCount_8 : decode cX7_keyCount 8 = .ok (.ireturn, 1) := by decide +kernel
set_option maxHeartbeats 8000000 in
set_option maxRecDepth 100000 in
/-- Rule.keyCount -/
theorem kX7_keyCount (l : Launch) (dC : Nat → ClassId) (dI : Nat → Nat → Nat) (sz : Nat) (h0 ty co en ha ac : Nat) (ur mo cc_ hc an ki : Int32) : Met l yX7_keyCount wqX7_keyCount ({ frames := 0, cells := 0, slots := 0, locals := 0 }) (va_Pc [.ref h0] (fun U => U.heap.size = sz ∧ va_P (dC, dI) CL [(h0, .inr (7, [.ref ty, .int ur, .int mo, .ref co, .ref en, .int cc_, .ref ha, .int hc, .ref ac, .int an, .int ki]))] U.heap ∧ va_K (dC, dI) CL [] U ∧ va_D (fun _ => True) [(h0, .inr (7, [.ref ty, .int ur, .int mo, .ref co, .ref en, .int cc_, .ref ha, .int hc, .ref ac, .int an, .int ki]))])) (va_Qi (fun (r : Int32) (_ : Unit) => r = 1 <<< ((4 * hc) &&& 31)) (fun _ t => va_P (dC, dI) CL [(h0, .inr (7, [.ref ty, .int ur, .int mo, .ref co, .ref en, .int cc_, .ref ha, .int hc, .ref ac, .int an, .int ki]))] t.heap ∧ va_K (dC, dI) CL [] t ∧ va_D (fun _ => True) [(h0, .inr (7, [.ref ty, .int ur, .int mo, .ref co, .ref en, .int cc_, .ref ha, .int hc, .ref ac, .int an, .int ki]))]) (fun _ => False)) 0 0 (fun _ => False) := by
  refine Met.ofW (cc := cX7_keyCount) (maxL := 1) (ret := (some .int)) (by decide) rfl ?_
  intro p e s m args below meth c s₁ B hml hv
  obtain ⟨rfl, hsz, hP, hK, hD⟩ := hv
  have hx := B.exec
  have hb := B.bytes
  have hr := B.returns
  have hts := atoms_spec (ws := wqX7_keyCount) B.pre
  have hown : s.vm.findClass RX7 = some m.cls := findClass_of_methodNamed B.named
  have hlocks := B.notSynchronized
  have hS : va_S (fun _ => False) s.heap s.heap [] := va_S.rf
  have hl := lv_entry ([.ref h0]) (n := 1) (Nat.le_of_ble_eq_true rfl)
  rw [lg_entry_eq]
  generalize (lg_sl ([.ref h0]) ++ List.replicate (1 - (lg_sl ([.ref h0])).length) Slot.unset).toArray = ls at hl ⊢
  have hl : lv_has ls 1 [(0, .ref h0)] := hl
  refine lv_iconst (v := (1 : Int32)) hx hb dX7_keyCount_0 (by decide) ?_
  refine lv_iconst (v := (4 : Int32)) hx hb dX7_keyCount_1 (by decide) ?_
  refine lv_aload_n hx hb dX7_keyCount_2 rfl (lv_at hl 0 rfl) ?_
  refine va_get (D := (dC, dI)) (ci := 7) (v := .int hc) (C := RX7) (T := TX7) (N := 11) hx hb hts (by decide +kernel) hown hK hP 0 rfl rfl 7 (by decide) (hts (.fieldLink RX7 38 "Ruleengine$Rule" "hasCount" "I") (by decide +kernel)) (fun _ h9 => h9) rfl dX7_keyCount_3 ?_
  refine lv_imul hx hb dX7_keyCount_6 ?_
  refine lv_ishl hx hb dX7_keyCount_7 ?_
  exact W.iret hx hb hr (fun t ht hW => ⟨⟨_, (), rfl, (by rfl), by rw [ht]; exact hP, va_K.moved hW.alike hK, hD⟩, hS.F ht⟩) hS.2.2 dX7_keyCount_8
abbrev cX7_placeIn : ByteArray := prog_9_method_4_code
def yX7_placeIn : MethodName := ⟨RX7, "placeIn", "(JI)I"⟩
def wqX7_placeIn : List Cond := .code yX7_placeIn cX7_placeIn 4 (some .int) :: ([.fieldLink RX7 27 "Ruleengine$Rule" "hasAt" "[I"] ++ wsX70)
theorem dX7_placeIn_0 : decode cX7_placeIn 0 = .ok (.lload_n 1, 1) := by decide +kernel
theorem dX7_placeIn_1 : decode cX7_placeIn 1 = .ok (.bipush 8, 2) := by decide +kernel
theorem dX7_placeIn_3 : decode cX7_placeIn 3 = .ok (.aload_n 0, 1) := by decide +kernel
theorem dX7_placeIn_4 : decode cX7_placeIn 4 = .ok (.getfield 27, 3) := by decide +kernel
theorem dX7_placeIn_7 : decode cX7_placeIn 7 = .ok (.iload_n 3, 1) := by decide +kernel
theorem dX7_placeIn_8 : decode cX7_placeIn 8 = .ok (.iaload, 1) := by decide +kernel
theorem dX7_placeIn_9 : decode cX7_placeIn 9 = .ok (.imul, 1) := by decide +kernel
theorem dX7_placeIn_10 : decode cX7_placeIn 10 = .ok (.lshr, 1) := by decide +kernel
theorem dX7_placeIn_11 : decode cX7_placeIn 11 = .ok (.l2i, 1) := by decide +kernel
theorem dX7_placeIn_12 : decode cX7_placeIn 12 = .ok (.bipush 15, 2) := by decide +kernel
theorem dX7_placeIn_14 : decode cX7_placeIn 14 = .ok (.iand, 1) := by decide +kernel
theorem dX7_placeIn_15 : decode cX7_placeIn 15 = .ok (.ireturn, 1) := by decide +kernel
set_option maxHeartbeats 8000000 in
set_option maxRecDepth 100000 in
/-- Rule.placeIn: the place of the fact for a HAS -/
theorem kX7_placeIn (l : Launch) (dC : Nat → ClassId) (dI : Nat → Nat → Nat) (sz : Nat) (h0 ty co en ha ac : Nat) (ur mo cc_ hc an ki : Int32) (ca : ClassId) (f : Nat → Int32) (p0 : Int64) (p1 : Int32) (hin : vp_in p1 3) : Met l yX7_placeIn wqX7_placeIn ({ frames := 0, cells := 0, slots := 0, locals := 0 }) (va_Pc [.ref h0, .long p0, .int p1] (fun U => U.heap.size = sz ∧ va_P (dC, dI) CL [(h0, .inr (7, [.ref ty, .int ur, .int mo, .ref co, .ref en, .int cc_, .ref ha, .int hc, .ref ac, .int an, .int ki])), (ha, .inl (ca, 3, .inl f))] U.heap ∧ va_K (dC, dI) CL [(ca, .int)] U ∧ va_D (fun _ => True) [(h0, .inr (7, [.ref ty, .int ur, .int mo, .ref co, .ref en, .int cc_, .ref ha, .int hc, .ref ac, .int an, .int ki])), (ha, .inl (ca, 3, .inl f))])) (va_Qi (fun (r : Int32) (_ : Unit) => r = (p0 >>> ((8 * f p1.toNatClampNeg).toInt64 &&& 63)).toInt32 &&& 15) (fun _ t => va_P (dC, dI) CL [(h0, .inr (7, [.ref ty, .int ur, .int mo, .ref co, .ref en, .int cc_, .ref ha, .int hc, .ref ac, .int an, .int ki])), (ha, .inl (ca, 3, .inl f))] t.heap ∧ va_K (dC, dI) CL [(ca, .int)] t ∧ va_D (fun _ => True) [(h0, .inr (7, [.ref ty, .int ur, .int mo, .ref co, .ref en, .int cc_, .ref ha, .int hc, .ref ac, .int an, .int ki])), (ha, .inl (ca, 3, .inl f))]) (fun _ => False)) 0 0 (fun _ => False) := by
  refine Met.ofW (cc := cX7_placeIn) (maxL := 4) (ret := (some .int)) (by decide) rfl ?_
  intro p e s m args below meth c s₁ B hml hv
  obtain ⟨rfl, hsz, hP, hK, hD⟩ := hv
  have hx := B.exec
  have hb := B.bytes
  have hr := B.returns
  have hts := atoms_spec (ws := wqX7_placeIn) B.pre
  have hown : s.vm.findClass RX7 = some m.cls := findClass_of_methodNamed B.named
  have hlocks := B.notSynchronized
  have hS : va_S (fun _ => False) s.heap s.heap [] := va_S.rf
  have hl := lv_entry ([.ref h0, .long p0, .int p1]) (n := 4) (Nat.le_of_ble_eq_true rfl)
  rw [lg_entry_eq]
  generalize (lg_sl ([.ref h0, .long p0, .int p1]) ++ List.replicate (4 - (lg_sl ([.ref h0, .long p0, .int p1])).length) Slot.unset).toArray = ls at hl ⊢
  have hl : lv_has ls 4 [(0, .ref h0), (1, .long p0), (3, .int p1)] := hl
  refine lv_lload_n hx hb dX7_placeIn_0 rfl (lv_at hl 1 rfl) ?_
  refine lv_bipush (v := (8 : Int32)) hx hb dX7_placeIn_1 (by decide) ?_
  refine lv_aload_n hx hb dX7_placeIn_3 rfl (lv_at hl 0 rfl) ?_
  refine va_get (D := (dC, dI)) (ci := 7) (v := .ref ha) (C := RX7) (T := TX7) (N := 11) hx hb hts (by decide +kernel) hown hK hP 0 rfl rfl 6 (by decide) (hts (.fieldLink RX7 27 "Ruleengine$Rule" "hasAt" "[I") (by decide +kernel)) (fun _ h9 => h9) rfl dX7_placeIn_4 ?_
  refine lv_iload_n hx hb dX7_placeIn_7 rfl (lv_at hl 2 rfl) ?_
  refine va_iald (i := p1) hx hb hK hP 1 0 rfl rfl hin dX7_placeIn_8 ?_
  refine lv_imul hx hb dX7_placeIn_9 ?_
  refine lv_lshr hx hb dX7_placeIn_10 rfl ?_
  refine lv_l2i hx hb dX7_placeIn_11 rfl ?_
  refine lv_bipush (v := (15 : Int32)) hx hb dX7_placeIn_12 (by decide) ?_
  refine lv_iand hx hb dX7_placeIn_14 ?_
  exact W.iret hx hb hr (fun t ht hW => ⟨⟨_, (), rfl, rfl, by rw [ht]; exact hP, va_K.moved hW.alike hK, hD⟩, hS.F ht⟩) hS.2.2 dX7_placeIn_15
abbrev cX6_next : ByteArray := prog_8_method_6_code
def yX6_next : MethodName := ⟨RX6, "next", "()I"⟩
def wqX6_next : List Cond := .code yX6_next cX6_next 1 (some .int) :: ([.fieldLink RX6 82 "Ruleengine$Reader" "place" "I", .fieldLink RX6 36 "Ruleengine$Reader" "count" "I", .fieldLink RX6 9 "Ruleengine$Reader" "sign" "[I"] ++ wsX60)
theorem dX6_next_0 : decode cX6_next 0 = .ok (.aload_n 0, 1) := by decide +kernel
theorem dX6_next_1 : decode cX6_next 1 = .ok (.getfield 82, 3) := by decide +kernel
theorem dX6_next_4 : decode cX6_next 4 = .ok (.aload_n 0, 1) := by decide +kernel
theorem dX6_next_5 : decode cX6_next 5 = .ok (.getfield 36, 3) := by decide +kernel
theorem dX6_next_8 : decode cX6_next 8 = .ok (.if_icmp .ge 15, 3) := by decide +kernel
theorem dX6_next_11 : decode cX6_next 11 = .ok (.aload_n 0, 1) := by decide +kernel
theorem dX6_next_12 : decode cX6_next 12 = .ok (.getfield 9, 3) := by decide +kernel
theorem dX6_next_15 : decode cX6_next 15 = .ok (.aload_n 0, 1) := by decide +kernel
theorem dX6_next_16 : decode cX6_next 16 = .ok (.getfield 82, 3) := by decide +kernel
theorem dX6_next_19 : decode cX6_next 19 = .ok (.iaload, 1) := by decide +kernel
theorem dX6_next_20 : decode cX6_next 20 = .ok (.goto 4, 3) := by decide +kernel
theorem dX6_next_23 : decode cX6_next 23 = .ok (.iconst (-1), 1) := by decide +kernel
theorem dX6_next_24 : decode cX6_next 24 = .ok (.ireturn, 1) := by decide +kernel
set_option maxHeartbeats 8000000 in
set_option maxRecDepth 100000 in
/-- Reader.next: the sign at the place, NONE behind the last -/
theorem kX6_next (l : Launch) (dC : Nat → ClassId) (dI : Nat → Nat → Nat) (sz : Nat) (h0 sg dr sp li : Nat) (cs : ClassId) (ct iu pl ib kn : Int32) (f : Nat → Int32) (hin : pl < ct → vp_in pl 60) : Met l yX6_next wqX6_next ({ frames := 0, cells := 0, slots := 0, locals := 0 }) (va_Pc [.ref h0] (fun U => U.heap.size = sz ∧ va_P (dC, dI) CL [(h0, .inr (6, [.ref sg, .int ct, .int iu, .int pl, .int ib, .int kn, .ref dr, .ref sp, .ref li])), (sg, .inl (cs, 60, .inl f))] U.heap ∧ va_K (dC, dI) CL [(cs, .int)] U ∧ va_D (fun _ => True) [(h0, .inr (6, [.ref sg, .int ct, .int iu, .int pl, .int ib, .int kn, .ref dr, .ref sp, .ref li])), (sg, .inl (cs, 60, .inl f))])) (va_Qi (fun (r : Int32) (_ : Unit) => r = if pl < ct then f pl.toNatClampNeg else -1) (fun _ t => va_P (dC, dI) CL [(h0, .inr (6, [.ref sg, .int ct, .int iu, .int pl, .int ib, .int kn, .ref dr, .ref sp, .ref li])), (sg, .inl (cs, 60, .inl f))] t.heap ∧ va_K (dC, dI) CL [(cs, .int)] t ∧ va_D (fun _ => True) [(h0, .inr (6, [.ref sg, .int ct, .int iu, .int pl, .int ib, .int kn, .ref dr, .ref sp, .ref li])), (sg, .inl (cs, 60, .inl f))]) (fun _ => False)) 0 0 (fun _ => False) := by
  refine Met.ofW (cc := cX6_next) (maxL := 1) (ret := (some .int)) (by decide) rfl ?_
  intro p e s m args below meth c s₁ B hml hv
  obtain ⟨rfl, hsz, hP, hK, hD⟩ := hv
  have hx := B.exec
  have hb := B.bytes
  have hr := B.returns
  have hts := atoms_spec (ws := wqX6_next) B.pre
  have hown : s.vm.findClass RX6 = some m.cls := findClass_of_methodNamed B.named
  have hlocks := B.notSynchronized
  have hS : va_S (fun _ => False) s.heap s.heap [] := va_S.rf
  have hl := lv_entry ([.ref h0]) (n := 1) (Nat.le_of_ble_eq_true rfl)
  rw [lg_entry_eq]
  generalize (lg_sl ([.ref h0]) ++ List.replicate (1 - (lg_sl ([.ref h0])).length) Slot.unset).toArray = ls at hl ⊢
  have hl : lv_has ls 1 [(0, .ref h0)] := hl
  refine lv_aload_n hx hb dX6_next_0 rfl (lv_at hl 0 rfl) ?_
  refine va_get (D := (dC, dI)) (ci := 6) (v := .int pl) (C := RX6) (T := TX6) (N := 9) hx hb hts (by decide +kernel) hown hK hP 0 rfl rfl 3 (by decide) (hts (.fieldLink RX6 82 "Ruleengine$Reader" "place" "I") (by decide +kernel)) (fun _ h9 => h9) rfl dX6_next_1 ?_
  refine lv_aload_n hx hb dX6_next_4 rfl (lv_at hl 0 rfl) ?_
  refine va_get (D := (dC, dI)) (ci := 6) (v := .int ct) (C := RX6) (T := TX6) (N := 9) hx hb hts (by decide +kernel) hown hK hP 0 rfl rfl 1 (by decide) (hts (.fieldLink RX6 36 "Ruleengine$Reader" "count" "I") (by decide +kernel)) (fun _ h9 => h9) rfl dX6_next_5 ?_
  refine lv_icmp_ge hx hb dX6_next_8 rfl (fun q1 => ?_) (fun q1 => ?_)
  · refine lv_iconst (v := (-1 : Int32)) hx hb dX6_next_23 (by decide) ?_
    exact W.iret hx hb hr (fun t ht hW => ⟨⟨_, (), rfl, (by first | exact (if_pos (Int32.not_le.mp (by assumption))).symm | exact (if_neg (Int32.not_lt.mpr (by assumption))).symm), by rw [ht]; exact hP, va_K.moved hW.alike hK, hD⟩, hS.F ht⟩) hS.2.2 dX6_next_24
  · refine lv_aload_n hx hb dX6_next_11 rfl (lv_at hl 0 rfl) ?_
    refine va_get (D := (dC, dI)) (ci := 6) (v := .ref sg) (C := RX6) (T := TX6) (N := 9) hx hb hts (by decide +kernel) hown hK hP 0 rfl rfl 0 (by decide) (hts (.fieldLink RX6 9 "Ruleengine$Reader" "sign" "[I") (by decide +kernel)) (fun _ h9 => h9) rfl dX6_next_12 ?_
    refine lv_aload_n hx hb dX6_next_15 rfl (lv_at hl 0 rfl) ?_
    refine va_get (D := (dC, dI)) (ci := 6) (v := .int pl) (C := RX6) (T := TX6) (N := 9) hx hb hts (by decide +kernel) hown hK hP 0 rfl rfl 3 (by decide) (hts (.fieldLink RX6 82 "Ruleengine$Reader" "place" "I") (by decide +kernel)) (fun _ h9 => h9) rfl dX6_next_16 ?_
    refine va_iald (i := pl) hx hb hK hP 1 0 rfl rfl (hin (Int32.not_le.mp (by assumption))) dX6_next_19 ?_
    refine lv_goto hx hb dX6_next_20 rfl ?_
    exact W.iret hx hb hr (fun t ht hW => ⟨⟨_, (), rfl, (by first | exact (if_pos (Int32.not_le.mp (by assumption))).symm | exact (if_neg (Int32.not_lt.mpr (by assumption))).symm), by rw [ht]; exact hP, va_K.moved hW.alike hK, hD⟩, hS.F ht⟩) hS.2.2 dX6_next_24
end
section
/-! Search.outcome, for a search that is a Matches, and a condition that is no TEST: what NOT, SOME, ALL, COUNT, SUM say of the sixteen places. Printed by wip/gen/mk5.py. -/
/-- whether a fact of kind fk with values v fits an atom -/
abbrev lf_fit (kd e12 e13 e23 : Int32) (w vs : Nat → Int32) (fk : Int32) (v : Nat → Int32) : Prop := fk = kd ∧ lf_want w v vs 0 = v 0 ∧ lf_want w v vs 1 = v 1 ∧ lf_want w v vs 2 = v 2 ∧ (e12 = 0 ∨ v 0 = v 1) ∧ (e13 = 0 ∨ v 0 = v 2) ∧ (e23 = 0 ∨ v 1 = v 2)
/-- how many of the first places are so -/
def lf_cnt (P : Nat → Bool) : Nat → Int32
  | 0 => 0
  | k + 1 => if P k = true then lf_cnt P k + 1 else lf_cnt P k
/-- the sum over those of the first places that are so -/
def lf_sum (P : Nat → Bool) (x : Nat → Int32) : Nat → Int32
  | 0 => 0
  | k + 1 => if P k = true then lf_sum P x k + x k else lf_sum P x k
theorem lf_cnt_y {P : Nat → Bool} {k : Nat} (h : P k = true) : lf_cnt P (k + 1) = lf_cnt P k + 1 := if_pos h
theorem lf_cnt_n {P : Nat → Bool} {k : Nat} (h : P k = false) : lf_cnt P (k + 1) = lf_cnt P k := if_neg (by rw [h]; decide)
theorem lf_sum_y {P : Nat → Bool} {x : Nat → Int32} {k : Nat} (h : P k = true) : lf_sum P x (k + 1) = lf_sum P x k + x k := if_pos h
theorem lf_sum_n {P : Nat → Bool} {x : Nat → Int32} {k : Nat} (h : P k = false) : lf_sum P x (k + 1) = lf_sum P x k := if_neg (by rw [h]; decide)
theorem lf_upd {f : Nat → Int32} {k : Nat} {x : Int32} : upd f k x k = x := if_pos rfl
def RX8 : String := "Ruleengine$Search"
abbrev cX8_outcome : ByteArray := prog_10_method_4_code
def yX8_outcome : MethodName := ⟨RX8, "outcome", "(LRuleengine$Part;)I"⟩
def wqX8_outcome : List Cond := .code yX8_outcome cX8_outcome 7 (some .int) :: ([.fieldLink RX8 43 "Ruleengine$Part" "sort" "I", .fieldLink RX8 74 "Ruleengine$Part" "left" "I", .fieldLink RX8 9 "Ruleengine$Search" "values" "[I", .fieldLink RX8 81 "Ruleengine$Part" "right" "I", .fieldLink RX8 84 "Ruleengine$Part" "relation" "I", .fieldLink RX8 18 "Ruleengine$Search" "state" "LRuleengine$State;", .fieldLink RX8 87 "Ruleengine$State" "fact" "[LRuleengine$Fact;", .fieldLink RX8 60 "Ruleengine$Part" "atom" "LRuleengine$Atom;", .fieldLink RX8 92 "Ruleengine$Fact" "value" "[I", .fieldLink RX8 97 "Ruleengine$Part" "at" "I", .fieldLink RX8 100 "Ruleengine$Fact" "kind" "I", .fieldLink RX8 103 "Ruleengine$Atom" "kind" "I", .fieldLink RX8 104 "Ruleengine$Part" "isNew" "Z"] ++ wsV RX8 64 RX0 yX0_fits wqX0_fits ++ wsX50 ++ wsX40 ++ wsX90)
theorem dX8_outcome_0 : decode cX8_outcome 0 = .ok (.aload_n 1, 1) := by decide +kernel
theorem dX8_outcome_1 : decode cX8_outcome 1 = .ok (.getfield 43, 3) := by decide +kernel
theorem dX8_outcome_4 : decode cX8_outcome 4 = .ok (.bipush 6, 2) := by decide +kernel
theorem dX8_outcome_6 : decode cX8_outcome 6 = .ok (.if_icmp .ne 94, 3) := by decide +kernel
theorem dX8_outcome_9 : decode cX8_outcome 9 = .ok (.aload_n 1, 1) := by decide +kernel
theorem dX8_outcome_10 : decode cX8_outcome 10 = .ok (.getfield 74, 3) := by decide +kernel
theorem dX8_outcome_13 : decode cX8_outcome 13 = .ok (.aload_n 0, 1) := by decide +kernel
theorem dX8_outcome_14 : decode cX8_outcome 14 = .ok (.getfield 9, 3) := by decide +kernel
theorem dX8_outcome_17 : decode cX8_outcome 17 = .ok (.invokestatic 77, 3) := by decide +kernel
theorem dX8_outcome_20 : decode cX8_outcome 20 = .ok (.istore_n 2, 1) := by decide +kernel
theorem dX8_outcome_21 : decode cX8_outcome 21 = .ok (.aload_n 1, 1) := by decide +kernel
theorem dX8_outcome_22 : decode cX8_outcome 22 = .ok (.getfield 81, 3) := by decide +kernel
theorem dX8_outcome_25 : decode cX8_outcome 25 = .ok (.aload_n 0, 1) := by decide +kernel
theorem dX8_outcome_26 : decode cX8_outcome 26 = .ok (.getfield 9, 3) := by decide +kernel
theorem dX8_outcome_29 : decode cX8_outcome 29 = .ok (.invokestatic 77, 3) := by decide +kernel
theorem dX8_outcome_32 : decode cX8_outcome 32 = .ok (.istore_n 3, 1) := by decide +kernel
theorem dX8_outcome_33 : decode cX8_outcome 33 = .ok (.aload_n 1, 1) := by decide +kernel
theorem dX8_outcome_34 : decode cX8_outcome 34 = .ok (.getfield 84, 3) := by decide +kernel
theorem dX8_outcome_37 : decode cX8_outcome 37 = .ok (.bipush 30, 2) := by decide +kernel
theorem dX8_outcome_39 : decode cX8_outcome 39 = .ok (.if_icmp .ne 16, 3) := by decide +kernel
theorem dX8_outcome_42 : decode cX8_outcome 42 = .ok (.iload_n 2, 1) := by decide +kernel
theorem dX8_outcome_43 : decode cX8_outcome 43 = .ok (.iload_n 3, 1) := by decide +kernel
theorem dX8_outcome_44 : decode cX8_outcome 44 = .ok (.if_icmp .ge 7, 3) := by decide +kernel
theorem dX8_outcome_47 : decode cX8_outcome 47 = .ok (.iconst 1, 1) := by decide +kernel
theorem dX8_outcome_48 : decode cX8_outcome 48 = .ok (.goto 39, 3) := by decide +kernel
theorem dX8_outcome_51 : decode cX8_outcome 51 = .ok (.iconst 0, 1) := by decide +kernel
theorem dX8_outcome_52 : decode cX8_outcome 52 = .ok (.goto 35, 3) := by decide +kernel
theorem dX8_outcome_55 : decode cX8_outcome 55 = .ok (.iload_n 2, 1) := by decide +kernel
theorem dX8_outcome_56 : decode cX8_outcome 56 = .ok (.iload_n 3, 1) := by decide +kernel
theorem dX8_outcome_57 : decode cX8_outcome 57 = .ok (.if_icmp .ne 7, 3) := by decide +kernel
theorem dX8_outcome_60 : decode cX8_outcome 60 = .ok (.iconst 1, 1) := by decide +kernel
theorem dX8_outcome_61 : decode cX8_outcome 61 = .ok (.goto 4, 3) := by decide +kernel
theorem dX8_outcome_64 : decode cX8_outcome 64 = .ok (.iconst 0, 1) := by decide +kernel
theorem dX8_outcome_65 : decode cX8_outcome 65 = .ok (.aload_n 1, 1) := by decide +kernel
theorem dX8_outcome_66 : decode cX8_outcome 66 = .ok (.getfield 84, 3) := by decide +kernel
theorem dX8_outcome_69 : decode cX8_outcome 69 = .ok (.bipush 28, 2) := by decide +kernel
theorem dX8_outcome_71 : decode cX8_outcome 71 = .ok (.if_icmp .ne 7, 3) := by decide +kernel
theorem dX8_outcome_74 : decode cX8_outcome 74 = .ok (.iconst 1, 1) := by decide +kernel
theorem dX8_outcome_75 : decode cX8_outcome 75 = .ok (.goto 4, 3) := by decide +kernel
theorem dX8_outcome_78 : decode cX8_outcome 78 = .ok (.iconst 0, 1) := by decide +kernel
theorem dX8_outcome_79 : decode cX8_outcome 79 = .ok (.if_icmp .ne 7, 3) := by decide +kernel
theorem dX8_outcome_82 : decode cX8_outcome 82 = .ok (.iconst 1, 1) := by decide +kernel
theorem dX8_outcome_83 : decode cX8_outcome 83 = .ok (.goto 4, 3) := by decide +kernel
theorem dX8_outcome_86 : decode cX8_outcome 86 = .ok (.iconst 0, 1) := by decide +kernel
theorem dX8_outcome_87 : decode cX8_outcome 87 = .ok (.istore 4, 2) := by decide +kernel
theorem dX8_outcome_89 : decode cX8_outcome 89 = .ok (.iload 4, 2) := by decide +kernel
theorem dX8_outcome_91 : decode cX8_outcome 91 = .ok (.ifCond .eq 7, 3) := by decide +kernel
theorem dX8_outcome_94 : decode cX8_outcome 94 = .ok (.iconst 0, 1) := by decide +kernel
theorem dX8_outcome_95 : decode cX8_outcome 95 = .ok (.goto 4, 3) := by decide +kernel
theorem dX8_outcome_98 : decode cX8_outcome 98 = .ok (.iconst (-1), 1) := by decide +kernel
theorem dX8_outcome_99 : decode cX8_outcome 99 = .ok (.ireturn, 1) := by decide +kernel
theorem dX8_outcome_100 : decode cX8_outcome 100 = .ok (.iconst 0, 1) := by decide +kernel
theorem dX8_outcome_101 : decode cX8_outcome 101 = .ok (.istore_n 2, 1) := by decide +kernel
theorem dX8_outcome_102 : decode cX8_outcome 102 = .ok (.iconst 0, 1) := by decide +kernel
theorem dX8_outcome_103 : decode cX8_outcome 103 = .ok (.istore_n 3, 1) := by decide +kernel
theorem dX8_outcome_104 : decode cX8_outcome 104 = .ok (.iconst 0, 1) := by decide +kernel
theorem dX8_outcome_105 : decode cX8_outcome 105 = .ok (.istore 4, 2) := by decide +kernel
theorem dX8_outcome_107 : decode cX8_outcome 107 = .ok (.iconst 0, 1) := by decide +kernel
theorem dX8_outcome_108 : decode cX8_outcome 108 = .ok (.istore 5, 2) := by decide +kernel
theorem dX8_outcome_110 : decode cX8_outcome 110 = .ok (.iload 5, 2) := by decide +kernel
theorem dX8_outcome_112 : decode cX8_outcome 112 = .ok (.bipush 16, 2) := by decide +kernel
theorem dX8_outcome_114 : decode cX8_outcome 114 = .ok (.if_icmp .ge 76, 3) := by decide +kernel
theorem dX8_outcome_117 : decode cX8_outcome 117 = .ok (.aload_n 0, 1) := by decide +kernel
theorem dX8_outcome_118 : decode cX8_outcome 118 = .ok (.getfield 18, 3) := by decide +kernel
theorem dX8_outcome_121 : decode cX8_outcome 121 = .ok (.getfield 87, 3) := by decide +kernel
theorem dX8_outcome_124 : decode cX8_outcome 124 = .ok (.iload 5, 2) := by decide +kernel
theorem dX8_outcome_126 : decode cX8_outcome 126 = .ok (.aaload, 1) := by decide +kernel
theorem dX8_outcome_127 : decode cX8_outcome 127 = .ok (.astore 6, 2) := by decide +kernel
theorem dX8_outcome_129 : decode cX8_outcome 129 = .ok (.aload_n 1, 1) := by decide +kernel
theorem dX8_outcome_130 : decode cX8_outcome 130 = .ok (.getfield 60, 3) := by decide +kernel
theorem dX8_outcome_133 : decode cX8_outcome 133 = .ok (.aload 6, 2) := by decide +kernel
theorem dX8_outcome_135 : decode cX8_outcome 135 = .ok (.aload_n 0, 1) := by decide +kernel
theorem dX8_outcome_136 : decode cX8_outcome 136 = .ok (.getfield 9, 3) := by decide +kernel
theorem dX8_outcome_139 : decode cX8_outcome 139 = .ok (.invokevirtual 64, 3) := by decide +kernel
theorem dX8_outcome_142 : decode cX8_outcome 142 = .ok (.ifCond .eq 24, 3) := by decide +kernel
theorem dX8_outcome_145 : decode cX8_outcome 145 = .ok (.iinc 2 1, 3) := by decide +kernel
theorem dX8_outcome_148 : decode cX8_outcome 148 = .ok (.iload 4, 2) := by decide +kernel
theorem dX8_outcome_150 : decode cX8_outcome 150 = .ok (.aload 6, 2) := by decide +kernel
theorem dX8_outcome_152 : decode cX8_outcome 152 = .ok (.getfield 92, 3) := by decide +kernel
theorem dX8_outcome_155 : decode cX8_outcome 155 = .ok (.aload_n 1, 1) := by decide +kernel
theorem dX8_outcome_156 : decode cX8_outcome 156 = .ok (.getfield 97, 3) := by decide +kernel
theorem dX8_outcome_159 : decode cX8_outcome 159 = .ok (.iaload, 1) := by decide +kernel
theorem dX8_outcome_160 : decode cX8_outcome 160 = .ok (.iadd, 1) := by decide +kernel
theorem dX8_outcome_161 : decode cX8_outcome 161 = .ok (.istore 4, 2) := by decide +kernel
theorem dX8_outcome_163 : decode cX8_outcome 163 = .ok (.goto 21, 3) := by decide +kernel
theorem dX8_outcome_166 : decode cX8_outcome 166 = .ok (.aload 6, 2) := by decide +kernel
theorem dX8_outcome_168 : decode cX8_outcome 168 = .ok (.getfield 100, 3) := by decide +kernel
theorem dX8_outcome_171 : decode cX8_outcome 171 = .ok (.aload_n 1, 1) := by decide +kernel
theorem dX8_outcome_172 : decode cX8_outcome 172 = .ok (.getfield 60, 3) := by decide +kernel
theorem dX8_outcome_175 : decode cX8_outcome 175 = .ok (.getfield 103, 3) := by decide +kernel
theorem dX8_outcome_178 : decode cX8_outcome 178 = .ok (.if_icmp .ne 6, 3) := by decide +kernel
theorem dX8_outcome_181 : decode cX8_outcome 181 = .ok (.iinc 3 1, 3) := by decide +kernel
theorem dX8_outcome_184 : decode cX8_outcome 184 = .ok (.iinc 5 1, 3) := by decide +kernel
theorem dX8_outcome_187 : decode cX8_outcome 187 = .ok (.goto (-77), 3) := by decide +kernel
theorem dX8_outcome_190 : decode cX8_outcome 190 = .ok (.aload_n 1, 1) := by decide +kernel
theorem dX8_outcome_191 : decode cX8_outcome 191 = .ok (.getfield 43, 3) := by decide +kernel
theorem dX8_outcome_194 : decode cX8_outcome 194 = .ok (.iconst 4, 1) := by decide +kernel
theorem dX8_outcome_195 : decode cX8_outcome 195 = .ok (.if_icmp .eq 11, 3) := by decide +kernel
theorem dX8_outcome_198 : decode cX8_outcome 198 = .ok (.aload_n 1, 1) := by decide +kernel
theorem dX8_outcome_199 : decode cX8_outcome 199 = .ok (.getfield 43, 3) := by decide +kernel
theorem dX8_outcome_202 : decode cX8_outcome 202 = .ok (.iconst 5, 1) := by decide +kernel
theorem dX8_outcome_203 : decode cX8_outcome 203 = .ok (.if_icmp .ne 64, 3) := by decide +kernel
theorem dX8_outcome_206 : decode cX8_outcome 206 = .ok (.aload_n 1, 1) := by decide +kernel
theorem dX8_outcome_207 : decode cX8_outcome 207 = .ok (.getfield 43, 3) := by decide +kernel
theorem dX8_outcome_210 : decode cX8_outcome 210 = .ok (.iconst 5, 1) := by decide +kernel
theorem dX8_outcome_211 : decode cX8_outcome 211 = .ok (.if_icmp .ne 8, 3) := by decide +kernel
theorem dX8_outcome_214 : decode cX8_outcome 214 = .ok (.iload 4, 2) := by decide +kernel
theorem dX8_outcome_216 : decode cX8_outcome 216 = .ok (.goto 4, 3) := by decide +kernel
theorem dX8_outcome_219 : decode cX8_outcome 219 = .ok (.iload_n 2, 1) := by decide +kernel
theorem dX8_outcome_220 : decode cX8_outcome 220 = .ok (.istore 5, 2) := by decide +kernel
theorem dX8_outcome_222 : decode cX8_outcome 222 = .ok (.aload_n 1, 1) := by decide +kernel
theorem dX8_outcome_223 : decode cX8_outcome 223 = .ok (.getfield 104, 3) := by decide +kernel
theorem dX8_outcome_226 : decode cX8_outcome 226 = .ok (.ifCond .eq 17, 3) := by decide +kernel
theorem dX8_outcome_229 : decode cX8_outcome 229 = .ok (.aload_n 0, 1) := by decide +kernel
theorem dX8_outcome_230 : decode cX8_outcome 230 = .ok (.getfield 9, 3) := by decide +kernel
theorem dX8_outcome_233 : decode cX8_outcome 233 = .ok (.aload_n 1, 1) := by decide +kernel
theorem dX8_outcome_234 : decode cX8_outcome 234 = .ok (.getfield 74, 3) := by decide +kernel
theorem dX8_outcome_237 : decode cX8_outcome 237 = .ok (.bipush 16, 2) := by decide +kernel
theorem dX8_outcome_239 : decode cX8_outcome 239 = .ok (.isub, 1) := by decide +kernel
theorem dX8_outcome_240 : decode cX8_outcome 240 = .ok (.iload 5, 2) := by decide +kernel
theorem dX8_outcome_242 : decode cX8_outcome 242 = .ok (.iastore, 1) := by decide +kernel
theorem dX8_outcome_243 : decode cX8_outcome 243 = .ok (.aload_n 0, 1) := by decide +kernel
theorem dX8_outcome_244 : decode cX8_outcome 244 = .ok (.getfield 9, 3) := by decide +kernel
theorem dX8_outcome_247 : decode cX8_outcome 247 = .ok (.aload_n 1, 1) := by decide +kernel
theorem dX8_outcome_248 : decode cX8_outcome 248 = .ok (.getfield 74, 3) := by decide +kernel
theorem dX8_outcome_251 : decode cX8_outcome 251 = .ok (.bipush 16, 2) := by decide +kernel
theorem dX8_outcome_253 : decode cX8_outcome 253 = .ok (.isub, 1) := by decide +kernel
theorem dX8_outcome_254 : decode cX8_outcome 254 = .ok (.iaload, 1) := by decide +kernel
theorem dX8_outcome_255 : decode cX8_outcome 255 = .ok (.iload 5, 2) := by decide +kernel
theorem dX8_outcome_257 : decode cX8_outcome 257 = .ok (.if_icmp .ne 8, 3) := by decide +kernel
theorem dX8_outcome_260 : decode cX8_outcome 260 = .ok (.iload 5, 2) := by decide +kernel
theorem dX8_outcome_262 : decode cX8_outcome 262 = .ok (.goto 4, 3) := by decide +kernel
theorem dX8_outcome_265 : decode cX8_outcome 265 = .ok (.iconst (-1), 1) := by decide +kernel
theorem dX8_outcome_266 : decode cX8_outcome 266 = .ok (.ireturn, 1) := by decide +kernel
theorem dX8_outcome_267 : decode cX8_outcome 267 = .ok (.aload_n 1, 1) := by decide +kernel
theorem dX8_outcome_268 : decode cX8_outcome 268 = .ok (.getfield 43, 3) := by decide +kernel
theorem dX8_outcome_271 : decode cX8_outcome 271 = .ok (.iconst 2, 1) := by decide +kernel
theorem dX8_outcome_272 : decode cX8_outcome 272 = .ok (.if_icmp .ne 15, 3) := by decide +kernel
theorem dX8_outcome_275 : decode cX8_outcome 275 = .ok (.iload_n 2, 1) := by decide +kernel
theorem dX8_outcome_276 : decode cX8_outcome 276 = .ok (.ifCond .le 7, 3) := by decide +kernel
theorem dX8_outcome_279 : decode cX8_outcome 279 = .ok (.iconst 1, 1) := by decide +kernel
theorem dX8_outcome_280 : decode cX8_outcome 280 = .ok (.goto 28, 3) := by decide +kernel
theorem dX8_outcome_283 : decode cX8_outcome 283 = .ok (.iconst 0, 1) := by decide +kernel
theorem dX8_outcome_284 : decode cX8_outcome 284 = .ok (.goto 24, 3) := by decide +kernel
theorem dX8_outcome_287 : decode cX8_outcome 287 = .ok (.aload_n 1, 1) := by decide +kernel
theorem dX8_outcome_288 : decode cX8_outcome 288 = .ok (.getfield 43, 3) := by decide +kernel
theorem dX8_outcome_291 : decode cX8_outcome 291 = .ok (.iconst 3, 1) := by decide +kernel
theorem dX8_outcome_292 : decode cX8_outcome 292 = .ok (.if_icmp .ne 7, 3) := by decide +kernel
theorem dX8_outcome_295 : decode cX8_outcome 295 = .ok (.iload_n 3, 1) := by decide +kernel
theorem dX8_outcome_296 : decode cX8_outcome 296 = .ok (.goto 4, 3) := by decide +kernel
theorem dX8_outcome_299 : decode cX8_outcome 299 = .ok (.iload_n 2, 1) := by decide +kernel
theorem dX8_outcome_300 : decode cX8_outcome 300 = .ok (.ifCond .ne 7, 3) := by decide +kernel
theorem dX8_outcome_303 : decode cX8_outcome 303 = .ok (.iconst 1, 1) := by decide +kernel
theorem dX8_outcome_304 : decode cX8_outcome 304 = .ok (.goto 4, 3) := by decide +kernel
theorem dX8_outcome_307 : decode cX8_outcome 307 = .ok (.iconst 0, 1) := by decide +kernel
theorem dX8_outcome_308 : decode cX8_outcome 308 = .ok (.istore 5, 2) := by decide +kernel
theorem dX8_outcome_310 : decode cX8_outcome 310 = .ok (.iload 5, 2) := by decide +kernel
theorem dX8_outcome_312 : decode cX8_outcome 312 = .ok (.ifCond .eq 7, 3) := by decide +kernel
theorem dX8_outcome_315 : decode cX8_outcome 315 = .ok (.iconst 0, 1) := by decide +kernel
theorem dX8_outcome_316 : decode cX8_outcome 316 = .ok (.goto 4, 3) := by decide +kernel
theorem dX8_outcome_319 : decode cX8_outcome 319 = .ok (.iconst (-1), 1) := by decide +kernel
theorem dX8_outcome_320 : decode cX8_outcome 320 = .ok (.ireturn, 1) := by decide +kernel
theorem ggq : GoodIn wqX8_outcome (wsV RX8 64 RX0 yX0_fits wqX0_fits) := goodIn_sub (by decide +kernel) (by decide +kernel)
set_option maxHeartbeats 40000000 in
set_option maxRecDepth 100000 in
/-- Search.outcome on a Matches, not for a TEST -/
theorem kX8_outcome (l : Launch) (dC : Nat → ClassId) (dI : Nat → Nat → Nat) (sz : Nat) (h0 h1 ao wt st fa g po sg : Nat) (mr sr : List Value) (cw cf cg : ClassId) (so le ri rl nw fa_ kd e12 e13 e23 ps ie : Int32) (w vs : Nat → Int32) (fo va : Nat → Nat) (ca : Nat → ClassId) (nm fk mi td : Nat → Int32) (v : Nat → Nat → Int32) (hso : so ≠ 6) (hat : vp_in fa_ 3) (hle : so = 4 ∨ so = 5 → vp_in (le - 16) 6) : Met l yX8_outcome wqX8_outcome ({ frames := 1, cells := 0, slots := 0, locals := 24 }) (va_Pc [.ref h0, .ref h1] (fun U => U.heap.size = sz ∧ va_P (dC, dI) CL [(h0, .inr (4, .ref st :: .ref po :: .int ps :: .int ie :: .ref g :: mr)), (h1, .inr (5, [.int so, .ref ao, .int le, .int ri, .int rl, .int nw, .int fa_])), (ao, .inr (0, [.int kd, .ref sg, .ref wt, .int e12, .int e13, .int e23])), (wt, .inl (cw, 3, .inl w)), (st, .inr (8, .ref fa :: sr)), (fa, .inl (cf, 16, .inr (.inr (.inr (.inr (fun j => some (fo j))))))), (g, .inl (cg, 6, .inl vs)), ((fo 0), .inr (2, [.int (nm 0), .int (fk 0), .ref (va 0), .int (mi 0), .int (td 0)])), ((va 0), .inl ((ca 0), 3, .inl (v 0))), ((fo 1), .inr (2, [.int (nm 1), .int (fk 1), .ref (va 1), .int (mi 1), .int (td 1)])), ((va 1), .inl ((ca 1), 3, .inl (v 1))), ((fo 2), .inr (2, [.int (nm 2), .int (fk 2), .ref (va 2), .int (mi 2), .int (td 2)])), ((va 2), .inl ((ca 2), 3, .inl (v 2))), ((fo 3), .inr (2, [.int (nm 3), .int (fk 3), .ref (va 3), .int (mi 3), .int (td 3)])), ((va 3), .inl ((ca 3), 3, .inl (v 3))), ((fo 4), .inr (2, [.int (nm 4), .int (fk 4), .ref (va 4), .int (mi 4), .int (td 4)])), ((va 4), .inl ((ca 4), 3, .inl (v 4))), ((fo 5), .inr (2, [.int (nm 5), .int (fk 5), .ref (va 5), .int (mi 5), .int (td 5)])), ((va 5), .inl ((ca 5), 3, .inl (v 5))), ((fo 6), .inr (2, [.int (nm 6), .int (fk 6), .ref (va 6), .int (mi 6), .int (td 6)])), ((va 6), .inl ((ca 6), 3, .inl (v 6))), ((fo 7), .inr (2, [.int (nm 7), .int (fk 7), .ref (va 7), .int (mi 7), .int (td 7)])), ((va 7), .inl ((ca 7), 3, .inl (v 7))), ((fo 8), .inr (2, [.int (nm 8), .int (fk 8), .ref (va 8), .int (mi 8), .int (td 8)])), ((va 8), .inl ((ca 8), 3, .inl (v 8))), ((fo 9), .inr (2, [.int (nm 9), .int (fk 9), .ref (va 9), .int (mi 9), .int (td 9)])), ((va 9), .inl ((ca 9), 3, .inl (v 9))), ((fo 10), .inr (2, [.int (nm 10), .int (fk 10), .ref (va 10), .int (mi 10), .int (td 10)])), ((va 10), .inl ((ca 10), 3, .inl (v 10))), ((fo 11), .inr (2, [.int (nm 11), .int (fk 11), .ref (va 11), .int (mi 11), .int (td 11)])), ((va 11), .inl ((ca 11), 3, .inl (v 11))), ((fo 12), .inr (2, [.int (nm 12), .int (fk 12), .ref (va 12), .int (mi 12), .int (td 12)])), ((va 12), .inl ((ca 12), 3, .inl (v 12))), ((fo 13), .inr (2, [.int (nm 13), .int (fk 13), .ref (va 13), .int (mi 13), .int (td 13)])), ((va 13), .inl ((ca 13), 3, .inl (v 13))), ((fo 14), .inr (2, [.int (nm 14), .int (fk 14), .ref (va 14), .int (mi 14), .int (td 14)])), ((va 14), .inl ((ca 14), 3, .inl (v 14))), ((fo 15), .inr (2, [.int (nm 15), .int (fk 15), .ref (va 15), .int (mi 15), .int (td 15)])), ((va 15), .inl ((ca 15), 3, .inl (v 15)))] U.heap ∧ va_K (dC, dI) CL [(cw, .int), (cf, .object RX2), (cg, .int), ((ca 0), .int), ((ca 1), .int), ((ca 2), .int), ((ca 3), .int), ((ca 4), .int), ((ca 5), .int), ((ca 6), .int), ((ca 7), .int), ((ca 8), .int), ((ca 9), .int), ((ca 10), .int), ((ca 11), .int), ((ca 12), .int), ((ca 13), .int), ((ca 14), .int), ((ca 15), .int)] U ∧ va_D (fun _ => True) [(h0, .inr (4, .ref st :: .ref po :: .int ps :: .int ie :: .ref g :: mr)), (h1, .inr (5, [.int so, .ref ao, .int le, .int ri, .int rl, .int nw, .int fa_])), (ao, .inr (0, [.int kd, .ref sg, .ref wt, .int e12, .int e13, .int e23])), (wt, .inl (cw, 3, .inl w)), (st, .inr (8, .ref fa :: sr)), (fa, .inl (cf, 16, .inr (.inr (.inr (.inr (fun j => some (fo j))))))), (g, .inl (cg, 6, .inl vs)), ((fo 0), .inr (2, [.int (nm 0), .int (fk 0), .ref (va 0), .int (mi 0), .int (td 0)])), ((va 0), .inl ((ca 0), 3, .inl (v 0))), ((fo 1), .inr (2, [.int (nm 1), .int (fk 1), .ref (va 1), .int (mi 1), .int (td 1)])), ((va 1), .inl ((ca 1), 3, .inl (v 1))), ((fo 2), .inr (2, [.int (nm 2), .int (fk 2), .ref (va 2), .int (mi 2), .int (td 2)])), ((va 2), .inl ((ca 2), 3, .inl (v 2))), ((fo 3), .inr (2, [.int (nm 3), .int (fk 3), .ref (va 3), .int (mi 3), .int (td 3)])), ((va 3), .inl ((ca 3), 3, .inl (v 3))), ((fo 4), .inr (2, [.int (nm 4), .int (fk 4), .ref (va 4), .int (mi 4), .int (td 4)])), ((va 4), .inl ((ca 4), 3, .inl (v 4))), ((fo 5), .inr (2, [.int (nm 5), .int (fk 5), .ref (va 5), .int (mi 5), .int (td 5)])), ((va 5), .inl ((ca 5), 3, .inl (v 5))), ((fo 6), .inr (2, [.int (nm 6), .int (fk 6), .ref (va 6), .int (mi 6), .int (td 6)])), ((va 6), .inl ((ca 6), 3, .inl (v 6))), ((fo 7), .inr (2, [.int (nm 7), .int (fk 7), .ref (va 7), .int (mi 7), .int (td 7)])), ((va 7), .inl ((ca 7), 3, .inl (v 7))), ((fo 8), .inr (2, [.int (nm 8), .int (fk 8), .ref (va 8), .int (mi 8), .int (td 8)])), ((va 8), .inl ((ca 8), 3, .inl (v 8))), ((fo 9), .inr (2, [.int (nm 9), .int (fk 9), .ref (va 9), .int (mi 9), .int (td 9)])), ((va 9), .inl ((ca 9), 3, .inl (v 9))), ((fo 10), .inr (2, [.int (nm 10), .int (fk 10), .ref (va 10), .int (mi 10), .int (td 10)])), ((va 10), .inl ((ca 10), 3, .inl (v 10))), ((fo 11), .inr (2, [.int (nm 11), .int (fk 11), .ref (va 11), .int (mi 11), .int (td 11)])), ((va 11), .inl ((ca 11), 3, .inl (v 11))), ((fo 12), .inr (2, [.int (nm 12), .int (fk 12), .ref (va 12), .int (mi 12), .int (td 12)])), ((va 12), .inl ((ca 12), 3, .inl (v 12))), ((fo 13), .inr (2, [.int (nm 13), .int (fk 13), .ref (va 13), .int (mi 13), .int (td 13)])), ((va 13), .inl ((ca 13), 3, .inl (v 13))), ((fo 14), .inr (2, [.int (nm 14), .int (fk 14), .ref (va 14), .int (mi 14), .int (td 14)])), ((va 14), .inl ((ca 14), 3, .inl (v 14))), ((fo 15), .inr (2, [.int (nm 15), .int (fk 15), .ref (va 15), .int (mi 15), .int (td 15)])), ((va 15), .inl ((ca 15), 3, .inl (v 15)))])) (va_Qi (fun (r : Int32) (u : Nat → Int32) => (u = if (so = 4 ∨ so = 5) ∧ nw ≠ 0 then upd vs (le - 16).toNatClampNeg (if so = 5 then lf_sum (fun k => decide (lf_fit kd e12 e13 e23 w vs (fk k) (v k))) (fun k => v k fa_.toNatClampNeg) 16 else lf_cnt (fun k => decide (lf_fit kd e12 e13 e23 w vs (fk k) (v k))) 16) else vs) ∧ r = if so = 4 ∨ so = 5 then (if u (le - 16).toNatClampNeg = (if so = 5 then lf_sum (fun k => decide (lf_fit kd e12 e13 e23 w vs (fk k) (v k))) (fun k => v k fa_.toNatClampNeg) 16 else lf_cnt (fun k => decide (lf_fit kd e12 e13 e23 w vs (fk k) (v k))) 16) then (if so = 5 then lf_sum (fun k => decide (lf_fit kd e12 e13 e23 w vs (fk k) (v k))) (fun k => v k fa_.toNatClampNeg) 16 else lf_cnt (fun k => decide (lf_fit kd e12 e13 e23 w vs (fk k) (v k))) 16) else -1) else if (if so = 2 then 0 < lf_cnt (fun k => decide (lf_fit kd e12 e13 e23 w vs (fk k) (v k))) 16 else (if so = 3 then lf_cnt (fun k => !decide (lf_fit kd e12 e13 e23 w vs (fk k) (v k)) && decide (fk k = kd)) 16 else lf_cnt (fun k => decide (lf_fit kd e12 e13 e23 w vs (fk k) (v k))) 16) = 0) then 0 else -1) (fun u t => va_P (dC, dI) CL [(h0, .inr (4, .ref st :: .ref po :: .int ps :: .int ie :: .ref g :: mr)), (h1, .inr (5, [.int so, .ref ao, .int le, .int ri, .int rl, .int nw, .int fa_])), (ao, .inr (0, [.int kd, .ref sg, .ref wt, .int e12, .int e13, .int e23])), (wt, .inl (cw, 3, .inl w)), (st, .inr (8, .ref fa :: sr)), (fa, .inl (cf, 16, .inr (.inr (.inr (.inr (fun j => some (fo j))))))), (g, .inl (cg, 6, .inl u)), ((fo 0), .inr (2, [.int (nm 0), .int (fk 0), .ref (va 0), .int (mi 0), .int (td 0)])), ((va 0), .inl ((ca 0), 3, .inl (v 0))), ((fo 1), .inr (2, [.int (nm 1), .int (fk 1), .ref (va 1), .int (mi 1), .int (td 1)])), ((va 1), .inl ((ca 1), 3, .inl (v 1))), ((fo 2), .inr (2, [.int (nm 2), .int (fk 2), .ref (va 2), .int (mi 2), .int (td 2)])), ((va 2), .inl ((ca 2), 3, .inl (v 2))), ((fo 3), .inr (2, [.int (nm 3), .int (fk 3), .ref (va 3), .int (mi 3), .int (td 3)])), ((va 3), .inl ((ca 3), 3, .inl (v 3))), ((fo 4), .inr (2, [.int (nm 4), .int (fk 4), .ref (va 4), .int (mi 4), .int (td 4)])), ((va 4), .inl ((ca 4), 3, .inl (v 4))), ((fo 5), .inr (2, [.int (nm 5), .int (fk 5), .ref (va 5), .int (mi 5), .int (td 5)])), ((va 5), .inl ((ca 5), 3, .inl (v 5))), ((fo 6), .inr (2, [.int (nm 6), .int (fk 6), .ref (va 6), .int (mi 6), .int (td 6)])), ((va 6), .inl ((ca 6), 3, .inl (v 6))), ((fo 7), .inr (2, [.int (nm 7), .int (fk 7), .ref (va 7), .int (mi 7), .int (td 7)])), ((va 7), .inl ((ca 7), 3, .inl (v 7))), ((fo 8), .inr (2, [.int (nm 8), .int (fk 8), .ref (va 8), .int (mi 8), .int (td 8)])), ((va 8), .inl ((ca 8), 3, .inl (v 8))), ((fo 9), .inr (2, [.int (nm 9), .int (fk 9), .ref (va 9), .int (mi 9), .int (td 9)])), ((va 9), .inl ((ca 9), 3, .inl (v 9))), ((fo 10), .inr (2, [.int (nm 10), .int (fk 10), .ref (va 10), .int (mi 10), .int (td 10)])), ((va 10), .inl ((ca 10), 3, .inl (v 10))), ((fo 11), .inr (2, [.int (nm 11), .int (fk 11), .ref (va 11), .int (mi 11), .int (td 11)])), ((va 11), .inl ((ca 11), 3, .inl (v 11))), ((fo 12), .inr (2, [.int (nm 12), .int (fk 12), .ref (va 12), .int (mi 12), .int (td 12)])), ((va 12), .inl ((ca 12), 3, .inl (v 12))), ((fo 13), .inr (2, [.int (nm 13), .int (fk 13), .ref (va 13), .int (mi 13), .int (td 13)])), ((va 13), .inl ((ca 13), 3, .inl (v 13))), ((fo 14), .inr (2, [.int (nm 14), .int (fk 14), .ref (va 14), .int (mi 14), .int (td 14)])), ((va 14), .inl ((ca 14), 3, .inl (v 14))), ((fo 15), .inr (2, [.int (nm 15), .int (fk 15), .ref (va 15), .int (mi 15), .int (td 15)])), ((va 15), .inl ((ca 15), 3, .inl (v 15)))] t.heap ∧ va_K (dC, dI) CL [(cw, .int), (cf, .object RX2), (cg, .int), ((ca 0), .int), ((ca 1), .int), ((ca 2), .int), ((ca 3), .int), ((ca 4), .int), ((ca 5), .int), ((ca 6), .int), ((ca 7), .int), ((ca 8), .int), ((ca 9), .int), ((ca 10), .int), ((ca 11), .int), ((ca 12), .int), ((ca 13), .int), ((ca 14), .int), ((ca 15), .int)] t ∧ va_D (va_A [(h0, .inr (4, .ref st :: .ref po :: .int ps :: .int ie :: .ref g :: mr)), (h1, .inr (5, [.int so, .ref ao, .int le, .int ri, .int rl, .int nw, .int fa_])), (ao, .inr (0, [.int kd, .ref sg, .ref wt, .int e12, .int e13, .int e23])), (wt, .inl (cw, 3, .inl w)), (st, .inr (8, .ref fa :: sr)), (fa, .inl (cf, 16, .inr (.inr (.inr (.inr (fun j => some (fo j))))))), (g, .inl (cg, 6, .inl vs)), ((fo 0), .inr (2, [.int (nm 0), .int (fk 0), .ref (va 0), .int (mi 0), .int (td 0)])), ((va 0), .inl ((ca 0), 3, .inl (v 0))), ((fo 1), .inr (2, [.int (nm 1), .int (fk 1), .ref (va 1), .int (mi 1), .int (td 1)])), ((va 1), .inl ((ca 1), 3, .inl (v 1))), ((fo 2), .inr (2, [.int (nm 2), .int (fk 2), .ref (va 2), .int (mi 2), .int (td 2)])), ((va 2), .inl ((ca 2), 3, .inl (v 2))), ((fo 3), .inr (2, [.int (nm 3), .int (fk 3), .ref (va 3), .int (mi 3), .int (td 3)])), ((va 3), .inl ((ca 3), 3, .inl (v 3))), ((fo 4), .inr (2, [.int (nm 4), .int (fk 4), .ref (va 4), .int (mi 4), .int (td 4)])), ((va 4), .inl ((ca 4), 3, .inl (v 4))), ((fo 5), .inr (2, [.int (nm 5), .int (fk 5), .ref (va 5), .int (mi 5), .int (td 5)])), ((va 5), .inl ((ca 5), 3, .inl (v 5))), ((fo 6), .inr (2, [.int (nm 6), .int (fk 6), .ref (va 6), .int (mi 6), .int (td 6)])), ((va 6), .inl ((ca 6), 3, .inl (v 6))), ((fo 7), .inr (2, [.int (nm 7), .int (fk 7), .ref (va 7), .int (mi 7), .int (td 7)])), ((va 7), .inl ((ca 7), 3, .inl (v 7))), ((fo 8), .inr (2, [.int (nm 8), .int (fk 8), .ref (va 8), .int (mi 8), .int (td 8)])), ((va 8), .inl ((ca 8), 3, .inl (v 8))), ((fo 9), .inr (2, [.int (nm 9), .int (fk 9), .ref (va 9), .int (mi 9), .int (td 9)])), ((va 9), .inl ((ca 9), 3, .inl (v 9))), ((fo 10), .inr (2, [.int (nm 10), .int (fk 10), .ref (va 10), .int (mi 10), .int (td 10)])), ((va 10), .inl ((ca 10), 3, .inl (v 10))), ((fo 11), .inr (2, [.int (nm 11), .int (fk 11), .ref (va 11), .int (mi 11), .int (td 11)])), ((va 11), .inl ((ca 11), 3, .inl (v 11))), ((fo 12), .inr (2, [.int (nm 12), .int (fk 12), .ref (va 12), .int (mi 12), .int (td 12)])), ((va 12), .inl ((ca 12), 3, .inl (v 12))), ((fo 13), .inr (2, [.int (nm 13), .int (fk 13), .ref (va 13), .int (mi 13), .int (td 13)])), ((va 13), .inl ((ca 13), 3, .inl (v 13))), ((fo 14), .inr (2, [.int (nm 14), .int (fk 14), .ref (va 14), .int (mi 14), .int (td 14)])), ((va 14), .inl ((ca 14), 3, .inl (v 14))), ((fo 15), .inr (2, [.int (nm 15), .int (fk 15), .ref (va 15), .int (mi 15), .int (td 15)])), ((va 15), .inl ((ca 15), 3, .inl (v 15)))] sz) [(h0, .inr (4, .ref st :: .ref po :: .int ps :: .int ie :: .ref g :: mr)), (h1, .inr (5, [.int so, .ref ao, .int le, .int ri, .int rl, .int nw, .int fa_])), (ao, .inr (0, [.int kd, .ref sg, .ref wt, .int e12, .int e13, .int e23])), (wt, .inl (cw, 3, .inl w)), (st, .inr (8, .ref fa :: sr)), (fa, .inl (cf, 16, .inr (.inr (.inr (.inr (fun j => some (fo j))))))), (g, .inl (cg, 6, .inl u)), ((fo 0), .inr (2, [.int (nm 0), .int (fk 0), .ref (va 0), .int (mi 0), .int (td 0)])), ((va 0), .inl ((ca 0), 3, .inl (v 0))), ((fo 1), .inr (2, [.int (nm 1), .int (fk 1), .ref (va 1), .int (mi 1), .int (td 1)])), ((va 1), .inl ((ca 1), 3, .inl (v 1))), ((fo 2), .inr (2, [.int (nm 2), .int (fk 2), .ref (va 2), .int (mi 2), .int (td 2)])), ((va 2), .inl ((ca 2), 3, .inl (v 2))), ((fo 3), .inr (2, [.int (nm 3), .int (fk 3), .ref (va 3), .int (mi 3), .int (td 3)])), ((va 3), .inl ((ca 3), 3, .inl (v 3))), ((fo 4), .inr (2, [.int (nm 4), .int (fk 4), .ref (va 4), .int (mi 4), .int (td 4)])), ((va 4), .inl ((ca 4), 3, .inl (v 4))), ((fo 5), .inr (2, [.int (nm 5), .int (fk 5), .ref (va 5), .int (mi 5), .int (td 5)])), ((va 5), .inl ((ca 5), 3, .inl (v 5))), ((fo 6), .inr (2, [.int (nm 6), .int (fk 6), .ref (va 6), .int (mi 6), .int (td 6)])), ((va 6), .inl ((ca 6), 3, .inl (v 6))), ((fo 7), .inr (2, [.int (nm 7), .int (fk 7), .ref (va 7), .int (mi 7), .int (td 7)])), ((va 7), .inl ((ca 7), 3, .inl (v 7))), ((fo 8), .inr (2, [.int (nm 8), .int (fk 8), .ref (va 8), .int (mi 8), .int (td 8)])), ((va 8), .inl ((ca 8), 3, .inl (v 8))), ((fo 9), .inr (2, [.int (nm 9), .int (fk 9), .ref (va 9), .int (mi 9), .int (td 9)])), ((va 9), .inl ((ca 9), 3, .inl (v 9))), ((fo 10), .inr (2, [.int (nm 10), .int (fk 10), .ref (va 10), .int (mi 10), .int (td 10)])), ((va 10), .inl ((ca 10), 3, .inl (v 10))), ((fo 11), .inr (2, [.int (nm 11), .int (fk 11), .ref (va 11), .int (mi 11), .int (td 11)])), ((va 11), .inl ((ca 11), 3, .inl (v 11))), ((fo 12), .inr (2, [.int (nm 12), .int (fk 12), .ref (va 12), .int (mi 12), .int (td 12)])), ((va 12), .inl ((ca 12), 3, .inl (v 12))), ((fo 13), .inr (2, [.int (nm 13), .int (fk 13), .ref (va 13), .int (mi 13), .int (td 13)])), ((va 13), .inl ((ca 13), 3, .inl (v 13))), ((fo 14), .inr (2, [.int (nm 14), .int (fk 14), .ref (va 14), .int (mi 14), .int (td 14)])), ((va 14), .inl ((ca 14), 3, .inl (v 14))), ((fo 15), .inr (2, [.int (nm 15), .int (fk 15), .ref (va 15), .int (mi 15), .int (td 15)])), ((va 15), .inl ((ca 15), 3, .inl (v 15)))]) (va_A [(h0, .inr (4, .ref st :: .ref po :: .int ps :: .int ie :: .ref g :: mr)), (h1, .inr (5, [.int so, .ref ao, .int le, .int ri, .int rl, .int nw, .int fa_])), (ao, .inr (0, [.int kd, .ref sg, .ref wt, .int e12, .int e13, .int e23])), (wt, .inl (cw, 3, .inl w)), (st, .inr (8, .ref fa :: sr)), (fa, .inl (cf, 16, .inr (.inr (.inr (.inr (fun j => some (fo j))))))), (g, .inl (cg, 6, .inl vs)), ((fo 0), .inr (2, [.int (nm 0), .int (fk 0), .ref (va 0), .int (mi 0), .int (td 0)])), ((va 0), .inl ((ca 0), 3, .inl (v 0))), ((fo 1), .inr (2, [.int (nm 1), .int (fk 1), .ref (va 1), .int (mi 1), .int (td 1)])), ((va 1), .inl ((ca 1), 3, .inl (v 1))), ((fo 2), .inr (2, [.int (nm 2), .int (fk 2), .ref (va 2), .int (mi 2), .int (td 2)])), ((va 2), .inl ((ca 2), 3, .inl (v 2))), ((fo 3), .inr (2, [.int (nm 3), .int (fk 3), .ref (va 3), .int (mi 3), .int (td 3)])), ((va 3), .inl ((ca 3), 3, .inl (v 3))), ((fo 4), .inr (2, [.int (nm 4), .int (fk 4), .ref (va 4), .int (mi 4), .int (td 4)])), ((va 4), .inl ((ca 4), 3, .inl (v 4))), ((fo 5), .inr (2, [.int (nm 5), .int (fk 5), .ref (va 5), .int (mi 5), .int (td 5)])), ((va 5), .inl ((ca 5), 3, .inl (v 5))), ((fo 6), .inr (2, [.int (nm 6), .int (fk 6), .ref (va 6), .int (mi 6), .int (td 6)])), ((va 6), .inl ((ca 6), 3, .inl (v 6))), ((fo 7), .inr (2, [.int (nm 7), .int (fk 7), .ref (va 7), .int (mi 7), .int (td 7)])), ((va 7), .inl ((ca 7), 3, .inl (v 7))), ((fo 8), .inr (2, [.int (nm 8), .int (fk 8), .ref (va 8), .int (mi 8), .int (td 8)])), ((va 8), .inl ((ca 8), 3, .inl (v 8))), ((fo 9), .inr (2, [.int (nm 9), .int (fk 9), .ref (va 9), .int (mi 9), .int (td 9)])), ((va 9), .inl ((ca 9), 3, .inl (v 9))), ((fo 10), .inr (2, [.int (nm 10), .int (fk 10), .ref (va 10), .int (mi 10), .int (td 10)])), ((va 10), .inl ((ca 10), 3, .inl (v 10))), ((fo 11), .inr (2, [.int (nm 11), .int (fk 11), .ref (va 11), .int (mi 11), .int (td 11)])), ((va 11), .inl ((ca 11), 3, .inl (v 11))), ((fo 12), .inr (2, [.int (nm 12), .int (fk 12), .ref (va 12), .int (mi 12), .int (td 12)])), ((va 12), .inl ((ca 12), 3, .inl (v 12))), ((fo 13), .inr (2, [.int (nm 13), .int (fk 13), .ref (va 13), .int (mi 13), .int (td 13)])), ((va 13), .inl ((ca 13), 3, .inl (v 13))), ((fo 14), .inr (2, [.int (nm 14), .int (fk 14), .ref (va 14), .int (mi 14), .int (td 14)])), ((va 14), .inl ((ca 14), 3, .inl (v 14))), ((fo 15), .inr (2, [.int (nm 15), .int (fk 15), .ref (va 15), .int (mi 15), .int (td 15)])), ((va 15), .inl ((ca 15), 3, .inl (v 15)))] sz)) 0 0 (va_A [(h0, .inr (4, .ref st :: .ref po :: .int ps :: .int ie :: .ref g :: mr)), (h1, .inr (5, [.int so, .ref ao, .int le, .int ri, .int rl, .int nw, .int fa_])), (ao, .inr (0, [.int kd, .ref sg, .ref wt, .int e12, .int e13, .int e23])), (wt, .inl (cw, 3, .inl w)), (st, .inr (8, .ref fa :: sr)), (fa, .inl (cf, 16, .inr (.inr (.inr (.inr (fun j => some (fo j))))))), (g, .inl (cg, 6, .inl vs)), ((fo 0), .inr (2, [.int (nm 0), .int (fk 0), .ref (va 0), .int (mi 0), .int (td 0)])), ((va 0), .inl ((ca 0), 3, .inl (v 0))), ((fo 1), .inr (2, [.int (nm 1), .int (fk 1), .ref (va 1), .int (mi 1), .int (td 1)])), ((va 1), .inl ((ca 1), 3, .inl (v 1))), ((fo 2), .inr (2, [.int (nm 2), .int (fk 2), .ref (va 2), .int (mi 2), .int (td 2)])), ((va 2), .inl ((ca 2), 3, .inl (v 2))), ((fo 3), .inr (2, [.int (nm 3), .int (fk 3), .ref (va 3), .int (mi 3), .int (td 3)])), ((va 3), .inl ((ca 3), 3, .inl (v 3))), ((fo 4), .inr (2, [.int (nm 4), .int (fk 4), .ref (va 4), .int (mi 4), .int (td 4)])), ((va 4), .inl ((ca 4), 3, .inl (v 4))), ((fo 5), .inr (2, [.int (nm 5), .int (fk 5), .ref (va 5), .int (mi 5), .int (td 5)])), ((va 5), .inl ((ca 5), 3, .inl (v 5))), ((fo 6), .inr (2, [.int (nm 6), .int (fk 6), .ref (va 6), .int (mi 6), .int (td 6)])), ((va 6), .inl ((ca 6), 3, .inl (v 6))), ((fo 7), .inr (2, [.int (nm 7), .int (fk 7), .ref (va 7), .int (mi 7), .int (td 7)])), ((va 7), .inl ((ca 7), 3, .inl (v 7))), ((fo 8), .inr (2, [.int (nm 8), .int (fk 8), .ref (va 8), .int (mi 8), .int (td 8)])), ((va 8), .inl ((ca 8), 3, .inl (v 8))), ((fo 9), .inr (2, [.int (nm 9), .int (fk 9), .ref (va 9), .int (mi 9), .int (td 9)])), ((va 9), .inl ((ca 9), 3, .inl (v 9))), ((fo 10), .inr (2, [.int (nm 10), .int (fk 10), .ref (va 10), .int (mi 10), .int (td 10)])), ((va 10), .inl ((ca 10), 3, .inl (v 10))), ((fo 11), .inr (2, [.int (nm 11), .int (fk 11), .ref (va 11), .int (mi 11), .int (td 11)])), ((va 11), .inl ((ca 11), 3, .inl (v 11))), ((fo 12), .inr (2, [.int (nm 12), .int (fk 12), .ref (va 12), .int (mi 12), .int (td 12)])), ((va 12), .inl ((ca 12), 3, .inl (v 12))), ((fo 13), .inr (2, [.int (nm 13), .int (fk 13), .ref (va 13), .int (mi 13), .int (td 13)])), ((va 13), .inl ((ca 13), 3, .inl (v 13))), ((fo 14), .inr (2, [.int (nm 14), .int (fk 14), .ref (va 14), .int (mi 14), .int (td 14)])), ((va 14), .inl ((ca 14), 3, .inl (v 14))), ((fo 15), .inr (2, [.int (nm 15), .int (fk 15), .ref (va 15), .int (mi 15), .int (td 15)])), ((va 15), .inl ((ca 15), 3, .inl (v 15)))] sz) := by
  refine Met.ofW (cc := cX8_outcome) (maxL := 7) (ret := (some .int)) (by decide) rfl ?_
  intro p e s m args below meth c s₁ B hml hv
  obtain ⟨rfl, hsz, hP, hK, hD0⟩ := hv
  have hx := B.exec
  have hb := B.bytes
  have hr := B.returns
  have hts := atoms_spec (ws := wqX8_outcome) B.pre
  have hown : s.vm.findClass RX8 = some m.cls := findClass_of_methodNamed B.named
  have hlocks := B.notSynchronized
  subst hsz
  have hD := hD0.self (sz := s.heap.size)
  generalize hAe : va_A [(h0, .inr (4, .ref st :: .ref po :: .int ps :: .int ie :: .ref g :: mr)), (h1, .inr (5, [.int so, .ref ao, .int le, .int ri, .int rl, .int nw, .int fa_])), (ao, .inr (0, [.int kd, .ref sg, .ref wt, .int e12, .int e13, .int e23])), (wt, .inl (cw, 3, .inl w)), (st, .inr (8, .ref fa :: sr)), (fa, .inl (cf, 16, .inr (.inr (.inr (.inr (fun j => some (fo j))))))), (g, .inl (cg, 6, .inl vs)), ((fo 0), .inr (2, [.int (nm 0), .int (fk 0), .ref (va 0), .int (mi 0), .int (td 0)])), ((va 0), .inl ((ca 0), 3, .inl (v 0))), ((fo 1), .inr (2, [.int (nm 1), .int (fk 1), .ref (va 1), .int (mi 1), .int (td 1)])), ((va 1), .inl ((ca 1), 3, .inl (v 1))), ((fo 2), .inr (2, [.int (nm 2), .int (fk 2), .ref (va 2), .int (mi 2), .int (td 2)])), ((va 2), .inl ((ca 2), 3, .inl (v 2))), ((fo 3), .inr (2, [.int (nm 3), .int (fk 3), .ref (va 3), .int (mi 3), .int (td 3)])), ((va 3), .inl ((ca 3), 3, .inl (v 3))), ((fo 4), .inr (2, [.int (nm 4), .int (fk 4), .ref (va 4), .int (mi 4), .int (td 4)])), ((va 4), .inl ((ca 4), 3, .inl (v 4))), ((fo 5), .inr (2, [.int (nm 5), .int (fk 5), .ref (va 5), .int (mi 5), .int (td 5)])), ((va 5), .inl ((ca 5), 3, .inl (v 5))), ((fo 6), .inr (2, [.int (nm 6), .int (fk 6), .ref (va 6), .int (mi 6), .int (td 6)])), ((va 6), .inl ((ca 6), 3, .inl (v 6))), ((fo 7), .inr (2, [.int (nm 7), .int (fk 7), .ref (va 7), .int (mi 7), .int (td 7)])), ((va 7), .inl ((ca 7), 3, .inl (v 7))), ((fo 8), .inr (2, [.int (nm 8), .int (fk 8), .ref (va 8), .int (mi 8), .int (td 8)])), ((va 8), .inl ((ca 8), 3, .inl (v 8))), ((fo 9), .inr (2, [.int (nm 9), .int (fk 9), .ref (va 9), .int (mi 9), .int (td 9)])), ((va 9), .inl ((ca 9), 3, .inl (v 9))), ((fo 10), .inr (2, [.int (nm 10), .int (fk 10), .ref (va 10), .int (mi 10), .int (td 10)])), ((va 10), .inl ((ca 10), 3, .inl (v 10))), ((fo 11), .inr (2, [.int (nm 11), .int (fk 11), .ref (va 11), .int (mi 11), .int (td 11)])), ((va 11), .inl ((ca 11), 3, .inl (v 11))), ((fo 12), .inr (2, [.int (nm 12), .int (fk 12), .ref (va 12), .int (mi 12), .int (td 12)])), ((va 12), .inl ((ca 12), 3, .inl (v 12))), ((fo 13), .inr (2, [.int (nm 13), .int (fk 13), .ref (va 13), .int (mi 13), .int (td 13)])), ((va 13), .inl ((ca 13), 3, .inl (v 13))), ((fo 14), .inr (2, [.int (nm 14), .int (fk 14), .ref (va 14), .int (mi 14), .int (td 14)])), ((va 14), .inl ((ca 14), 3, .inl (v 14))), ((fo 15), .inr (2, [.int (nm 15), .int (fk 15), .ref (va 15), .int (mi 15), .int (td 15)])), ((va 15), .inl ((ca 15), 3, .inl (v 15)))] s.heap.size = A at hD ⊢
  have hA : ∀ q : Nat, s.heap.size ≤ q → A q := fun q h => by rw [← hAe]; exact Or.inr h
  have hS : va_S A s.heap s.heap [] := va_S.rf
  have hP : va_P (dC, dI) CL [(h0, .inr (4, .ref st :: .ref po :: .int ps :: .int ie :: .ref g :: mr)), (h1, .inr (5, [.int so, .ref ao, .int le, .int ri, .int rl, .int nw, .int fa_])), (ao, .inr (0, [.int kd, .ref sg, .ref wt, .int e12, .int e13, .int e23])), (wt, .inl (cw, 3, .inl w)), (st, .inr (8, .ref fa :: sr)), (fa, .inl (cf, 16, .inr (.inr (.inr (.inr (fun j => some (fo j))))))), (g, .inl (cg, 6, .inl vs)), ((fo 0), .inr (2, [.int (nm 0), .int (fk 0), .ref (va 0), .int (mi 0), .int (td 0)])), ((va 0), .inl ((ca 0), 3, .inl (v 0))), ((fo 1), .inr (2, [.int (nm 1), .int (fk 1), .ref (va 1), .int (mi 1), .int (td 1)])), ((va 1), .inl ((ca 1), 3, .inl (v 1))), ((fo 2), .inr (2, [.int (nm 2), .int (fk 2), .ref (va 2), .int (mi 2), .int (td 2)])), ((va 2), .inl ((ca 2), 3, .inl (v 2))), ((fo 3), .inr (2, [.int (nm 3), .int (fk 3), .ref (va 3), .int (mi 3), .int (td 3)])), ((va 3), .inl ((ca 3), 3, .inl (v 3))), ((fo 4), .inr (2, [.int (nm 4), .int (fk 4), .ref (va 4), .int (mi 4), .int (td 4)])), ((va 4), .inl ((ca 4), 3, .inl (v 4))), ((fo 5), .inr (2, [.int (nm 5), .int (fk 5), .ref (va 5), .int (mi 5), .int (td 5)])), ((va 5), .inl ((ca 5), 3, .inl (v 5))), ((fo 6), .inr (2, [.int (nm 6), .int (fk 6), .ref (va 6), .int (mi 6), .int (td 6)])), ((va 6), .inl ((ca 6), 3, .inl (v 6))), ((fo 7), .inr (2, [.int (nm 7), .int (fk 7), .ref (va 7), .int (mi 7), .int (td 7)])), ((va 7), .inl ((ca 7), 3, .inl (v 7))), ((fo 8), .inr (2, [.int (nm 8), .int (fk 8), .ref (va 8), .int (mi 8), .int (td 8)])), ((va 8), .inl ((ca 8), 3, .inl (v 8))), ((fo 9), .inr (2, [.int (nm 9), .int (fk 9), .ref (va 9), .int (mi 9), .int (td 9)])), ((va 9), .inl ((ca 9), 3, .inl (v 9))), ((fo 10), .inr (2, [.int (nm 10), .int (fk 10), .ref (va 10), .int (mi 10), .int (td 10)])), ((va 10), .inl ((ca 10), 3, .inl (v 10))), ((fo 11), .inr (2, [.int (nm 11), .int (fk 11), .ref (va 11), .int (mi 11), .int (td 11)])), ((va 11), .inl ((ca 11), 3, .inl (v 11))), ((fo 12), .inr (2, [.int (nm 12), .int (fk 12), .ref (va 12), .int (mi 12), .int (td 12)])), ((va 12), .inl ((ca 12), 3, .inl (v 12))), ((fo 13), .inr (2, [.int (nm 13), .int (fk 13), .ref (va 13), .int (mi 13), .int (td 13)])), ((va 13), .inl ((ca 13), 3, .inl (v 13))), ((fo 14), .inr (2, [.int (nm 14), .int (fk 14), .ref (va 14), .int (mi 14), .int (td 14)])), ((va 14), .inl ((ca 14), 3, .inl (v 14))), ((fo 15), .inr (2, [.int (nm 15), .int (fk 15), .ref (va 15), .int (mi 15), .int (td 15)])), ((va 15), .inl ((ca 15), 3, .inl (v 15)))] s.heap := hP
  have hl := lv_entry ([.ref h0, .ref h1]) (n := 7) (Nat.le_of_ble_eq_true rfl)
  rw [lg_entry_eq]
  generalize (lg_sl ([.ref h0, .ref h1]) ++ List.replicate (7 - (lg_sl ([.ref h0, .ref h1])).length) Slot.unset).toArray = ls at hl ⊢
  have hl : lv_has ls 7 [(0, .ref h0), (1, .ref h1)] := hl
  have tail : ∀ (ls : Array Slot) (H : Heap) (locs : List Loc) (n o sm : Int32), va_P (dC, dI) CL [(h0, .inr (4, .ref st :: .ref po :: .int ps :: .int ie :: .ref g :: mr)), (h1, .inr (5, [.int so, .ref ao, .int le, .int ri, .int rl, .int nw, .int fa_])), (ao, .inr (0, [.int kd, .ref sg, .ref wt, .int e12, .int e13, .int e23])), (wt, .inl (cw, 3, .inl w)), (st, .inr (8, .ref fa :: sr)), (fa, .inl (cf, 16, .inr (.inr (.inr (.inr (fun j => some (fo j))))))), (g, .inl (cg, 6, .inl vs)), ((fo 0), .inr (2, [.int (nm 0), .int (fk 0), .ref (va 0), .int (mi 0), .int (td 0)])), ((va 0), .inl ((ca 0), 3, .inl (v 0))), ((fo 1), .inr (2, [.int (nm 1), .int (fk 1), .ref (va 1), .int (mi 1), .int (td 1)])), ((va 1), .inl ((ca 1), 3, .inl (v 1))), ((fo 2), .inr (2, [.int (nm 2), .int (fk 2), .ref (va 2), .int (mi 2), .int (td 2)])), ((va 2), .inl ((ca 2), 3, .inl (v 2))), ((fo 3), .inr (2, [.int (nm 3), .int (fk 3), .ref (va 3), .int (mi 3), .int (td 3)])), ((va 3), .inl ((ca 3), 3, .inl (v 3))), ((fo 4), .inr (2, [.int (nm 4), .int (fk 4), .ref (va 4), .int (mi 4), .int (td 4)])), ((va 4), .inl ((ca 4), 3, .inl (v 4))), ((fo 5), .inr (2, [.int (nm 5), .int (fk 5), .ref (va 5), .int (mi 5), .int (td 5)])), ((va 5), .inl ((ca 5), 3, .inl (v 5))), ((fo 6), .inr (2, [.int (nm 6), .int (fk 6), .ref (va 6), .int (mi 6), .int (td 6)])), ((va 6), .inl ((ca 6), 3, .inl (v 6))), ((fo 7), .inr (2, [.int (nm 7), .int (fk 7), .ref (va 7), .int (mi 7), .int (td 7)])), ((va 7), .inl ((ca 7), 3, .inl (v 7))), ((fo 8), .inr (2, [.int (nm 8), .int (fk 8), .ref (va 8), .int (mi 8), .int (td 8)])), ((va 8), .inl ((ca 8), 3, .inl (v 8))), ((fo 9), .inr (2, [.int (nm 9), .int (fk 9), .ref (va 9), .int (mi 9), .int (td 9)])), ((va 9), .inl ((ca 9), 3, .inl (v 9))), ((fo 10), .inr (2, [.int (nm 10), .int (fk 10), .ref (va 10), .int (mi 10), .int (td 10)])), ((va 10), .inl ((ca 10), 3, .inl (v 10))), ((fo 11), .inr (2, [.int (nm 11), .int (fk 11), .ref (va 11), .int (mi 11), .int (td 11)])), ((va 11), .inl ((ca 11), 3, .inl (v 11))), ((fo 12), .inr (2, [.int (nm 12), .int (fk 12), .ref (va 12), .int (mi 12), .int (td 12)])), ((va 12), .inl ((ca 12), 3, .inl (v 12))), ((fo 13), .inr (2, [.int (nm 13), .int (fk 13), .ref (va 13), .int (mi 13), .int (td 13)])), ((va 13), .inl ((ca 13), 3, .inl (v 13))), ((fo 14), .inr (2, [.int (nm 14), .int (fk 14), .ref (va 14), .int (mi 14), .int (td 14)])), ((va 14), .inl ((ca 14), 3, .inl (v 14))), ((fo 15), .inr (2, [.int (nm 15), .int (fk 15), .ref (va 15), .int (mi 15), .int (td 15)])), ((va 15), .inl ((ca 15), 3, .inl (v 15)))] H → va_S A s.heap H locs → lv_has ls 7 [(5, .int (16)), (4, .int sm), (3, .int o), (2, .int n), (0, .ref h0), (1, .ref h1)] → n = lf_cnt (fun k => decide (lf_fit kd e12 e13 e23 w vs (fk k) (v k))) 16 → o = lf_cnt (fun k => !decide (lf_fit kd e12 e13 e23 w vs (fk k) (v k)) && decide (fk k = kd)) 16 → sm = lf_sum (fun k => decide (lf_fit kd e12 e13 e23 w vs (fk k) (v k))) (fun k => v k fa_.toNatClampNeg) 16 → W p l e (headSpec wqX8_outcome ({ frames := 1, cells := 0, slots := 0, locals := 24 })).room s m #[.ref h0, .ref h1] below meth c H locs 0 0 (MQ below (va_Qi (fun (r : Int32) (u : Nat → Int32) => (u = if (so = 4 ∨ so = 5) ∧ nw ≠ 0 then upd vs (le - 16).toNatClampNeg (if so = 5 then lf_sum (fun k => decide (lf_fit kd e12 e13 e23 w vs (fk k) (v k))) (fun k => v k fa_.toNatClampNeg) 16 else lf_cnt (fun k => decide (lf_fit kd e12 e13 e23 w vs (fk k) (v k))) 16) else vs) ∧ r = if so = 4 ∨ so = 5 then (if u (le - 16).toNatClampNeg = (if so = 5 then lf_sum (fun k => decide (lf_fit kd e12 e13 e23 w vs (fk k) (v k))) (fun k => v k fa_.toNatClampNeg) 16 else lf_cnt (fun k => decide (lf_fit kd e12 e13 e23 w vs (fk k) (v k))) 16) then (if so = 5 then lf_sum (fun k => decide (lf_fit kd e12 e13 e23 w vs (fk k) (v k))) (fun k => v k fa_.toNatClampNeg) 16 else lf_cnt (fun k => decide (lf_fit kd e12 e13 e23 w vs (fk k) (v k))) 16) else -1) else if (if so = 2 then 0 < lf_cnt (fun k => decide (lf_fit kd e12 e13 e23 w vs (fk k) (v k))) 16 else (if so = 3 then lf_cnt (fun k => !decide (lf_fit kd e12 e13 e23 w vs (fk k) (v k)) && decide (fk k = kd)) 16 else lf_cnt (fun k => decide (lf_fit kd e12 e13 e23 w vs (fk k) (v k))) 16) = 0) then 0 else -1) (fun u t => va_P (dC, dI) CL [(h0, .inr (4, .ref st :: .ref po :: .int ps :: .int ie :: .ref g :: mr)), (h1, .inr (5, [.int so, .ref ao, .int le, .int ri, .int rl, .int nw, .int fa_])), (ao, .inr (0, [.int kd, .ref sg, .ref wt, .int e12, .int e13, .int e23])), (wt, .inl (cw, 3, .inl w)), (st, .inr (8, .ref fa :: sr)), (fa, .inl (cf, 16, .inr (.inr (.inr (.inr (fun j => some (fo j))))))), (g, .inl (cg, 6, .inl u)), ((fo 0), .inr (2, [.int (nm 0), .int (fk 0), .ref (va 0), .int (mi 0), .int (td 0)])), ((va 0), .inl ((ca 0), 3, .inl (v 0))), ((fo 1), .inr (2, [.int (nm 1), .int (fk 1), .ref (va 1), .int (mi 1), .int (td 1)])), ((va 1), .inl ((ca 1), 3, .inl (v 1))), ((fo 2), .inr (2, [.int (nm 2), .int (fk 2), .ref (va 2), .int (mi 2), .int (td 2)])), ((va 2), .inl ((ca 2), 3, .inl (v 2))), ((fo 3), .inr (2, [.int (nm 3), .int (fk 3), .ref (va 3), .int (mi 3), .int (td 3)])), ((va 3), .inl ((ca 3), 3, .inl (v 3))), ((fo 4), .inr (2, [.int (nm 4), .int (fk 4), .ref (va 4), .int (mi 4), .int (td 4)])), ((va 4), .inl ((ca 4), 3, .inl (v 4))), ((fo 5), .inr (2, [.int (nm 5), .int (fk 5), .ref (va 5), .int (mi 5), .int (td 5)])), ((va 5), .inl ((ca 5), 3, .inl (v 5))), ((fo 6), .inr (2, [.int (nm 6), .int (fk 6), .ref (va 6), .int (mi 6), .int (td 6)])), ((va 6), .inl ((ca 6), 3, .inl (v 6))), ((fo 7), .inr (2, [.int (nm 7), .int (fk 7), .ref (va 7), .int (mi 7), .int (td 7)])), ((va 7), .inl ((ca 7), 3, .inl (v 7))), ((fo 8), .inr (2, [.int (nm 8), .int (fk 8), .ref (va 8), .int (mi 8), .int (td 8)])), ((va 8), .inl ((ca 8), 3, .inl (v 8))), ((fo 9), .inr (2, [.int (nm 9), .int (fk 9), .ref (va 9), .int (mi 9), .int (td 9)])), ((va 9), .inl ((ca 9), 3, .inl (v 9))), ((fo 10), .inr (2, [.int (nm 10), .int (fk 10), .ref (va 10), .int (mi 10), .int (td 10)])), ((va 10), .inl ((ca 10), 3, .inl (v 10))), ((fo 11), .inr (2, [.int (nm 11), .int (fk 11), .ref (va 11), .int (mi 11), .int (td 11)])), ((va 11), .inl ((ca 11), 3, .inl (v 11))), ((fo 12), .inr (2, [.int (nm 12), .int (fk 12), .ref (va 12), .int (mi 12), .int (td 12)])), ((va 12), .inl ((ca 12), 3, .inl (v 12))), ((fo 13), .inr (2, [.int (nm 13), .int (fk 13), .ref (va 13), .int (mi 13), .int (td 13)])), ((va 13), .inl ((ca 13), 3, .inl (v 13))), ((fo 14), .inr (2, [.int (nm 14), .int (fk 14), .ref (va 14), .int (mi 14), .int (td 14)])), ((va 14), .inl ((ca 14), 3, .inl (v 14))), ((fo 15), .inr (2, [.int (nm 15), .int (fk 15), .ref (va 15), .int (mi 15), .int (td 15)])), ((va 15), .inl ((ca 15), 3, .inl (v 15)))] t.heap ∧ va_K (dC, dI) CL [(cw, .int), (cf, .object RX2), (cg, .int), ((ca 0), .int), ((ca 1), .int), ((ca 2), .int), ((ca 3), .int), ((ca 4), .int), ((ca 5), .int), ((ca 6), .int), ((ca 7), .int), ((ca 8), .int), ((ca 9), .int), ((ca 10), .int), ((ca 11), .int), ((ca 12), .int), ((ca 13), .int), ((ca 14), .int), ((ca 15), .int)] t ∧ va_D (A) [(h0, .inr (4, .ref st :: .ref po :: .int ps :: .int ie :: .ref g :: mr)), (h1, .inr (5, [.int so, .ref ao, .int le, .int ri, .int rl, .int nw, .int fa_])), (ao, .inr (0, [.int kd, .ref sg, .ref wt, .int e12, .int e13, .int e23])), (wt, .inl (cw, 3, .inl w)), (st, .inr (8, .ref fa :: sr)), (fa, .inl (cf, 16, .inr (.inr (.inr (.inr (fun j => some (fo j))))))), (g, .inl (cg, 6, .inl u)), ((fo 0), .inr (2, [.int (nm 0), .int (fk 0), .ref (va 0), .int (mi 0), .int (td 0)])), ((va 0), .inl ((ca 0), 3, .inl (v 0))), ((fo 1), .inr (2, [.int (nm 1), .int (fk 1), .ref (va 1), .int (mi 1), .int (td 1)])), ((va 1), .inl ((ca 1), 3, .inl (v 1))), ((fo 2), .inr (2, [.int (nm 2), .int (fk 2), .ref (va 2), .int (mi 2), .int (td 2)])), ((va 2), .inl ((ca 2), 3, .inl (v 2))), ((fo 3), .inr (2, [.int (nm 3), .int (fk 3), .ref (va 3), .int (mi 3), .int (td 3)])), ((va 3), .inl ((ca 3), 3, .inl (v 3))), ((fo 4), .inr (2, [.int (nm 4), .int (fk 4), .ref (va 4), .int (mi 4), .int (td 4)])), ((va 4), .inl ((ca 4), 3, .inl (v 4))), ((fo 5), .inr (2, [.int (nm 5), .int (fk 5), .ref (va 5), .int (mi 5), .int (td 5)])), ((va 5), .inl ((ca 5), 3, .inl (v 5))), ((fo 6), .inr (2, [.int (nm 6), .int (fk 6), .ref (va 6), .int (mi 6), .int (td 6)])), ((va 6), .inl ((ca 6), 3, .inl (v 6))), ((fo 7), .inr (2, [.int (nm 7), .int (fk 7), .ref (va 7), .int (mi 7), .int (td 7)])), ((va 7), .inl ((ca 7), 3, .inl (v 7))), ((fo 8), .inr (2, [.int (nm 8), .int (fk 8), .ref (va 8), .int (mi 8), .int (td 8)])), ((va 8), .inl ((ca 8), 3, .inl (v 8))), ((fo 9), .inr (2, [.int (nm 9), .int (fk 9), .ref (va 9), .int (mi 9), .int (td 9)])), ((va 9), .inl ((ca 9), 3, .inl (v 9))), ((fo 10), .inr (2, [.int (nm 10), .int (fk 10), .ref (va 10), .int (mi 10), .int (td 10)])), ((va 10), .inl ((ca 10), 3, .inl (v 10))), ((fo 11), .inr (2, [.int (nm 11), .int (fk 11), .ref (va 11), .int (mi 11), .int (td 11)])), ((va 11), .inl ((ca 11), 3, .inl (v 11))), ((fo 12), .inr (2, [.int (nm 12), .int (fk 12), .ref (va 12), .int (mi 12), .int (td 12)])), ((va 12), .inl ((ca 12), 3, .inl (v 12))), ((fo 13), .inr (2, [.int (nm 13), .int (fk 13), .ref (va 13), .int (mi 13), .int (td 13)])), ((va 13), .inl ((ca 13), 3, .inl (v 13))), ((fo 14), .inr (2, [.int (nm 14), .int (fk 14), .ref (va 14), .int (mi 14), .int (td 14)])), ((va 14), .inl ((ca 14), 3, .inl (v 14))), ((fo 15), .inr (2, [.int (nm 15), .int (fk 15), .ref (va 15), .int (mi 15), .int (td 15)])), ((va 15), .inl ((ca 15), 3, .inl (v 15)))]) (A)) #[.ref h0, .ref h1] s 0 0 A) (F0 m 110 ls []) := by
    intro ls H locs n o sm hP hS hl a1 a2 a3
    refine lv_iload hx hb dX8_outcome_110 (lv_at hl 0 rfl) ?_
    refine lv_bipush (v := (16 : Int32)) hx hb dX8_outcome_112 (by decide) ?_
    refine lv_icmp_ge hx hb dX8_outcome_114 rfl (fun _ => ?_) (fun q => absurd (by decide) q)
    refine lv_aload_n hx hb dX8_outcome_190 rfl (lv_at hl 5 rfl) ?_
    refine va_get (D := (dC, dI)) (ci := 5) (v := .int so) (C := RX5) (T := TX5) (N := 7) hx hb hts (by decide +kernel) hown hK hP 1 rfl rfl 0 (by decide) (hts (.fieldLink RX8 43 "Ruleengine$Part" "sort" "I") (by decide +kernel)) (fun _ h9 => h9) rfl dX8_outcome_191 ?_
    refine lv_iconst (v := (4 : Int32)) hx hb dX8_outcome_194 (by decide) ?_
    refine lv_icmp_eq hx hb dX8_outcome_195 rfl (fun q2 => ?_) (fun q2 => ?_)
    · refine lv_aload_n hx hb dX8_outcome_206 rfl (lv_at hl 5 rfl) ?_
      refine va_get (D := (dC, dI)) (ci := 5) (v := .int so) (C := RX5) (T := TX5) (N := 7) hx hb hts (by decide +kernel) hown hK hP 1 rfl rfl 0 (by decide) (hts (.fieldLink RX8 43 "Ruleengine$Part" "sort" "I") (by decide +kernel)) (fun _ h9 => h9) rfl dX8_outcome_207 ?_
      refine lv_iconst (v := (5 : Int32)) hx hb dX8_outcome_210 (by decide) ?_
      refine lv_icmp_ne hx hb dX8_outcome_211 rfl (fun q3 => ?_) (fun q3 => ?_)
      · refine lv_iload_n hx hb dX8_outcome_219 rfl (lv_at hl 3 rfl) ?_
        refine lv_istore (lv' := [(5, .int n), (4, .int sm), (3, .int o), (2, .int n), (0, .ref h0), (1, .ref h1)]) hx hb dX8_outcome_220 hl (by decide) rfl (fun ls hl => ?_)
        refine lv_aload_n hx hb dX8_outcome_222 rfl (lv_at hl 5 rfl) ?_
        refine va_get (D := (dC, dI)) (ci := 5) (v := .int nw) (C := RX5) (T := TX5) (N := 7) hx hb hts (by decide +kernel) hown hK hP 1 rfl rfl 5 (by decide) (hts (.fieldLink RX8 104 "Ruleengine$Part" "isNew" "Z") (by decide +kernel)) (fun _ h9 => h9) rfl dX8_outcome_223 ?_
        refine lv_if_eq hx hb dX8_outcome_226 rfl (fun q4 => ?_) (fun q4 => ?_)
        · refine lv_aload_n hx hb dX8_outcome_243 rfl (lv_at hl 4 rfl) ?_
          refine va_get (D := (dC, dI)) (ci := 4) (v := .ref g) (C := RX4) (T := TX4) (N := 17) hx hb hts (by decide +kernel) hown hK hP 0 rfl rfl 4 (by decide) (hts (.fieldLink RX8 9 "Ruleengine$Search" "values" "[I") (by decide +kernel)) (fun _ h9 => h9) rfl dX8_outcome_244 ?_
          refine lv_aload_n hx hb dX8_outcome_247 rfl (lv_at hl 5 rfl) ?_
          refine va_get (D := (dC, dI)) (ci := 5) (v := .int le) (C := RX5) (T := TX5) (N := 7) hx hb hts (by decide +kernel) hown hK hP 1 rfl rfl 2 (by decide) (hts (.fieldLink RX8 74 "Ruleengine$Part" "left" "I") (by decide +kernel)) (fun _ h9 => h9) rfl dX8_outcome_248 ?_
          refine lv_bipush (v := (16 : Int32)) hx hb dX8_outcome_251 (by decide) ?_
          refine lv_isub hx hb dX8_outcome_253 ?_
          refine va_iald (i := (le - (16))) hx hb hK hP 6 2 rfl rfl (hle (by first | exact Or.inl (by assumption) | exact Or.inr (by assumption))) dX8_outcome_254 ?_
          refine lv_iload hx hb dX8_outcome_255 (lv_at hl 0 rfl) ?_
          refine lv_icmp_ne hx hb dX8_outcome_257 rfl (fun q5 => ?_) (fun q5 => ?_)
          · refine lv_iconst (v := (-1 : Int32)) hx hb dX8_outcome_265 (by decide) ?_
            exact W.iret hx hb hr (fun t ht hW => ⟨⟨_, vs, rfl, ⟨by clear hP hD hK hS hl hts; simp only [← a1, ← a3]; clear a1 a2 a3; simp_all [lf_upd], by clear hP hD hK hS hl hts; simp only [← a1, ← a2, ← a3]; clear a1 a2 a3; simp_all [lf_upd]⟩, by rw [ht]; exact hP, va_K.moved hW.alike hK, hD⟩, hS.F ht⟩) hS.2.2 dX8_outcome_266
          · refine lv_iload hx hb dX8_outcome_260 (lv_at hl 0 rfl) ?_
            refine lv_goto hx hb dX8_outcome_262 rfl ?_
            exact W.iret hx hb hr (fun t ht hW => ⟨⟨_, vs, rfl, ⟨by clear hP hD hK hS hl hts; simp only [← a1, ← a3]; clear a1 a2 a3; simp_all [lf_upd], by clear hP hD hK hS hl hts; simp only [← a1, ← a2, ← a3]; clear a1 a2 a3; simp_all [lf_upd]⟩, by rw [ht]; exact hP, va_K.moved hW.alike hK, hD⟩, hS.F ht⟩) hS.2.2 dX8_outcome_266
        · refine lv_aload_n hx hb dX8_outcome_229 rfl (lv_at hl 4 rfl) ?_
          refine va_get (D := (dC, dI)) (ci := 4) (v := .ref g) (C := RX4) (T := TX4) (N := 17) hx hb hts (by decide +kernel) hown hK hP 0 rfl rfl 4 (by decide) (hts (.fieldLink RX8 9 "Ruleengine$Search" "values" "[I") (by decide +kernel)) (fun _ h9 => h9) rfl dX8_outcome_230 ?_
          refine lv_aload_n hx hb dX8_outcome_233 rfl (lv_at hl 5 rfl) ?_
          refine va_get (D := (dC, dI)) (ci := 5) (v := .int le) (C := RX5) (T := TX5) (N := 7) hx hb hts (by decide +kernel) hown hK hP 1 rfl rfl 2 (by decide) (hts (.fieldLink RX8 74 "Ruleengine$Part" "left" "I") (by decide +kernel)) (fun _ h9 => h9) rfl dX8_outcome_234 ?_
          refine lv_bipush (v := (16 : Int32)) hx hb dX8_outcome_237 (by decide) ?_
          refine lv_isub hx hb dX8_outcome_239 ?_
          refine lv_iload hx hb dX8_outcome_240 (lv_at hl 0 rfl) ?_
          refine va_iast hx hb hK hP hD hS 6 2 rfl rfl (hle (by first | exact Or.inl (by assumption) | exact Or.inr (by assumption))) dX8_outcome_242 (fun H locs hP hD hS => ?_)
          have hP : va_P (dC, dI) CL [(h0, .inr (4, .ref st :: .ref po :: .int ps :: .int ie :: .ref g :: mr)), (h1, .inr (5, [.int so, .ref ao, .int le, .int ri, .int rl, .int nw, .int fa_])), (ao, .inr (0, [.int kd, .ref sg, .ref wt, .int e12, .int e13, .int e23])), (wt, .inl (cw, 3, .inl w)), (st, .inr (8, .ref fa :: sr)), (fa, .inl (cf, 16, .inr (.inr (.inr (.inr (fun j => some (fo j))))))), (g, .inl (cg, 6, .inl (upd vs ((le - (16))).toNatClampNeg n))), ((fo 0), .inr (2, [.int (nm 0), .int (fk 0), .ref (va 0), .int (mi 0), .int (td 0)])), ((va 0), .inl ((ca 0), 3, .inl (v 0))), ((fo 1), .inr (2, [.int (nm 1), .int (fk 1), .ref (va 1), .int (mi 1), .int (td 1)])), ((va 1), .inl ((ca 1), 3, .inl (v 1))), ((fo 2), .inr (2, [.int (nm 2), .int (fk 2), .ref (va 2), .int (mi 2), .int (td 2)])), ((va 2), .inl ((ca 2), 3, .inl (v 2))), ((fo 3), .inr (2, [.int (nm 3), .int (fk 3), .ref (va 3), .int (mi 3), .int (td 3)])), ((va 3), .inl ((ca 3), 3, .inl (v 3))), ((fo 4), .inr (2, [.int (nm 4), .int (fk 4), .ref (va 4), .int (mi 4), .int (td 4)])), ((va 4), .inl ((ca 4), 3, .inl (v 4))), ((fo 5), .inr (2, [.int (nm 5), .int (fk 5), .ref (va 5), .int (mi 5), .int (td 5)])), ((va 5), .inl ((ca 5), 3, .inl (v 5))), ((fo 6), .inr (2, [.int (nm 6), .int (fk 6), .ref (va 6), .int (mi 6), .int (td 6)])), ((va 6), .inl ((ca 6), 3, .inl (v 6))), ((fo 7), .inr (2, [.int (nm 7), .int (fk 7), .ref (va 7), .int (mi 7), .int (td 7)])), ((va 7), .inl ((ca 7), 3, .inl (v 7))), ((fo 8), .inr (2, [.int (nm 8), .int (fk 8), .ref (va 8), .int (mi 8), .int (td 8)])), ((va 8), .inl ((ca 8), 3, .inl (v 8))), ((fo 9), .inr (2, [.int (nm 9), .int (fk 9), .ref (va 9), .int (mi 9), .int (td 9)])), ((va 9), .inl ((ca 9), 3, .inl (v 9))), ((fo 10), .inr (2, [.int (nm 10), .int (fk 10), .ref (va 10), .int (mi 10), .int (td 10)])), ((va 10), .inl ((ca 10), 3, .inl (v 10))), ((fo 11), .inr (2, [.int (nm 11), .int (fk 11), .ref (va 11), .int (mi 11), .int (td 11)])), ((va 11), .inl ((ca 11), 3, .inl (v 11))), ((fo 12), .inr (2, [.int (nm 12), .int (fk 12), .ref (va 12), .int (mi 12), .int (td 12)])), ((va 12), .inl ((ca 12), 3, .inl (v 12))), ((fo 13), .inr (2, [.int (nm 13), .int (fk 13), .ref (va 13), .int (mi 13), .int (td 13)])), ((va 13), .inl ((ca 13), 3, .inl (v 13))), ((fo 14), .inr (2, [.int (nm 14), .int (fk 14), .ref (va 14), .int (mi 14), .int (td 14)])), ((va 14), .inl ((ca 14), 3, .inl (v 14))), ((fo 15), .inr (2, [.int (nm 15), .int (fk 15), .ref (va 15), .int (mi 15), .int (td 15)])), ((va 15), .inl ((ca 15), 3, .inl (v 15)))] H := hP
          have hD : va_D A [(h0, .inr (4, .ref st :: .ref po :: .int ps :: .int ie :: .ref g :: mr)), (h1, .inr (5, [.int so, .ref ao, .int le, .int ri, .int rl, .int nw, .int fa_])), (ao, .inr (0, [.int kd, .ref sg, .ref wt, .int e12, .int e13, .int e23])), (wt, .inl (cw, 3, .inl w)), (st, .inr (8, .ref fa :: sr)), (fa, .inl (cf, 16, .inr (.inr (.inr (.inr (fun j => some (fo j))))))), (g, .inl (cg, 6, .inl (upd vs ((le - (16))).toNatClampNeg n))), ((fo 0), .inr (2, [.int (nm 0), .int (fk 0), .ref (va 0), .int (mi 0), .int (td 0)])), ((va 0), .inl ((ca 0), 3, .inl (v 0))), ((fo 1), .inr (2, [.int (nm 1), .int (fk 1), .ref (va 1), .int (mi 1), .int (td 1)])), ((va 1), .inl ((ca 1), 3, .inl (v 1))), ((fo 2), .inr (2, [.int (nm 2), .int (fk 2), .ref (va 2), .int (mi 2), .int (td 2)])), ((va 2), .inl ((ca 2), 3, .inl (v 2))), ((fo 3), .inr (2, [.int (nm 3), .int (fk 3), .ref (va 3), .int (mi 3), .int (td 3)])), ((va 3), .inl ((ca 3), 3, .inl (v 3))), ((fo 4), .inr (2, [.int (nm 4), .int (fk 4), .ref (va 4), .int (mi 4), .int (td 4)])), ((va 4), .inl ((ca 4), 3, .inl (v 4))), ((fo 5), .inr (2, [.int (nm 5), .int (fk 5), .ref (va 5), .int (mi 5), .int (td 5)])), ((va 5), .inl ((ca 5), 3, .inl (v 5))), ((fo 6), .inr (2, [.int (nm 6), .int (fk 6), .ref (va 6), .int (mi 6), .int (td 6)])), ((va 6), .inl ((ca 6), 3, .inl (v 6))), ((fo 7), .inr (2, [.int (nm 7), .int (fk 7), .ref (va 7), .int (mi 7), .int (td 7)])), ((va 7), .inl ((ca 7), 3, .inl (v 7))), ((fo 8), .inr (2, [.int (nm 8), .int (fk 8), .ref (va 8), .int (mi 8), .int (td 8)])), ((va 8), .inl ((ca 8), 3, .inl (v 8))), ((fo 9), .inr (2, [.int (nm 9), .int (fk 9), .ref (va 9), .int (mi 9), .int (td 9)])), ((va 9), .inl ((ca 9), 3, .inl (v 9))), ((fo 10), .inr (2, [.int (nm 10), .int (fk 10), .ref (va 10), .int (mi 10), .int (td 10)])), ((va 10), .inl ((ca 10), 3, .inl (v 10))), ((fo 11), .inr (2, [.int (nm 11), .int (fk 11), .ref (va 11), .int (mi 11), .int (td 11)])), ((va 11), .inl ((ca 11), 3, .inl (v 11))), ((fo 12), .inr (2, [.int (nm 12), .int (fk 12), .ref (va 12), .int (mi 12), .int (td 12)])), ((va 12), .inl ((ca 12), 3, .inl (v 12))), ((fo 13), .inr (2, [.int (nm 13), .int (fk 13), .ref (va 13), .int (mi 13), .int (td 13)])), ((va 13), .inl ((ca 13), 3, .inl (v 13))), ((fo 14), .inr (2, [.int (nm 14), .int (fk 14), .ref (va 14), .int (mi 14), .int (td 14)])), ((va 14), .inl ((ca 14), 3, .inl (v 14))), ((fo 15), .inr (2, [.int (nm 15), .int (fk 15), .ref (va 15), .int (mi 15), .int (td 15)])), ((va 15), .inl ((ca 15), 3, .inl (v 15)))] := hD
          refine lv_aload_n hx hb dX8_outcome_243 rfl (lv_at hl 4 rfl) ?_
          refine va_get (D := (dC, dI)) (ci := 4) (v := .ref g) (C := RX4) (T := TX4) (N := 17) hx hb hts (by decide +kernel) hown hK hP 0 rfl rfl 4 (by decide) (hts (.fieldLink RX8 9 "Ruleengine$Search" "values" "[I") (by decide +kernel)) (fun _ h9 => h9) rfl dX8_outcome_244 ?_
          refine lv_aload_n hx hb dX8_outcome_247 rfl (lv_at hl 5 rfl) ?_
          refine va_get (D := (dC, dI)) (ci := 5) (v := .int le) (C := RX5) (T := TX5) (N := 7) hx hb hts (by decide +kernel) hown hK hP 1 rfl rfl 2 (by decide) (hts (.fieldLink RX8 74 "Ruleengine$Part" "left" "I") (by decide +kernel)) (fun _ h9 => h9) rfl dX8_outcome_248 ?_
          refine lv_bipush (v := (16 : Int32)) hx hb dX8_outcome_251 (by decide) ?_
          refine lv_isub hx hb dX8_outcome_253 ?_
          refine va_iald (i := (le - (16))) hx hb hK hP 6 2 rfl rfl (hle (by first | exact Or.inl (by assumption) | exact Or.inr (by assumption))) dX8_outcome_254 ?_
          refine lv_iload hx hb dX8_outcome_255 (lv_at hl 0 rfl) ?_
          refine lv_icmp_ne hx hb dX8_outcome_257 rfl (fun q6 => ?_) (fun q6 => ?_)
          · refine lv_iconst (v := (-1 : Int32)) hx hb dX8_outcome_265 (by decide) ?_
            exact W.iret hx hb hr (fun t ht hW => ⟨⟨_, (upd vs ((le - (16))).toNatClampNeg n), rfl, ⟨by clear hP hD hK hS hl hts; simp only [← a1, ← a3]; clear a1 a2 a3; simp_all [lf_upd], by clear hP hD hK hS hl hts; simp only [← a1, ← a2, ← a3]; clear a1 a2 a3; simp_all [lf_upd]⟩, by rw [ht]; exact hP, va_K.moved hW.alike hK, hD⟩, hS.F ht⟩) hS.2.2 dX8_outcome_266
          · refine lv_iload hx hb dX8_outcome_260 (lv_at hl 0 rfl) ?_
            refine lv_goto hx hb dX8_outcome_262 rfl ?_
            exact W.iret hx hb hr (fun t ht hW => ⟨⟨_, (upd vs ((le - (16))).toNatClampNeg n), rfl, ⟨by clear hP hD hK hS hl hts; simp only [← a1, ← a3]; clear a1 a2 a3; simp_all [lf_upd], by clear hP hD hK hS hl hts; simp only [← a1, ← a2, ← a3]; clear a1 a2 a3; simp_all [lf_upd]⟩, by rw [ht]; exact hP, va_K.moved hW.alike hK, hD⟩, hS.F ht⟩) hS.2.2 dX8_outcome_266
      · refine lv_iload hx hb dX8_outcome_214 (lv_at hl 1 rfl) ?_
        refine lv_goto hx hb dX8_outcome_216 rfl ?_
        refine lv_istore (lv' := [(5, .int sm), (4, .int sm), (3, .int o), (2, .int n), (0, .ref h0), (1, .ref h1)]) hx hb dX8_outcome_220 hl (by decide) rfl (fun ls hl => ?_)
        refine lv_aload_n hx hb dX8_outcome_222 rfl (lv_at hl 5 rfl) ?_
        refine va_get (D := (dC, dI)) (ci := 5) (v := .int nw) (C := RX5) (T := TX5) (N := 7) hx hb hts (by decide +kernel) hown hK hP 1 rfl rfl 5 (by decide) (hts (.fieldLink RX8 104 "Ruleengine$Part" "isNew" "Z") (by decide +kernel)) (fun _ h9 => h9) rfl dX8_outcome_223 ?_
        refine lv_if_eq hx hb dX8_outcome_226 rfl (fun q7 => ?_) (fun q7 => ?_)
        · refine lv_aload_n hx hb dX8_outcome_243 rfl (lv_at hl 4 rfl) ?_
          refine va_get (D := (dC, dI)) (ci := 4) (v := .ref g) (C := RX4) (T := TX4) (N := 17) hx hb hts (by decide +kernel) hown hK hP 0 rfl rfl 4 (by decide) (hts (.fieldLink RX8 9 "Ruleengine$Search" "values" "[I") (by decide +kernel)) (fun _ h9 => h9) rfl dX8_outcome_244 ?_
          refine lv_aload_n hx hb dX8_outcome_247 rfl (lv_at hl 5 rfl) ?_
          refine va_get (D := (dC, dI)) (ci := 5) (v := .int le) (C := RX5) (T := TX5) (N := 7) hx hb hts (by decide +kernel) hown hK hP 1 rfl rfl 2 (by decide) (hts (.fieldLink RX8 74 "Ruleengine$Part" "left" "I") (by decide +kernel)) (fun _ h9 => h9) rfl dX8_outcome_248 ?_
          refine lv_bipush (v := (16 : Int32)) hx hb dX8_outcome_251 (by decide) ?_
          refine lv_isub hx hb dX8_outcome_253 ?_
          refine va_iald (i := (le - (16))) hx hb hK hP 6 2 rfl rfl (hle (by first | exact Or.inl (by assumption) | exact Or.inr (by assumption))) dX8_outcome_254 ?_
          refine lv_iload hx hb dX8_outcome_255 (lv_at hl 0 rfl) ?_
          refine lv_icmp_ne hx hb dX8_outcome_257 rfl (fun q8 => ?_) (fun q8 => ?_)
          · refine lv_iconst (v := (-1 : Int32)) hx hb dX8_outcome_265 (by decide) ?_
            exact W.iret hx hb hr (fun t ht hW => ⟨⟨_, vs, rfl, ⟨by clear hP hD hK hS hl hts; simp only [← a1, ← a3]; clear a1 a2 a3; simp_all [lf_upd], by clear hP hD hK hS hl hts; simp only [← a1, ← a2, ← a3]; clear a1 a2 a3; simp_all [lf_upd]⟩, by rw [ht]; exact hP, va_K.moved hW.alike hK, hD⟩, hS.F ht⟩) hS.2.2 dX8_outcome_266
          · refine lv_iload hx hb dX8_outcome_260 (lv_at hl 0 rfl) ?_
            refine lv_goto hx hb dX8_outcome_262 rfl ?_
            exact W.iret hx hb hr (fun t ht hW => ⟨⟨_, vs, rfl, ⟨by clear hP hD hK hS hl hts; simp only [← a1, ← a3]; clear a1 a2 a3; simp_all [lf_upd], by clear hP hD hK hS hl hts; simp only [← a1, ← a2, ← a3]; clear a1 a2 a3; simp_all [lf_upd]⟩, by rw [ht]; exact hP, va_K.moved hW.alike hK, hD⟩, hS.F ht⟩) hS.2.2 dX8_outcome_266
        · refine lv_aload_n hx hb dX8_outcome_229 rfl (lv_at hl 4 rfl) ?_
          refine va_get (D := (dC, dI)) (ci := 4) (v := .ref g) (C := RX4) (T := TX4) (N := 17) hx hb hts (by decide +kernel) hown hK hP 0 rfl rfl 4 (by decide) (hts (.fieldLink RX8 9 "Ruleengine$Search" "values" "[I") (by decide +kernel)) (fun _ h9 => h9) rfl dX8_outcome_230 ?_
          refine lv_aload_n hx hb dX8_outcome_233 rfl (lv_at hl 5 rfl) ?_
          refine va_get (D := (dC, dI)) (ci := 5) (v := .int le) (C := RX5) (T := TX5) (N := 7) hx hb hts (by decide +kernel) hown hK hP 1 rfl rfl 2 (by decide) (hts (.fieldLink RX8 74 "Ruleengine$Part" "left" "I") (by decide +kernel)) (fun _ h9 => h9) rfl dX8_outcome_234 ?_
          refine lv_bipush (v := (16 : Int32)) hx hb dX8_outcome_237 (by decide) ?_
          refine lv_isub hx hb dX8_outcome_239 ?_
          refine lv_iload hx hb dX8_outcome_240 (lv_at hl 0 rfl) ?_
          refine va_iast hx hb hK hP hD hS 6 2 rfl rfl (hle (by first | exact Or.inl (by assumption) | exact Or.inr (by assumption))) dX8_outcome_242 (fun H locs hP hD hS => ?_)
          have hP : va_P (dC, dI) CL [(h0, .inr (4, .ref st :: .ref po :: .int ps :: .int ie :: .ref g :: mr)), (h1, .inr (5, [.int so, .ref ao, .int le, .int ri, .int rl, .int nw, .int fa_])), (ao, .inr (0, [.int kd, .ref sg, .ref wt, .int e12, .int e13, .int e23])), (wt, .inl (cw, 3, .inl w)), (st, .inr (8, .ref fa :: sr)), (fa, .inl (cf, 16, .inr (.inr (.inr (.inr (fun j => some (fo j))))))), (g, .inl (cg, 6, .inl (upd vs ((le - (16))).toNatClampNeg sm))), ((fo 0), .inr (2, [.int (nm 0), .int (fk 0), .ref (va 0), .int (mi 0), .int (td 0)])), ((va 0), .inl ((ca 0), 3, .inl (v 0))), ((fo 1), .inr (2, [.int (nm 1), .int (fk 1), .ref (va 1), .int (mi 1), .int (td 1)])), ((va 1), .inl ((ca 1), 3, .inl (v 1))), ((fo 2), .inr (2, [.int (nm 2), .int (fk 2), .ref (va 2), .int (mi 2), .int (td 2)])), ((va 2), .inl ((ca 2), 3, .inl (v 2))), ((fo 3), .inr (2, [.int (nm 3), .int (fk 3), .ref (va 3), .int (mi 3), .int (td 3)])), ((va 3), .inl ((ca 3), 3, .inl (v 3))), ((fo 4), .inr (2, [.int (nm 4), .int (fk 4), .ref (va 4), .int (mi 4), .int (td 4)])), ((va 4), .inl ((ca 4), 3, .inl (v 4))), ((fo 5), .inr (2, [.int (nm 5), .int (fk 5), .ref (va 5), .int (mi 5), .int (td 5)])), ((va 5), .inl ((ca 5), 3, .inl (v 5))), ((fo 6), .inr (2, [.int (nm 6), .int (fk 6), .ref (va 6), .int (mi 6), .int (td 6)])), ((va 6), .inl ((ca 6), 3, .inl (v 6))), ((fo 7), .inr (2, [.int (nm 7), .int (fk 7), .ref (va 7), .int (mi 7), .int (td 7)])), ((va 7), .inl ((ca 7), 3, .inl (v 7))), ((fo 8), .inr (2, [.int (nm 8), .int (fk 8), .ref (va 8), .int (mi 8), .int (td 8)])), ((va 8), .inl ((ca 8), 3, .inl (v 8))), ((fo 9), .inr (2, [.int (nm 9), .int (fk 9), .ref (va 9), .int (mi 9), .int (td 9)])), ((va 9), .inl ((ca 9), 3, .inl (v 9))), ((fo 10), .inr (2, [.int (nm 10), .int (fk 10), .ref (va 10), .int (mi 10), .int (td 10)])), ((va 10), .inl ((ca 10), 3, .inl (v 10))), ((fo 11), .inr (2, [.int (nm 11), .int (fk 11), .ref (va 11), .int (mi 11), .int (td 11)])), ((va 11), .inl ((ca 11), 3, .inl (v 11))), ((fo 12), .inr (2, [.int (nm 12), .int (fk 12), .ref (va 12), .int (mi 12), .int (td 12)])), ((va 12), .inl ((ca 12), 3, .inl (v 12))), ((fo 13), .inr (2, [.int (nm 13), .int (fk 13), .ref (va 13), .int (mi 13), .int (td 13)])), ((va 13), .inl ((ca 13), 3, .inl (v 13))), ((fo 14), .inr (2, [.int (nm 14), .int (fk 14), .ref (va 14), .int (mi 14), .int (td 14)])), ((va 14), .inl ((ca 14), 3, .inl (v 14))), ((fo 15), .inr (2, [.int (nm 15), .int (fk 15), .ref (va 15), .int (mi 15), .int (td 15)])), ((va 15), .inl ((ca 15), 3, .inl (v 15)))] H := hP
          have hD : va_D A [(h0, .inr (4, .ref st :: .ref po :: .int ps :: .int ie :: .ref g :: mr)), (h1, .inr (5, [.int so, .ref ao, .int le, .int ri, .int rl, .int nw, .int fa_])), (ao, .inr (0, [.int kd, .ref sg, .ref wt, .int e12, .int e13, .int e23])), (wt, .inl (cw, 3, .inl w)), (st, .inr (8, .ref fa :: sr)), (fa, .inl (cf, 16, .inr (.inr (.inr (.inr (fun j => some (fo j))))))), (g, .inl (cg, 6, .inl (upd vs ((le - (16))).toNatClampNeg sm))), ((fo 0), .inr (2, [.int (nm 0), .int (fk 0), .ref (va 0), .int (mi 0), .int (td 0)])), ((va 0), .inl ((ca 0), 3, .inl (v 0))), ((fo 1), .inr (2, [.int (nm 1), .int (fk 1), .ref (va 1), .int (mi 1), .int (td 1)])), ((va 1), .inl ((ca 1), 3, .inl (v 1))), ((fo 2), .inr (2, [.int (nm 2), .int (fk 2), .ref (va 2), .int (mi 2), .int (td 2)])), ((va 2), .inl ((ca 2), 3, .inl (v 2))), ((fo 3), .inr (2, [.int (nm 3), .int (fk 3), .ref (va 3), .int (mi 3), .int (td 3)])), ((va 3), .inl ((ca 3), 3, .inl (v 3))), ((fo 4), .inr (2, [.int (nm 4), .int (fk 4), .ref (va 4), .int (mi 4), .int (td 4)])), ((va 4), .inl ((ca 4), 3, .inl (v 4))), ((fo 5), .inr (2, [.int (nm 5), .int (fk 5), .ref (va 5), .int (mi 5), .int (td 5)])), ((va 5), .inl ((ca 5), 3, .inl (v 5))), ((fo 6), .inr (2, [.int (nm 6), .int (fk 6), .ref (va 6), .int (mi 6), .int (td 6)])), ((va 6), .inl ((ca 6), 3, .inl (v 6))), ((fo 7), .inr (2, [.int (nm 7), .int (fk 7), .ref (va 7), .int (mi 7), .int (td 7)])), ((va 7), .inl ((ca 7), 3, .inl (v 7))), ((fo 8), .inr (2, [.int (nm 8), .int (fk 8), .ref (va 8), .int (mi 8), .int (td 8)])), ((va 8), .inl ((ca 8), 3, .inl (v 8))), ((fo 9), .inr (2, [.int (nm 9), .int (fk 9), .ref (va 9), .int (mi 9), .int (td 9)])), ((va 9), .inl ((ca 9), 3, .inl (v 9))), ((fo 10), .inr (2, [.int (nm 10), .int (fk 10), .ref (va 10), .int (mi 10), .int (td 10)])), ((va 10), .inl ((ca 10), 3, .inl (v 10))), ((fo 11), .inr (2, [.int (nm 11), .int (fk 11), .ref (va 11), .int (mi 11), .int (td 11)])), ((va 11), .inl ((ca 11), 3, .inl (v 11))), ((fo 12), .inr (2, [.int (nm 12), .int (fk 12), .ref (va 12), .int (mi 12), .int (td 12)])), ((va 12), .inl ((ca 12), 3, .inl (v 12))), ((fo 13), .inr (2, [.int (nm 13), .int (fk 13), .ref (va 13), .int (mi 13), .int (td 13)])), ((va 13), .inl ((ca 13), 3, .inl (v 13))), ((fo 14), .inr (2, [.int (nm 14), .int (fk 14), .ref (va 14), .int (mi 14), .int (td 14)])), ((va 14), .inl ((ca 14), 3, .inl (v 14))), ((fo 15), .inr (2, [.int (nm 15), .int (fk 15), .ref (va 15), .int (mi 15), .int (td 15)])), ((va 15), .inl ((ca 15), 3, .inl (v 15)))] := hD
          refine lv_aload_n hx hb dX8_outcome_243 rfl (lv_at hl 4 rfl) ?_
          refine va_get (D := (dC, dI)) (ci := 4) (v := .ref g) (C := RX4) (T := TX4) (N := 17) hx hb hts (by decide +kernel) hown hK hP 0 rfl rfl 4 (by decide) (hts (.fieldLink RX8 9 "Ruleengine$Search" "values" "[I") (by decide +kernel)) (fun _ h9 => h9) rfl dX8_outcome_244 ?_
          refine lv_aload_n hx hb dX8_outcome_247 rfl (lv_at hl 5 rfl) ?_
          refine va_get (D := (dC, dI)) (ci := 5) (v := .int le) (C := RX5) (T := TX5) (N := 7) hx hb hts (by decide +kernel) hown hK hP 1 rfl rfl 2 (by decide) (hts (.fieldLink RX8 74 "Ruleengine$Part" "left" "I") (by decide +kernel)) (fun _ h9 => h9) rfl dX8_outcome_248 ?_
          refine lv_bipush (v := (16 : Int32)) hx hb dX8_outcome_251 (by decide) ?_
          refine lv_isub hx hb dX8_outcome_253 ?_
          refine va_iald (i := (le - (16))) hx hb hK hP 6 2 rfl rfl (hle (by first | exact Or.inl (by assumption) | exact Or.inr (by assumption))) dX8_outcome_254 ?_
          refine lv_iload hx hb dX8_outcome_255 (lv_at hl 0 rfl) ?_
          refine lv_icmp_ne hx hb dX8_outcome_257 rfl (fun q9 => ?_) (fun q9 => ?_)
          · refine lv_iconst (v := (-1 : Int32)) hx hb dX8_outcome_265 (by decide) ?_
            exact W.iret hx hb hr (fun t ht hW => ⟨⟨_, (upd vs ((le - (16))).toNatClampNeg sm), rfl, ⟨by clear hP hD hK hS hl hts; simp only [← a1, ← a3]; clear a1 a2 a3; simp_all [lf_upd], by clear hP hD hK hS hl hts; simp only [← a1, ← a2, ← a3]; clear a1 a2 a3; simp_all [lf_upd]⟩, by rw [ht]; exact hP, va_K.moved hW.alike hK, hD⟩, hS.F ht⟩) hS.2.2 dX8_outcome_266
          · refine lv_iload hx hb dX8_outcome_260 (lv_at hl 0 rfl) ?_
            refine lv_goto hx hb dX8_outcome_262 rfl ?_
            exact W.iret hx hb hr (fun t ht hW => ⟨⟨_, (upd vs ((le - (16))).toNatClampNeg sm), rfl, ⟨by clear hP hD hK hS hl hts; simp only [← a1, ← a3]; clear a1 a2 a3; simp_all [lf_upd], by clear hP hD hK hS hl hts; simp only [← a1, ← a2, ← a3]; clear a1 a2 a3; simp_all [lf_upd]⟩, by rw [ht]; exact hP, va_K.moved hW.alike hK, hD⟩, hS.F ht⟩) hS.2.2 dX8_outcome_266
    · refine lv_aload_n hx hb dX8_outcome_198 rfl (lv_at hl 5 rfl) ?_
      refine va_get (D := (dC, dI)) (ci := 5) (v := .int so) (C := RX5) (T := TX5) (N := 7) hx hb hts (by decide +kernel) hown hK hP 1 rfl rfl 0 (by decide) (hts (.fieldLink RX8 43 "Ruleengine$Part" "sort" "I") (by decide +kernel)) (fun _ h9 => h9) rfl dX8_outcome_199 ?_
      refine lv_iconst (v := (5 : Int32)) hx hb dX8_outcome_202 (by decide) ?_
      refine lv_icmp_ne hx hb dX8_outcome_203 rfl (fun q10 => ?_) (fun q10 => ?_)
      · refine lv_aload_n hx hb dX8_outcome_267 rfl (lv_at hl 5 rfl) ?_
        refine va_get (D := (dC, dI)) (ci := 5) (v := .int so) (C := RX5) (T := TX5) (N := 7) hx hb hts (by decide +kernel) hown hK hP 1 rfl rfl 0 (by decide) (hts (.fieldLink RX8 43 "Ruleengine$Part" "sort" "I") (by decide +kernel)) (fun _ h9 => h9) rfl dX8_outcome_268 ?_
        refine lv_iconst (v := (2 : Int32)) hx hb dX8_outcome_271 (by decide) ?_
        refine lv_icmp_ne hx hb dX8_outcome_272 rfl (fun q11 => ?_) (fun q11 => ?_)
        · refine lv_aload_n hx hb dX8_outcome_287 rfl (lv_at hl 5 rfl) ?_
          refine va_get (D := (dC, dI)) (ci := 5) (v := .int so) (C := RX5) (T := TX5) (N := 7) hx hb hts (by decide +kernel) hown hK hP 1 rfl rfl 0 (by decide) (hts (.fieldLink RX8 43 "Ruleengine$Part" "sort" "I") (by decide +kernel)) (fun _ h9 => h9) rfl dX8_outcome_288 ?_
          refine lv_iconst (v := (3 : Int32)) hx hb dX8_outcome_291 (by decide) ?_
          refine lv_icmp_ne hx hb dX8_outcome_292 rfl (fun q12 => ?_) (fun q12 => ?_)
          · refine lv_iload_n hx hb dX8_outcome_299 rfl (lv_at hl 3 rfl) ?_
            refine lv_if_ne hx hb dX8_outcome_300 rfl (fun q13 => ?_) (fun q13 => ?_)
            · refine lv_iconst (v := (0 : Int32)) hx hb dX8_outcome_307 (by decide) ?_
              refine lv_istore (lv' := [(5, .int (0)), (4, .int sm), (3, .int o), (2, .int n), (0, .ref h0), (1, .ref h1)]) hx hb dX8_outcome_308 hl (by decide) rfl (fun ls hl => ?_)
              refine lv_iload hx hb dX8_outcome_310 (lv_at hl 0 rfl) ?_
              refine lv_if_eq hx hb dX8_outcome_312 rfl (fun _ => ?_) (fun q => absurd (by decide) q)
              refine lv_iconst (v := (-1 : Int32)) hx hb dX8_outcome_319 (by decide) ?_
              exact W.iret hx hb hr (fun t ht hW => ⟨⟨_, vs, rfl, ⟨by clear hP hD hK hS hl hts; simp only [← a1, ← a3]; clear a1 a2 a3; simp_all [lf_upd], by clear hP hD hK hS hl hts; simp only [← a1, ← a2, ← a3]; clear a1 a2 a3; simp_all [lf_upd]⟩, by rw [ht]; exact hP, va_K.moved hW.alike hK, hD⟩, hS.F ht⟩) hS.2.2 dX8_outcome_320
            · refine lv_iconst (v := (1 : Int32)) hx hb dX8_outcome_303 (by decide) ?_
              refine lv_goto hx hb dX8_outcome_304 rfl ?_
              refine lv_istore (lv' := [(5, .int (1)), (4, .int sm), (3, .int o), (2, .int n), (0, .ref h0), (1, .ref h1)]) hx hb dX8_outcome_308 hl (by decide) rfl (fun ls hl => ?_)
              refine lv_iload hx hb dX8_outcome_310 (lv_at hl 0 rfl) ?_
              refine lv_if_eq hx hb dX8_outcome_312 rfl (fun q => absurd q (by decide)) (fun _ => ?_)
              refine lv_iconst (v := (0 : Int32)) hx hb dX8_outcome_315 (by decide) ?_
              refine lv_goto hx hb dX8_outcome_316 rfl ?_
              exact W.iret hx hb hr (fun t ht hW => ⟨⟨_, vs, rfl, ⟨by clear hP hD hK hS hl hts; simp only [← a1, ← a3]; clear a1 a2 a3; simp_all [lf_upd], by clear hP hD hK hS hl hts; simp only [← a1, ← a2, ← a3]; clear a1 a2 a3; simp_all [lf_upd]⟩, by rw [ht]; exact hP, va_K.moved hW.alike hK, hD⟩, hS.F ht⟩) hS.2.2 dX8_outcome_320
          · refine lv_iload_n hx hb dX8_outcome_295 rfl (lv_at hl 2 rfl) ?_
            refine lv_goto hx hb dX8_outcome_296 rfl ?_
            refine lv_if_ne hx hb dX8_outcome_300 rfl (fun q16 => ?_) (fun q16 => ?_)
            · refine lv_iconst (v := (0 : Int32)) hx hb dX8_outcome_307 (by decide) ?_
              refine lv_istore (lv' := [(5, .int (0)), (4, .int sm), (3, .int o), (2, .int n), (0, .ref h0), (1, .ref h1)]) hx hb dX8_outcome_308 hl (by decide) rfl (fun ls hl => ?_)
              refine lv_iload hx hb dX8_outcome_310 (lv_at hl 0 rfl) ?_
              refine lv_if_eq hx hb dX8_outcome_312 rfl (fun _ => ?_) (fun q => absurd (by decide) q)
              refine lv_iconst (v := (-1 : Int32)) hx hb dX8_outcome_319 (by decide) ?_
              exact W.iret hx hb hr (fun t ht hW => ⟨⟨_, vs, rfl, ⟨by clear hP hD hK hS hl hts; simp only [← a1, ← a3]; clear a1 a2 a3; simp_all [lf_upd], by clear hP hD hK hS hl hts; simp only [← a1, ← a2, ← a3]; clear a1 a2 a3; simp_all [lf_upd]⟩, by rw [ht]; exact hP, va_K.moved hW.alike hK, hD⟩, hS.F ht⟩) hS.2.2 dX8_outcome_320
            · refine lv_iconst (v := (1 : Int32)) hx hb dX8_outcome_303 (by decide) ?_
              refine lv_goto hx hb dX8_outcome_304 rfl ?_
              refine lv_istore (lv' := [(5, .int (1)), (4, .int sm), (3, .int o), (2, .int n), (0, .ref h0), (1, .ref h1)]) hx hb dX8_outcome_308 hl (by decide) rfl (fun ls hl => ?_)
              refine lv_iload hx hb dX8_outcome_310 (lv_at hl 0 rfl) ?_
              refine lv_if_eq hx hb dX8_outcome_312 rfl (fun q => absurd q (by decide)) (fun _ => ?_)
              refine lv_iconst (v := (0 : Int32)) hx hb dX8_outcome_315 (by decide) ?_
              refine lv_goto hx hb dX8_outcome_316 rfl ?_
              exact W.iret hx hb hr (fun t ht hW => ⟨⟨_, vs, rfl, ⟨by clear hP hD hK hS hl hts; simp only [← a1, ← a3]; clear a1 a2 a3; simp_all [lf_upd], by clear hP hD hK hS hl hts; simp only [← a1, ← a2, ← a3]; clear a1 a2 a3; simp_all [lf_upd]⟩, by rw [ht]; exact hP, va_K.moved hW.alike hK, hD⟩, hS.F ht⟩) hS.2.2 dX8_outcome_320
        · refine lv_iload_n hx hb dX8_outcome_275 rfl (lv_at hl 3 rfl) ?_
          refine lv_if_le hx hb dX8_outcome_276 rfl (fun q19 => ?_) (fun q19 => ?_)
          · refine lv_iconst (v := (0 : Int32)) hx hb dX8_outcome_283 (by decide) ?_
            refine lv_goto hx hb dX8_outcome_284 rfl ?_
            refine lv_istore (lv' := [(5, .int (0)), (4, .int sm), (3, .int o), (2, .int n), (0, .ref h0), (1, .ref h1)]) hx hb dX8_outcome_308 hl (by decide) rfl (fun ls hl => ?_)
            refine lv_iload hx hb dX8_outcome_310 (lv_at hl 0 rfl) ?_
            refine lv_if_eq hx hb dX8_outcome_312 rfl (fun _ => ?_) (fun q => absurd (by decide) q)
            refine lv_iconst (v := (-1 : Int32)) hx hb dX8_outcome_319 (by decide) ?_
            exact W.iret hx hb hr (fun t ht hW => ⟨⟨_, vs, rfl, ⟨by clear hP hD hK hS hl hts; simp only [← a1, ← a3]; clear a1 a2 a3; simp_all [lf_upd], by clear hP hD hK hS hl hts; simp only [← a1, ← a2, ← a3]; clear a1 a2 a3; simp_all [lf_upd]⟩, by rw [ht]; exact hP, va_K.moved hW.alike hK, hD⟩, hS.F ht⟩) hS.2.2 dX8_outcome_320
          · refine lv_iconst (v := (1 : Int32)) hx hb dX8_outcome_279 (by decide) ?_
            refine lv_goto hx hb dX8_outcome_280 rfl ?_
            refine lv_istore (lv' := [(5, .int (1)), (4, .int sm), (3, .int o), (2, .int n), (0, .ref h0), (1, .ref h1)]) hx hb dX8_outcome_308 hl (by decide) rfl (fun ls hl => ?_)
            refine lv_iload hx hb dX8_outcome_310 (lv_at hl 0 rfl) ?_
            refine lv_if_eq hx hb dX8_outcome_312 rfl (fun q => absurd q (by decide)) (fun _ => ?_)
            refine lv_iconst (v := (0 : Int32)) hx hb dX8_outcome_315 (by decide) ?_
            refine lv_goto hx hb dX8_outcome_316 rfl ?_
            exact W.iret hx hb hr (fun t ht hW => ⟨⟨_, vs, rfl, ⟨by clear hP hD hK hS hl hts; simp only [← a1, ← a3]; clear a1 a2 a3; simp_all [lf_upd], by clear hP hD hK hS hl hts; simp only [← a1, ← a2, ← a3]; clear a1 a2 a3; simp_all [lf_upd]⟩, by rw [ht]; exact hP, va_K.moved hW.alike hK, hD⟩, hS.F ht⟩) hS.2.2 dX8_outcome_320
      · refine lv_aload_n hx hb dX8_outcome_206 rfl (lv_at hl 5 rfl) ?_
        refine va_get (D := (dC, dI)) (ci := 5) (v := .int so) (C := RX5) (T := TX5) (N := 7) hx hb hts (by decide +kernel) hown hK hP 1 rfl rfl 0 (by decide) (hts (.fieldLink RX8 43 "Ruleengine$Part" "sort" "I") (by decide +kernel)) (fun _ h9 => h9) rfl dX8_outcome_207 ?_
        refine lv_iconst (v := (5 : Int32)) hx hb dX8_outcome_210 (by decide) ?_
        refine lv_icmp_ne hx hb dX8_outcome_211 rfl (fun q22 => ?_) (fun q22 => ?_)
        · refine lv_iload_n hx hb dX8_outcome_219 rfl (lv_at hl 3 rfl) ?_
          refine lv_istore (lv' := [(5, .int n), (4, .int sm), (3, .int o), (2, .int n), (0, .ref h0), (1, .ref h1)]) hx hb dX8_outcome_220 hl (by decide) rfl (fun ls hl => ?_)
          refine lv_aload_n hx hb dX8_outcome_222 rfl (lv_at hl 5 rfl) ?_
          refine va_get (D := (dC, dI)) (ci := 5) (v := .int nw) (C := RX5) (T := TX5) (N := 7) hx hb hts (by decide +kernel) hown hK hP 1 rfl rfl 5 (by decide) (hts (.fieldLink RX8 104 "Ruleengine$Part" "isNew" "Z") (by decide +kernel)) (fun _ h9 => h9) rfl dX8_outcome_223 ?_
          refine lv_if_eq hx hb dX8_outcome_226 rfl (fun q23 => ?_) (fun q23 => ?_)
          · refine lv_aload_n hx hb dX8_outcome_243 rfl (lv_at hl 4 rfl) ?_
            refine va_get (D := (dC, dI)) (ci := 4) (v := .ref g) (C := RX4) (T := TX4) (N := 17) hx hb hts (by decide +kernel) hown hK hP 0 rfl rfl 4 (by decide) (hts (.fieldLink RX8 9 "Ruleengine$Search" "values" "[I") (by decide +kernel)) (fun _ h9 => h9) rfl dX8_outcome_244 ?_
            refine lv_aload_n hx hb dX8_outcome_247 rfl (lv_at hl 5 rfl) ?_
            refine va_get (D := (dC, dI)) (ci := 5) (v := .int le) (C := RX5) (T := TX5) (N := 7) hx hb hts (by decide +kernel) hown hK hP 1 rfl rfl 2 (by decide) (hts (.fieldLink RX8 74 "Ruleengine$Part" "left" "I") (by decide +kernel)) (fun _ h9 => h9) rfl dX8_outcome_248 ?_
            refine lv_bipush (v := (16 : Int32)) hx hb dX8_outcome_251 (by decide) ?_
            refine lv_isub hx hb dX8_outcome_253 ?_
            refine va_iald (i := (le - (16))) hx hb hK hP 6 2 rfl rfl (hle (by first | exact Or.inl (by assumption) | exact Or.inr (by assumption))) dX8_outcome_254 ?_
            refine lv_iload hx hb dX8_outcome_255 (lv_at hl 0 rfl) ?_
            refine lv_icmp_ne hx hb dX8_outcome_257 rfl (fun q24 => ?_) (fun q24 => ?_)
            · refine lv_iconst (v := (-1 : Int32)) hx hb dX8_outcome_265 (by decide) ?_
              exact W.iret hx hb hr (fun t ht hW => ⟨⟨_, vs, rfl, ⟨by clear hP hD hK hS hl hts; simp only [← a1, ← a3]; clear a1 a2 a3; simp_all [lf_upd], by clear hP hD hK hS hl hts; simp only [← a1, ← a2, ← a3]; clear a1 a2 a3; simp_all [lf_upd]⟩, by rw [ht]; exact hP, va_K.moved hW.alike hK, hD⟩, hS.F ht⟩) hS.2.2 dX8_outcome_266
            · refine lv_iload hx hb dX8_outcome_260 (lv_at hl 0 rfl) ?_
              refine lv_goto hx hb dX8_outcome_262 rfl ?_
              exact W.iret hx hb hr (fun t ht hW => ⟨⟨_, vs, rfl, ⟨by clear hP hD hK hS hl hts; simp only [← a1, ← a3]; clear a1 a2 a3; simp_all [lf_upd], by clear hP hD hK hS hl hts; simp only [← a1, ← a2, ← a3]; clear a1 a2 a3; simp_all [lf_upd]⟩, by rw [ht]; exact hP, va_K.moved hW.alike hK, hD⟩, hS.F ht⟩) hS.2.2 dX8_outcome_266
          · refine lv_aload_n hx hb dX8_outcome_229 rfl (lv_at hl 4 rfl) ?_
            refine va_get (D := (dC, dI)) (ci := 4) (v := .ref g) (C := RX4) (T := TX4) (N := 17) hx hb hts (by decide +kernel) hown hK hP 0 rfl rfl 4 (by decide) (hts (.fieldLink RX8 9 "Ruleengine$Search" "values" "[I") (by decide +kernel)) (fun _ h9 => h9) rfl dX8_outcome_230 ?_
            refine lv_aload_n hx hb dX8_outcome_233 rfl (lv_at hl 5 rfl) ?_
            refine va_get (D := (dC, dI)) (ci := 5) (v := .int le) (C := RX5) (T := TX5) (N := 7) hx hb hts (by decide +kernel) hown hK hP 1 rfl rfl 2 (by decide) (hts (.fieldLink RX8 74 "Ruleengine$Part" "left" "I") (by decide +kernel)) (fun _ h9 => h9) rfl dX8_outcome_234 ?_
            refine lv_bipush (v := (16 : Int32)) hx hb dX8_outcome_237 (by decide) ?_
            refine lv_isub hx hb dX8_outcome_239 ?_
            refine lv_iload hx hb dX8_outcome_240 (lv_at hl 0 rfl) ?_
            refine va_iast hx hb hK hP hD hS 6 2 rfl rfl (hle (by first | exact Or.inl (by assumption) | exact Or.inr (by assumption))) dX8_outcome_242 (fun H locs hP hD hS => ?_)
            have hP : va_P (dC, dI) CL [(h0, .inr (4, .ref st :: .ref po :: .int ps :: .int ie :: .ref g :: mr)), (h1, .inr (5, [.int so, .ref ao, .int le, .int ri, .int rl, .int nw, .int fa_])), (ao, .inr (0, [.int kd, .ref sg, .ref wt, .int e12, .int e13, .int e23])), (wt, .inl (cw, 3, .inl w)), (st, .inr (8, .ref fa :: sr)), (fa, .inl (cf, 16, .inr (.inr (.inr (.inr (fun j => some (fo j))))))), (g, .inl (cg, 6, .inl (upd vs ((le - (16))).toNatClampNeg n))), ((fo 0), .inr (2, [.int (nm 0), .int (fk 0), .ref (va 0), .int (mi 0), .int (td 0)])), ((va 0), .inl ((ca 0), 3, .inl (v 0))), ((fo 1), .inr (2, [.int (nm 1), .int (fk 1), .ref (va 1), .int (mi 1), .int (td 1)])), ((va 1), .inl ((ca 1), 3, .inl (v 1))), ((fo 2), .inr (2, [.int (nm 2), .int (fk 2), .ref (va 2), .int (mi 2), .int (td 2)])), ((va 2), .inl ((ca 2), 3, .inl (v 2))), ((fo 3), .inr (2, [.int (nm 3), .int (fk 3), .ref (va 3), .int (mi 3), .int (td 3)])), ((va 3), .inl ((ca 3), 3, .inl (v 3))), ((fo 4), .inr (2, [.int (nm 4), .int (fk 4), .ref (va 4), .int (mi 4), .int (td 4)])), ((va 4), .inl ((ca 4), 3, .inl (v 4))), ((fo 5), .inr (2, [.int (nm 5), .int (fk 5), .ref (va 5), .int (mi 5), .int (td 5)])), ((va 5), .inl ((ca 5), 3, .inl (v 5))), ((fo 6), .inr (2, [.int (nm 6), .int (fk 6), .ref (va 6), .int (mi 6), .int (td 6)])), ((va 6), .inl ((ca 6), 3, .inl (v 6))), ((fo 7), .inr (2, [.int (nm 7), .int (fk 7), .ref (va 7), .int (mi 7), .int (td 7)])), ((va 7), .inl ((ca 7), 3, .inl (v 7))), ((fo 8), .inr (2, [.int (nm 8), .int (fk 8), .ref (va 8), .int (mi 8), .int (td 8)])), ((va 8), .inl ((ca 8), 3, .inl (v 8))), ((fo 9), .inr (2, [.int (nm 9), .int (fk 9), .ref (va 9), .int (mi 9), .int (td 9)])), ((va 9), .inl ((ca 9), 3, .inl (v 9))), ((fo 10), .inr (2, [.int (nm 10), .int (fk 10), .ref (va 10), .int (mi 10), .int (td 10)])), ((va 10), .inl ((ca 10), 3, .inl (v 10))), ((fo 11), .inr (2, [.int (nm 11), .int (fk 11), .ref (va 11), .int (mi 11), .int (td 11)])), ((va 11), .inl ((ca 11), 3, .inl (v 11))), ((fo 12), .inr (2, [.int (nm 12), .int (fk 12), .ref (va 12), .int (mi 12), .int (td 12)])), ((va 12), .inl ((ca 12), 3, .inl (v 12))), ((fo 13), .inr (2, [.int (nm 13), .int (fk 13), .ref (va 13), .int (mi 13), .int (td 13)])), ((va 13), .inl ((ca 13), 3, .inl (v 13))), ((fo 14), .inr (2, [.int (nm 14), .int (fk 14), .ref (va 14), .int (mi 14), .int (td 14)])), ((va 14), .inl ((ca 14), 3, .inl (v 14))), ((fo 15), .inr (2, [.int (nm 15), .int (fk 15), .ref (va 15), .int (mi 15), .int (td 15)])), ((va 15), .inl ((ca 15), 3, .inl (v 15)))] H := hP
            have hD : va_D A [(h0, .inr (4, .ref st :: .ref po :: .int ps :: .int ie :: .ref g :: mr)), (h1, .inr (5, [.int so, .ref ao, .int le, .int ri, .int rl, .int nw, .int fa_])), (ao, .inr (0, [.int kd, .ref sg, .ref wt, .int e12, .int e13, .int e23])), (wt, .inl (cw, 3, .inl w)), (st, .inr (8, .ref fa :: sr)), (fa, .inl (cf, 16, .inr (.inr (.inr (.inr (fun j => some (fo j))))))), (g, .inl (cg, 6, .inl (upd vs ((le - (16))).toNatClampNeg n))), ((fo 0), .inr (2, [.int (nm 0), .int (fk 0), .ref (va 0), .int (mi 0), .int (td 0)])), ((va 0), .inl ((ca 0), 3, .inl (v 0))), ((fo 1), .inr (2, [.int (nm 1), .int (fk 1), .ref (va 1), .int (mi 1), .int (td 1)])), ((va 1), .inl ((ca 1), 3, .inl (v 1))), ((fo 2), .inr (2, [.int (nm 2), .int (fk 2), .ref (va 2), .int (mi 2), .int (td 2)])), ((va 2), .inl ((ca 2), 3, .inl (v 2))), ((fo 3), .inr (2, [.int (nm 3), .int (fk 3), .ref (va 3), .int (mi 3), .int (td 3)])), ((va 3), .inl ((ca 3), 3, .inl (v 3))), ((fo 4), .inr (2, [.int (nm 4), .int (fk 4), .ref (va 4), .int (mi 4), .int (td 4)])), ((va 4), .inl ((ca 4), 3, .inl (v 4))), ((fo 5), .inr (2, [.int (nm 5), .int (fk 5), .ref (va 5), .int (mi 5), .int (td 5)])), ((va 5), .inl ((ca 5), 3, .inl (v 5))), ((fo 6), .inr (2, [.int (nm 6), .int (fk 6), .ref (va 6), .int (mi 6), .int (td 6)])), ((va 6), .inl ((ca 6), 3, .inl (v 6))), ((fo 7), .inr (2, [.int (nm 7), .int (fk 7), .ref (va 7), .int (mi 7), .int (td 7)])), ((va 7), .inl ((ca 7), 3, .inl (v 7))), ((fo 8), .inr (2, [.int (nm 8), .int (fk 8), .ref (va 8), .int (mi 8), .int (td 8)])), ((va 8), .inl ((ca 8), 3, .inl (v 8))), ((fo 9), .inr (2, [.int (nm 9), .int (fk 9), .ref (va 9), .int (mi 9), .int (td 9)])), ((va 9), .inl ((ca 9), 3, .inl (v 9))), ((fo 10), .inr (2, [.int (nm 10), .int (fk 10), .ref (va 10), .int (mi 10), .int (td 10)])), ((va 10), .inl ((ca 10), 3, .inl (v 10))), ((fo 11), .inr (2, [.int (nm 11), .int (fk 11), .ref (va 11), .int (mi 11), .int (td 11)])), ((va 11), .inl ((ca 11), 3, .inl (v 11))), ((fo 12), .inr (2, [.int (nm 12), .int (fk 12), .ref (va 12), .int (mi 12), .int (td 12)])), ((va 12), .inl ((ca 12), 3, .inl (v 12))), ((fo 13), .inr (2, [.int (nm 13), .int (fk 13), .ref (va 13), .int (mi 13), .int (td 13)])), ((va 13), .inl ((ca 13), 3, .inl (v 13))), ((fo 14), .inr (2, [.int (nm 14), .int (fk 14), .ref (va 14), .int (mi 14), .int (td 14)])), ((va 14), .inl ((ca 14), 3, .inl (v 14))), ((fo 15), .inr (2, [.int (nm 15), .int (fk 15), .ref (va 15), .int (mi 15), .int (td 15)])), ((va 15), .inl ((ca 15), 3, .inl (v 15)))] := hD
            refine lv_aload_n hx hb dX8_outcome_243 rfl (lv_at hl 4 rfl) ?_
            refine va_get (D := (dC, dI)) (ci := 4) (v := .ref g) (C := RX4) (T := TX4) (N := 17) hx hb hts (by decide +kernel) hown hK hP 0 rfl rfl 4 (by decide) (hts (.fieldLink RX8 9 "Ruleengine$Search" "values" "[I") (by decide +kernel)) (fun _ h9 => h9) rfl dX8_outcome_244 ?_
            refine lv_aload_n hx hb dX8_outcome_247 rfl (lv_at hl 5 rfl) ?_
            refine va_get (D := (dC, dI)) (ci := 5) (v := .int le) (C := RX5) (T := TX5) (N := 7) hx hb hts (by decide +kernel) hown hK hP 1 rfl rfl 2 (by decide) (hts (.fieldLink RX8 74 "Ruleengine$Part" "left" "I") (by decide +kernel)) (fun _ h9 => h9) rfl dX8_outcome_248 ?_
            refine lv_bipush (v := (16 : Int32)) hx hb dX8_outcome_251 (by decide) ?_
            refine lv_isub hx hb dX8_outcome_253 ?_
            refine va_iald (i := (le - (16))) hx hb hK hP 6 2 rfl rfl (hle (by first | exact Or.inl (by assumption) | exact Or.inr (by assumption))) dX8_outcome_254 ?_
            refine lv_iload hx hb dX8_outcome_255 (lv_at hl 0 rfl) ?_
            refine lv_icmp_ne hx hb dX8_outcome_257 rfl (fun q25 => ?_) (fun q25 => ?_)
            · refine lv_iconst (v := (-1 : Int32)) hx hb dX8_outcome_265 (by decide) ?_
              exact W.iret hx hb hr (fun t ht hW => ⟨⟨_, (upd vs ((le - (16))).toNatClampNeg n), rfl, ⟨by clear hP hD hK hS hl hts; simp only [← a1, ← a3]; clear a1 a2 a3; simp_all [lf_upd], by clear hP hD hK hS hl hts; simp only [← a1, ← a2, ← a3]; clear a1 a2 a3; simp_all [lf_upd]⟩, by rw [ht]; exact hP, va_K.moved hW.alike hK, hD⟩, hS.F ht⟩) hS.2.2 dX8_outcome_266
            · refine lv_iload hx hb dX8_outcome_260 (lv_at hl 0 rfl) ?_
              refine lv_goto hx hb dX8_outcome_262 rfl ?_
              exact W.iret hx hb hr (fun t ht hW => ⟨⟨_, (upd vs ((le - (16))).toNatClampNeg n), rfl, ⟨by clear hP hD hK hS hl hts; simp only [← a1, ← a3]; clear a1 a2 a3; simp_all [lf_upd], by clear hP hD hK hS hl hts; simp only [← a1, ← a2, ← a3]; clear a1 a2 a3; simp_all [lf_upd]⟩, by rw [ht]; exact hP, va_K.moved hW.alike hK, hD⟩, hS.F ht⟩) hS.2.2 dX8_outcome_266
        · refine lv_iload hx hb dX8_outcome_214 (lv_at hl 1 rfl) ?_
          refine lv_goto hx hb dX8_outcome_216 rfl ?_
          refine lv_istore (lv' := [(5, .int sm), (4, .int sm), (3, .int o), (2, .int n), (0, .ref h0), (1, .ref h1)]) hx hb dX8_outcome_220 hl (by decide) rfl (fun ls hl => ?_)
          refine lv_aload_n hx hb dX8_outcome_222 rfl (lv_at hl 5 rfl) ?_
          refine va_get (D := (dC, dI)) (ci := 5) (v := .int nw) (C := RX5) (T := TX5) (N := 7) hx hb hts (by decide +kernel) hown hK hP 1 rfl rfl 5 (by decide) (hts (.fieldLink RX8 104 "Ruleengine$Part" "isNew" "Z") (by decide +kernel)) (fun _ h9 => h9) rfl dX8_outcome_223 ?_
          refine lv_if_eq hx hb dX8_outcome_226 rfl (fun q26 => ?_) (fun q26 => ?_)
          · refine lv_aload_n hx hb dX8_outcome_243 rfl (lv_at hl 4 rfl) ?_
            refine va_get (D := (dC, dI)) (ci := 4) (v := .ref g) (C := RX4) (T := TX4) (N := 17) hx hb hts (by decide +kernel) hown hK hP 0 rfl rfl 4 (by decide) (hts (.fieldLink RX8 9 "Ruleengine$Search" "values" "[I") (by decide +kernel)) (fun _ h9 => h9) rfl dX8_outcome_244 ?_
            refine lv_aload_n hx hb dX8_outcome_247 rfl (lv_at hl 5 rfl) ?_
            refine va_get (D := (dC, dI)) (ci := 5) (v := .int le) (C := RX5) (T := TX5) (N := 7) hx hb hts (by decide +kernel) hown hK hP 1 rfl rfl 2 (by decide) (hts (.fieldLink RX8 74 "Ruleengine$Part" "left" "I") (by decide +kernel)) (fun _ h9 => h9) rfl dX8_outcome_248 ?_
            refine lv_bipush (v := (16 : Int32)) hx hb dX8_outcome_251 (by decide) ?_
            refine lv_isub hx hb dX8_outcome_253 ?_
            refine va_iald (i := (le - (16))) hx hb hK hP 6 2 rfl rfl (hle (by first | exact Or.inl (by assumption) | exact Or.inr (by assumption))) dX8_outcome_254 ?_
            refine lv_iload hx hb dX8_outcome_255 (lv_at hl 0 rfl) ?_
            refine lv_icmp_ne hx hb dX8_outcome_257 rfl (fun q27 => ?_) (fun q27 => ?_)
            · refine lv_iconst (v := (-1 : Int32)) hx hb dX8_outcome_265 (by decide) ?_
              exact W.iret hx hb hr (fun t ht hW => ⟨⟨_, vs, rfl, ⟨by clear hP hD hK hS hl hts; simp only [← a1, ← a3]; clear a1 a2 a3; simp_all [lf_upd], by clear hP hD hK hS hl hts; simp only [← a1, ← a2, ← a3]; clear a1 a2 a3; simp_all [lf_upd]⟩, by rw [ht]; exact hP, va_K.moved hW.alike hK, hD⟩, hS.F ht⟩) hS.2.2 dX8_outcome_266
            · refine lv_iload hx hb dX8_outcome_260 (lv_at hl 0 rfl) ?_
              refine lv_goto hx hb dX8_outcome_262 rfl ?_
              exact W.iret hx hb hr (fun t ht hW => ⟨⟨_, vs, rfl, ⟨by clear hP hD hK hS hl hts; simp only [← a1, ← a3]; clear a1 a2 a3; simp_all [lf_upd], by clear hP hD hK hS hl hts; simp only [← a1, ← a2, ← a3]; clear a1 a2 a3; simp_all [lf_upd]⟩, by rw [ht]; exact hP, va_K.moved hW.alike hK, hD⟩, hS.F ht⟩) hS.2.2 dX8_outcome_266
          · refine lv_aload_n hx hb dX8_outcome_229 rfl (lv_at hl 4 rfl) ?_
            refine va_get (D := (dC, dI)) (ci := 4) (v := .ref g) (C := RX4) (T := TX4) (N := 17) hx hb hts (by decide +kernel) hown hK hP 0 rfl rfl 4 (by decide) (hts (.fieldLink RX8 9 "Ruleengine$Search" "values" "[I") (by decide +kernel)) (fun _ h9 => h9) rfl dX8_outcome_230 ?_
            refine lv_aload_n hx hb dX8_outcome_233 rfl (lv_at hl 5 rfl) ?_
            refine va_get (D := (dC, dI)) (ci := 5) (v := .int le) (C := RX5) (T := TX5) (N := 7) hx hb hts (by decide +kernel) hown hK hP 1 rfl rfl 2 (by decide) (hts (.fieldLink RX8 74 "Ruleengine$Part" "left" "I") (by decide +kernel)) (fun _ h9 => h9) rfl dX8_outcome_234 ?_
            refine lv_bipush (v := (16 : Int32)) hx hb dX8_outcome_237 (by decide) ?_
            refine lv_isub hx hb dX8_outcome_239 ?_
            refine lv_iload hx hb dX8_outcome_240 (lv_at hl 0 rfl) ?_
            refine va_iast hx hb hK hP hD hS 6 2 rfl rfl (hle (by first | exact Or.inl (by assumption) | exact Or.inr (by assumption))) dX8_outcome_242 (fun H locs hP hD hS => ?_)
            have hP : va_P (dC, dI) CL [(h0, .inr (4, .ref st :: .ref po :: .int ps :: .int ie :: .ref g :: mr)), (h1, .inr (5, [.int so, .ref ao, .int le, .int ri, .int rl, .int nw, .int fa_])), (ao, .inr (0, [.int kd, .ref sg, .ref wt, .int e12, .int e13, .int e23])), (wt, .inl (cw, 3, .inl w)), (st, .inr (8, .ref fa :: sr)), (fa, .inl (cf, 16, .inr (.inr (.inr (.inr (fun j => some (fo j))))))), (g, .inl (cg, 6, .inl (upd vs ((le - (16))).toNatClampNeg sm))), ((fo 0), .inr (2, [.int (nm 0), .int (fk 0), .ref (va 0), .int (mi 0), .int (td 0)])), ((va 0), .inl ((ca 0), 3, .inl (v 0))), ((fo 1), .inr (2, [.int (nm 1), .int (fk 1), .ref (va 1), .int (mi 1), .int (td 1)])), ((va 1), .inl ((ca 1), 3, .inl (v 1))), ((fo 2), .inr (2, [.int (nm 2), .int (fk 2), .ref (va 2), .int (mi 2), .int (td 2)])), ((va 2), .inl ((ca 2), 3, .inl (v 2))), ((fo 3), .inr (2, [.int (nm 3), .int (fk 3), .ref (va 3), .int (mi 3), .int (td 3)])), ((va 3), .inl ((ca 3), 3, .inl (v 3))), ((fo 4), .inr (2, [.int (nm 4), .int (fk 4), .ref (va 4), .int (mi 4), .int (td 4)])), ((va 4), .inl ((ca 4), 3, .inl (v 4))), ((fo 5), .inr (2, [.int (nm 5), .int (fk 5), .ref (va 5), .int (mi 5), .int (td 5)])), ((va 5), .inl ((ca 5), 3, .inl (v 5))), ((fo 6), .inr (2, [.int (nm 6), .int (fk 6), .ref (va 6), .int (mi 6), .int (td 6)])), ((va 6), .inl ((ca 6), 3, .inl (v 6))), ((fo 7), .inr (2, [.int (nm 7), .int (fk 7), .ref (va 7), .int (mi 7), .int (td 7)])), ((va 7), .inl ((ca 7), 3, .inl (v 7))), ((fo 8), .inr (2, [.int (nm 8), .int (fk 8), .ref (va 8), .int (mi 8), .int (td 8)])), ((va 8), .inl ((ca 8), 3, .inl (v 8))), ((fo 9), .inr (2, [.int (nm 9), .int (fk 9), .ref (va 9), .int (mi 9), .int (td 9)])), ((va 9), .inl ((ca 9), 3, .inl (v 9))), ((fo 10), .inr (2, [.int (nm 10), .int (fk 10), .ref (va 10), .int (mi 10), .int (td 10)])), ((va 10), .inl ((ca 10), 3, .inl (v 10))), ((fo 11), .inr (2, [.int (nm 11), .int (fk 11), .ref (va 11), .int (mi 11), .int (td 11)])), ((va 11), .inl ((ca 11), 3, .inl (v 11))), ((fo 12), .inr (2, [.int (nm 12), .int (fk 12), .ref (va 12), .int (mi 12), .int (td 12)])), ((va 12), .inl ((ca 12), 3, .inl (v 12))), ((fo 13), .inr (2, [.int (nm 13), .int (fk 13), .ref (va 13), .int (mi 13), .int (td 13)])), ((va 13), .inl ((ca 13), 3, .inl (v 13))), ((fo 14), .inr (2, [.int (nm 14), .int (fk 14), .ref (va 14), .int (mi 14), .int (td 14)])), ((va 14), .inl ((ca 14), 3, .inl (v 14))), ((fo 15), .inr (2, [.int (nm 15), .int (fk 15), .ref (va 15), .int (mi 15), .int (td 15)])), ((va 15), .inl ((ca 15), 3, .inl (v 15)))] H := hP
            have hD : va_D A [(h0, .inr (4, .ref st :: .ref po :: .int ps :: .int ie :: .ref g :: mr)), (h1, .inr (5, [.int so, .ref ao, .int le, .int ri, .int rl, .int nw, .int fa_])), (ao, .inr (0, [.int kd, .ref sg, .ref wt, .int e12, .int e13, .int e23])), (wt, .inl (cw, 3, .inl w)), (st, .inr (8, .ref fa :: sr)), (fa, .inl (cf, 16, .inr (.inr (.inr (.inr (fun j => some (fo j))))))), (g, .inl (cg, 6, .inl (upd vs ((le - (16))).toNatClampNeg sm))), ((fo 0), .inr (2, [.int (nm 0), .int (fk 0), .ref (va 0), .int (mi 0), .int (td 0)])), ((va 0), .inl ((ca 0), 3, .inl (v 0))), ((fo 1), .inr (2, [.int (nm 1), .int (fk 1), .ref (va 1), .int (mi 1), .int (td 1)])), ((va 1), .inl ((ca 1), 3, .inl (v 1))), ((fo 2), .inr (2, [.int (nm 2), .int (fk 2), .ref (va 2), .int (mi 2), .int (td 2)])), ((va 2), .inl ((ca 2), 3, .inl (v 2))), ((fo 3), .inr (2, [.int (nm 3), .int (fk 3), .ref (va 3), .int (mi 3), .int (td 3)])), ((va 3), .inl ((ca 3), 3, .inl (v 3))), ((fo 4), .inr (2, [.int (nm 4), .int (fk 4), .ref (va 4), .int (mi 4), .int (td 4)])), ((va 4), .inl ((ca 4), 3, .inl (v 4))), ((fo 5), .inr (2, [.int (nm 5), .int (fk 5), .ref (va 5), .int (mi 5), .int (td 5)])), ((va 5), .inl ((ca 5), 3, .inl (v 5))), ((fo 6), .inr (2, [.int (nm 6), .int (fk 6), .ref (va 6), .int (mi 6), .int (td 6)])), ((va 6), .inl ((ca 6), 3, .inl (v 6))), ((fo 7), .inr (2, [.int (nm 7), .int (fk 7), .ref (va 7), .int (mi 7), .int (td 7)])), ((va 7), .inl ((ca 7), 3, .inl (v 7))), ((fo 8), .inr (2, [.int (nm 8), .int (fk 8), .ref (va 8), .int (mi 8), .int (td 8)])), ((va 8), .inl ((ca 8), 3, .inl (v 8))), ((fo 9), .inr (2, [.int (nm 9), .int (fk 9), .ref (va 9), .int (mi 9), .int (td 9)])), ((va 9), .inl ((ca 9), 3, .inl (v 9))), ((fo 10), .inr (2, [.int (nm 10), .int (fk 10), .ref (va 10), .int (mi 10), .int (td 10)])), ((va 10), .inl ((ca 10), 3, .inl (v 10))), ((fo 11), .inr (2, [.int (nm 11), .int (fk 11), .ref (va 11), .int (mi 11), .int (td 11)])), ((va 11), .inl ((ca 11), 3, .inl (v 11))), ((fo 12), .inr (2, [.int (nm 12), .int (fk 12), .ref (va 12), .int (mi 12), .int (td 12)])), ((va 12), .inl ((ca 12), 3, .inl (v 12))), ((fo 13), .inr (2, [.int (nm 13), .int (fk 13), .ref (va 13), .int (mi 13), .int (td 13)])), ((va 13), .inl ((ca 13), 3, .inl (v 13))), ((fo 14), .inr (2, [.int (nm 14), .int (fk 14), .ref (va 14), .int (mi 14), .int (td 14)])), ((va 14), .inl ((ca 14), 3, .inl (v 14))), ((fo 15), .inr (2, [.int (nm 15), .int (fk 15), .ref (va 15), .int (mi 15), .int (td 15)])), ((va 15), .inl ((ca 15), 3, .inl (v 15)))] := hD
            refine lv_aload_n hx hb dX8_outcome_243 rfl (lv_at hl 4 rfl) ?_
            refine va_get (D := (dC, dI)) (ci := 4) (v := .ref g) (C := RX4) (T := TX4) (N := 17) hx hb hts (by decide +kernel) hown hK hP 0 rfl rfl 4 (by decide) (hts (.fieldLink RX8 9 "Ruleengine$Search" "values" "[I") (by decide +kernel)) (fun _ h9 => h9) rfl dX8_outcome_244 ?_
            refine lv_aload_n hx hb dX8_outcome_247 rfl (lv_at hl 5 rfl) ?_
            refine va_get (D := (dC, dI)) (ci := 5) (v := .int le) (C := RX5) (T := TX5) (N := 7) hx hb hts (by decide +kernel) hown hK hP 1 rfl rfl 2 (by decide) (hts (.fieldLink RX8 74 "Ruleengine$Part" "left" "I") (by decide +kernel)) (fun _ h9 => h9) rfl dX8_outcome_248 ?_
            refine lv_bipush (v := (16 : Int32)) hx hb dX8_outcome_251 (by decide) ?_
            refine lv_isub hx hb dX8_outcome_253 ?_
            refine va_iald (i := (le - (16))) hx hb hK hP 6 2 rfl rfl (hle (by first | exact Or.inl (by assumption) | exact Or.inr (by assumption))) dX8_outcome_254 ?_
            refine lv_iload hx hb dX8_outcome_255 (lv_at hl 0 rfl) ?_
            refine lv_icmp_ne hx hb dX8_outcome_257 rfl (fun q28 => ?_) (fun q28 => ?_)
            · refine lv_iconst (v := (-1 : Int32)) hx hb dX8_outcome_265 (by decide) ?_
              exact W.iret hx hb hr (fun t ht hW => ⟨⟨_, (upd vs ((le - (16))).toNatClampNeg sm), rfl, ⟨by clear hP hD hK hS hl hts; simp only [← a1, ← a3]; clear a1 a2 a3; simp_all [lf_upd], by clear hP hD hK hS hl hts; simp only [← a1, ← a2, ← a3]; clear a1 a2 a3; simp_all [lf_upd]⟩, by rw [ht]; exact hP, va_K.moved hW.alike hK, hD⟩, hS.F ht⟩) hS.2.2 dX8_outcome_266
            · refine lv_iload hx hb dX8_outcome_260 (lv_at hl 0 rfl) ?_
              refine lv_goto hx hb dX8_outcome_262 rfl ?_
              exact W.iret hx hb hr (fun t ht hW => ⟨⟨_, (upd vs ((le - (16))).toNatClampNeg sm), rfl, ⟨by clear hP hD hK hS hl hts; simp only [← a1, ← a3]; clear a1 a2 a3; simp_all [lf_upd], by clear hP hD hK hS hl hts; simp only [← a1, ← a2, ← a3]; clear a1 a2 a3; simp_all [lf_upd]⟩, by rw [ht]; exact hP, va_K.moved hW.alike hK, hD⟩, hS.F ht⟩) hS.2.2 dX8_outcome_266
  have it15 : ∀ (ls : Array Slot) (H : Heap) (locs : List Loc) (n o sm : Int32), va_P (dC, dI) CL [(h0, .inr (4, .ref st :: .ref po :: .int ps :: .int ie :: .ref g :: mr)), (h1, .inr (5, [.int so, .ref ao, .int le, .int ri, .int rl, .int nw, .int fa_])), (ao, .inr (0, [.int kd, .ref sg, .ref wt, .int e12, .int e13, .int e23])), (wt, .inl (cw, 3, .inl w)), (st, .inr (8, .ref fa :: sr)), (fa, .inl (cf, 16, .inr (.inr (.inr (.inr (fun j => some (fo j))))))), (g, .inl (cg, 6, .inl vs)), ((fo 0), .inr (2, [.int (nm 0), .int (fk 0), .ref (va 0), .int (mi 0), .int (td 0)])), ((va 0), .inl ((ca 0), 3, .inl (v 0))), ((fo 1), .inr (2, [.int (nm 1), .int (fk 1), .ref (va 1), .int (mi 1), .int (td 1)])), ((va 1), .inl ((ca 1), 3, .inl (v 1))), ((fo 2), .inr (2, [.int (nm 2), .int (fk 2), .ref (va 2), .int (mi 2), .int (td 2)])), ((va 2), .inl ((ca 2), 3, .inl (v 2))), ((fo 3), .inr (2, [.int (nm 3), .int (fk 3), .ref (va 3), .int (mi 3), .int (td 3)])), ((va 3), .inl ((ca 3), 3, .inl (v 3))), ((fo 4), .inr (2, [.int (nm 4), .int (fk 4), .ref (va 4), .int (mi 4), .int (td 4)])), ((va 4), .inl ((ca 4), 3, .inl (v 4))), ((fo 5), .inr (2, [.int (nm 5), .int (fk 5), .ref (va 5), .int (mi 5), .int (td 5)])), ((va 5), .inl ((ca 5), 3, .inl (v 5))), ((fo 6), .inr (2, [.int (nm 6), .int (fk 6), .ref (va 6), .int (mi 6), .int (td 6)])), ((va 6), .inl ((ca 6), 3, .inl (v 6))), ((fo 7), .inr (2, [.int (nm 7), .int (fk 7), .ref (va 7), .int (mi 7), .int (td 7)])), ((va 7), .inl ((ca 7), 3, .inl (v 7))), ((fo 8), .inr (2, [.int (nm 8), .int (fk 8), .ref (va 8), .int (mi 8), .int (td 8)])), ((va 8), .inl ((ca 8), 3, .inl (v 8))), ((fo 9), .inr (2, [.int (nm 9), .int (fk 9), .ref (va 9), .int (mi 9), .int (td 9)])), ((va 9), .inl ((ca 9), 3, .inl (v 9))), ((fo 10), .inr (2, [.int (nm 10), .int (fk 10), .ref (va 10), .int (mi 10), .int (td 10)])), ((va 10), .inl ((ca 10), 3, .inl (v 10))), ((fo 11), .inr (2, [.int (nm 11), .int (fk 11), .ref (va 11), .int (mi 11), .int (td 11)])), ((va 11), .inl ((ca 11), 3, .inl (v 11))), ((fo 12), .inr (2, [.int (nm 12), .int (fk 12), .ref (va 12), .int (mi 12), .int (td 12)])), ((va 12), .inl ((ca 12), 3, .inl (v 12))), ((fo 13), .inr (2, [.int (nm 13), .int (fk 13), .ref (va 13), .int (mi 13), .int (td 13)])), ((va 13), .inl ((ca 13), 3, .inl (v 13))), ((fo 14), .inr (2, [.int (nm 14), .int (fk 14), .ref (va 14), .int (mi 14), .int (td 14)])), ((va 14), .inl ((ca 14), 3, .inl (v 14))), ((fo 15), .inr (2, [.int (nm 15), .int (fk 15), .ref (va 15), .int (mi 15), .int (td 15)])), ((va 15), .inl ((ca 15), 3, .inl (v 15)))] H → va_S A s.heap H locs → lv_has ls 7 [(5, .int (15)), (4, .int sm), (3, .int o), (2, .int n), (0, .ref h0), (1, .ref h1)] → n = lf_cnt (fun k => decide (lf_fit kd e12 e13 e23 w vs (fk k) (v k))) 15 → o = lf_cnt (fun k => !decide (lf_fit kd e12 e13 e23 w vs (fk k) (v k)) && decide (fk k = kd)) 15 → sm = lf_sum (fun k => decide (lf_fit kd e12 e13 e23 w vs (fk k) (v k))) (fun k => v k fa_.toNatClampNeg) 15 → W p l e (headSpec wqX8_outcome ({ frames := 1, cells := 0, slots := 0, locals := 24 })).room s m #[.ref h0, .ref h1] below meth c H locs 0 0 (MQ below (va_Qi (fun (r : Int32) (u : Nat → Int32) => (u = if (so = 4 ∨ so = 5) ∧ nw ≠ 0 then upd vs (le - 16).toNatClampNeg (if so = 5 then lf_sum (fun k => decide (lf_fit kd e12 e13 e23 w vs (fk k) (v k))) (fun k => v k fa_.toNatClampNeg) 16 else lf_cnt (fun k => decide (lf_fit kd e12 e13 e23 w vs (fk k) (v k))) 16) else vs) ∧ r = if so = 4 ∨ so = 5 then (if u (le - 16).toNatClampNeg = (if so = 5 then lf_sum (fun k => decide (lf_fit kd e12 e13 e23 w vs (fk k) (v k))) (fun k => v k fa_.toNatClampNeg) 16 else lf_cnt (fun k => decide (lf_fit kd e12 e13 e23 w vs (fk k) (v k))) 16) then (if so = 5 then lf_sum (fun k => decide (lf_fit kd e12 e13 e23 w vs (fk k) (v k))) (fun k => v k fa_.toNatClampNeg) 16 else lf_cnt (fun k => decide (lf_fit kd e12 e13 e23 w vs (fk k) (v k))) 16) else -1) else if (if so = 2 then 0 < lf_cnt (fun k => decide (lf_fit kd e12 e13 e23 w vs (fk k) (v k))) 16 else (if so = 3 then lf_cnt (fun k => !decide (lf_fit kd e12 e13 e23 w vs (fk k) (v k)) && decide (fk k = kd)) 16 else lf_cnt (fun k => decide (lf_fit kd e12 e13 e23 w vs (fk k) (v k))) 16) = 0) then 0 else -1) (fun u t => va_P (dC, dI) CL [(h0, .inr (4, .ref st :: .ref po :: .int ps :: .int ie :: .ref g :: mr)), (h1, .inr (5, [.int so, .ref ao, .int le, .int ri, .int rl, .int nw, .int fa_])), (ao, .inr (0, [.int kd, .ref sg, .ref wt, .int e12, .int e13, .int e23])), (wt, .inl (cw, 3, .inl w)), (st, .inr (8, .ref fa :: sr)), (fa, .inl (cf, 16, .inr (.inr (.inr (.inr (fun j => some (fo j))))))), (g, .inl (cg, 6, .inl u)), ((fo 0), .inr (2, [.int (nm 0), .int (fk 0), .ref (va 0), .int (mi 0), .int (td 0)])), ((va 0), .inl ((ca 0), 3, .inl (v 0))), ((fo 1), .inr (2, [.int (nm 1), .int (fk 1), .ref (va 1), .int (mi 1), .int (td 1)])), ((va 1), .inl ((ca 1), 3, .inl (v 1))), ((fo 2), .inr (2, [.int (nm 2), .int (fk 2), .ref (va 2), .int (mi 2), .int (td 2)])), ((va 2), .inl ((ca 2), 3, .inl (v 2))), ((fo 3), .inr (2, [.int (nm 3), .int (fk 3), .ref (va 3), .int (mi 3), .int (td 3)])), ((va 3), .inl ((ca 3), 3, .inl (v 3))), ((fo 4), .inr (2, [.int (nm 4), .int (fk 4), .ref (va 4), .int (mi 4), .int (td 4)])), ((va 4), .inl ((ca 4), 3, .inl (v 4))), ((fo 5), .inr (2, [.int (nm 5), .int (fk 5), .ref (va 5), .int (mi 5), .int (td 5)])), ((va 5), .inl ((ca 5), 3, .inl (v 5))), ((fo 6), .inr (2, [.int (nm 6), .int (fk 6), .ref (va 6), .int (mi 6), .int (td 6)])), ((va 6), .inl ((ca 6), 3, .inl (v 6))), ((fo 7), .inr (2, [.int (nm 7), .int (fk 7), .ref (va 7), .int (mi 7), .int (td 7)])), ((va 7), .inl ((ca 7), 3, .inl (v 7))), ((fo 8), .inr (2, [.int (nm 8), .int (fk 8), .ref (va 8), .int (mi 8), .int (td 8)])), ((va 8), .inl ((ca 8), 3, .inl (v 8))), ((fo 9), .inr (2, [.int (nm 9), .int (fk 9), .ref (va 9), .int (mi 9), .int (td 9)])), ((va 9), .inl ((ca 9), 3, .inl (v 9))), ((fo 10), .inr (2, [.int (nm 10), .int (fk 10), .ref (va 10), .int (mi 10), .int (td 10)])), ((va 10), .inl ((ca 10), 3, .inl (v 10))), ((fo 11), .inr (2, [.int (nm 11), .int (fk 11), .ref (va 11), .int (mi 11), .int (td 11)])), ((va 11), .inl ((ca 11), 3, .inl (v 11))), ((fo 12), .inr (2, [.int (nm 12), .int (fk 12), .ref (va 12), .int (mi 12), .int (td 12)])), ((va 12), .inl ((ca 12), 3, .inl (v 12))), ((fo 13), .inr (2, [.int (nm 13), .int (fk 13), .ref (va 13), .int (mi 13), .int (td 13)])), ((va 13), .inl ((ca 13), 3, .inl (v 13))), ((fo 14), .inr (2, [.int (nm 14), .int (fk 14), .ref (va 14), .int (mi 14), .int (td 14)])), ((va 14), .inl ((ca 14), 3, .inl (v 14))), ((fo 15), .inr (2, [.int (nm 15), .int (fk 15), .ref (va 15), .int (mi 15), .int (td 15)])), ((va 15), .inl ((ca 15), 3, .inl (v 15)))] t.heap ∧ va_K (dC, dI) CL [(cw, .int), (cf, .object RX2), (cg, .int), ((ca 0), .int), ((ca 1), .int), ((ca 2), .int), ((ca 3), .int), ((ca 4), .int), ((ca 5), .int), ((ca 6), .int), ((ca 7), .int), ((ca 8), .int), ((ca 9), .int), ((ca 10), .int), ((ca 11), .int), ((ca 12), .int), ((ca 13), .int), ((ca 14), .int), ((ca 15), .int)] t ∧ va_D (A) [(h0, .inr (4, .ref st :: .ref po :: .int ps :: .int ie :: .ref g :: mr)), (h1, .inr (5, [.int so, .ref ao, .int le, .int ri, .int rl, .int nw, .int fa_])), (ao, .inr (0, [.int kd, .ref sg, .ref wt, .int e12, .int e13, .int e23])), (wt, .inl (cw, 3, .inl w)), (st, .inr (8, .ref fa :: sr)), (fa, .inl (cf, 16, .inr (.inr (.inr (.inr (fun j => some (fo j))))))), (g, .inl (cg, 6, .inl u)), ((fo 0), .inr (2, [.int (nm 0), .int (fk 0), .ref (va 0), .int (mi 0), .int (td 0)])), ((va 0), .inl ((ca 0), 3, .inl (v 0))), ((fo 1), .inr (2, [.int (nm 1), .int (fk 1), .ref (va 1), .int (mi 1), .int (td 1)])), ((va 1), .inl ((ca 1), 3, .inl (v 1))), ((fo 2), .inr (2, [.int (nm 2), .int (fk 2), .ref (va 2), .int (mi 2), .int (td 2)])), ((va 2), .inl ((ca 2), 3, .inl (v 2))), ((fo 3), .inr (2, [.int (nm 3), .int (fk 3), .ref (va 3), .int (mi 3), .int (td 3)])), ((va 3), .inl ((ca 3), 3, .inl (v 3))), ((fo 4), .inr (2, [.int (nm 4), .int (fk 4), .ref (va 4), .int (mi 4), .int (td 4)])), ((va 4), .inl ((ca 4), 3, .inl (v 4))), ((fo 5), .inr (2, [.int (nm 5), .int (fk 5), .ref (va 5), .int (mi 5), .int (td 5)])), ((va 5), .inl ((ca 5), 3, .inl (v 5))), ((fo 6), .inr (2, [.int (nm 6), .int (fk 6), .ref (va 6), .int (mi 6), .int (td 6)])), ((va 6), .inl ((ca 6), 3, .inl (v 6))), ((fo 7), .inr (2, [.int (nm 7), .int (fk 7), .ref (va 7), .int (mi 7), .int (td 7)])), ((va 7), .inl ((ca 7), 3, .inl (v 7))), ((fo 8), .inr (2, [.int (nm 8), .int (fk 8), .ref (va 8), .int (mi 8), .int (td 8)])), ((va 8), .inl ((ca 8), 3, .inl (v 8))), ((fo 9), .inr (2, [.int (nm 9), .int (fk 9), .ref (va 9), .int (mi 9), .int (td 9)])), ((va 9), .inl ((ca 9), 3, .inl (v 9))), ((fo 10), .inr (2, [.int (nm 10), .int (fk 10), .ref (va 10), .int (mi 10), .int (td 10)])), ((va 10), .inl ((ca 10), 3, .inl (v 10))), ((fo 11), .inr (2, [.int (nm 11), .int (fk 11), .ref (va 11), .int (mi 11), .int (td 11)])), ((va 11), .inl ((ca 11), 3, .inl (v 11))), ((fo 12), .inr (2, [.int (nm 12), .int (fk 12), .ref (va 12), .int (mi 12), .int (td 12)])), ((va 12), .inl ((ca 12), 3, .inl (v 12))), ((fo 13), .inr (2, [.int (nm 13), .int (fk 13), .ref (va 13), .int (mi 13), .int (td 13)])), ((va 13), .inl ((ca 13), 3, .inl (v 13))), ((fo 14), .inr (2, [.int (nm 14), .int (fk 14), .ref (va 14), .int (mi 14), .int (td 14)])), ((va 14), .inl ((ca 14), 3, .inl (v 14))), ((fo 15), .inr (2, [.int (nm 15), .int (fk 15), .ref (va 15), .int (mi 15), .int (td 15)])), ((va 15), .inl ((ca 15), 3, .inl (v 15)))]) (A)) #[.ref h0, .ref h1] s 0 0 A) (F0 m 110 ls []) := by
    intro ls H locs n o sm hP hS hl a1 a2 a3
    refine lv_iload hx hb dX8_outcome_110 (lv_at hl 0 rfl) ?_
    refine lv_bipush (v := (16 : Int32)) hx hb dX8_outcome_112 (by decide) ?_
    refine lv_icmp_ge hx hb dX8_outcome_114 rfl (fun q => absurd q (by decide)) (fun _ => ?_)
    refine lv_aload_n hx hb dX8_outcome_117 rfl (lv_at hl 4 rfl) ?_
    refine va_get (D := (dC, dI)) (ci := 4) (v := .ref st) (C := RX4) (T := TX4) (N := 17) hx hb hts (by decide +kernel) hown hK hP 0 rfl rfl 0 (by decide) (hts (.fieldLink RX8 18 "Ruleengine$Search" "state" "LRuleengine$State;") (by decide +kernel)) (fun _ h9 => h9) rfl dX8_outcome_118 ?_
    refine va_get (D := (dC, dI)) (ci := 8) (v := .ref fa) (C := RX9) (T := TX9) (N := 13) hx hb hts (by decide +kernel) hown hK hP 4 rfl rfl 0 (by decide) (hts (.fieldLink RX8 87 "Ruleengine$State" "fact" "[LRuleengine$Fact;") (by decide +kernel)) (fun _ h9 => h9) rfl dX8_outcome_121 ?_
    refine lv_iload hx hb dX8_outcome_124 (lv_at hl 0 rfl) ?_
    refine va_aldq (i := (15)) hx hb hK hP 5 1 rfl rfl (by unfold vp_in; decide) dX8_outcome_126 ?_
    refine W.eq (g2 := F0 m 127 _ (.ref (fo 15) :: _)) rfl ?_
    refine lv_astore (lv' := [(6, .ref (fo 15)), (5, .int (15)), (4, .int sm), (3, .int o), (2, .int n), (0, .ref h0), (1, .ref h1)]) hx hb dX8_outcome_127 hl (by decide) rfl (fun ls hl => ?_)
    refine lv_aload_n hx hb dX8_outcome_129 rfl (lv_at hl 6 rfl) ?_
    refine va_get (D := (dC, dI)) (ci := 5) (v := .ref ao) (C := RX5) (T := TX5) (N := 7) hx hb hts (by decide +kernel) hown hK hP 1 rfl rfl 1 (by decide) (hts (.fieldLink RX8 60 "Ruleengine$Part" "atom" "LRuleengine$Atom;") (by decide +kernel)) (fun _ h9 => h9) rfl dX8_outcome_130 ?_
    refine lv_aload hx hb dX8_outcome_133 (lv_at hl 0 rfl) ?_
    refine lv_aload_n hx hb dX8_outcome_135 rfl (lv_at hl 5 rfl) ?_
    refine va_get (D := (dC, dI)) (ci := 4) (v := .ref g) (C := RX4) (T := TX4) (N := 17) hx hb hts (by decide +kernel) hown hK hP 0 rfl rfl 4 (by decide) (hts (.fieldLink RX8 9 "Ruleengine$Search" "values" "[I") (by decide +kernel)) (fun _ h9 => h9) rfl dX8_outcome_136 ?_
    have hPc := hP.sub (ws' := [(ao, .inr (0, [.int kd, .ref sg, .ref wt, .int e12, .int e13, .int e23])), (wt, .inl (cw, 3, .inl w)), ((fo 15), .inr (2, [.int (nm 15), .int (fk 15), .ref (va 15), .int (mi 15), .int (td 15)])), ((va 15), .inl ((ca 15), 3, .inl (v 15))), (g, .inl (cg, 6, .inl vs))]) [2, 3, 37, 38, 6] rfl
    have hDc := hD.sub (ws' := [(ao, .inr (0, [.int kd, .ref sg, .ref wt, .int e12, .int e13, .int e23])), (wt, .inl (cw, 3, .inl w)), ((fo 15), .inr (2, [.int (nm 15), .int (fk 15), .ref (va 15), .int (mi 15), .int (td 15)])), ((va 15), .inl ((ca 15), 3, .inl (v 15))), (g, .inl (cg, 6, .inl vs))]) [2, 3, 37, 38, 6] (by decide) rfl
    have hKc := hK.sub (tys' := [(cw, .int), ((ca 15), .int), (cg, .int)]) [0, 18, 2] rfl
    refine va_calli (va_runV (As := [.ref (fo 15), .ref g]) (rest := []) ⟨hx, hb, hml, hown, hts⟩ (kX0_fits l dC dI H.size ao sg wt (fo 15) (va 15) g cw (ca 15) cg kd e12 e13 e23 (nm 15) (fk 15) (mi 15) (td 15) w (v 15) vs) (cwV 2 hts ggq rfl rfl rfl (by decide +kernel) ⟨Nat.le_of_ble_eq_true rfl, Nat.le_of_ble_eq_true rfl⟩) ⟨fun a U g mk q => by obtain ⟨q0, q1, qP, qK, qD⟩ := q; exact ⟨q0, q1, qP, va_K.moved (u := U) (U := U.calling g mk a) (Vm.Alike.refl U.vm) qK, qD⟩, va_recv hKc hPc (ci := 0) (q0 := 0) rfl rfl, fun U hU hW => ⟨rfl, by rw [hU], by rw [hU]; exact hPc, va_K.moved hW.alike hKc, hDc.weaken (fun _ _ _ _ => trivial)⟩⟩ rfl rfl hl.1 rfl (lv_room (Nat.le_of_ble_eq_true rfl)) dX8_outcome_139 ⟨Nat.le_of_ble_eq_true rfl, Nat.le_of_ble_eq_true rfl⟩) hS (fun q _ h => h.elim) (fun q h => h.elim) (fun rr u t H1 locs ht hvm hw hB hz1 hk1 hS => ?_)
    have hP : va_P (dC, dI) CL [(h0, .inr (4, .ref st :: .ref po :: .int ps :: .int ie :: .ref g :: mr)), (h1, .inr (5, [.int so, .ref ao, .int le, .int ri, .int rl, .int nw, .int fa_])), (ao, .inr (0, [.int kd, .ref sg, .ref wt, .int e12, .int e13, .int e23])), (wt, .inl (cw, 3, .inl w)), (st, .inr (8, .ref fa :: sr)), (fa, .inl (cf, 16, .inr (.inr (.inr (.inr (fun j => some (fo j))))))), (g, .inl (cg, 6, .inl vs)), ((fo 0), .inr (2, [.int (nm 0), .int (fk 0), .ref (va 0), .int (mi 0), .int (td 0)])), ((va 0), .inl ((ca 0), 3, .inl (v 0))), ((fo 1), .inr (2, [.int (nm 1), .int (fk 1), .ref (va 1), .int (mi 1), .int (td 1)])), ((va 1), .inl ((ca 1), 3, .inl (v 1))), ((fo 2), .inr (2, [.int (nm 2), .int (fk 2), .ref (va 2), .int (mi 2), .int (td 2)])), ((va 2), .inl ((ca 2), 3, .inl (v 2))), ((fo 3), .inr (2, [.int (nm 3), .int (fk 3), .ref (va 3), .int (mi 3), .int (td 3)])), ((va 3), .inl ((ca 3), 3, .inl (v 3))), ((fo 4), .inr (2, [.int (nm 4), .int (fk 4), .ref (va 4), .int (mi 4), .int (td 4)])), ((va 4), .inl ((ca 4), 3, .inl (v 4))), ((fo 5), .inr (2, [.int (nm 5), .int (fk 5), .ref (va 5), .int (mi 5), .int (td 5)])), ((va 5), .inl ((ca 5), 3, .inl (v 5))), ((fo 6), .inr (2, [.int (nm 6), .int (fk 6), .ref (va 6), .int (mi 6), .int (td 6)])), ((va 6), .inl ((ca 6), 3, .inl (v 6))), ((fo 7), .inr (2, [.int (nm 7), .int (fk 7), .ref (va 7), .int (mi 7), .int (td 7)])), ((va 7), .inl ((ca 7), 3, .inl (v 7))), ((fo 8), .inr (2, [.int (nm 8), .int (fk 8), .ref (va 8), .int (mi 8), .int (td 8)])), ((va 8), .inl ((ca 8), 3, .inl (v 8))), ((fo 9), .inr (2, [.int (nm 9), .int (fk 9), .ref (va 9), .int (mi 9), .int (td 9)])), ((va 9), .inl ((ca 9), 3, .inl (v 9))), ((fo 10), .inr (2, [.int (nm 10), .int (fk 10), .ref (va 10), .int (mi 10), .int (td 10)])), ((va 10), .inl ((ca 10), 3, .inl (v 10))), ((fo 11), .inr (2, [.int (nm 11), .int (fk 11), .ref (va 11), .int (mi 11), .int (td 11)])), ((va 11), .inl ((ca 11), 3, .inl (v 11))), ((fo 12), .inr (2, [.int (nm 12), .int (fk 12), .ref (va 12), .int (mi 12), .int (td 12)])), ((va 12), .inl ((ca 12), 3, .inl (v 12))), ((fo 13), .inr (2, [.int (nm 13), .int (fk 13), .ref (va 13), .int (mi 13), .int (td 13)])), ((va 13), .inl ((ca 13), 3, .inl (v 13))), ((fo 14), .inr (2, [.int (nm 14), .int (fk 14), .ref (va 14), .int (mi 14), .int (td 14)])), ((va 14), .inl ((ca 14), 3, .inl (v 14))), ((fo 15), .inr (2, [.int (nm 15), .int (fk 15), .ref (va 15), .int (mi 15), .int (td 15)])), ((va 15), .inl ((ca 15), 3, .inl (v 15)))] H1 := hP.kept (fun k x hx => hk1 x.1 ((hP k x hx).lt) (fun h => h))
    generalize H1 = H at hP hS ⊢
    refine lv_if_eq hx hb dX8_outcome_142 rfl (fun q30 => ?_) (fun q30 => ?_)
    · refine lv_aload hx hb dX8_outcome_166 (lv_at hl 0 rfl) ?_
      refine va_get (D := (dC, dI)) (ci := 2) (v := .int (fk 15)) (C := RX2) (T := TX2) (N := 5) hx hb hts (by decide +kernel) hown hK hP 37 rfl rfl 1 (by decide) (hts (.fieldLink RX8 100 "Ruleengine$Fact" "kind" "I") (by decide +kernel)) (fun _ h9 => h9) rfl dX8_outcome_168 ?_
      refine lv_aload_n hx hb dX8_outcome_171 rfl (lv_at hl 6 rfl) ?_
      refine va_get (D := (dC, dI)) (ci := 5) (v := .ref ao) (C := RX5) (T := TX5) (N := 7) hx hb hts (by decide +kernel) hown hK hP 1 rfl rfl 1 (by decide) (hts (.fieldLink RX8 60 "Ruleengine$Part" "atom" "LRuleengine$Atom;") (by decide +kernel)) (fun _ h9 => h9) rfl dX8_outcome_172 ?_
      refine va_get (D := (dC, dI)) (ci := 0) (v := .int kd) (C := RX0) (T := TX0) (N := 6) hx hb hts (by decide +kernel) hown hK hP 2 rfl rfl 0 (by decide) (hts (.fieldLink RX8 103 "Ruleengine$Atom" "kind" "I") (by decide +kernel)) (fun _ h9 => h9) rfl dX8_outcome_175 ?_
      refine lv_icmp_ne hx hb dX8_outcome_178 rfl (fun q31 => ?_) (fun q31 => ?_)
      · refine lv_iinc (v := (16)) (lv' := [(5, .int (16)), (6, .ref (fo 15)), (4, .int sm), (3, .int o), (2, .int n), (0, .ref h0), (1, .ref h1)]) hx hb dX8_outcome_184 hl (k := 1) rfl (by decide) (by decide) rfl (fun ls hl => ?_)
        refine lv_goto hx hb dX8_outcome_187 rfl ?_
        have h0 : rr = 0 := by assumption
        have hf : ¬ lf_fit kd e12 e13 e23 w vs (fk 15) (v 15) := fun hh => by rw [if_pos hh] at hw; rw [hw] at h0; exact absurd h0 (by decide)
        have hp : (fun k => decide (lf_fit kd e12 e13 e23 w vs (fk k) (v k))) 15 = false := decide_eq_false hf
        have hk : fk 15 ≠ kd := by assumption
        have hq : (fun k => !decide (lf_fit kd e12 e13 e23 w vs (fk k) (v k)) && decide (fk k = kd)) 15 = false := by show (!decide (lf_fit kd e12 e13 e23 w vs (fk 15) (v 15)) && decide (fk 15 = kd)) = false; rw [decide_eq_false (p := fk 15 = kd) hk]; exact Bool.and_false _
        exact tail ls H locs _ _ _ hP hS (lv_sub hl [0, 2, 3, 4, 5, 6] rfl) (by rw [a1]; exact (lf_cnt_n (P := (fun k => decide (lf_fit kd e12 e13 e23 w vs (fk k) (v k)))) (k := 15) hp).symm) (by rw [a2]; exact (lf_cnt_n (P := (fun k => !decide (lf_fit kd e12 e13 e23 w vs (fk k) (v k)) && decide (fk k = kd))) (k := 15) hq).symm) (by rw [a3]; exact (lf_sum_n (P := (fun k => decide (lf_fit kd e12 e13 e23 w vs (fk k) (v k)))) (x := (fun k => v k fa_.toNatClampNeg)) (k := 15) hp).symm)
      · refine lv_iinc (v := (o + 1)) (lv' := [(3, .int (o + 1)), (6, .ref (fo 15)), (5, .int (15)), (4, .int sm), (2, .int n), (0, .ref h0), (1, .ref h1)]) hx hb dX8_outcome_181 hl (k := 3) rfl (by rfl) (by decide) rfl (fun ls hl => ?_)
        refine lv_iinc (v := (16)) (lv' := [(5, .int (16)), (3, .int (o + 1)), (6, .ref (fo 15)), (4, .int sm), (2, .int n), (0, .ref h0), (1, .ref h1)]) hx hb dX8_outcome_184 hl (k := 2) rfl (by decide) (by decide) rfl (fun ls hl => ?_)
        refine lv_goto hx hb dX8_outcome_187 rfl ?_
        have h0 : rr = 0 := by assumption
        have hf : ¬ lf_fit kd e12 e13 e23 w vs (fk 15) (v 15) := fun hh => by rw [if_pos hh] at hw; rw [hw] at h0; exact absurd h0 (by decide)
        have hp : (fun k => decide (lf_fit kd e12 e13 e23 w vs (fk k) (v k))) 15 = false := decide_eq_false hf
        have hk : fk 15 = kd := by assumption
        have hq : (fun k => !decide (lf_fit kd e12 e13 e23 w vs (fk k) (v k)) && decide (fk k = kd)) 15 = true := by show (!decide (lf_fit kd e12 e13 e23 w vs (fk 15) (v 15)) && decide (fk 15 = kd)) = true; rw [decide_eq_false hf, decide_eq_true hk]; rfl
        exact tail ls H locs _ _ _ hP hS (lv_sub hl [0, 3, 1, 4, 5, 6] rfl) (by rw [a1]; exact (lf_cnt_n (P := (fun k => decide (lf_fit kd e12 e13 e23 w vs (fk k) (v k)))) (k := 15) hp).symm) (by rw [a2]; exact (lf_cnt_y (P := (fun k => !decide (lf_fit kd e12 e13 e23 w vs (fk k) (v k)) && decide (fk k = kd))) (k := 15) hq).symm) (by rw [a3]; exact (lf_sum_n (P := (fun k => decide (lf_fit kd e12 e13 e23 w vs (fk k) (v k)))) (x := (fun k => v k fa_.toNatClampNeg)) (k := 15) hp).symm)
    · refine lv_iinc (v := (n + 1)) (lv' := [(2, .int (n + 1)), (6, .ref (fo 15)), (5, .int (15)), (4, .int sm), (3, .int o), (0, .ref h0), (1, .ref h1)]) hx hb dX8_outcome_145 hl (k := 4) rfl (by rfl) (by decide) rfl (fun ls hl => ?_)
      refine lv_iload hx hb dX8_outcome_148 (lv_at hl 3 rfl) ?_
      refine lv_aload hx hb dX8_outcome_150 (lv_at hl 1 rfl) ?_
      refine va_get (D := (dC, dI)) (ci := 2) (v := .ref (va 15)) (C := RX2) (T := TX2) (N := 5) hx hb hts (by decide +kernel) hown hK hP 37 rfl rfl 2 (by decide) (hts (.fieldLink RX8 92 "Ruleengine$Fact" "value" "[I") (by decide +kernel)) (fun _ h9 => h9) rfl dX8_outcome_152 ?_
      refine lv_aload_n hx hb dX8_outcome_155 rfl (lv_at hl 6 rfl) ?_
      refine va_get (D := (dC, dI)) (ci := 5) (v := .int fa_) (C := RX5) (T := TX5) (N := 7) hx hb hts (by decide +kernel) hown hK hP 1 rfl rfl 6 (by decide) (hts (.fieldLink RX8 97 "Ruleengine$Part" "at" "I") (by decide +kernel)) (fun _ h9 => h9) rfl dX8_outcome_156 ?_
      refine va_iald (i := fa_) hx hb hK hP 38 18 rfl rfl hat dX8_outcome_159 ?_
      refine lv_iadd hx hb dX8_outcome_160 ?_
      refine lv_istore (lv' := [(4, .int (sm + ((v 15) (fa_).toNatClampNeg))), (2, .int (n + 1)), (6, .ref (fo 15)), (5, .int (15)), (3, .int o), (0, .ref h0), (1, .ref h1)]) hx hb dX8_outcome_161 hl (by decide) rfl (fun ls hl => ?_)
      refine lv_goto hx hb dX8_outcome_163 rfl ?_
      refine lv_iinc (v := (16)) (lv' := [(5, .int (16)), (4, .int (sm + ((v 15) (fa_).toNatClampNeg))), (2, .int (n + 1)), (6, .ref (fo 15)), (3, .int o), (0, .ref h0), (1, .ref h1)]) hx hb dX8_outcome_184 hl (k := 3) rfl (by decide) (by decide) rfl (fun ls hl => ?_)
      refine lv_goto hx hb dX8_outcome_187 rfl ?_
      have hf : lf_fit kd e12 e13 e23 w vs (fk 15) (v 15) := Decidable.byContradiction (fun hh => by rw [if_neg hh] at hw; exact absurd hw (by assumption))
      have hp : (fun k => decide (lf_fit kd e12 e13 e23 w vs (fk k) (v k))) 15 = true := decide_eq_true hf
      have hq : (fun k => !decide (lf_fit kd e12 e13 e23 w vs (fk k) (v k)) && decide (fk k = kd)) 15 = false := by show (!decide (lf_fit kd e12 e13 e23 w vs (fk 15) (v 15)) && decide (fk 15 = kd)) = false; rw [decide_eq_true hf]; rfl
      exact tail ls H locs _ _ _ hP hS (lv_sub hl [0, 1, 4, 2, 5, 6] rfl) (by rw [a1]; exact (lf_cnt_y (P := (fun k => decide (lf_fit kd e12 e13 e23 w vs (fk k) (v k)))) (k := 15) hp).symm) (by rw [a2]; exact (lf_cnt_n (P := (fun k => !decide (lf_fit kd e12 e13 e23 w vs (fk k) (v k)) && decide (fk k = kd))) (k := 15) hq).symm) (by rw [a3]; exact (lf_sum_y (P := (fun k => decide (lf_fit kd e12 e13 e23 w vs (fk k) (v k)))) (x := (fun k => v k fa_.toNatClampNeg)) (k := 15) hp).symm)
  have it14 : ∀ (ls : Array Slot) (H : Heap) (locs : List Loc) (n o sm : Int32), va_P (dC, dI) CL [(h0, .inr (4, .ref st :: .ref po :: .int ps :: .int ie :: .ref g :: mr)), (h1, .inr (5, [.int so, .ref ao, .int le, .int ri, .int rl, .int nw, .int fa_])), (ao, .inr (0, [.int kd, .ref sg, .ref wt, .int e12, .int e13, .int e23])), (wt, .inl (cw, 3, .inl w)), (st, .inr (8, .ref fa :: sr)), (fa, .inl (cf, 16, .inr (.inr (.inr (.inr (fun j => some (fo j))))))), (g, .inl (cg, 6, .inl vs)), ((fo 0), .inr (2, [.int (nm 0), .int (fk 0), .ref (va 0), .int (mi 0), .int (td 0)])), ((va 0), .inl ((ca 0), 3, .inl (v 0))), ((fo 1), .inr (2, [.int (nm 1), .int (fk 1), .ref (va 1), .int (mi 1), .int (td 1)])), ((va 1), .inl ((ca 1), 3, .inl (v 1))), ((fo 2), .inr (2, [.int (nm 2), .int (fk 2), .ref (va 2), .int (mi 2), .int (td 2)])), ((va 2), .inl ((ca 2), 3, .inl (v 2))), ((fo 3), .inr (2, [.int (nm 3), .int (fk 3), .ref (va 3), .int (mi 3), .int (td 3)])), ((va 3), .inl ((ca 3), 3, .inl (v 3))), ((fo 4), .inr (2, [.int (nm 4), .int (fk 4), .ref (va 4), .int (mi 4), .int (td 4)])), ((va 4), .inl ((ca 4), 3, .inl (v 4))), ((fo 5), .inr (2, [.int (nm 5), .int (fk 5), .ref (va 5), .int (mi 5), .int (td 5)])), ((va 5), .inl ((ca 5), 3, .inl (v 5))), ((fo 6), .inr (2, [.int (nm 6), .int (fk 6), .ref (va 6), .int (mi 6), .int (td 6)])), ((va 6), .inl ((ca 6), 3, .inl (v 6))), ((fo 7), .inr (2, [.int (nm 7), .int (fk 7), .ref (va 7), .int (mi 7), .int (td 7)])), ((va 7), .inl ((ca 7), 3, .inl (v 7))), ((fo 8), .inr (2, [.int (nm 8), .int (fk 8), .ref (va 8), .int (mi 8), .int (td 8)])), ((va 8), .inl ((ca 8), 3, .inl (v 8))), ((fo 9), .inr (2, [.int (nm 9), .int (fk 9), .ref (va 9), .int (mi 9), .int (td 9)])), ((va 9), .inl ((ca 9), 3, .inl (v 9))), ((fo 10), .inr (2, [.int (nm 10), .int (fk 10), .ref (va 10), .int (mi 10), .int (td 10)])), ((va 10), .inl ((ca 10), 3, .inl (v 10))), ((fo 11), .inr (2, [.int (nm 11), .int (fk 11), .ref (va 11), .int (mi 11), .int (td 11)])), ((va 11), .inl ((ca 11), 3, .inl (v 11))), ((fo 12), .inr (2, [.int (nm 12), .int (fk 12), .ref (va 12), .int (mi 12), .int (td 12)])), ((va 12), .inl ((ca 12), 3, .inl (v 12))), ((fo 13), .inr (2, [.int (nm 13), .int (fk 13), .ref (va 13), .int (mi 13), .int (td 13)])), ((va 13), .inl ((ca 13), 3, .inl (v 13))), ((fo 14), .inr (2, [.int (nm 14), .int (fk 14), .ref (va 14), .int (mi 14), .int (td 14)])), ((va 14), .inl ((ca 14), 3, .inl (v 14))), ((fo 15), .inr (2, [.int (nm 15), .int (fk 15), .ref (va 15), .int (mi 15), .int (td 15)])), ((va 15), .inl ((ca 15), 3, .inl (v 15)))] H → va_S A s.heap H locs → lv_has ls 7 [(5, .int (14)), (4, .int sm), (3, .int o), (2, .int n), (0, .ref h0), (1, .ref h1)] → n = lf_cnt (fun k => decide (lf_fit kd e12 e13 e23 w vs (fk k) (v k))) 14 → o = lf_cnt (fun k => !decide (lf_fit kd e12 e13 e23 w vs (fk k) (v k)) && decide (fk k = kd)) 14 → sm = lf_sum (fun k => decide (lf_fit kd e12 e13 e23 w vs (fk k) (v k))) (fun k => v k fa_.toNatClampNeg) 14 → W p l e (headSpec wqX8_outcome ({ frames := 1, cells := 0, slots := 0, locals := 24 })).room s m #[.ref h0, .ref h1] below meth c H locs 0 0 (MQ below (va_Qi (fun (r : Int32) (u : Nat → Int32) => (u = if (so = 4 ∨ so = 5) ∧ nw ≠ 0 then upd vs (le - 16).toNatClampNeg (if so = 5 then lf_sum (fun k => decide (lf_fit kd e12 e13 e23 w vs (fk k) (v k))) (fun k => v k fa_.toNatClampNeg) 16 else lf_cnt (fun k => decide (lf_fit kd e12 e13 e23 w vs (fk k) (v k))) 16) else vs) ∧ r = if so = 4 ∨ so = 5 then (if u (le - 16).toNatClampNeg = (if so = 5 then lf_sum (fun k => decide (lf_fit kd e12 e13 e23 w vs (fk k) (v k))) (fun k => v k fa_.toNatClampNeg) 16 else lf_cnt (fun k => decide (lf_fit kd e12 e13 e23 w vs (fk k) (v k))) 16) then (if so = 5 then lf_sum (fun k => decide (lf_fit kd e12 e13 e23 w vs (fk k) (v k))) (fun k => v k fa_.toNatClampNeg) 16 else lf_cnt (fun k => decide (lf_fit kd e12 e13 e23 w vs (fk k) (v k))) 16) else -1) else if (if so = 2 then 0 < lf_cnt (fun k => decide (lf_fit kd e12 e13 e23 w vs (fk k) (v k))) 16 else (if so = 3 then lf_cnt (fun k => !decide (lf_fit kd e12 e13 e23 w vs (fk k) (v k)) && decide (fk k = kd)) 16 else lf_cnt (fun k => decide (lf_fit kd e12 e13 e23 w vs (fk k) (v k))) 16) = 0) then 0 else -1) (fun u t => va_P (dC, dI) CL [(h0, .inr (4, .ref st :: .ref po :: .int ps :: .int ie :: .ref g :: mr)), (h1, .inr (5, [.int so, .ref ao, .int le, .int ri, .int rl, .int nw, .int fa_])), (ao, .inr (0, [.int kd, .ref sg, .ref wt, .int e12, .int e13, .int e23])), (wt, .inl (cw, 3, .inl w)), (st, .inr (8, .ref fa :: sr)), (fa, .inl (cf, 16, .inr (.inr (.inr (.inr (fun j => some (fo j))))))), (g, .inl (cg, 6, .inl u)), ((fo 0), .inr (2, [.int (nm 0), .int (fk 0), .ref (va 0), .int (mi 0), .int (td 0)])), ((va 0), .inl ((ca 0), 3, .inl (v 0))), ((fo 1), .inr (2, [.int (nm 1), .int (fk 1), .ref (va 1), .int (mi 1), .int (td 1)])), ((va 1), .inl ((ca 1), 3, .inl (v 1))), ((fo 2), .inr (2, [.int (nm 2), .int (fk 2), .ref (va 2), .int (mi 2), .int (td 2)])), ((va 2), .inl ((ca 2), 3, .inl (v 2))), ((fo 3), .inr (2, [.int (nm 3), .int (fk 3), .ref (va 3), .int (mi 3), .int (td 3)])), ((va 3), .inl ((ca 3), 3, .inl (v 3))), ((fo 4), .inr (2, [.int (nm 4), .int (fk 4), .ref (va 4), .int (mi 4), .int (td 4)])), ((va 4), .inl ((ca 4), 3, .inl (v 4))), ((fo 5), .inr (2, [.int (nm 5), .int (fk 5), .ref (va 5), .int (mi 5), .int (td 5)])), ((va 5), .inl ((ca 5), 3, .inl (v 5))), ((fo 6), .inr (2, [.int (nm 6), .int (fk 6), .ref (va 6), .int (mi 6), .int (td 6)])), ((va 6), .inl ((ca 6), 3, .inl (v 6))), ((fo 7), .inr (2, [.int (nm 7), .int (fk 7), .ref (va 7), .int (mi 7), .int (td 7)])), ((va 7), .inl ((ca 7), 3, .inl (v 7))), ((fo 8), .inr (2, [.int (nm 8), .int (fk 8), .ref (va 8), .int (mi 8), .int (td 8)])), ((va 8), .inl ((ca 8), 3, .inl (v 8))), ((fo 9), .inr (2, [.int (nm 9), .int (fk 9), .ref (va 9), .int (mi 9), .int (td 9)])), ((va 9), .inl ((ca 9), 3, .inl (v 9))), ((fo 10), .inr (2, [.int (nm 10), .int (fk 10), .ref (va 10), .int (mi 10), .int (td 10)])), ((va 10), .inl ((ca 10), 3, .inl (v 10))), ((fo 11), .inr (2, [.int (nm 11), .int (fk 11), .ref (va 11), .int (mi 11), .int (td 11)])), ((va 11), .inl ((ca 11), 3, .inl (v 11))), ((fo 12), .inr (2, [.int (nm 12), .int (fk 12), .ref (va 12), .int (mi 12), .int (td 12)])), ((va 12), .inl ((ca 12), 3, .inl (v 12))), ((fo 13), .inr (2, [.int (nm 13), .int (fk 13), .ref (va 13), .int (mi 13), .int (td 13)])), ((va 13), .inl ((ca 13), 3, .inl (v 13))), ((fo 14), .inr (2, [.int (nm 14), .int (fk 14), .ref (va 14), .int (mi 14), .int (td 14)])), ((va 14), .inl ((ca 14), 3, .inl (v 14))), ((fo 15), .inr (2, [.int (nm 15), .int (fk 15), .ref (va 15), .int (mi 15), .int (td 15)])), ((va 15), .inl ((ca 15), 3, .inl (v 15)))] t.heap ∧ va_K (dC, dI) CL [(cw, .int), (cf, .object RX2), (cg, .int), ((ca 0), .int), ((ca 1), .int), ((ca 2), .int), ((ca 3), .int), ((ca 4), .int), ((ca 5), .int), ((ca 6), .int), ((ca 7), .int), ((ca 8), .int), ((ca 9), .int), ((ca 10), .int), ((ca 11), .int), ((ca 12), .int), ((ca 13), .int), ((ca 14), .int), ((ca 15), .int)] t ∧ va_D (A) [(h0, .inr (4, .ref st :: .ref po :: .int ps :: .int ie :: .ref g :: mr)), (h1, .inr (5, [.int so, .ref ao, .int le, .int ri, .int rl, .int nw, .int fa_])), (ao, .inr (0, [.int kd, .ref sg, .ref wt, .int e12, .int e13, .int e23])), (wt, .inl (cw, 3, .inl w)), (st, .inr (8, .ref fa :: sr)), (fa, .inl (cf, 16, .inr (.inr (.inr (.inr (fun j => some (fo j))))))), (g, .inl (cg, 6, .inl u)), ((fo 0), .inr (2, [.int (nm 0), .int (fk 0), .ref (va 0), .int (mi 0), .int (td 0)])), ((va 0), .inl ((ca 0), 3, .inl (v 0))), ((fo 1), .inr (2, [.int (nm 1), .int (fk 1), .ref (va 1), .int (mi 1), .int (td 1)])), ((va 1), .inl ((ca 1), 3, .inl (v 1))), ((fo 2), .inr (2, [.int (nm 2), .int (fk 2), .ref (va 2), .int (mi 2), .int (td 2)])), ((va 2), .inl ((ca 2), 3, .inl (v 2))), ((fo 3), .inr (2, [.int (nm 3), .int (fk 3), .ref (va 3), .int (mi 3), .int (td 3)])), ((va 3), .inl ((ca 3), 3, .inl (v 3))), ((fo 4), .inr (2, [.int (nm 4), .int (fk 4), .ref (va 4), .int (mi 4), .int (td 4)])), ((va 4), .inl ((ca 4), 3, .inl (v 4))), ((fo 5), .inr (2, [.int (nm 5), .int (fk 5), .ref (va 5), .int (mi 5), .int (td 5)])), ((va 5), .inl ((ca 5), 3, .inl (v 5))), ((fo 6), .inr (2, [.int (nm 6), .int (fk 6), .ref (va 6), .int (mi 6), .int (td 6)])), ((va 6), .inl ((ca 6), 3, .inl (v 6))), ((fo 7), .inr (2, [.int (nm 7), .int (fk 7), .ref (va 7), .int (mi 7), .int (td 7)])), ((va 7), .inl ((ca 7), 3, .inl (v 7))), ((fo 8), .inr (2, [.int (nm 8), .int (fk 8), .ref (va 8), .int (mi 8), .int (td 8)])), ((va 8), .inl ((ca 8), 3, .inl (v 8))), ((fo 9), .inr (2, [.int (nm 9), .int (fk 9), .ref (va 9), .int (mi 9), .int (td 9)])), ((va 9), .inl ((ca 9), 3, .inl (v 9))), ((fo 10), .inr (2, [.int (nm 10), .int (fk 10), .ref (va 10), .int (mi 10), .int (td 10)])), ((va 10), .inl ((ca 10), 3, .inl (v 10))), ((fo 11), .inr (2, [.int (nm 11), .int (fk 11), .ref (va 11), .int (mi 11), .int (td 11)])), ((va 11), .inl ((ca 11), 3, .inl (v 11))), ((fo 12), .inr (2, [.int (nm 12), .int (fk 12), .ref (va 12), .int (mi 12), .int (td 12)])), ((va 12), .inl ((ca 12), 3, .inl (v 12))), ((fo 13), .inr (2, [.int (nm 13), .int (fk 13), .ref (va 13), .int (mi 13), .int (td 13)])), ((va 13), .inl ((ca 13), 3, .inl (v 13))), ((fo 14), .inr (2, [.int (nm 14), .int (fk 14), .ref (va 14), .int (mi 14), .int (td 14)])), ((va 14), .inl ((ca 14), 3, .inl (v 14))), ((fo 15), .inr (2, [.int (nm 15), .int (fk 15), .ref (va 15), .int (mi 15), .int (td 15)])), ((va 15), .inl ((ca 15), 3, .inl (v 15)))]) (A)) #[.ref h0, .ref h1] s 0 0 A) (F0 m 110 ls []) := by
    intro ls H locs n o sm hP hS hl a1 a2 a3
    refine lv_iload hx hb dX8_outcome_110 (lv_at hl 0 rfl) ?_
    refine lv_bipush (v := (16 : Int32)) hx hb dX8_outcome_112 (by decide) ?_
    refine lv_icmp_ge hx hb dX8_outcome_114 rfl (fun q => absurd q (by decide)) (fun _ => ?_)
    refine lv_aload_n hx hb dX8_outcome_117 rfl (lv_at hl 4 rfl) ?_
    refine va_get (D := (dC, dI)) (ci := 4) (v := .ref st) (C := RX4) (T := TX4) (N := 17) hx hb hts (by decide +kernel) hown hK hP 0 rfl rfl 0 (by decide) (hts (.fieldLink RX8 18 "Ruleengine$Search" "state" "LRuleengine$State;") (by decide +kernel)) (fun _ h9 => h9) rfl dX8_outcome_118 ?_
    refine va_get (D := (dC, dI)) (ci := 8) (v := .ref fa) (C := RX9) (T := TX9) (N := 13) hx hb hts (by decide +kernel) hown hK hP 4 rfl rfl 0 (by decide) (hts (.fieldLink RX8 87 "Ruleengine$State" "fact" "[LRuleengine$Fact;") (by decide +kernel)) (fun _ h9 => h9) rfl dX8_outcome_121 ?_
    refine lv_iload hx hb dX8_outcome_124 (lv_at hl 0 rfl) ?_
    refine va_aldq (i := (14)) hx hb hK hP 5 1 rfl rfl (by unfold vp_in; decide) dX8_outcome_126 ?_
    refine W.eq (g2 := F0 m 127 _ (.ref (fo 14) :: _)) rfl ?_
    refine lv_astore (lv' := [(6, .ref (fo 14)), (5, .int (14)), (4, .int sm), (3, .int o), (2, .int n), (0, .ref h0), (1, .ref h1)]) hx hb dX8_outcome_127 hl (by decide) rfl (fun ls hl => ?_)
    refine lv_aload_n hx hb dX8_outcome_129 rfl (lv_at hl 6 rfl) ?_
    refine va_get (D := (dC, dI)) (ci := 5) (v := .ref ao) (C := RX5) (T := TX5) (N := 7) hx hb hts (by decide +kernel) hown hK hP 1 rfl rfl 1 (by decide) (hts (.fieldLink RX8 60 "Ruleengine$Part" "atom" "LRuleengine$Atom;") (by decide +kernel)) (fun _ h9 => h9) rfl dX8_outcome_130 ?_
    refine lv_aload hx hb dX8_outcome_133 (lv_at hl 0 rfl) ?_
    refine lv_aload_n hx hb dX8_outcome_135 rfl (lv_at hl 5 rfl) ?_
    refine va_get (D := (dC, dI)) (ci := 4) (v := .ref g) (C := RX4) (T := TX4) (N := 17) hx hb hts (by decide +kernel) hown hK hP 0 rfl rfl 4 (by decide) (hts (.fieldLink RX8 9 "Ruleengine$Search" "values" "[I") (by decide +kernel)) (fun _ h9 => h9) rfl dX8_outcome_136 ?_
    have hPc := hP.sub (ws' := [(ao, .inr (0, [.int kd, .ref sg, .ref wt, .int e12, .int e13, .int e23])), (wt, .inl (cw, 3, .inl w)), ((fo 14), .inr (2, [.int (nm 14), .int (fk 14), .ref (va 14), .int (mi 14), .int (td 14)])), ((va 14), .inl ((ca 14), 3, .inl (v 14))), (g, .inl (cg, 6, .inl vs))]) [2, 3, 35, 36, 6] rfl
    have hDc := hD.sub (ws' := [(ao, .inr (0, [.int kd, .ref sg, .ref wt, .int e12, .int e13, .int e23])), (wt, .inl (cw, 3, .inl w)), ((fo 14), .inr (2, [.int (nm 14), .int (fk 14), .ref (va 14), .int (mi 14), .int (td 14)])), ((va 14), .inl ((ca 14), 3, .inl (v 14))), (g, .inl (cg, 6, .inl vs))]) [2, 3, 35, 36, 6] (by decide) rfl
    have hKc := hK.sub (tys' := [(cw, .int), ((ca 14), .int), (cg, .int)]) [0, 17, 2] rfl
    refine va_calli (va_runV (As := [.ref (fo 14), .ref g]) (rest := []) ⟨hx, hb, hml, hown, hts⟩ (kX0_fits l dC dI H.size ao sg wt (fo 14) (va 14) g cw (ca 14) cg kd e12 e13 e23 (nm 14) (fk 14) (mi 14) (td 14) w (v 14) vs) (cwV 2 hts ggq rfl rfl rfl (by decide +kernel) ⟨Nat.le_of_ble_eq_true rfl, Nat.le_of_ble_eq_true rfl⟩) ⟨fun a U g mk q => by obtain ⟨q0, q1, qP, qK, qD⟩ := q; exact ⟨q0, q1, qP, va_K.moved (u := U) (U := U.calling g mk a) (Vm.Alike.refl U.vm) qK, qD⟩, va_recv hKc hPc (ci := 0) (q0 := 0) rfl rfl, fun U hU hW => ⟨rfl, by rw [hU], by rw [hU]; exact hPc, va_K.moved hW.alike hKc, hDc.weaken (fun _ _ _ _ => trivial)⟩⟩ rfl rfl hl.1 rfl (lv_room (Nat.le_of_ble_eq_true rfl)) dX8_outcome_139 ⟨Nat.le_of_ble_eq_true rfl, Nat.le_of_ble_eq_true rfl⟩) hS (fun q _ h => h.elim) (fun q h => h.elim) (fun rr u t H1 locs ht hvm hw hB hz1 hk1 hS => ?_)
    have hP : va_P (dC, dI) CL [(h0, .inr (4, .ref st :: .ref po :: .int ps :: .int ie :: .ref g :: mr)), (h1, .inr (5, [.int so, .ref ao, .int le, .int ri, .int rl, .int nw, .int fa_])), (ao, .inr (0, [.int kd, .ref sg, .ref wt, .int e12, .int e13, .int e23])), (wt, .inl (cw, 3, .inl w)), (st, .inr (8, .ref fa :: sr)), (fa, .inl (cf, 16, .inr (.inr (.inr (.inr (fun j => some (fo j))))))), (g, .inl (cg, 6, .inl vs)), ((fo 0), .inr (2, [.int (nm 0), .int (fk 0), .ref (va 0), .int (mi 0), .int (td 0)])), ((va 0), .inl ((ca 0), 3, .inl (v 0))), ((fo 1), .inr (2, [.int (nm 1), .int (fk 1), .ref (va 1), .int (mi 1), .int (td 1)])), ((va 1), .inl ((ca 1), 3, .inl (v 1))), ((fo 2), .inr (2, [.int (nm 2), .int (fk 2), .ref (va 2), .int (mi 2), .int (td 2)])), ((va 2), .inl ((ca 2), 3, .inl (v 2))), ((fo 3), .inr (2, [.int (nm 3), .int (fk 3), .ref (va 3), .int (mi 3), .int (td 3)])), ((va 3), .inl ((ca 3), 3, .inl (v 3))), ((fo 4), .inr (2, [.int (nm 4), .int (fk 4), .ref (va 4), .int (mi 4), .int (td 4)])), ((va 4), .inl ((ca 4), 3, .inl (v 4))), ((fo 5), .inr (2, [.int (nm 5), .int (fk 5), .ref (va 5), .int (mi 5), .int (td 5)])), ((va 5), .inl ((ca 5), 3, .inl (v 5))), ((fo 6), .inr (2, [.int (nm 6), .int (fk 6), .ref (va 6), .int (mi 6), .int (td 6)])), ((va 6), .inl ((ca 6), 3, .inl (v 6))), ((fo 7), .inr (2, [.int (nm 7), .int (fk 7), .ref (va 7), .int (mi 7), .int (td 7)])), ((va 7), .inl ((ca 7), 3, .inl (v 7))), ((fo 8), .inr (2, [.int (nm 8), .int (fk 8), .ref (va 8), .int (mi 8), .int (td 8)])), ((va 8), .inl ((ca 8), 3, .inl (v 8))), ((fo 9), .inr (2, [.int (nm 9), .int (fk 9), .ref (va 9), .int (mi 9), .int (td 9)])), ((va 9), .inl ((ca 9), 3, .inl (v 9))), ((fo 10), .inr (2, [.int (nm 10), .int (fk 10), .ref (va 10), .int (mi 10), .int (td 10)])), ((va 10), .inl ((ca 10), 3, .inl (v 10))), ((fo 11), .inr (2, [.int (nm 11), .int (fk 11), .ref (va 11), .int (mi 11), .int (td 11)])), ((va 11), .inl ((ca 11), 3, .inl (v 11))), ((fo 12), .inr (2, [.int (nm 12), .int (fk 12), .ref (va 12), .int (mi 12), .int (td 12)])), ((va 12), .inl ((ca 12), 3, .inl (v 12))), ((fo 13), .inr (2, [.int (nm 13), .int (fk 13), .ref (va 13), .int (mi 13), .int (td 13)])), ((va 13), .inl ((ca 13), 3, .inl (v 13))), ((fo 14), .inr (2, [.int (nm 14), .int (fk 14), .ref (va 14), .int (mi 14), .int (td 14)])), ((va 14), .inl ((ca 14), 3, .inl (v 14))), ((fo 15), .inr (2, [.int (nm 15), .int (fk 15), .ref (va 15), .int (mi 15), .int (td 15)])), ((va 15), .inl ((ca 15), 3, .inl (v 15)))] H1 := hP.kept (fun k x hx => hk1 x.1 ((hP k x hx).lt) (fun h => h))
    generalize H1 = H at hP hS ⊢
    refine lv_if_eq hx hb dX8_outcome_142 rfl (fun q33 => ?_) (fun q33 => ?_)
    · refine lv_aload hx hb dX8_outcome_166 (lv_at hl 0 rfl) ?_
      refine va_get (D := (dC, dI)) (ci := 2) (v := .int (fk 14)) (C := RX2) (T := TX2) (N := 5) hx hb hts (by decide +kernel) hown hK hP 35 rfl rfl 1 (by decide) (hts (.fieldLink RX8 100 "Ruleengine$Fact" "kind" "I") (by decide +kernel)) (fun _ h9 => h9) rfl dX8_outcome_168 ?_
      refine lv_aload_n hx hb dX8_outcome_171 rfl (lv_at hl 6 rfl) ?_
      refine va_get (D := (dC, dI)) (ci := 5) (v := .ref ao) (C := RX5) (T := TX5) (N := 7) hx hb hts (by decide +kernel) hown hK hP 1 rfl rfl 1 (by decide) (hts (.fieldLink RX8 60 "Ruleengine$Part" "atom" "LRuleengine$Atom;") (by decide +kernel)) (fun _ h9 => h9) rfl dX8_outcome_172 ?_
      refine va_get (D := (dC, dI)) (ci := 0) (v := .int kd) (C := RX0) (T := TX0) (N := 6) hx hb hts (by decide +kernel) hown hK hP 2 rfl rfl 0 (by decide) (hts (.fieldLink RX8 103 "Ruleengine$Atom" "kind" "I") (by decide +kernel)) (fun _ h9 => h9) rfl dX8_outcome_175 ?_
      refine lv_icmp_ne hx hb dX8_outcome_178 rfl (fun q34 => ?_) (fun q34 => ?_)
      · refine lv_iinc (v := (15)) (lv' := [(5, .int (15)), (6, .ref (fo 14)), (4, .int sm), (3, .int o), (2, .int n), (0, .ref h0), (1, .ref h1)]) hx hb dX8_outcome_184 hl (k := 1) rfl (by decide) (by decide) rfl (fun ls hl => ?_)
        refine lv_goto hx hb dX8_outcome_187 rfl ?_
        have h0 : rr = 0 := by assumption
        have hf : ¬ lf_fit kd e12 e13 e23 w vs (fk 14) (v 14) := fun hh => by rw [if_pos hh] at hw; rw [hw] at h0; exact absurd h0 (by decide)
        have hp : (fun k => decide (lf_fit kd e12 e13 e23 w vs (fk k) (v k))) 14 = false := decide_eq_false hf
        have hk : fk 14 ≠ kd := by assumption
        have hq : (fun k => !decide (lf_fit kd e12 e13 e23 w vs (fk k) (v k)) && decide (fk k = kd)) 14 = false := by show (!decide (lf_fit kd e12 e13 e23 w vs (fk 14) (v 14)) && decide (fk 14 = kd)) = false; rw [decide_eq_false (p := fk 14 = kd) hk]; exact Bool.and_false _
        exact it15 ls H locs _ _ _ hP hS (lv_sub hl [0, 2, 3, 4, 5, 6] rfl) (by rw [a1]; exact (lf_cnt_n (P := (fun k => decide (lf_fit kd e12 e13 e23 w vs (fk k) (v k)))) (k := 14) hp).symm) (by rw [a2]; exact (lf_cnt_n (P := (fun k => !decide (lf_fit kd e12 e13 e23 w vs (fk k) (v k)) && decide (fk k = kd))) (k := 14) hq).symm) (by rw [a3]; exact (lf_sum_n (P := (fun k => decide (lf_fit kd e12 e13 e23 w vs (fk k) (v k)))) (x := (fun k => v k fa_.toNatClampNeg)) (k := 14) hp).symm)
      · refine lv_iinc (v := (o + 1)) (lv' := [(3, .int (o + 1)), (6, .ref (fo 14)), (5, .int (14)), (4, .int sm), (2, .int n), (0, .ref h0), (1, .ref h1)]) hx hb dX8_outcome_181 hl (k := 3) rfl (by rfl) (by decide) rfl (fun ls hl => ?_)
        refine lv_iinc (v := (15)) (lv' := [(5, .int (15)), (3, .int (o + 1)), (6, .ref (fo 14)), (4, .int sm), (2, .int n), (0, .ref h0), (1, .ref h1)]) hx hb dX8_outcome_184 hl (k := 2) rfl (by decide) (by decide) rfl (fun ls hl => ?_)
        refine lv_goto hx hb dX8_outcome_187 rfl ?_
        have h0 : rr = 0 := by assumption
        have hf : ¬ lf_fit kd e12 e13 e23 w vs (fk 14) (v 14) := fun hh => by rw [if_pos hh] at hw; rw [hw] at h0; exact absurd h0 (by decide)
        have hp : (fun k => decide (lf_fit kd e12 e13 e23 w vs (fk k) (v k))) 14 = false := decide_eq_false hf
        have hk : fk 14 = kd := by assumption
        have hq : (fun k => !decide (lf_fit kd e12 e13 e23 w vs (fk k) (v k)) && decide (fk k = kd)) 14 = true := by show (!decide (lf_fit kd e12 e13 e23 w vs (fk 14) (v 14)) && decide (fk 14 = kd)) = true; rw [decide_eq_false hf, decide_eq_true hk]; rfl
        exact it15 ls H locs _ _ _ hP hS (lv_sub hl [0, 3, 1, 4, 5, 6] rfl) (by rw [a1]; exact (lf_cnt_n (P := (fun k => decide (lf_fit kd e12 e13 e23 w vs (fk k) (v k)))) (k := 14) hp).symm) (by rw [a2]; exact (lf_cnt_y (P := (fun k => !decide (lf_fit kd e12 e13 e23 w vs (fk k) (v k)) && decide (fk k = kd))) (k := 14) hq).symm) (by rw [a3]; exact (lf_sum_n (P := (fun k => decide (lf_fit kd e12 e13 e23 w vs (fk k) (v k)))) (x := (fun k => v k fa_.toNatClampNeg)) (k := 14) hp).symm)
    · refine lv_iinc (v := (n + 1)) (lv' := [(2, .int (n + 1)), (6, .ref (fo 14)), (5, .int (14)), (4, .int sm), (3, .int o), (0, .ref h0), (1, .ref h1)]) hx hb dX8_outcome_145 hl (k := 4) rfl (by rfl) (by decide) rfl (fun ls hl => ?_)
      refine lv_iload hx hb dX8_outcome_148 (lv_at hl 3 rfl) ?_
      refine lv_aload hx hb dX8_outcome_150 (lv_at hl 1 rfl) ?_
      refine va_get (D := (dC, dI)) (ci := 2) (v := .ref (va 14)) (C := RX2) (T := TX2) (N := 5) hx hb hts (by decide +kernel) hown hK hP 35 rfl rfl 2 (by decide) (hts (.fieldLink RX8 92 "Ruleengine$Fact" "value" "[I") (by decide +kernel)) (fun _ h9 => h9) rfl dX8_outcome_152 ?_
      refine lv_aload_n hx hb dX8_outcome_155 rfl (lv_at hl 6 rfl) ?_
      refine va_get (D := (dC, dI)) (ci := 5) (v := .int fa_) (C := RX5) (T := TX5) (N := 7) hx hb hts (by decide +kernel) hown hK hP 1 rfl rfl 6 (by decide) (hts (.fieldLink RX8 97 "Ruleengine$Part" "at" "I") (by decide +kernel)) (fun _ h9 => h9) rfl dX8_outcome_156 ?_
      refine va_iald (i := fa_) hx hb hK hP 36 17 rfl rfl hat dX8_outcome_159 ?_
      refine lv_iadd hx hb dX8_outcome_160 ?_
      refine lv_istore (lv' := [(4, .int (sm + ((v 14) (fa_).toNatClampNeg))), (2, .int (n + 1)), (6, .ref (fo 14)), (5, .int (14)), (3, .int o), (0, .ref h0), (1, .ref h1)]) hx hb dX8_outcome_161 hl (by decide) rfl (fun ls hl => ?_)
      refine lv_goto hx hb dX8_outcome_163 rfl ?_
      refine lv_iinc (v := (15)) (lv' := [(5, .int (15)), (4, .int (sm + ((v 14) (fa_).toNatClampNeg))), (2, .int (n + 1)), (6, .ref (fo 14)), (3, .int o), (0, .ref h0), (1, .ref h1)]) hx hb dX8_outcome_184 hl (k := 3) rfl (by decide) (by decide) rfl (fun ls hl => ?_)
      refine lv_goto hx hb dX8_outcome_187 rfl ?_
      have hf : lf_fit kd e12 e13 e23 w vs (fk 14) (v 14) := Decidable.byContradiction (fun hh => by rw [if_neg hh] at hw; exact absurd hw (by assumption))
      have hp : (fun k => decide (lf_fit kd e12 e13 e23 w vs (fk k) (v k))) 14 = true := decide_eq_true hf
      have hq : (fun k => !decide (lf_fit kd e12 e13 e23 w vs (fk k) (v k)) && decide (fk k = kd)) 14 = false := by show (!decide (lf_fit kd e12 e13 e23 w vs (fk 14) (v 14)) && decide (fk 14 = kd)) = false; rw [decide_eq_true hf]; rfl
      exact it15 ls H locs _ _ _ hP hS (lv_sub hl [0, 1, 4, 2, 5, 6] rfl) (by rw [a1]; exact (lf_cnt_y (P := (fun k => decide (lf_fit kd e12 e13 e23 w vs (fk k) (v k)))) (k := 14) hp).symm) (by rw [a2]; exact (lf_cnt_n (P := (fun k => !decide (lf_fit kd e12 e13 e23 w vs (fk k) (v k)) && decide (fk k = kd))) (k := 14) hq).symm) (by rw [a3]; exact (lf_sum_y (P := (fun k => decide (lf_fit kd e12 e13 e23 w vs (fk k) (v k)))) (x := (fun k => v k fa_.toNatClampNeg)) (k := 14) hp).symm)
  have it13 : ∀ (ls : Array Slot) (H : Heap) (locs : List Loc) (n o sm : Int32), va_P (dC, dI) CL [(h0, .inr (4, .ref st :: .ref po :: .int ps :: .int ie :: .ref g :: mr)), (h1, .inr (5, [.int so, .ref ao, .int le, .int ri, .int rl, .int nw, .int fa_])), (ao, .inr (0, [.int kd, .ref sg, .ref wt, .int e12, .int e13, .int e23])), (wt, .inl (cw, 3, .inl w)), (st, .inr (8, .ref fa :: sr)), (fa, .inl (cf, 16, .inr (.inr (.inr (.inr (fun j => some (fo j))))))), (g, .inl (cg, 6, .inl vs)), ((fo 0), .inr (2, [.int (nm 0), .int (fk 0), .ref (va 0), .int (mi 0), .int (td 0)])), ((va 0), .inl ((ca 0), 3, .inl (v 0))), ((fo 1), .inr (2, [.int (nm 1), .int (fk 1), .ref (va 1), .int (mi 1), .int (td 1)])), ((va 1), .inl ((ca 1), 3, .inl (v 1))), ((fo 2), .inr (2, [.int (nm 2), .int (fk 2), .ref (va 2), .int (mi 2), .int (td 2)])), ((va 2), .inl ((ca 2), 3, .inl (v 2))), ((fo 3), .inr (2, [.int (nm 3), .int (fk 3), .ref (va 3), .int (mi 3), .int (td 3)])), ((va 3), .inl ((ca 3), 3, .inl (v 3))), ((fo 4), .inr (2, [.int (nm 4), .int (fk 4), .ref (va 4), .int (mi 4), .int (td 4)])), ((va 4), .inl ((ca 4), 3, .inl (v 4))), ((fo 5), .inr (2, [.int (nm 5), .int (fk 5), .ref (va 5), .int (mi 5), .int (td 5)])), ((va 5), .inl ((ca 5), 3, .inl (v 5))), ((fo 6), .inr (2, [.int (nm 6), .int (fk 6), .ref (va 6), .int (mi 6), .int (td 6)])), ((va 6), .inl ((ca 6), 3, .inl (v 6))), ((fo 7), .inr (2, [.int (nm 7), .int (fk 7), .ref (va 7), .int (mi 7), .int (td 7)])), ((va 7), .inl ((ca 7), 3, .inl (v 7))), ((fo 8), .inr (2, [.int (nm 8), .int (fk 8), .ref (va 8), .int (mi 8), .int (td 8)])), ((va 8), .inl ((ca 8), 3, .inl (v 8))), ((fo 9), .inr (2, [.int (nm 9), .int (fk 9), .ref (va 9), .int (mi 9), .int (td 9)])), ((va 9), .inl ((ca 9), 3, .inl (v 9))), ((fo 10), .inr (2, [.int (nm 10), .int (fk 10), .ref (va 10), .int (mi 10), .int (td 10)])), ((va 10), .inl ((ca 10), 3, .inl (v 10))), ((fo 11), .inr (2, [.int (nm 11), .int (fk 11), .ref (va 11), .int (mi 11), .int (td 11)])), ((va 11), .inl ((ca 11), 3, .inl (v 11))), ((fo 12), .inr (2, [.int (nm 12), .int (fk 12), .ref (va 12), .int (mi 12), .int (td 12)])), ((va 12), .inl ((ca 12), 3, .inl (v 12))), ((fo 13), .inr (2, [.int (nm 13), .int (fk 13), .ref (va 13), .int (mi 13), .int (td 13)])), ((va 13), .inl ((ca 13), 3, .inl (v 13))), ((fo 14), .inr (2, [.int (nm 14), .int (fk 14), .ref (va 14), .int (mi 14), .int (td 14)])), ((va 14), .inl ((ca 14), 3, .inl (v 14))), ((fo 15), .inr (2, [.int (nm 15), .int (fk 15), .ref (va 15), .int (mi 15), .int (td 15)])), ((va 15), .inl ((ca 15), 3, .inl (v 15)))] H → va_S A s.heap H locs → lv_has ls 7 [(5, .int (13)), (4, .int sm), (3, .int o), (2, .int n), (0, .ref h0), (1, .ref h1)] → n = lf_cnt (fun k => decide (lf_fit kd e12 e13 e23 w vs (fk k) (v k))) 13 → o = lf_cnt (fun k => !decide (lf_fit kd e12 e13 e23 w vs (fk k) (v k)) && decide (fk k = kd)) 13 → sm = lf_sum (fun k => decide (lf_fit kd e12 e13 e23 w vs (fk k) (v k))) (fun k => v k fa_.toNatClampNeg) 13 → W p l e (headSpec wqX8_outcome ({ frames := 1, cells := 0, slots := 0, locals := 24 })).room s m #[.ref h0, .ref h1] below meth c H locs 0 0 (MQ below (va_Qi (fun (r : Int32) (u : Nat → Int32) => (u = if (so = 4 ∨ so = 5) ∧ nw ≠ 0 then upd vs (le - 16).toNatClampNeg (if so = 5 then lf_sum (fun k => decide (lf_fit kd e12 e13 e23 w vs (fk k) (v k))) (fun k => v k fa_.toNatClampNeg) 16 else lf_cnt (fun k => decide (lf_fit kd e12 e13 e23 w vs (fk k) (v k))) 16) else vs) ∧ r = if so = 4 ∨ so = 5 then (if u (le - 16).toNatClampNeg = (if so = 5 then lf_sum (fun k => decide (lf_fit kd e12 e13 e23 w vs (fk k) (v k))) (fun k => v k fa_.toNatClampNeg) 16 else lf_cnt (fun k => decide (lf_fit kd e12 e13 e23 w vs (fk k) (v k))) 16) then (if so = 5 then lf_sum (fun k => decide (lf_fit kd e12 e13 e23 w vs (fk k) (v k))) (fun k => v k fa_.toNatClampNeg) 16 else lf_cnt (fun k => decide (lf_fit kd e12 e13 e23 w vs (fk k) (v k))) 16) else -1) else if (if so = 2 then 0 < lf_cnt (fun k => decide (lf_fit kd e12 e13 e23 w vs (fk k) (v k))) 16 else (if so = 3 then lf_cnt (fun k => !decide (lf_fit kd e12 e13 e23 w vs (fk k) (v k)) && decide (fk k = kd)) 16 else lf_cnt (fun k => decide (lf_fit kd e12 e13 e23 w vs (fk k) (v k))) 16) = 0) then 0 else -1) (fun u t => va_P (dC, dI) CL [(h0, .inr (4, .ref st :: .ref po :: .int ps :: .int ie :: .ref g :: mr)), (h1, .inr (5, [.int so, .ref ao, .int le, .int ri, .int rl, .int nw, .int fa_])), (ao, .inr (0, [.int kd, .ref sg, .ref wt, .int e12, .int e13, .int e23])), (wt, .inl (cw, 3, .inl w)), (st, .inr (8, .ref fa :: sr)), (fa, .inl (cf, 16, .inr (.inr (.inr (.inr (fun j => some (fo j))))))), (g, .inl (cg, 6, .inl u)), ((fo 0), .inr (2, [.int (nm 0), .int (fk 0), .ref (va 0), .int (mi 0), .int (td 0)])), ((va 0), .inl ((ca 0), 3, .inl (v 0))), ((fo 1), .inr (2, [.int (nm 1), .int (fk 1), .ref (va 1), .int (mi 1), .int (td 1)])), ((va 1), .inl ((ca 1), 3, .inl (v 1))), ((fo 2), .inr (2, [.int (nm 2), .int (fk 2), .ref (va 2), .int (mi 2), .int (td 2)])), ((va 2), .inl ((ca 2), 3, .inl (v 2))), ((fo 3), .inr (2, [.int (nm 3), .int (fk 3), .ref (va 3), .int (mi 3), .int (td 3)])), ((va 3), .inl ((ca 3), 3, .inl (v 3))), ((fo 4), .inr (2, [.int (nm 4), .int (fk 4), .ref (va 4), .int (mi 4), .int (td 4)])), ((va 4), .inl ((ca 4), 3, .inl (v 4))), ((fo 5), .inr (2, [.int (nm 5), .int (fk 5), .ref (va 5), .int (mi 5), .int (td 5)])), ((va 5), .inl ((ca 5), 3, .inl (v 5))), ((fo 6), .inr (2, [.int (nm 6), .int (fk 6), .ref (va 6), .int (mi 6), .int (td 6)])), ((va 6), .inl ((ca 6), 3, .inl (v 6))), ((fo 7), .inr (2, [.int (nm 7), .int (fk 7), .ref (va 7), .int (mi 7), .int (td 7)])), ((va 7), .inl ((ca 7), 3, .inl (v 7))), ((fo 8), .inr (2, [.int (nm 8), .int (fk 8), .ref (va 8), .int (mi 8), .int (td 8)])), ((va 8), .inl ((ca 8), 3, .inl (v 8))), ((fo 9), .inr (2, [.int (nm 9), .int (fk 9), .ref (va 9), .int (mi 9), .int (td 9)])), ((va 9), .inl ((ca 9), 3, .inl (v 9))), ((fo 10), .inr (2, [.int (nm 10), .int (fk 10), .ref (va 10), .int (mi 10), .int (td 10)])), ((va 10), .inl ((ca 10), 3, .inl (v 10))), ((fo 11), .inr (2, [.int (nm 11), .int (fk 11), .ref (va 11), .int (mi 11), .int (td 11)])), ((va 11), .inl ((ca 11), 3, .inl (v 11))), ((fo 12), .inr (2, [.int (nm 12), .int (fk 12), .ref (va 12), .int (mi 12), .int (td 12)])), ((va 12), .inl ((ca 12), 3, .inl (v 12))), ((fo 13), .inr (2, [.int (nm 13), .int (fk 13), .ref (va 13), .int (mi 13), .int (td 13)])), ((va 13), .inl ((ca 13), 3, .inl (v 13))), ((fo 14), .inr (2, [.int (nm 14), .int (fk 14), .ref (va 14), .int (mi 14), .int (td 14)])), ((va 14), .inl ((ca 14), 3, .inl (v 14))), ((fo 15), .inr (2, [.int (nm 15), .int (fk 15), .ref (va 15), .int (mi 15), .int (td 15)])), ((va 15), .inl ((ca 15), 3, .inl (v 15)))] t.heap ∧ va_K (dC, dI) CL [(cw, .int), (cf, .object RX2), (cg, .int), ((ca 0), .int), ((ca 1), .int), ((ca 2), .int), ((ca 3), .int), ((ca 4), .int), ((ca 5), .int), ((ca 6), .int), ((ca 7), .int), ((ca 8), .int), ((ca 9), .int), ((ca 10), .int), ((ca 11), .int), ((ca 12), .int), ((ca 13), .int), ((ca 14), .int), ((ca 15), .int)] t ∧ va_D (A) [(h0, .inr (4, .ref st :: .ref po :: .int ps :: .int ie :: .ref g :: mr)), (h1, .inr (5, [.int so, .ref ao, .int le, .int ri, .int rl, .int nw, .int fa_])), (ao, .inr (0, [.int kd, .ref sg, .ref wt, .int e12, .int e13, .int e23])), (wt, .inl (cw, 3, .inl w)), (st, .inr (8, .ref fa :: sr)), (fa, .inl (cf, 16, .inr (.inr (.inr (.inr (fun j => some (fo j))))))), (g, .inl (cg, 6, .inl u)), ((fo 0), .inr (2, [.int (nm 0), .int (fk 0), .ref (va 0), .int (mi 0), .int (td 0)])), ((va 0), .inl ((ca 0), 3, .inl (v 0))), ((fo 1), .inr (2, [.int (nm 1), .int (fk 1), .ref (va 1), .int (mi 1), .int (td 1)])), ((va 1), .inl ((ca 1), 3, .inl (v 1))), ((fo 2), .inr (2, [.int (nm 2), .int (fk 2), .ref (va 2), .int (mi 2), .int (td 2)])), ((va 2), .inl ((ca 2), 3, .inl (v 2))), ((fo 3), .inr (2, [.int (nm 3), .int (fk 3), .ref (va 3), .int (mi 3), .int (td 3)])), ((va 3), .inl ((ca 3), 3, .inl (v 3))), ((fo 4), .inr (2, [.int (nm 4), .int (fk 4), .ref (va 4), .int (mi 4), .int (td 4)])), ((va 4), .inl ((ca 4), 3, .inl (v 4))), ((fo 5), .inr (2, [.int (nm 5), .int (fk 5), .ref (va 5), .int (mi 5), .int (td 5)])), ((va 5), .inl ((ca 5), 3, .inl (v 5))), ((fo 6), .inr (2, [.int (nm 6), .int (fk 6), .ref (va 6), .int (mi 6), .int (td 6)])), ((va 6), .inl ((ca 6), 3, .inl (v 6))), ((fo 7), .inr (2, [.int (nm 7), .int (fk 7), .ref (va 7), .int (mi 7), .int (td 7)])), ((va 7), .inl ((ca 7), 3, .inl (v 7))), ((fo 8), .inr (2, [.int (nm 8), .int (fk 8), .ref (va 8), .int (mi 8), .int (td 8)])), ((va 8), .inl ((ca 8), 3, .inl (v 8))), ((fo 9), .inr (2, [.int (nm 9), .int (fk 9), .ref (va 9), .int (mi 9), .int (td 9)])), ((va 9), .inl ((ca 9), 3, .inl (v 9))), ((fo 10), .inr (2, [.int (nm 10), .int (fk 10), .ref (va 10), .int (mi 10), .int (td 10)])), ((va 10), .inl ((ca 10), 3, .inl (v 10))), ((fo 11), .inr (2, [.int (nm 11), .int (fk 11), .ref (va 11), .int (mi 11), .int (td 11)])), ((va 11), .inl ((ca 11), 3, .inl (v 11))), ((fo 12), .inr (2, [.int (nm 12), .int (fk 12), .ref (va 12), .int (mi 12), .int (td 12)])), ((va 12), .inl ((ca 12), 3, .inl (v 12))), ((fo 13), .inr (2, [.int (nm 13), .int (fk 13), .ref (va 13), .int (mi 13), .int (td 13)])), ((va 13), .inl ((ca 13), 3, .inl (v 13))), ((fo 14), .inr (2, [.int (nm 14), .int (fk 14), .ref (va 14), .int (mi 14), .int (td 14)])), ((va 14), .inl ((ca 14), 3, .inl (v 14))), ((fo 15), .inr (2, [.int (nm 15), .int (fk 15), .ref (va 15), .int (mi 15), .int (td 15)])), ((va 15), .inl ((ca 15), 3, .inl (v 15)))]) (A)) #[.ref h0, .ref h1] s 0 0 A) (F0 m 110 ls []) := by
    intro ls H locs n o sm hP hS hl a1 a2 a3
    refine lv_iload hx hb dX8_outcome_110 (lv_at hl 0 rfl) ?_
    refine lv_bipush (v := (16 : Int32)) hx hb dX8_outcome_112 (by decide) ?_
    refine lv_icmp_ge hx hb dX8_outcome_114 rfl (fun q => absurd q (by decide)) (fun _ => ?_)
    refine lv_aload_n hx hb dX8_outcome_117 rfl (lv_at hl 4 rfl) ?_
    refine va_get (D := (dC, dI)) (ci := 4) (v := .ref st) (C := RX4) (T := TX4) (N := 17) hx hb hts (by decide +kernel) hown hK hP 0 rfl rfl 0 (by decide) (hts (.fieldLink RX8 18 "Ruleengine$Search" "state" "LRuleengine$State;") (by decide +kernel)) (fun _ h9 => h9) rfl dX8_outcome_118 ?_
    refine va_get (D := (dC, dI)) (ci := 8) (v := .ref fa) (C := RX9) (T := TX9) (N := 13) hx hb hts (by decide +kernel) hown hK hP 4 rfl rfl 0 (by decide) (hts (.fieldLink RX8 87 "Ruleengine$State" "fact" "[LRuleengine$Fact;") (by decide +kernel)) (fun _ h9 => h9) rfl dX8_outcome_121 ?_
    refine lv_iload hx hb dX8_outcome_124 (lv_at hl 0 rfl) ?_
    refine va_aldq (i := (13)) hx hb hK hP 5 1 rfl rfl (by unfold vp_in; decide) dX8_outcome_126 ?_
    refine W.eq (g2 := F0 m 127 _ (.ref (fo 13) :: _)) rfl ?_
    refine lv_astore (lv' := [(6, .ref (fo 13)), (5, .int (13)), (4, .int sm), (3, .int o), (2, .int n), (0, .ref h0), (1, .ref h1)]) hx hb dX8_outcome_127 hl (by decide) rfl (fun ls hl => ?_)
    refine lv_aload_n hx hb dX8_outcome_129 rfl (lv_at hl 6 rfl) ?_
    refine va_get (D := (dC, dI)) (ci := 5) (v := .ref ao) (C := RX5) (T := TX5) (N := 7) hx hb hts (by decide +kernel) hown hK hP 1 rfl rfl 1 (by decide) (hts (.fieldLink RX8 60 "Ruleengine$Part" "atom" "LRuleengine$Atom;") (by decide +kernel)) (fun _ h9 => h9) rfl dX8_outcome_130 ?_
    refine lv_aload hx hb dX8_outcome_133 (lv_at hl 0 rfl) ?_
    refine lv_aload_n hx hb dX8_outcome_135 rfl (lv_at hl 5 rfl) ?_
    refine va_get (D := (dC, dI)) (ci := 4) (v := .ref g) (C := RX4) (T := TX4) (N := 17) hx hb hts (by decide +kernel) hown hK hP 0 rfl rfl 4 (by decide) (hts (.fieldLink RX8 9 "Ruleengine$Search" "values" "[I") (by decide +kernel)) (fun _ h9 => h9) rfl dX8_outcome_136 ?_
    have hPc := hP.sub (ws' := [(ao, .inr (0, [.int kd, .ref sg, .ref wt, .int e12, .int e13, .int e23])), (wt, .inl (cw, 3, .inl w)), ((fo 13), .inr (2, [.int (nm 13), .int (fk 13), .ref (va 13), .int (mi 13), .int (td 13)])), ((va 13), .inl ((ca 13), 3, .inl (v 13))), (g, .inl (cg, 6, .inl vs))]) [2, 3, 33, 34, 6] rfl
    have hDc := hD.sub (ws' := [(ao, .inr (0, [.int kd, .ref sg, .ref wt, .int e12, .int e13, .int e23])), (wt, .inl (cw, 3, .inl w)), ((fo 13), .inr (2, [.int (nm 13), .int (fk 13), .ref (va 13), .int (mi 13), .int (td 13)])), ((va 13), .inl ((ca 13), 3, .inl (v 13))), (g, .inl (cg, 6, .inl vs))]) [2, 3, 33, 34, 6] (by decide) rfl
    have hKc := hK.sub (tys' := [(cw, .int), ((ca 13), .int), (cg, .int)]) [0, 16, 2] rfl
    refine va_calli (va_runV (As := [.ref (fo 13), .ref g]) (rest := []) ⟨hx, hb, hml, hown, hts⟩ (kX0_fits l dC dI H.size ao sg wt (fo 13) (va 13) g cw (ca 13) cg kd e12 e13 e23 (nm 13) (fk 13) (mi 13) (td 13) w (v 13) vs) (cwV 2 hts ggq rfl rfl rfl (by decide +kernel) ⟨Nat.le_of_ble_eq_true rfl, Nat.le_of_ble_eq_true rfl⟩) ⟨fun a U g mk q => by obtain ⟨q0, q1, qP, qK, qD⟩ := q; exact ⟨q0, q1, qP, va_K.moved (u := U) (U := U.calling g mk a) (Vm.Alike.refl U.vm) qK, qD⟩, va_recv hKc hPc (ci := 0) (q0 := 0) rfl rfl, fun U hU hW => ⟨rfl, by rw [hU], by rw [hU]; exact hPc, va_K.moved hW.alike hKc, hDc.weaken (fun _ _ _ _ => trivial)⟩⟩ rfl rfl hl.1 rfl (lv_room (Nat.le_of_ble_eq_true rfl)) dX8_outcome_139 ⟨Nat.le_of_ble_eq_true rfl, Nat.le_of_ble_eq_true rfl⟩) hS (fun q _ h => h.elim) (fun q h => h.elim) (fun rr u t H1 locs ht hvm hw hB hz1 hk1 hS => ?_)
    have hP : va_P (dC, dI) CL [(h0, .inr (4, .ref st :: .ref po :: .int ps :: .int ie :: .ref g :: mr)), (h1, .inr (5, [.int so, .ref ao, .int le, .int ri, .int rl, .int nw, .int fa_])), (ao, .inr (0, [.int kd, .ref sg, .ref wt, .int e12, .int e13, .int e23])), (wt, .inl (cw, 3, .inl w)), (st, .inr (8, .ref fa :: sr)), (fa, .inl (cf, 16, .inr (.inr (.inr (.inr (fun j => some (fo j))))))), (g, .inl (cg, 6, .inl vs)), ((fo 0), .inr (2, [.int (nm 0), .int (fk 0), .ref (va 0), .int (mi 0), .int (td 0)])), ((va 0), .inl ((ca 0), 3, .inl (v 0))), ((fo 1), .inr (2, [.int (nm 1), .int (fk 1), .ref (va 1), .int (mi 1), .int (td 1)])), ((va 1), .inl ((ca 1), 3, .inl (v 1))), ((fo 2), .inr (2, [.int (nm 2), .int (fk 2), .ref (va 2), .int (mi 2), .int (td 2)])), ((va 2), .inl ((ca 2), 3, .inl (v 2))), ((fo 3), .inr (2, [.int (nm 3), .int (fk 3), .ref (va 3), .int (mi 3), .int (td 3)])), ((va 3), .inl ((ca 3), 3, .inl (v 3))), ((fo 4), .inr (2, [.int (nm 4), .int (fk 4), .ref (va 4), .int (mi 4), .int (td 4)])), ((va 4), .inl ((ca 4), 3, .inl (v 4))), ((fo 5), .inr (2, [.int (nm 5), .int (fk 5), .ref (va 5), .int (mi 5), .int (td 5)])), ((va 5), .inl ((ca 5), 3, .inl (v 5))), ((fo 6), .inr (2, [.int (nm 6), .int (fk 6), .ref (va 6), .int (mi 6), .int (td 6)])), ((va 6), .inl ((ca 6), 3, .inl (v 6))), ((fo 7), .inr (2, [.int (nm 7), .int (fk 7), .ref (va 7), .int (mi 7), .int (td 7)])), ((va 7), .inl ((ca 7), 3, .inl (v 7))), ((fo 8), .inr (2, [.int (nm 8), .int (fk 8), .ref (va 8), .int (mi 8), .int (td 8)])), ((va 8), .inl ((ca 8), 3, .inl (v 8))), ((fo 9), .inr (2, [.int (nm 9), .int (fk 9), .ref (va 9), .int (mi 9), .int (td 9)])), ((va 9), .inl ((ca 9), 3, .inl (v 9))), ((fo 10), .inr (2, [.int (nm 10), .int (fk 10), .ref (va 10), .int (mi 10), .int (td 10)])), ((va 10), .inl ((ca 10), 3, .inl (v 10))), ((fo 11), .inr (2, [.int (nm 11), .int (fk 11), .ref (va 11), .int (mi 11), .int (td 11)])), ((va 11), .inl ((ca 11), 3, .inl (v 11))), ((fo 12), .inr (2, [.int (nm 12), .int (fk 12), .ref (va 12), .int (mi 12), .int (td 12)])), ((va 12), .inl ((ca 12), 3, .inl (v 12))), ((fo 13), .inr (2, [.int (nm 13), .int (fk 13), .ref (va 13), .int (mi 13), .int (td 13)])), ((va 13), .inl ((ca 13), 3, .inl (v 13))), ((fo 14), .inr (2, [.int (nm 14), .int (fk 14), .ref (va 14), .int (mi 14), .int (td 14)])), ((va 14), .inl ((ca 14), 3, .inl (v 14))), ((fo 15), .inr (2, [.int (nm 15), .int (fk 15), .ref (va 15), .int (mi 15), .int (td 15)])), ((va 15), .inl ((ca 15), 3, .inl (v 15)))] H1 := hP.kept (fun k x hx => hk1 x.1 ((hP k x hx).lt) (fun h => h))
    generalize H1 = H at hP hS ⊢
    refine lv_if_eq hx hb dX8_outcome_142 rfl (fun q36 => ?_) (fun q36 => ?_)
    · refine lv_aload hx hb dX8_outcome_166 (lv_at hl 0 rfl) ?_
      refine va_get (D := (dC, dI)) (ci := 2) (v := .int (fk 13)) (C := RX2) (T := TX2) (N := 5) hx hb hts (by decide +kernel) hown hK hP 33 rfl rfl 1 (by decide) (hts (.fieldLink RX8 100 "Ruleengine$Fact" "kind" "I") (by decide +kernel)) (fun _ h9 => h9) rfl dX8_outcome_168 ?_
      refine lv_aload_n hx hb dX8_outcome_171 rfl (lv_at hl 6 rfl) ?_
      refine va_get (D := (dC, dI)) (ci := 5) (v := .ref ao) (C := RX5) (T := TX5) (N := 7) hx hb hts (by decide +kernel) hown hK hP 1 rfl rfl 1 (by decide) (hts (.fieldLink RX8 60 "Ruleengine$Part" "atom" "LRuleengine$Atom;") (by decide +kernel)) (fun _ h9 => h9) rfl dX8_outcome_172 ?_
      refine va_get (D := (dC, dI)) (ci := 0) (v := .int kd) (C := RX0) (T := TX0) (N := 6) hx hb hts (by decide +kernel) hown hK hP 2 rfl rfl 0 (by decide) (hts (.fieldLink RX8 103 "Ruleengine$Atom" "kind" "I") (by decide +kernel)) (fun _ h9 => h9) rfl dX8_outcome_175 ?_
      refine lv_icmp_ne hx hb dX8_outcome_178 rfl (fun q37 => ?_) (fun q37 => ?_)
      · refine lv_iinc (v := (14)) (lv' := [(5, .int (14)), (6, .ref (fo 13)), (4, .int sm), (3, .int o), (2, .int n), (0, .ref h0), (1, .ref h1)]) hx hb dX8_outcome_184 hl (k := 1) rfl (by decide) (by decide) rfl (fun ls hl => ?_)
        refine lv_goto hx hb dX8_outcome_187 rfl ?_
        have h0 : rr = 0 := by assumption
        have hf : ¬ lf_fit kd e12 e13 e23 w vs (fk 13) (v 13) := fun hh => by rw [if_pos hh] at hw; rw [hw] at h0; exact absurd h0 (by decide)
        have hp : (fun k => decide (lf_fit kd e12 e13 e23 w vs (fk k) (v k))) 13 = false := decide_eq_false hf
        have hk : fk 13 ≠ kd := by assumption
        have hq : (fun k => !decide (lf_fit kd e12 e13 e23 w vs (fk k) (v k)) && decide (fk k = kd)) 13 = false := by show (!decide (lf_fit kd e12 e13 e23 w vs (fk 13) (v 13)) && decide (fk 13 = kd)) = false; rw [decide_eq_false (p := fk 13 = kd) hk]; exact Bool.and_false _
        exact it14 ls H locs _ _ _ hP hS (lv_sub hl [0, 2, 3, 4, 5, 6] rfl) (by rw [a1]; exact (lf_cnt_n (P := (fun k => decide (lf_fit kd e12 e13 e23 w vs (fk k) (v k)))) (k := 13) hp).symm) (by rw [a2]; exact (lf_cnt_n (P := (fun k => !decide (lf_fit kd e12 e13 e23 w vs (fk k) (v k)) && decide (fk k = kd))) (k := 13) hq).symm) (by rw [a3]; exact (lf_sum_n (P := (fun k => decide (lf_fit kd e12 e13 e23 w vs (fk k) (v k)))) (x := (fun k => v k fa_.toNatClampNeg)) (k := 13) hp).symm)
      · refine lv_iinc (v := (o + 1)) (lv' := [(3, .int (o + 1)), (6, .ref (fo 13)), (5, .int (13)), (4, .int sm), (2, .int n), (0, .ref h0), (1, .ref h1)]) hx hb dX8_outcome_181 hl (k := 3) rfl (by rfl) (by decide) rfl (fun ls hl => ?_)
        refine lv_iinc (v := (14)) (lv' := [(5, .int (14)), (3, .int (o + 1)), (6, .ref (fo 13)), (4, .int sm), (2, .int n), (0, .ref h0), (1, .ref h1)]) hx hb dX8_outcome_184 hl (k := 2) rfl (by decide) (by decide) rfl (fun ls hl => ?_)
        refine lv_goto hx hb dX8_outcome_187 rfl ?_
        have h0 : rr = 0 := by assumption
        have hf : ¬ lf_fit kd e12 e13 e23 w vs (fk 13) (v 13) := fun hh => by rw [if_pos hh] at hw; rw [hw] at h0; exact absurd h0 (by decide)
        have hp : (fun k => decide (lf_fit kd e12 e13 e23 w vs (fk k) (v k))) 13 = false := decide_eq_false hf
        have hk : fk 13 = kd := by assumption
        have hq : (fun k => !decide (lf_fit kd e12 e13 e23 w vs (fk k) (v k)) && decide (fk k = kd)) 13 = true := by show (!decide (lf_fit kd e12 e13 e23 w vs (fk 13) (v 13)) && decide (fk 13 = kd)) = true; rw [decide_eq_false hf, decide_eq_true hk]; rfl
        exact it14 ls H locs _ _ _ hP hS (lv_sub hl [0, 3, 1, 4, 5, 6] rfl) (by rw [a1]; exact (lf_cnt_n (P := (fun k => decide (lf_fit kd e12 e13 e23 w vs (fk k) (v k)))) (k := 13) hp).symm) (by rw [a2]; exact (lf_cnt_y (P := (fun k => !decide (lf_fit kd e12 e13 e23 w vs (fk k) (v k)) && decide (fk k = kd))) (k := 13) hq).symm) (by rw [a3]; exact (lf_sum_n (P := (fun k => decide (lf_fit kd e12 e13 e23 w vs (fk k) (v k)))) (x := (fun k => v k fa_.toNatClampNeg)) (k := 13) hp).symm)
    · refine lv_iinc (v := (n + 1)) (lv' := [(2, .int (n + 1)), (6, .ref (fo 13)), (5, .int (13)), (4, .int sm), (3, .int o), (0, .ref h0), (1, .ref h1)]) hx hb dX8_outcome_145 hl (k := 4) rfl (by rfl) (by decide) rfl (fun ls hl => ?_)
      refine lv_iload hx hb dX8_outcome_148 (lv_at hl 3 rfl) ?_
      refine lv_aload hx hb dX8_outcome_150 (lv_at hl 1 rfl) ?_
      refine va_get (D := (dC, dI)) (ci := 2) (v := .ref (va 13)) (C := RX2) (T := TX2) (N := 5) hx hb hts (by decide +kernel) hown hK hP 33 rfl rfl 2 (by decide) (hts (.fieldLink RX8 92 "Ruleengine$Fact" "value" "[I") (by decide +kernel)) (fun _ h9 => h9) rfl dX8_outcome_152 ?_
      refine lv_aload_n hx hb dX8_outcome_155 rfl (lv_at hl 6 rfl) ?_
      refine va_get (D := (dC, dI)) (ci := 5) (v := .int fa_) (C := RX5) (T := TX5) (N := 7) hx hb hts (by decide +kernel) hown hK hP 1 rfl rfl 6 (by decide) (hts (.fieldLink RX8 97 "Ruleengine$Part" "at" "I") (by decide +kernel)) (fun _ h9 => h9) rfl dX8_outcome_156 ?_
      refine va_iald (i := fa_) hx hb hK hP 34 16 rfl rfl hat dX8_outcome_159 ?_
      refine lv_iadd hx hb dX8_outcome_160 ?_
      refine lv_istore (lv' := [(4, .int (sm + ((v 13) (fa_).toNatClampNeg))), (2, .int (n + 1)), (6, .ref (fo 13)), (5, .int (13)), (3, .int o), (0, .ref h0), (1, .ref h1)]) hx hb dX8_outcome_161 hl (by decide) rfl (fun ls hl => ?_)
      refine lv_goto hx hb dX8_outcome_163 rfl ?_
      refine lv_iinc (v := (14)) (lv' := [(5, .int (14)), (4, .int (sm + ((v 13) (fa_).toNatClampNeg))), (2, .int (n + 1)), (6, .ref (fo 13)), (3, .int o), (0, .ref h0), (1, .ref h1)]) hx hb dX8_outcome_184 hl (k := 3) rfl (by decide) (by decide) rfl (fun ls hl => ?_)
      refine lv_goto hx hb dX8_outcome_187 rfl ?_
      have hf : lf_fit kd e12 e13 e23 w vs (fk 13) (v 13) := Decidable.byContradiction (fun hh => by rw [if_neg hh] at hw; exact absurd hw (by assumption))
      have hp : (fun k => decide (lf_fit kd e12 e13 e23 w vs (fk k) (v k))) 13 = true := decide_eq_true hf
      have hq : (fun k => !decide (lf_fit kd e12 e13 e23 w vs (fk k) (v k)) && decide (fk k = kd)) 13 = false := by show (!decide (lf_fit kd e12 e13 e23 w vs (fk 13) (v 13)) && decide (fk 13 = kd)) = false; rw [decide_eq_true hf]; rfl
      exact it14 ls H locs _ _ _ hP hS (lv_sub hl [0, 1, 4, 2, 5, 6] rfl) (by rw [a1]; exact (lf_cnt_y (P := (fun k => decide (lf_fit kd e12 e13 e23 w vs (fk k) (v k)))) (k := 13) hp).symm) (by rw [a2]; exact (lf_cnt_n (P := (fun k => !decide (lf_fit kd e12 e13 e23 w vs (fk k) (v k)) && decide (fk k = kd))) (k := 13) hq).symm) (by rw [a3]; exact (lf_sum_y (P := (fun k => decide (lf_fit kd e12 e13 e23 w vs (fk k) (v k)))) (x := (fun k => v k fa_.toNatClampNeg)) (k := 13) hp).symm)
  have it12 : ∀ (ls : Array Slot) (H : Heap) (locs : List Loc) (n o sm : Int32), va_P (dC, dI) CL [(h0, .inr (4, .ref st :: .ref po :: .int ps :: .int ie :: .ref g :: mr)), (h1, .inr (5, [.int so, .ref ao, .int le, .int ri, .int rl, .int nw, .int fa_])), (ao, .inr (0, [.int kd, .ref sg, .ref wt, .int e12, .int e13, .int e23])), (wt, .inl (cw, 3, .inl w)), (st, .inr (8, .ref fa :: sr)), (fa, .inl (cf, 16, .inr (.inr (.inr (.inr (fun j => some (fo j))))))), (g, .inl (cg, 6, .inl vs)), ((fo 0), .inr (2, [.int (nm 0), .int (fk 0), .ref (va 0), .int (mi 0), .int (td 0)])), ((va 0), .inl ((ca 0), 3, .inl (v 0))), ((fo 1), .inr (2, [.int (nm 1), .int (fk 1), .ref (va 1), .int (mi 1), .int (td 1)])), ((va 1), .inl ((ca 1), 3, .inl (v 1))), ((fo 2), .inr (2, [.int (nm 2), .int (fk 2), .ref (va 2), .int (mi 2), .int (td 2)])), ((va 2), .inl ((ca 2), 3, .inl (v 2))), ((fo 3), .inr (2, [.int (nm 3), .int (fk 3), .ref (va 3), .int (mi 3), .int (td 3)])), ((va 3), .inl ((ca 3), 3, .inl (v 3))), ((fo 4), .inr (2, [.int (nm 4), .int (fk 4), .ref (va 4), .int (mi 4), .int (td 4)])), ((va 4), .inl ((ca 4), 3, .inl (v 4))), ((fo 5), .inr (2, [.int (nm 5), .int (fk 5), .ref (va 5), .int (mi 5), .int (td 5)])), ((va 5), .inl ((ca 5), 3, .inl (v 5))), ((fo 6), .inr (2, [.int (nm 6), .int (fk 6), .ref (va 6), .int (mi 6), .int (td 6)])), ((va 6), .inl ((ca 6), 3, .inl (v 6))), ((fo 7), .inr (2, [.int (nm 7), .int (fk 7), .ref (va 7), .int (mi 7), .int (td 7)])), ((va 7), .inl ((ca 7), 3, .inl (v 7))), ((fo 8), .inr (2, [.int (nm 8), .int (fk 8), .ref (va 8), .int (mi 8), .int (td 8)])), ((va 8), .inl ((ca 8), 3, .inl (v 8))), ((fo 9), .inr (2, [.int (nm 9), .int (fk 9), .ref (va 9), .int (mi 9), .int (td 9)])), ((va 9), .inl ((ca 9), 3, .inl (v 9))), ((fo 10), .inr (2, [.int (nm 10), .int (fk 10), .ref (va 10), .int (mi 10), .int (td 10)])), ((va 10), .inl ((ca 10), 3, .inl (v 10))), ((fo 11), .inr (2, [.int (nm 11), .int (fk 11), .ref (va 11), .int (mi 11), .int (td 11)])), ((va 11), .inl ((ca 11), 3, .inl (v 11))), ((fo 12), .inr (2, [.int (nm 12), .int (fk 12), .ref (va 12), .int (mi 12), .int (td 12)])), ((va 12), .inl ((ca 12), 3, .inl (v 12))), ((fo 13), .inr (2, [.int (nm 13), .int (fk 13), .ref (va 13), .int (mi 13), .int (td 13)])), ((va 13), .inl ((ca 13), 3, .inl (v 13))), ((fo 14), .inr (2, [.int (nm 14), .int (fk 14), .ref (va 14), .int (mi 14), .int (td 14)])), ((va 14), .inl ((ca 14), 3, .inl (v 14))), ((fo 15), .inr (2, [.int (nm 15), .int (fk 15), .ref (va 15), .int (mi 15), .int (td 15)])), ((va 15), .inl ((ca 15), 3, .inl (v 15)))] H → va_S A s.heap H locs → lv_has ls 7 [(5, .int (12)), (4, .int sm), (3, .int o), (2, .int n), (0, .ref h0), (1, .ref h1)] → n = lf_cnt (fun k => decide (lf_fit kd e12 e13 e23 w vs (fk k) (v k))) 12 → o = lf_cnt (fun k => !decide (lf_fit kd e12 e13 e23 w vs (fk k) (v k)) && decide (fk k = kd)) 12 → sm = lf_sum (fun k => decide (lf_fit kd e12 e13 e23 w vs (fk k) (v k))) (fun k => v k fa_.toNatClampNeg) 12 → W p l e (headSpec wqX8_outcome ({ frames := 1, cells := 0, slots := 0, locals := 24 })).room s m #[.ref h0, .ref h1] below meth c H locs 0 0 (MQ below (va_Qi (fun (r : Int32) (u : Nat → Int32) => (u = if (so = 4 ∨ so = 5) ∧ nw ≠ 0 then upd vs (le - 16).toNatClampNeg (if so = 5 then lf_sum (fun k => decide (lf_fit kd e12 e13 e23 w vs (fk k) (v k))) (fun k => v k fa_.toNatClampNeg) 16 else lf_cnt (fun k => decide (lf_fit kd e12 e13 e23 w vs (fk k) (v k))) 16) else vs) ∧ r = if so = 4 ∨ so = 5 then (if u (le - 16).toNatClampNeg = (if so = 5 then lf_sum (fun k => decide (lf_fit kd e12 e13 e23 w vs (fk k) (v k))) (fun k => v k fa_.toNatClampNeg) 16 else lf_cnt (fun k => decide (lf_fit kd e12 e13 e23 w vs (fk k) (v k))) 16) then (if so = 5 then lf_sum (fun k => decide (lf_fit kd e12 e13 e23 w vs (fk k) (v k))) (fun k => v k fa_.toNatClampNeg) 16 else lf_cnt (fun k => decide (lf_fit kd e12 e13 e23 w vs (fk k) (v k))) 16) else -1) else if (if so = 2 then 0 < lf_cnt (fun k => decide (lf_fit kd e12 e13 e23 w vs (fk k) (v k))) 16 else (if so = 3 then lf_cnt (fun k => !decide (lf_fit kd e12 e13 e23 w vs (fk k) (v k)) && decide (fk k = kd)) 16 else lf_cnt (fun k => decide (lf_fit kd e12 e13 e23 w vs (fk k) (v k))) 16) = 0) then 0 else -1) (fun u t => va_P (dC, dI) CL [(h0, .inr (4, .ref st :: .ref po :: .int ps :: .int ie :: .ref g :: mr)), (h1, .inr (5, [.int so, .ref ao, .int le, .int ri, .int rl, .int nw, .int fa_])), (ao, .inr (0, [.int kd, .ref sg, .ref wt, .int e12, .int e13, .int e23])), (wt, .inl (cw, 3, .inl w)), (st, .inr (8, .ref fa :: sr)), (fa, .inl (cf, 16, .inr (.inr (.inr (.inr (fun j => some (fo j))))))), (g, .inl (cg, 6, .inl u)), ((fo 0), .inr (2, [.int (nm 0), .int (fk 0), .ref (va 0), .int (mi 0), .int (td 0)])), ((va 0), .inl ((ca 0), 3, .inl (v 0))), ((fo 1), .inr (2, [.int (nm 1), .int (fk 1), .ref (va 1), .int (mi 1), .int (td 1)])), ((va 1), .inl ((ca 1), 3, .inl (v 1))), ((fo 2), .inr (2, [.int (nm 2), .int (fk 2), .ref (va 2), .int (mi 2), .int (td 2)])), ((va 2), .inl ((ca 2), 3, .inl (v 2))), ((fo 3), .inr (2, [.int (nm 3), .int (fk 3), .ref (va 3), .int (mi 3), .int (td 3)])), ((va 3), .inl ((ca 3), 3, .inl (v 3))), ((fo 4), .inr (2, [.int (nm 4), .int (fk 4), .ref (va 4), .int (mi 4), .int (td 4)])), ((va 4), .inl ((ca 4), 3, .inl (v 4))), ((fo 5), .inr (2, [.int (nm 5), .int (fk 5), .ref (va 5), .int (mi 5), .int (td 5)])), ((va 5), .inl ((ca 5), 3, .inl (v 5))), ((fo 6), .inr (2, [.int (nm 6), .int (fk 6), .ref (va 6), .int (mi 6), .int (td 6)])), ((va 6), .inl ((ca 6), 3, .inl (v 6))), ((fo 7), .inr (2, [.int (nm 7), .int (fk 7), .ref (va 7), .int (mi 7), .int (td 7)])), ((va 7), .inl ((ca 7), 3, .inl (v 7))), ((fo 8), .inr (2, [.int (nm 8), .int (fk 8), .ref (va 8), .int (mi 8), .int (td 8)])), ((va 8), .inl ((ca 8), 3, .inl (v 8))), ((fo 9), .inr (2, [.int (nm 9), .int (fk 9), .ref (va 9), .int (mi 9), .int (td 9)])), ((va 9), .inl ((ca 9), 3, .inl (v 9))), ((fo 10), .inr (2, [.int (nm 10), .int (fk 10), .ref (va 10), .int (mi 10), .int (td 10)])), ((va 10), .inl ((ca 10), 3, .inl (v 10))), ((fo 11), .inr (2, [.int (nm 11), .int (fk 11), .ref (va 11), .int (mi 11), .int (td 11)])), ((va 11), .inl ((ca 11), 3, .inl (v 11))), ((fo 12), .inr (2, [.int (nm 12), .int (fk 12), .ref (va 12), .int (mi 12), .int (td 12)])), ((va 12), .inl ((ca 12), 3, .inl (v 12))), ((fo 13), .inr (2, [.int (nm 13), .int (fk 13), .ref (va 13), .int (mi 13), .int (td 13)])), ((va 13), .inl ((ca 13), 3, .inl (v 13))), ((fo 14), .inr (2, [.int (nm 14), .int (fk 14), .ref (va 14), .int (mi 14), .int (td 14)])), ((va 14), .inl ((ca 14), 3, .inl (v 14))), ((fo 15), .inr (2, [.int (nm 15), .int (fk 15), .ref (va 15), .int (mi 15), .int (td 15)])), ((va 15), .inl ((ca 15), 3, .inl (v 15)))] t.heap ∧ va_K (dC, dI) CL [(cw, .int), (cf, .object RX2), (cg, .int), ((ca 0), .int), ((ca 1), .int), ((ca 2), .int), ((ca 3), .int), ((ca 4), .int), ((ca 5), .int), ((ca 6), .int), ((ca 7), .int), ((ca 8), .int), ((ca 9), .int), ((ca 10), .int), ((ca 11), .int), ((ca 12), .int), ((ca 13), .int), ((ca 14), .int), ((ca 15), .int)] t ∧ va_D (A) [(h0, .inr (4, .ref st :: .ref po :: .int ps :: .int ie :: .ref g :: mr)), (h1, .inr (5, [.int so, .ref ao, .int le, .int ri, .int rl, .int nw, .int fa_])), (ao, .inr (0, [.int kd, .ref sg, .ref wt, .int e12, .int e13, .int e23])), (wt, .inl (cw, 3, .inl w)), (st, .inr (8, .ref fa :: sr)), (fa, .inl (cf, 16, .inr (.inr (.inr (.inr (fun j => some (fo j))))))), (g, .inl (cg, 6, .inl u)), ((fo 0), .inr (2, [.int (nm 0), .int (fk 0), .ref (va 0), .int (mi 0), .int (td 0)])), ((va 0), .inl ((ca 0), 3, .inl (v 0))), ((fo 1), .inr (2, [.int (nm 1), .int (fk 1), .ref (va 1), .int (mi 1), .int (td 1)])), ((va 1), .inl ((ca 1), 3, .inl (v 1))), ((fo 2), .inr (2, [.int (nm 2), .int (fk 2), .ref (va 2), .int (mi 2), .int (td 2)])), ((va 2), .inl ((ca 2), 3, .inl (v 2))), ((fo 3), .inr (2, [.int (nm 3), .int (fk 3), .ref (va 3), .int (mi 3), .int (td 3)])), ((va 3), .inl ((ca 3), 3, .inl (v 3))), ((fo 4), .inr (2, [.int (nm 4), .int (fk 4), .ref (va 4), .int (mi 4), .int (td 4)])), ((va 4), .inl ((ca 4), 3, .inl (v 4))), ((fo 5), .inr (2, [.int (nm 5), .int (fk 5), .ref (va 5), .int (mi 5), .int (td 5)])), ((va 5), .inl ((ca 5), 3, .inl (v 5))), ((fo 6), .inr (2, [.int (nm 6), .int (fk 6), .ref (va 6), .int (mi 6), .int (td 6)])), ((va 6), .inl ((ca 6), 3, .inl (v 6))), ((fo 7), .inr (2, [.int (nm 7), .int (fk 7), .ref (va 7), .int (mi 7), .int (td 7)])), ((va 7), .inl ((ca 7), 3, .inl (v 7))), ((fo 8), .inr (2, [.int (nm 8), .int (fk 8), .ref (va 8), .int (mi 8), .int (td 8)])), ((va 8), .inl ((ca 8), 3, .inl (v 8))), ((fo 9), .inr (2, [.int (nm 9), .int (fk 9), .ref (va 9), .int (mi 9), .int (td 9)])), ((va 9), .inl ((ca 9), 3, .inl (v 9))), ((fo 10), .inr (2, [.int (nm 10), .int (fk 10), .ref (va 10), .int (mi 10), .int (td 10)])), ((va 10), .inl ((ca 10), 3, .inl (v 10))), ((fo 11), .inr (2, [.int (nm 11), .int (fk 11), .ref (va 11), .int (mi 11), .int (td 11)])), ((va 11), .inl ((ca 11), 3, .inl (v 11))), ((fo 12), .inr (2, [.int (nm 12), .int (fk 12), .ref (va 12), .int (mi 12), .int (td 12)])), ((va 12), .inl ((ca 12), 3, .inl (v 12))), ((fo 13), .inr (2, [.int (nm 13), .int (fk 13), .ref (va 13), .int (mi 13), .int (td 13)])), ((va 13), .inl ((ca 13), 3, .inl (v 13))), ((fo 14), .inr (2, [.int (nm 14), .int (fk 14), .ref (va 14), .int (mi 14), .int (td 14)])), ((va 14), .inl ((ca 14), 3, .inl (v 14))), ((fo 15), .inr (2, [.int (nm 15), .int (fk 15), .ref (va 15), .int (mi 15), .int (td 15)])), ((va 15), .inl ((ca 15), 3, .inl (v 15)))]) (A)) #[.ref h0, .ref h1] s 0 0 A) (F0 m 110 ls []) := by
    intro ls H locs n o sm hP hS hl a1 a2 a3
    refine lv_iload hx hb dX8_outcome_110 (lv_at hl 0 rfl) ?_
    refine lv_bipush (v := (16 : Int32)) hx hb dX8_outcome_112 (by decide) ?_
    refine lv_icmp_ge hx hb dX8_outcome_114 rfl (fun q => absurd q (by decide)) (fun _ => ?_)
    refine lv_aload_n hx hb dX8_outcome_117 rfl (lv_at hl 4 rfl) ?_
    refine va_get (D := (dC, dI)) (ci := 4) (v := .ref st) (C := RX4) (T := TX4) (N := 17) hx hb hts (by decide +kernel) hown hK hP 0 rfl rfl 0 (by decide) (hts (.fieldLink RX8 18 "Ruleengine$Search" "state" "LRuleengine$State;") (by decide +kernel)) (fun _ h9 => h9) rfl dX8_outcome_118 ?_
    refine va_get (D := (dC, dI)) (ci := 8) (v := .ref fa) (C := RX9) (T := TX9) (N := 13) hx hb hts (by decide +kernel) hown hK hP 4 rfl rfl 0 (by decide) (hts (.fieldLink RX8 87 "Ruleengine$State" "fact" "[LRuleengine$Fact;") (by decide +kernel)) (fun _ h9 => h9) rfl dX8_outcome_121 ?_
    refine lv_iload hx hb dX8_outcome_124 (lv_at hl 0 rfl) ?_
    refine va_aldq (i := (12)) hx hb hK hP 5 1 rfl rfl (by unfold vp_in; decide) dX8_outcome_126 ?_
    refine W.eq (g2 := F0 m 127 _ (.ref (fo 12) :: _)) rfl ?_
    refine lv_astore (lv' := [(6, .ref (fo 12)), (5, .int (12)), (4, .int sm), (3, .int o), (2, .int n), (0, .ref h0), (1, .ref h1)]) hx hb dX8_outcome_127 hl (by decide) rfl (fun ls hl => ?_)
    refine lv_aload_n hx hb dX8_outcome_129 rfl (lv_at hl 6 rfl) ?_
    refine va_get (D := (dC, dI)) (ci := 5) (v := .ref ao) (C := RX5) (T := TX5) (N := 7) hx hb hts (by decide +kernel) hown hK hP 1 rfl rfl 1 (by decide) (hts (.fieldLink RX8 60 "Ruleengine$Part" "atom" "LRuleengine$Atom;") (by decide +kernel)) (fun _ h9 => h9) rfl dX8_outcome_130 ?_
    refine lv_aload hx hb dX8_outcome_133 (lv_at hl 0 rfl) ?_
    refine lv_aload_n hx hb dX8_outcome_135 rfl (lv_at hl 5 rfl) ?_
    refine va_get (D := (dC, dI)) (ci := 4) (v := .ref g) (C := RX4) (T := TX4) (N := 17) hx hb hts (by decide +kernel) hown hK hP 0 rfl rfl 4 (by decide) (hts (.fieldLink RX8 9 "Ruleengine$Search" "values" "[I") (by decide +kernel)) (fun _ h9 => h9) rfl dX8_outcome_136 ?_
    have hPc := hP.sub (ws' := [(ao, .inr (0, [.int kd, .ref sg, .ref wt, .int e12, .int e13, .int e23])), (wt, .inl (cw, 3, .inl w)), ((fo 12), .inr (2, [.int (nm 12), .int (fk 12), .ref (va 12), .int (mi 12), .int (td 12)])), ((va 12), .inl ((ca 12), 3, .inl (v 12))), (g, .inl (cg, 6, .inl vs))]) [2, 3, 31, 32, 6] rfl
    have hDc := hD.sub (ws' := [(ao, .inr (0, [.int kd, .ref sg, .ref wt, .int e12, .int e13, .int e23])), (wt, .inl (cw, 3, .inl w)), ((fo 12), .inr (2, [.int (nm 12), .int (fk 12), .ref (va 12), .int (mi 12), .int (td 12)])), ((va 12), .inl ((ca 12), 3, .inl (v 12))), (g, .inl (cg, 6, .inl vs))]) [2, 3, 31, 32, 6] (by decide) rfl
    have hKc := hK.sub (tys' := [(cw, .int), ((ca 12), .int), (cg, .int)]) [0, 15, 2] rfl
    refine va_calli (va_runV (As := [.ref (fo 12), .ref g]) (rest := []) ⟨hx, hb, hml, hown, hts⟩ (kX0_fits l dC dI H.size ao sg wt (fo 12) (va 12) g cw (ca 12) cg kd e12 e13 e23 (nm 12) (fk 12) (mi 12) (td 12) w (v 12) vs) (cwV 2 hts ggq rfl rfl rfl (by decide +kernel) ⟨Nat.le_of_ble_eq_true rfl, Nat.le_of_ble_eq_true rfl⟩) ⟨fun a U g mk q => by obtain ⟨q0, q1, qP, qK, qD⟩ := q; exact ⟨q0, q1, qP, va_K.moved (u := U) (U := U.calling g mk a) (Vm.Alike.refl U.vm) qK, qD⟩, va_recv hKc hPc (ci := 0) (q0 := 0) rfl rfl, fun U hU hW => ⟨rfl, by rw [hU], by rw [hU]; exact hPc, va_K.moved hW.alike hKc, hDc.weaken (fun _ _ _ _ => trivial)⟩⟩ rfl rfl hl.1 rfl (lv_room (Nat.le_of_ble_eq_true rfl)) dX8_outcome_139 ⟨Nat.le_of_ble_eq_true rfl, Nat.le_of_ble_eq_true rfl⟩) hS (fun q _ h => h.elim) (fun q h => h.elim) (fun rr u t H1 locs ht hvm hw hB hz1 hk1 hS => ?_)
    have hP : va_P (dC, dI) CL [(h0, .inr (4, .ref st :: .ref po :: .int ps :: .int ie :: .ref g :: mr)), (h1, .inr (5, [.int so, .ref ao, .int le, .int ri, .int rl, .int nw, .int fa_])), (ao, .inr (0, [.int kd, .ref sg, .ref wt, .int e12, .int e13, .int e23])), (wt, .inl (cw, 3, .inl w)), (st, .inr (8, .ref fa :: sr)), (fa, .inl (cf, 16, .inr (.inr (.inr (.inr (fun j => some (fo j))))))), (g, .inl (cg, 6, .inl vs)), ((fo 0), .inr (2, [.int (nm 0), .int (fk 0), .ref (va 0), .int (mi 0), .int (td 0)])), ((va 0), .inl ((ca 0), 3, .inl (v 0))), ((fo 1), .inr (2, [.int (nm 1), .int (fk 1), .ref (va 1), .int (mi 1), .int (td 1)])), ((va 1), .inl ((ca 1), 3, .inl (v 1))), ((fo 2), .inr (2, [.int (nm 2), .int (fk 2), .ref (va 2), .int (mi 2), .int (td 2)])), ((va 2), .inl ((ca 2), 3, .inl (v 2))), ((fo 3), .inr (2, [.int (nm 3), .int (fk 3), .ref (va 3), .int (mi 3), .int (td 3)])), ((va 3), .inl ((ca 3), 3, .inl (v 3))), ((fo 4), .inr (2, [.int (nm 4), .int (fk 4), .ref (va 4), .int (mi 4), .int (td 4)])), ((va 4), .inl ((ca 4), 3, .inl (v 4))), ((fo 5), .inr (2, [.int (nm 5), .int (fk 5), .ref (va 5), .int (mi 5), .int (td 5)])), ((va 5), .inl ((ca 5), 3, .inl (v 5))), ((fo 6), .inr (2, [.int (nm 6), .int (fk 6), .ref (va 6), .int (mi 6), .int (td 6)])), ((va 6), .inl ((ca 6), 3, .inl (v 6))), ((fo 7), .inr (2, [.int (nm 7), .int (fk 7), .ref (va 7), .int (mi 7), .int (td 7)])), ((va 7), .inl ((ca 7), 3, .inl (v 7))), ((fo 8), .inr (2, [.int (nm 8), .int (fk 8), .ref (va 8), .int (mi 8), .int (td 8)])), ((va 8), .inl ((ca 8), 3, .inl (v 8))), ((fo 9), .inr (2, [.int (nm 9), .int (fk 9), .ref (va 9), .int (mi 9), .int (td 9)])), ((va 9), .inl ((ca 9), 3, .inl (v 9))), ((fo 10), .inr (2, [.int (nm 10), .int (fk 10), .ref (va 10), .int (mi 10), .int (td 10)])), ((va 10), .inl ((ca 10), 3, .inl (v 10))), ((fo 11), .inr (2, [.int (nm 11), .int (fk 11), .ref (va 11), .int (mi 11), .int (td 11)])), ((va 11), .inl ((ca 11), 3, .inl (v 11))), ((fo 12), .inr (2, [.int (nm 12), .int (fk 12), .ref (va 12), .int (mi 12), .int (td 12)])), ((va 12), .inl ((ca 12), 3, .inl (v 12))), ((fo 13), .inr (2, [.int (nm 13), .int (fk 13), .ref (va 13), .int (mi 13), .int (td 13)])), ((va 13), .inl ((ca 13), 3, .inl (v 13))), ((fo 14), .inr (2, [.int (nm 14), .int (fk 14), .ref (va 14), .int (mi 14), .int (td 14)])), ((va 14), .inl ((ca 14), 3, .inl (v 14))), ((fo 15), .inr (2, [.int (nm 15), .int (fk 15), .ref (va 15), .int (mi 15), .int (td 15)])), ((va 15), .inl ((ca 15), 3, .inl (v 15)))] H1 := hP.kept (fun k x hx => hk1 x.1 ((hP k x hx).lt) (fun h => h))
    generalize H1 = H at hP hS ⊢
    refine lv_if_eq hx hb dX8_outcome_142 rfl (fun q39 => ?_) (fun q39 => ?_)
    · refine lv_aload hx hb dX8_outcome_166 (lv_at hl 0 rfl) ?_
      refine va_get (D := (dC, dI)) (ci := 2) (v := .int (fk 12)) (C := RX2) (T := TX2) (N := 5) hx hb hts (by decide +kernel) hown hK hP 31 rfl rfl 1 (by decide) (hts (.fieldLink RX8 100 "Ruleengine$Fact" "kind" "I") (by decide +kernel)) (fun _ h9 => h9) rfl dX8_outcome_168 ?_
      refine lv_aload_n hx hb dX8_outcome_171 rfl (lv_at hl 6 rfl) ?_
      refine va_get (D := (dC, dI)) (ci := 5) (v := .ref ao) (C := RX5) (T := TX5) (N := 7) hx hb hts (by decide +kernel) hown hK hP 1 rfl rfl 1 (by decide) (hts (.fieldLink RX8 60 "Ruleengine$Part" "atom" "LRuleengine$Atom;") (by decide +kernel)) (fun _ h9 => h9) rfl dX8_outcome_172 ?_
      refine va_get (D := (dC, dI)) (ci := 0) (v := .int kd) (C := RX0) (T := TX0) (N := 6) hx hb hts (by decide +kernel) hown hK hP 2 rfl rfl 0 (by decide) (hts (.fieldLink RX8 103 "Ruleengine$Atom" "kind" "I") (by decide +kernel)) (fun _ h9 => h9) rfl dX8_outcome_175 ?_
      refine lv_icmp_ne hx hb dX8_outcome_178 rfl (fun q40 => ?_) (fun q40 => ?_)
      · refine lv_iinc (v := (13)) (lv' := [(5, .int (13)), (6, .ref (fo 12)), (4, .int sm), (3, .int o), (2, .int n), (0, .ref h0), (1, .ref h1)]) hx hb dX8_outcome_184 hl (k := 1) rfl (by decide) (by decide) rfl (fun ls hl => ?_)
        refine lv_goto hx hb dX8_outcome_187 rfl ?_
        have h0 : rr = 0 := by assumption
        have hf : ¬ lf_fit kd e12 e13 e23 w vs (fk 12) (v 12) := fun hh => by rw [if_pos hh] at hw; rw [hw] at h0; exact absurd h0 (by decide)
        have hp : (fun k => decide (lf_fit kd e12 e13 e23 w vs (fk k) (v k))) 12 = false := decide_eq_false hf
        have hk : fk 12 ≠ kd := by assumption
        have hq : (fun k => !decide (lf_fit kd e12 e13 e23 w vs (fk k) (v k)) && decide (fk k = kd)) 12 = false := by show (!decide (lf_fit kd e12 e13 e23 w vs (fk 12) (v 12)) && decide (fk 12 = kd)) = false; rw [decide_eq_false (p := fk 12 = kd) hk]; exact Bool.and_false _
        exact it13 ls H locs _ _ _ hP hS (lv_sub hl [0, 2, 3, 4, 5, 6] rfl) (by rw [a1]; exact (lf_cnt_n (P := (fun k => decide (lf_fit kd e12 e13 e23 w vs (fk k) (v k)))) (k := 12) hp).symm) (by rw [a2]; exact (lf_cnt_n (P := (fun k => !decide (lf_fit kd e12 e13 e23 w vs (fk k) (v k)) && decide (fk k = kd))) (k := 12) hq).symm) (by rw [a3]; exact (lf_sum_n (P := (fun k => decide (lf_fit kd e12 e13 e23 w vs (fk k) (v k)))) (x := (fun k => v k fa_.toNatClampNeg)) (k := 12) hp).symm)
      · refine lv_iinc (v := (o + 1)) (lv' := [(3, .int (o + 1)), (6, .ref (fo 12)), (5, .int (12)), (4, .int sm), (2, .int n), (0, .ref h0), (1, .ref h1)]) hx hb dX8_outcome_181 hl (k := 3) rfl (by rfl) (by decide) rfl (fun ls hl => ?_)
        refine lv_iinc (v := (13)) (lv' := [(5, .int (13)), (3, .int (o + 1)), (6, .ref (fo 12)), (4, .int sm), (2, .int n), (0, .ref h0), (1, .ref h1)]) hx hb dX8_outcome_184 hl (k := 2) rfl (by decide) (by decide) rfl (fun ls hl => ?_)
        refine lv_goto hx hb dX8_outcome_187 rfl ?_
        have h0 : rr = 0 := by assumption
        have hf : ¬ lf_fit kd e12 e13 e23 w vs (fk 12) (v 12) := fun hh => by rw [if_pos hh] at hw; rw [hw] at h0; exact absurd h0 (by decide)
        have hp : (fun k => decide (lf_fit kd e12 e13 e23 w vs (fk k) (v k))) 12 = false := decide_eq_false hf
        have hk : fk 12 = kd := by assumption
        have hq : (fun k => !decide (lf_fit kd e12 e13 e23 w vs (fk k) (v k)) && decide (fk k = kd)) 12 = true := by show (!decide (lf_fit kd e12 e13 e23 w vs (fk 12) (v 12)) && decide (fk 12 = kd)) = true; rw [decide_eq_false hf, decide_eq_true hk]; rfl
        exact it13 ls H locs _ _ _ hP hS (lv_sub hl [0, 3, 1, 4, 5, 6] rfl) (by rw [a1]; exact (lf_cnt_n (P := (fun k => decide (lf_fit kd e12 e13 e23 w vs (fk k) (v k)))) (k := 12) hp).symm) (by rw [a2]; exact (lf_cnt_y (P := (fun k => !decide (lf_fit kd e12 e13 e23 w vs (fk k) (v k)) && decide (fk k = kd))) (k := 12) hq).symm) (by rw [a3]; exact (lf_sum_n (P := (fun k => decide (lf_fit kd e12 e13 e23 w vs (fk k) (v k)))) (x := (fun k => v k fa_.toNatClampNeg)) (k := 12) hp).symm)
    · refine lv_iinc (v := (n + 1)) (lv' := [(2, .int (n + 1)), (6, .ref (fo 12)), (5, .int (12)), (4, .int sm), (3, .int o), (0, .ref h0), (1, .ref h1)]) hx hb dX8_outcome_145 hl (k := 4) rfl (by rfl) (by decide) rfl (fun ls hl => ?_)
      refine lv_iload hx hb dX8_outcome_148 (lv_at hl 3 rfl) ?_
      refine lv_aload hx hb dX8_outcome_150 (lv_at hl 1 rfl) ?_
      refine va_get (D := (dC, dI)) (ci := 2) (v := .ref (va 12)) (C := RX2) (T := TX2) (N := 5) hx hb hts (by decide +kernel) hown hK hP 31 rfl rfl 2 (by decide) (hts (.fieldLink RX8 92 "Ruleengine$Fact" "value" "[I") (by decide +kernel)) (fun _ h9 => h9) rfl dX8_outcome_152 ?_
      refine lv_aload_n hx hb dX8_outcome_155 rfl (lv_at hl 6 rfl) ?_
      refine va_get (D := (dC, dI)) (ci := 5) (v := .int fa_) (C := RX5) (T := TX5) (N := 7) hx hb hts (by decide +kernel) hown hK hP 1 rfl rfl 6 (by decide) (hts (.fieldLink RX8 97 "Ruleengine$Part" "at" "I") (by decide +kernel)) (fun _ h9 => h9) rfl dX8_outcome_156 ?_
      refine va_iald (i := fa_) hx hb hK hP 32 15 rfl rfl hat dX8_outcome_159 ?_
      refine lv_iadd hx hb dX8_outcome_160 ?_
      refine lv_istore (lv' := [(4, .int (sm + ((v 12) (fa_).toNatClampNeg))), (2, .int (n + 1)), (6, .ref (fo 12)), (5, .int (12)), (3, .int o), (0, .ref h0), (1, .ref h1)]) hx hb dX8_outcome_161 hl (by decide) rfl (fun ls hl => ?_)
      refine lv_goto hx hb dX8_outcome_163 rfl ?_
      refine lv_iinc (v := (13)) (lv' := [(5, .int (13)), (4, .int (sm + ((v 12) (fa_).toNatClampNeg))), (2, .int (n + 1)), (6, .ref (fo 12)), (3, .int o), (0, .ref h0), (1, .ref h1)]) hx hb dX8_outcome_184 hl (k := 3) rfl (by decide) (by decide) rfl (fun ls hl => ?_)
      refine lv_goto hx hb dX8_outcome_187 rfl ?_
      have hf : lf_fit kd e12 e13 e23 w vs (fk 12) (v 12) := Decidable.byContradiction (fun hh => by rw [if_neg hh] at hw; exact absurd hw (by assumption))
      have hp : (fun k => decide (lf_fit kd e12 e13 e23 w vs (fk k) (v k))) 12 = true := decide_eq_true hf
      have hq : (fun k => !decide (lf_fit kd e12 e13 e23 w vs (fk k) (v k)) && decide (fk k = kd)) 12 = false := by show (!decide (lf_fit kd e12 e13 e23 w vs (fk 12) (v 12)) && decide (fk 12 = kd)) = false; rw [decide_eq_true hf]; rfl
      exact it13 ls H locs _ _ _ hP hS (lv_sub hl [0, 1, 4, 2, 5, 6] rfl) (by rw [a1]; exact (lf_cnt_y (P := (fun k => decide (lf_fit kd e12 e13 e23 w vs (fk k) (v k)))) (k := 12) hp).symm) (by rw [a2]; exact (lf_cnt_n (P := (fun k => !decide (lf_fit kd e12 e13 e23 w vs (fk k) (v k)) && decide (fk k = kd))) (k := 12) hq).symm) (by rw [a3]; exact (lf_sum_y (P := (fun k => decide (lf_fit kd e12 e13 e23 w vs (fk k) (v k)))) (x := (fun k => v k fa_.toNatClampNeg)) (k := 12) hp).symm)
  have it11 : ∀ (ls : Array Slot) (H : Heap) (locs : List Loc) (n o sm : Int32), va_P (dC, dI) CL [(h0, .inr (4, .ref st :: .ref po :: .int ps :: .int ie :: .ref g :: mr)), (h1, .inr (5, [.int so, .ref ao, .int le, .int ri, .int rl, .int nw, .int fa_])), (ao, .inr (0, [.int kd, .ref sg, .ref wt, .int e12, .int e13, .int e23])), (wt, .inl (cw, 3, .inl w)), (st, .inr (8, .ref fa :: sr)), (fa, .inl (cf, 16, .inr (.inr (.inr (.inr (fun j => some (fo j))))))), (g, .inl (cg, 6, .inl vs)), ((fo 0), .inr (2, [.int (nm 0), .int (fk 0), .ref (va 0), .int (mi 0), .int (td 0)])), ((va 0), .inl ((ca 0), 3, .inl (v 0))), ((fo 1), .inr (2, [.int (nm 1), .int (fk 1), .ref (va 1), .int (mi 1), .int (td 1)])), ((va 1), .inl ((ca 1), 3, .inl (v 1))), ((fo 2), .inr (2, [.int (nm 2), .int (fk 2), .ref (va 2), .int (mi 2), .int (td 2)])), ((va 2), .inl ((ca 2), 3, .inl (v 2))), ((fo 3), .inr (2, [.int (nm 3), .int (fk 3), .ref (va 3), .int (mi 3), .int (td 3)])), ((va 3), .inl ((ca 3), 3, .inl (v 3))), ((fo 4), .inr (2, [.int (nm 4), .int (fk 4), .ref (va 4), .int (mi 4), .int (td 4)])), ((va 4), .inl ((ca 4), 3, .inl (v 4))), ((fo 5), .inr (2, [.int (nm 5), .int (fk 5), .ref (va 5), .int (mi 5), .int (td 5)])), ((va 5), .inl ((ca 5), 3, .inl (v 5))), ((fo 6), .inr (2, [.int (nm 6), .int (fk 6), .ref (va 6), .int (mi 6), .int (td 6)])), ((va 6), .inl ((ca 6), 3, .inl (v 6))), ((fo 7), .inr (2, [.int (nm 7), .int (fk 7), .ref (va 7), .int (mi 7), .int (td 7)])), ((va 7), .inl ((ca 7), 3, .inl (v 7))), ((fo 8), .inr (2, [.int (nm 8), .int (fk 8), .ref (va 8), .int (mi 8), .int (td 8)])), ((va 8), .inl ((ca 8), 3, .inl (v 8))), ((fo 9), .inr (2, [.int (nm 9), .int (fk 9), .ref (va 9), .int (mi 9), .int (td 9)])), ((va 9), .inl ((ca 9), 3, .inl (v 9))), ((fo 10), .inr (2, [.int (nm 10), .int (fk 10), .ref (va 10), .int (mi 10), .int (td 10)])), ((va 10), .inl ((ca 10), 3, .inl (v 10))), ((fo 11), .inr (2, [.int (nm 11), .int (fk 11), .ref (va 11), .int (mi 11), .int (td 11)])), ((va 11), .inl ((ca 11), 3, .inl (v 11))), ((fo 12), .inr (2, [.int (nm 12), .int (fk 12), .ref (va 12), .int (mi 12), .int (td 12)])), ((va 12), .inl ((ca 12), 3, .inl (v 12))), ((fo 13), .inr (2, [.int (nm 13), .int (fk 13), .ref (va 13), .int (mi 13), .int (td 13)])), ((va 13), .inl ((ca 13), 3, .inl (v 13))), ((fo 14), .inr (2, [.int (nm 14), .int (fk 14), .ref (va 14), .int (mi 14), .int (td 14)])), ((va 14), .inl ((ca 14), 3, .inl (v 14))), ((fo 15), .inr (2, [.int (nm 15), .int (fk 15), .ref (va 15), .int (mi 15), .int (td 15)])), ((va 15), .inl ((ca 15), 3, .inl (v 15)))] H → va_S A s.heap H locs → lv_has ls 7 [(5, .int (11)), (4, .int sm), (3, .int o), (2, .int n), (0, .ref h0), (1, .ref h1)] → n = lf_cnt (fun k => decide (lf_fit kd e12 e13 e23 w vs (fk k) (v k))) 11 → o = lf_cnt (fun k => !decide (lf_fit kd e12 e13 e23 w vs (fk k) (v k)) && decide (fk k = kd)) 11 → sm = lf_sum (fun k => decide (lf_fit kd e12 e13 e23 w vs (fk k) (v k))) (fun k => v k fa_.toNatClampNeg) 11 → W p l e (headSpec wqX8_outcome ({ frames := 1, cells := 0, slots := 0, locals := 24 })).room s m #[.ref h0, .ref h1] below meth c H locs 0 0 (MQ below (va_Qi (fun (r : Int32) (u : Nat → Int32) => (u = if (so = 4 ∨ so = 5) ∧ nw ≠ 0 then upd vs (le - 16).toNatClampNeg (if so = 5 then lf_sum (fun k => decide (lf_fit kd e12 e13 e23 w vs (fk k) (v k))) (fun k => v k fa_.toNatClampNeg) 16 else lf_cnt (fun k => decide (lf_fit kd e12 e13 e23 w vs (fk k) (v k))) 16) else vs) ∧ r = if so = 4 ∨ so = 5 then (if u (le - 16).toNatClampNeg = (if so = 5 then lf_sum (fun k => decide (lf_fit kd e12 e13 e23 w vs (fk k) (v k))) (fun k => v k fa_.toNatClampNeg) 16 else lf_cnt (fun k => decide (lf_fit kd e12 e13 e23 w vs (fk k) (v k))) 16) then (if so = 5 then lf_sum (fun k => decide (lf_fit kd e12 e13 e23 w vs (fk k) (v k))) (fun k => v k fa_.toNatClampNeg) 16 else lf_cnt (fun k => decide (lf_fit kd e12 e13 e23 w vs (fk k) (v k))) 16) else -1) else if (if so = 2 then 0 < lf_cnt (fun k => decide (lf_fit kd e12 e13 e23 w vs (fk k) (v k))) 16 else (if so = 3 then lf_cnt (fun k => !decide (lf_fit kd e12 e13 e23 w vs (fk k) (v k)) && decide (fk k = kd)) 16 else lf_cnt (fun k => decide (lf_fit kd e12 e13 e23 w vs (fk k) (v k))) 16) = 0) then 0 else -1) (fun u t => va_P (dC, dI) CL [(h0, .inr (4, .ref st :: .ref po :: .int ps :: .int ie :: .ref g :: mr)), (h1, .inr (5, [.int so, .ref ao, .int le, .int ri, .int rl, .int nw, .int fa_])), (ao, .inr (0, [.int kd, .ref sg, .ref wt, .int e12, .int e13, .int e23])), (wt, .inl (cw, 3, .inl w)), (st, .inr (8, .ref fa :: sr)), (fa, .inl (cf, 16, .inr (.inr (.inr (.inr (fun j => some (fo j))))))), (g, .inl (cg, 6, .inl u)), ((fo 0), .inr (2, [.int (nm 0), .int (fk 0), .ref (va 0), .int (mi 0), .int (td 0)])), ((va 0), .inl ((ca 0), 3, .inl (v 0))), ((fo 1), .inr (2, [.int (nm 1), .int (fk 1), .ref (va 1), .int (mi 1), .int (td 1)])), ((va 1), .inl ((ca 1), 3, .inl (v 1))), ((fo 2), .inr (2, [.int (nm 2), .int (fk 2), .ref (va 2), .int (mi 2), .int (td 2)])), ((va 2), .inl ((ca 2), 3, .inl (v 2))), ((fo 3), .inr (2, [.int (nm 3), .int (fk 3), .ref (va 3), .int (mi 3), .int (td 3)])), ((va 3), .inl ((ca 3), 3, .inl (v 3))), ((fo 4), .inr (2, [.int (nm 4), .int (fk 4), .ref (va 4), .int (mi 4), .int (td 4)])), ((va 4), .inl ((ca 4), 3, .inl (v 4))), ((fo 5), .inr (2, [.int (nm 5), .int (fk 5), .ref (va 5), .int (mi 5), .int (td 5)])), ((va 5), .inl ((ca 5), 3, .inl (v 5))), ((fo 6), .inr (2, [.int (nm 6), .int (fk 6), .ref (va 6), .int (mi 6), .int (td 6)])), ((va 6), .inl ((ca 6), 3, .inl (v 6))), ((fo 7), .inr (2, [.int (nm 7), .int (fk 7), .ref (va 7), .int (mi 7), .int (td 7)])), ((va 7), .inl ((ca 7), 3, .inl (v 7))), ((fo 8), .inr (2, [.int (nm 8), .int (fk 8), .ref (va 8), .int (mi 8), .int (td 8)])), ((va 8), .inl ((ca 8), 3, .inl (v 8))), ((fo 9), .inr (2, [.int (nm 9), .int (fk 9), .ref (va 9), .int (mi 9), .int (td 9)])), ((va 9), .inl ((ca 9), 3, .inl (v 9))), ((fo 10), .inr (2, [.int (nm 10), .int (fk 10), .ref (va 10), .int (mi 10), .int (td 10)])), ((va 10), .inl ((ca 10), 3, .inl (v 10))), ((fo 11), .inr (2, [.int (nm 11), .int (fk 11), .ref (va 11), .int (mi 11), .int (td 11)])), ((va 11), .inl ((ca 11), 3, .inl (v 11))), ((fo 12), .inr (2, [.int (nm 12), .int (fk 12), .ref (va 12), .int (mi 12), .int (td 12)])), ((va 12), .inl ((ca 12), 3, .inl (v 12))), ((fo 13), .inr (2, [.int (nm 13), .int (fk 13), .ref (va 13), .int (mi 13), .int (td 13)])), ((va 13), .inl ((ca 13), 3, .inl (v 13))), ((fo 14), .inr (2, [.int (nm 14), .int (fk 14), .ref (va 14), .int (mi 14), .int (td 14)])), ((va 14), .inl ((ca 14), 3, .inl (v 14))), ((fo 15), .inr (2, [.int (nm 15), .int (fk 15), .ref (va 15), .int (mi 15), .int (td 15)])), ((va 15), .inl ((ca 15), 3, .inl (v 15)))] t.heap ∧ va_K (dC, dI) CL [(cw, .int), (cf, .object RX2), (cg, .int), ((ca 0), .int), ((ca 1), .int), ((ca 2), .int), ((ca 3), .int), ((ca 4), .int), ((ca 5), .int), ((ca 6), .int), ((ca 7), .int), ((ca 8), .int), ((ca 9), .int), ((ca 10), .int), ((ca 11), .int), ((ca 12), .int), ((ca 13), .int), ((ca 14), .int), ((ca 15), .int)] t ∧ va_D (A) [(h0, .inr (4, .ref st :: .ref po :: .int ps :: .int ie :: .ref g :: mr)), (h1, .inr (5, [.int so, .ref ao, .int le, .int ri, .int rl, .int nw, .int fa_])), (ao, .inr (0, [.int kd, .ref sg, .ref wt, .int e12, .int e13, .int e23])), (wt, .inl (cw, 3, .inl w)), (st, .inr (8, .ref fa :: sr)), (fa, .inl (cf, 16, .inr (.inr (.inr (.inr (fun j => some (fo j))))))), (g, .inl (cg, 6, .inl u)), ((fo 0), .inr (2, [.int (nm 0), .int (fk 0), .ref (va 0), .int (mi 0), .int (td 0)])), ((va 0), .inl ((ca 0), 3, .inl (v 0))), ((fo 1), .inr (2, [.int (nm 1), .int (fk 1), .ref (va 1), .int (mi 1), .int (td 1)])), ((va 1), .inl ((ca 1), 3, .inl (v 1))), ((fo 2), .inr (2, [.int (nm 2), .int (fk 2), .ref (va 2), .int (mi 2), .int (td 2)])), ((va 2), .inl ((ca 2), 3, .inl (v 2))), ((fo 3), .inr (2, [.int (nm 3), .int (fk 3), .ref (va 3), .int (mi 3), .int (td 3)])), ((va 3), .inl ((ca 3), 3, .inl (v 3))), ((fo 4), .inr (2, [.int (nm 4), .int (fk 4), .ref (va 4), .int (mi 4), .int (td 4)])), ((va 4), .inl ((ca 4), 3, .inl (v 4))), ((fo 5), .inr (2, [.int (nm 5), .int (fk 5), .ref (va 5), .int (mi 5), .int (td 5)])), ((va 5), .inl ((ca 5), 3, .inl (v 5))), ((fo 6), .inr (2, [.int (nm 6), .int (fk 6), .ref (va 6), .int (mi 6), .int (td 6)])), ((va 6), .inl ((ca 6), 3, .inl (v 6))), ((fo 7), .inr (2, [.int (nm 7), .int (fk 7), .ref (va 7), .int (mi 7), .int (td 7)])), ((va 7), .inl ((ca 7), 3, .inl (v 7))), ((fo 8), .inr (2, [.int (nm 8), .int (fk 8), .ref (va 8), .int (mi 8), .int (td 8)])), ((va 8), .inl ((ca 8), 3, .inl (v 8))), ((fo 9), .inr (2, [.int (nm 9), .int (fk 9), .ref (va 9), .int (mi 9), .int (td 9)])), ((va 9), .inl ((ca 9), 3, .inl (v 9))), ((fo 10), .inr (2, [.int (nm 10), .int (fk 10), .ref (va 10), .int (mi 10), .int (td 10)])), ((va 10), .inl ((ca 10), 3, .inl (v 10))), ((fo 11), .inr (2, [.int (nm 11), .int (fk 11), .ref (va 11), .int (mi 11), .int (td 11)])), ((va 11), .inl ((ca 11), 3, .inl (v 11))), ((fo 12), .inr (2, [.int (nm 12), .int (fk 12), .ref (va 12), .int (mi 12), .int (td 12)])), ((va 12), .inl ((ca 12), 3, .inl (v 12))), ((fo 13), .inr (2, [.int (nm 13), .int (fk 13), .ref (va 13), .int (mi 13), .int (td 13)])), ((va 13), .inl ((ca 13), 3, .inl (v 13))), ((fo 14), .inr (2, [.int (nm 14), .int (fk 14), .ref (va 14), .int (mi 14), .int (td 14)])), ((va 14), .inl ((ca 14), 3, .inl (v 14))), ((fo 15), .inr (2, [.int (nm 15), .int (fk 15), .ref (va 15), .int (mi 15), .int (td 15)])), ((va 15), .inl ((ca 15), 3, .inl (v 15)))]) (A)) #[.ref h0, .ref h1] s 0 0 A) (F0 m 110 ls []) := by
    intro ls H locs n o sm hP hS hl a1 a2 a3
    refine lv_iload hx hb dX8_outcome_110 (lv_at hl 0 rfl) ?_
    refine lv_bipush (v := (16 : Int32)) hx hb dX8_outcome_112 (by decide) ?_
    refine lv_icmp_ge hx hb dX8_outcome_114 rfl (fun q => absurd q (by decide)) (fun _ => ?_)
    refine lv_aload_n hx hb dX8_outcome_117 rfl (lv_at hl 4 rfl) ?_
    refine va_get (D := (dC, dI)) (ci := 4) (v := .ref st) (C := RX4) (T := TX4) (N := 17) hx hb hts (by decide +kernel) hown hK hP 0 rfl rfl 0 (by decide) (hts (.fieldLink RX8 18 "Ruleengine$Search" "state" "LRuleengine$State;") (by decide +kernel)) (fun _ h9 => h9) rfl dX8_outcome_118 ?_
    refine va_get (D := (dC, dI)) (ci := 8) (v := .ref fa) (C := RX9) (T := TX9) (N := 13) hx hb hts (by decide +kernel) hown hK hP 4 rfl rfl 0 (by decide) (hts (.fieldLink RX8 87 "Ruleengine$State" "fact" "[LRuleengine$Fact;") (by decide +kernel)) (fun _ h9 => h9) rfl dX8_outcome_121 ?_
    refine lv_iload hx hb dX8_outcome_124 (lv_at hl 0 rfl) ?_
    refine va_aldq (i := (11)) hx hb hK hP 5 1 rfl rfl (by unfold vp_in; decide) dX8_outcome_126 ?_
    refine W.eq (g2 := F0 m 127 _ (.ref (fo 11) :: _)) rfl ?_
    refine lv_astore (lv' := [(6, .ref (fo 11)), (5, .int (11)), (4, .int sm), (3, .int o), (2, .int n), (0, .ref h0), (1, .ref h1)]) hx hb dX8_outcome_127 hl (by decide) rfl (fun ls hl => ?_)
    refine lv_aload_n hx hb dX8_outcome_129 rfl (lv_at hl 6 rfl) ?_
    refine va_get (D := (dC, dI)) (ci := 5) (v := .ref ao) (C := RX5) (T := TX5) (N := 7) hx hb hts (by decide +kernel) hown hK hP 1 rfl rfl 1 (by decide) (hts (.fieldLink RX8 60 "Ruleengine$Part" "atom" "LRuleengine$Atom;") (by decide +kernel)) (fun _ h9 => h9) rfl dX8_outcome_130 ?_
    refine lv_aload hx hb dX8_outcome_133 (lv_at hl 0 rfl) ?_
    refine lv_aload_n hx hb dX8_outcome_135 rfl (lv_at hl 5 rfl) ?_
    refine va_get (D := (dC, dI)) (ci := 4) (v := .ref g) (C := RX4) (T := TX4) (N := 17) hx hb hts (by decide +kernel) hown hK hP 0 rfl rfl 4 (by decide) (hts (.fieldLink RX8 9 "Ruleengine$Search" "values" "[I") (by decide +kernel)) (fun _ h9 => h9) rfl dX8_outcome_136 ?_
    have hPc := hP.sub (ws' := [(ao, .inr (0, [.int kd, .ref sg, .ref wt, .int e12, .int e13, .int e23])), (wt, .inl (cw, 3, .inl w)), ((fo 11), .inr (2, [.int (nm 11), .int (fk 11), .ref (va 11), .int (mi 11), .int (td 11)])), ((va 11), .inl ((ca 11), 3, .inl (v 11))), (g, .inl (cg, 6, .inl vs))]) [2, 3, 29, 30, 6] rfl
    have hDc := hD.sub (ws' := [(ao, .inr (0, [.int kd, .ref sg, .ref wt, .int e12, .int e13, .int e23])), (wt, .inl (cw, 3, .inl w)), ((fo 11), .inr (2, [.int (nm 11), .int (fk 11), .ref (va 11), .int (mi 11), .int (td 11)])), ((va 11), .inl ((ca 11), 3, .inl (v 11))), (g, .inl (cg, 6, .inl vs))]) [2, 3, 29, 30, 6] (by decide) rfl
    have hKc := hK.sub (tys' := [(cw, .int), ((ca 11), .int), (cg, .int)]) [0, 14, 2] rfl
    refine va_calli (va_runV (As := [.ref (fo 11), .ref g]) (rest := []) ⟨hx, hb, hml, hown, hts⟩ (kX0_fits l dC dI H.size ao sg wt (fo 11) (va 11) g cw (ca 11) cg kd e12 e13 e23 (nm 11) (fk 11) (mi 11) (td 11) w (v 11) vs) (cwV 2 hts ggq rfl rfl rfl (by decide +kernel) ⟨Nat.le_of_ble_eq_true rfl, Nat.le_of_ble_eq_true rfl⟩) ⟨fun a U g mk q => by obtain ⟨q0, q1, qP, qK, qD⟩ := q; exact ⟨q0, q1, qP, va_K.moved (u := U) (U := U.calling g mk a) (Vm.Alike.refl U.vm) qK, qD⟩, va_recv hKc hPc (ci := 0) (q0 := 0) rfl rfl, fun U hU hW => ⟨rfl, by rw [hU], by rw [hU]; exact hPc, va_K.moved hW.alike hKc, hDc.weaken (fun _ _ _ _ => trivial)⟩⟩ rfl rfl hl.1 rfl (lv_room (Nat.le_of_ble_eq_true rfl)) dX8_outcome_139 ⟨Nat.le_of_ble_eq_true rfl, Nat.le_of_ble_eq_true rfl⟩) hS (fun q _ h => h.elim) (fun q h => h.elim) (fun rr u t H1 locs ht hvm hw hB hz1 hk1 hS => ?_)
    have hP : va_P (dC, dI) CL [(h0, .inr (4, .ref st :: .ref po :: .int ps :: .int ie :: .ref g :: mr)), (h1, .inr (5, [.int so, .ref ao, .int le, .int ri, .int rl, .int nw, .int fa_])), (ao, .inr (0, [.int kd, .ref sg, .ref wt, .int e12, .int e13, .int e23])), (wt, .inl (cw, 3, .inl w)), (st, .inr (8, .ref fa :: sr)), (fa, .inl (cf, 16, .inr (.inr (.inr (.inr (fun j => some (fo j))))))), (g, .inl (cg, 6, .inl vs)), ((fo 0), .inr (2, [.int (nm 0), .int (fk 0), .ref (va 0), .int (mi 0), .int (td 0)])), ((va 0), .inl ((ca 0), 3, .inl (v 0))), ((fo 1), .inr (2, [.int (nm 1), .int (fk 1), .ref (va 1), .int (mi 1), .int (td 1)])), ((va 1), .inl ((ca 1), 3, .inl (v 1))), ((fo 2), .inr (2, [.int (nm 2), .int (fk 2), .ref (va 2), .int (mi 2), .int (td 2)])), ((va 2), .inl ((ca 2), 3, .inl (v 2))), ((fo 3), .inr (2, [.int (nm 3), .int (fk 3), .ref (va 3), .int (mi 3), .int (td 3)])), ((va 3), .inl ((ca 3), 3, .inl (v 3))), ((fo 4), .inr (2, [.int (nm 4), .int (fk 4), .ref (va 4), .int (mi 4), .int (td 4)])), ((va 4), .inl ((ca 4), 3, .inl (v 4))), ((fo 5), .inr (2, [.int (nm 5), .int (fk 5), .ref (va 5), .int (mi 5), .int (td 5)])), ((va 5), .inl ((ca 5), 3, .inl (v 5))), ((fo 6), .inr (2, [.int (nm 6), .int (fk 6), .ref (va 6), .int (mi 6), .int (td 6)])), ((va 6), .inl ((ca 6), 3, .inl (v 6))), ((fo 7), .inr (2, [.int (nm 7), .int (fk 7), .ref (va 7), .int (mi 7), .int (td 7)])), ((va 7), .inl ((ca 7), 3, .inl (v 7))), ((fo 8), .inr (2, [.int (nm 8), .int (fk 8), .ref (va 8), .int (mi 8), .int (td 8)])), ((va 8), .inl ((ca 8), 3, .inl (v 8))), ((fo 9), .inr (2, [.int (nm 9), .int (fk 9), .ref (va 9), .int (mi 9), .int (td 9)])), ((va 9), .inl ((ca 9), 3, .inl (v 9))), ((fo 10), .inr (2, [.int (nm 10), .int (fk 10), .ref (va 10), .int (mi 10), .int (td 10)])), ((va 10), .inl ((ca 10), 3, .inl (v 10))), ((fo 11), .inr (2, [.int (nm 11), .int (fk 11), .ref (va 11), .int (mi 11), .int (td 11)])), ((va 11), .inl ((ca 11), 3, .inl (v 11))), ((fo 12), .inr (2, [.int (nm 12), .int (fk 12), .ref (va 12), .int (mi 12), .int (td 12)])), ((va 12), .inl ((ca 12), 3, .inl (v 12))), ((fo 13), .inr (2, [.int (nm 13), .int (fk 13), .ref (va 13), .int (mi 13), .int (td 13)])), ((va 13), .inl ((ca 13), 3, .inl (v 13))), ((fo 14), .inr (2, [.int (nm 14), .int (fk 14), .ref (va 14), .int (mi 14), .int (td 14)])), ((va 14), .inl ((ca 14), 3, .inl (v 14))), ((fo 15), .inr (2, [.int (nm 15), .int (fk 15), .ref (va 15), .int (mi 15), .int (td 15)])), ((va 15), .inl ((ca 15), 3, .inl (v 15)))] H1 := hP.kept (fun k x hx => hk1 x.1 ((hP k x hx).lt) (fun h => h))
    generalize H1 = H at hP hS ⊢
    refine lv_if_eq hx hb dX8_outcome_142 rfl (fun q42 => ?_) (fun q42 => ?_)
    · refine lv_aload hx hb dX8_outcome_166 (lv_at hl 0 rfl) ?_
      refine va_get (D := (dC, dI)) (ci := 2) (v := .int (fk 11)) (C := RX2) (T := TX2) (N := 5) hx hb hts (by decide +kernel) hown hK hP 29 rfl rfl 1 (by decide) (hts (.fieldLink RX8 100 "Ruleengine$Fact" "kind" "I") (by decide +kernel)) (fun _ h9 => h9) rfl dX8_outcome_168 ?_
      refine lv_aload_n hx hb dX8_outcome_171 rfl (lv_at hl 6 rfl) ?_
      refine va_get (D := (dC, dI)) (ci := 5) (v := .ref ao) (C := RX5) (T := TX5) (N := 7) hx hb hts (by decide +kernel) hown hK hP 1 rfl rfl 1 (by decide) (hts (.fieldLink RX8 60 "Ruleengine$Part" "atom" "LRuleengine$Atom;") (by decide +kernel)) (fun _ h9 => h9) rfl dX8_outcome_172 ?_
      refine va_get (D := (dC, dI)) (ci := 0) (v := .int kd) (C := RX0) (T := TX0) (N := 6) hx hb hts (by decide +kernel) hown hK hP 2 rfl rfl 0 (by decide) (hts (.fieldLink RX8 103 "Ruleengine$Atom" "kind" "I") (by decide +kernel)) (fun _ h9 => h9) rfl dX8_outcome_175 ?_
      refine lv_icmp_ne hx hb dX8_outcome_178 rfl (fun q43 => ?_) (fun q43 => ?_)
      · refine lv_iinc (v := (12)) (lv' := [(5, .int (12)), (6, .ref (fo 11)), (4, .int sm), (3, .int o), (2, .int n), (0, .ref h0), (1, .ref h1)]) hx hb dX8_outcome_184 hl (k := 1) rfl (by decide) (by decide) rfl (fun ls hl => ?_)
        refine lv_goto hx hb dX8_outcome_187 rfl ?_
        have h0 : rr = 0 := by assumption
        have hf : ¬ lf_fit kd e12 e13 e23 w vs (fk 11) (v 11) := fun hh => by rw [if_pos hh] at hw; rw [hw] at h0; exact absurd h0 (by decide)
        have hp : (fun k => decide (lf_fit kd e12 e13 e23 w vs (fk k) (v k))) 11 = false := decide_eq_false hf
        have hk : fk 11 ≠ kd := by assumption
        have hq : (fun k => !decide (lf_fit kd e12 e13 e23 w vs (fk k) (v k)) && decide (fk k = kd)) 11 = false := by show (!decide (lf_fit kd e12 e13 e23 w vs (fk 11) (v 11)) && decide (fk 11 = kd)) = false; rw [decide_eq_false (p := fk 11 = kd) hk]; exact Bool.and_false _
        exact it12 ls H locs _ _ _ hP hS (lv_sub hl [0, 2, 3, 4, 5, 6] rfl) (by rw [a1]; exact (lf_cnt_n (P := (fun k => decide (lf_fit kd e12 e13 e23 w vs (fk k) (v k)))) (k := 11) hp).symm) (by rw [a2]; exact (lf_cnt_n (P := (fun k => !decide (lf_fit kd e12 e13 e23 w vs (fk k) (v k)) && decide (fk k = kd))) (k := 11) hq).symm) (by rw [a3]; exact (lf_sum_n (P := (fun k => decide (lf_fit kd e12 e13 e23 w vs (fk k) (v k)))) (x := (fun k => v k fa_.toNatClampNeg)) (k := 11) hp).symm)
      · refine lv_iinc (v := (o + 1)) (lv' := [(3, .int (o + 1)), (6, .ref (fo 11)), (5, .int (11)), (4, .int sm), (2, .int n), (0, .ref h0), (1, .ref h1)]) hx hb dX8_outcome_181 hl (k := 3) rfl (by rfl) (by decide) rfl (fun ls hl => ?_)
        refine lv_iinc (v := (12)) (lv' := [(5, .int (12)), (3, .int (o + 1)), (6, .ref (fo 11)), (4, .int sm), (2, .int n), (0, .ref h0), (1, .ref h1)]) hx hb dX8_outcome_184 hl (k := 2) rfl (by decide) (by decide) rfl (fun ls hl => ?_)
        refine lv_goto hx hb dX8_outcome_187 rfl ?_
        have h0 : rr = 0 := by assumption
        have hf : ¬ lf_fit kd e12 e13 e23 w vs (fk 11) (v 11) := fun hh => by rw [if_pos hh] at hw; rw [hw] at h0; exact absurd h0 (by decide)
        have hp : (fun k => decide (lf_fit kd e12 e13 e23 w vs (fk k) (v k))) 11 = false := decide_eq_false hf
        have hk : fk 11 = kd := by assumption
        have hq : (fun k => !decide (lf_fit kd e12 e13 e23 w vs (fk k) (v k)) && decide (fk k = kd)) 11 = true := by show (!decide (lf_fit kd e12 e13 e23 w vs (fk 11) (v 11)) && decide (fk 11 = kd)) = true; rw [decide_eq_false hf, decide_eq_true hk]; rfl
        exact it12 ls H locs _ _ _ hP hS (lv_sub hl [0, 3, 1, 4, 5, 6] rfl) (by rw [a1]; exact (lf_cnt_n (P := (fun k => decide (lf_fit kd e12 e13 e23 w vs (fk k) (v k)))) (k := 11) hp).symm) (by rw [a2]; exact (lf_cnt_y (P := (fun k => !decide (lf_fit kd e12 e13 e23 w vs (fk k) (v k)) && decide (fk k = kd))) (k := 11) hq).symm) (by rw [a3]; exact (lf_sum_n (P := (fun k => decide (lf_fit kd e12 e13 e23 w vs (fk k) (v k)))) (x := (fun k => v k fa_.toNatClampNeg)) (k := 11) hp).symm)
    · refine lv_iinc (v := (n + 1)) (lv' := [(2, .int (n + 1)), (6, .ref (fo 11)), (5, .int (11)), (4, .int sm), (3, .int o), (0, .ref h0), (1, .ref h1)]) hx hb dX8_outcome_145 hl (k := 4) rfl (by rfl) (by decide) rfl (fun ls hl => ?_)
      refine lv_iload hx hb dX8_outcome_148 (lv_at hl 3 rfl) ?_
      refine lv_aload hx hb dX8_outcome_150 (lv_at hl 1 rfl) ?_
      refine va_get (D := (dC, dI)) (ci := 2) (v := .ref (va 11)) (C := RX2) (T := TX2) (N := 5) hx hb hts (by decide +kernel) hown hK hP 29 rfl rfl 2 (by decide) (hts (.fieldLink RX8 92 "Ruleengine$Fact" "value" "[I") (by decide +kernel)) (fun _ h9 => h9) rfl dX8_outcome_152 ?_
      refine lv_aload_n hx hb dX8_outcome_155 rfl (lv_at hl 6 rfl) ?_
      refine va_get (D := (dC, dI)) (ci := 5) (v := .int fa_) (C := RX5) (T := TX5) (N := 7) hx hb hts (by decide +kernel) hown hK hP 1 rfl rfl 6 (by decide) (hts (.fieldLink RX8 97 "Ruleengine$Part" "at" "I") (by decide +kernel)) (fun _ h9 => h9) rfl dX8_outcome_156 ?_
      refine va_iald (i := fa_) hx hb hK hP 30 14 rfl rfl hat dX8_outcome_159 ?_
      refine lv_iadd hx hb dX8_outcome_160 ?_
      refine lv_istore (lv' := [(4, .int (sm + ((v 11) (fa_).toNatClampNeg))), (2, .int (n + 1)), (6, .ref (fo 11)), (5, .int (11)), (3, .int o), (0, .ref h0), (1, .ref h1)]) hx hb dX8_outcome_161 hl (by decide) rfl (fun ls hl => ?_)
      refine lv_goto hx hb dX8_outcome_163 rfl ?_
      refine lv_iinc (v := (12)) (lv' := [(5, .int (12)), (4, .int (sm + ((v 11) (fa_).toNatClampNeg))), (2, .int (n + 1)), (6, .ref (fo 11)), (3, .int o), (0, .ref h0), (1, .ref h1)]) hx hb dX8_outcome_184 hl (k := 3) rfl (by decide) (by decide) rfl (fun ls hl => ?_)
      refine lv_goto hx hb dX8_outcome_187 rfl ?_
      have hf : lf_fit kd e12 e13 e23 w vs (fk 11) (v 11) := Decidable.byContradiction (fun hh => by rw [if_neg hh] at hw; exact absurd hw (by assumption))
      have hp : (fun k => decide (lf_fit kd e12 e13 e23 w vs (fk k) (v k))) 11 = true := decide_eq_true hf
      have hq : (fun k => !decide (lf_fit kd e12 e13 e23 w vs (fk k) (v k)) && decide (fk k = kd)) 11 = false := by show (!decide (lf_fit kd e12 e13 e23 w vs (fk 11) (v 11)) && decide (fk 11 = kd)) = false; rw [decide_eq_true hf]; rfl
      exact it12 ls H locs _ _ _ hP hS (lv_sub hl [0, 1, 4, 2, 5, 6] rfl) (by rw [a1]; exact (lf_cnt_y (P := (fun k => decide (lf_fit kd e12 e13 e23 w vs (fk k) (v k)))) (k := 11) hp).symm) (by rw [a2]; exact (lf_cnt_n (P := (fun k => !decide (lf_fit kd e12 e13 e23 w vs (fk k) (v k)) && decide (fk k = kd))) (k := 11) hq).symm) (by rw [a3]; exact (lf_sum_y (P := (fun k => decide (lf_fit kd e12 e13 e23 w vs (fk k) (v k)))) (x := (fun k => v k fa_.toNatClampNeg)) (k := 11) hp).symm)
  have it10 : ∀ (ls : Array Slot) (H : Heap) (locs : List Loc) (n o sm : Int32), va_P (dC, dI) CL [(h0, .inr (4, .ref st :: .ref po :: .int ps :: .int ie :: .ref g :: mr)), (h1, .inr (5, [.int so, .ref ao, .int le, .int ri, .int rl, .int nw, .int fa_])), (ao, .inr (0, [.int kd, .ref sg, .ref wt, .int e12, .int e13, .int e23])), (wt, .inl (cw, 3, .inl w)), (st, .inr (8, .ref fa :: sr)), (fa, .inl (cf, 16, .inr (.inr (.inr (.inr (fun j => some (fo j))))))), (g, .inl (cg, 6, .inl vs)), ((fo 0), .inr (2, [.int (nm 0), .int (fk 0), .ref (va 0), .int (mi 0), .int (td 0)])), ((va 0), .inl ((ca 0), 3, .inl (v 0))), ((fo 1), .inr (2, [.int (nm 1), .int (fk 1), .ref (va 1), .int (mi 1), .int (td 1)])), ((va 1), .inl ((ca 1), 3, .inl (v 1))), ((fo 2), .inr (2, [.int (nm 2), .int (fk 2), .ref (va 2), .int (mi 2), .int (td 2)])), ((va 2), .inl ((ca 2), 3, .inl (v 2))), ((fo 3), .inr (2, [.int (nm 3), .int (fk 3), .ref (va 3), .int (mi 3), .int (td 3)])), ((va 3), .inl ((ca 3), 3, .inl (v 3))), ((fo 4), .inr (2, [.int (nm 4), .int (fk 4), .ref (va 4), .int (mi 4), .int (td 4)])), ((va 4), .inl ((ca 4), 3, .inl (v 4))), ((fo 5), .inr (2, [.int (nm 5), .int (fk 5), .ref (va 5), .int (mi 5), .int (td 5)])), ((va 5), .inl ((ca 5), 3, .inl (v 5))), ((fo 6), .inr (2, [.int (nm 6), .int (fk 6), .ref (va 6), .int (mi 6), .int (td 6)])), ((va 6), .inl ((ca 6), 3, .inl (v 6))), ((fo 7), .inr (2, [.int (nm 7), .int (fk 7), .ref (va 7), .int (mi 7), .int (td 7)])), ((va 7), .inl ((ca 7), 3, .inl (v 7))), ((fo 8), .inr (2, [.int (nm 8), .int (fk 8), .ref (va 8), .int (mi 8), .int (td 8)])), ((va 8), .inl ((ca 8), 3, .inl (v 8))), ((fo 9), .inr (2, [.int (nm 9), .int (fk 9), .ref (va 9), .int (mi 9), .int (td 9)])), ((va 9), .inl ((ca 9), 3, .inl (v 9))), ((fo 10), .inr (2, [.int (nm 10), .int (fk 10), .ref (va 10), .int (mi 10), .int (td 10)])), ((va 10), .inl ((ca 10), 3, .inl (v 10))), ((fo 11), .inr (2, [.int (nm 11), .int (fk 11), .ref (va 11), .int (mi 11), .int (td 11)])), ((va 11), .inl ((ca 11), 3, .inl (v 11))), ((fo 12), .inr (2, [.int (nm 12), .int (fk 12), .ref (va 12), .int (mi 12), .int (td 12)])), ((va 12), .inl ((ca 12), 3, .inl (v 12))), ((fo 13), .inr (2, [.int (nm 13), .int (fk 13), .ref (va 13), .int (mi 13), .int (td 13)])), ((va 13), .inl ((ca 13), 3, .inl (v 13))), ((fo 14), .inr (2, [.int (nm 14), .int (fk 14), .ref (va 14), .int (mi 14), .int (td 14)])), ((va 14), .inl ((ca 14), 3, .inl (v 14))), ((fo 15), .inr (2, [.int (nm 15), .int (fk 15), .ref (va 15), .int (mi 15), .int (td 15)])), ((va 15), .inl ((ca 15), 3, .inl (v 15)))] H → va_S A s.heap H locs → lv_has ls 7 [(5, .int (10)), (4, .int sm), (3, .int o), (2, .int n), (0, .ref h0), (1, .ref h1)] → n = lf_cnt (fun k => decide (lf_fit kd e12 e13 e23 w vs (fk k) (v k))) 10 → o = lf_cnt (fun k => !decide (lf_fit kd e12 e13 e23 w vs (fk k) (v k)) && decide (fk k = kd)) 10 → sm = lf_sum (fun k => decide (lf_fit kd e12 e13 e23 w vs (fk k) (v k))) (fun k => v k fa_.toNatClampNeg) 10 → W p l e (headSpec wqX8_outcome ({ frames := 1, cells := 0, slots := 0, locals := 24 })).room s m #[.ref h0, .ref h1] below meth c H locs 0 0 (MQ below (va_Qi (fun (r : Int32) (u : Nat → Int32) => (u = if (so = 4 ∨ so = 5) ∧ nw ≠ 0 then upd vs (le - 16).toNatClampNeg (if so = 5 then lf_sum (fun k => decide (lf_fit kd e12 e13 e23 w vs (fk k) (v k))) (fun k => v k fa_.toNatClampNeg) 16 else lf_cnt (fun k => decide (lf_fit kd e12 e13 e23 w vs (fk k) (v k))) 16) else vs) ∧ r = if so = 4 ∨ so = 5 then (if u (le - 16).toNatClampNeg = (if so = 5 then lf_sum (fun k => decide (lf_fit kd e12 e13 e23 w vs (fk k) (v k))) (fun k => v k fa_.toNatClampNeg) 16 else lf_cnt (fun k => decide (lf_fit kd e12 e13 e23 w vs (fk k) (v k))) 16) then (if so = 5 then lf_sum (fun k => decide (lf_fit kd e12 e13 e23 w vs (fk k) (v k))) (fun k => v k fa_.toNatClampNeg) 16 else lf_cnt (fun k => decide (lf_fit kd e12 e13 e23 w vs (fk k) (v k))) 16) else -1) else if (if so = 2 then 0 < lf_cnt (fun k => decide (lf_fit kd e12 e13 e23 w vs (fk k) (v k))) 16 else (if so = 3 then lf_cnt (fun k => !decide (lf_fit kd e12 e13 e23 w vs (fk k) (v k)) && decide (fk k = kd)) 16 else lf_cnt (fun k => decide (lf_fit kd e12 e13 e23 w vs (fk k) (v k))) 16) = 0) then 0 else -1) (fun u t => va_P (dC, dI) CL [(h0, .inr (4, .ref st :: .ref po :: .int ps :: .int ie :: .ref g :: mr)), (h1, .inr (5, [.int so, .ref ao, .int le, .int ri, .int rl, .int nw, .int fa_])), (ao, .inr (0, [.int kd, .ref sg, .ref wt, .int e12, .int e13, .int e23])), (wt, .inl (cw, 3, .inl w)), (st, .inr (8, .ref fa :: sr)), (fa, .inl (cf, 16, .inr (.inr (.inr (.inr (fun j => some (fo j))))))), (g, .inl (cg, 6, .inl u)), ((fo 0), .inr (2, [.int (nm 0), .int (fk 0), .ref (va 0), .int (mi 0), .int (td 0)])), ((va 0), .inl ((ca 0), 3, .inl (v 0))), ((fo 1), .inr (2, [.int (nm 1), .int (fk 1), .ref (va 1), .int (mi 1), .int (td 1)])), ((va 1), .inl ((ca 1), 3, .inl (v 1))), ((fo 2), .inr (2, [.int (nm 2), .int (fk 2), .ref (va 2), .int (mi 2), .int (td 2)])), ((va 2), .inl ((ca 2), 3, .inl (v 2))), ((fo 3), .inr (2, [.int (nm 3), .int (fk 3), .ref (va 3), .int (mi 3), .int (td 3)])), ((va 3), .inl ((ca 3), 3, .inl (v 3))), ((fo 4), .inr (2, [.int (nm 4), .int (fk 4), .ref (va 4), .int (mi 4), .int (td 4)])), ((va 4), .inl ((ca 4), 3, .inl (v 4))), ((fo 5), .inr (2, [.int (nm 5), .int (fk 5), .ref (va 5), .int (mi 5), .int (td 5)])), ((va 5), .inl ((ca 5), 3, .inl (v 5))), ((fo 6), .inr (2, [.int (nm 6), .int (fk 6), .ref (va 6), .int (mi 6), .int (td 6)])), ((va 6), .inl ((ca 6), 3, .inl (v 6))), ((fo 7), .inr (2, [.int (nm 7), .int (fk 7), .ref (va 7), .int (mi 7), .int (td 7)])), ((va 7), .inl ((ca 7), 3, .inl (v 7))), ((fo 8), .inr (2, [.int (nm 8), .int (fk 8), .ref (va 8), .int (mi 8), .int (td 8)])), ((va 8), .inl ((ca 8), 3, .inl (v 8))), ((fo 9), .inr (2, [.int (nm 9), .int (fk 9), .ref (va 9), .int (mi 9), .int (td 9)])), ((va 9), .inl ((ca 9), 3, .inl (v 9))), ((fo 10), .inr (2, [.int (nm 10), .int (fk 10), .ref (va 10), .int (mi 10), .int (td 10)])), ((va 10), .inl ((ca 10), 3, .inl (v 10))), ((fo 11), .inr (2, [.int (nm 11), .int (fk 11), .ref (va 11), .int (mi 11), .int (td 11)])), ((va 11), .inl ((ca 11), 3, .inl (v 11))), ((fo 12), .inr (2, [.int (nm 12), .int (fk 12), .ref (va 12), .int (mi 12), .int (td 12)])), ((va 12), .inl ((ca 12), 3, .inl (v 12))), ((fo 13), .inr (2, [.int (nm 13), .int (fk 13), .ref (va 13), .int (mi 13), .int (td 13)])), ((va 13), .inl ((ca 13), 3, .inl (v 13))), ((fo 14), .inr (2, [.int (nm 14), .int (fk 14), .ref (va 14), .int (mi 14), .int (td 14)])), ((va 14), .inl ((ca 14), 3, .inl (v 14))), ((fo 15), .inr (2, [.int (nm 15), .int (fk 15), .ref (va 15), .int (mi 15), .int (td 15)])), ((va 15), .inl ((ca 15), 3, .inl (v 15)))] t.heap ∧ va_K (dC, dI) CL [(cw, .int), (cf, .object RX2), (cg, .int), ((ca 0), .int), ((ca 1), .int), ((ca 2), .int), ((ca 3), .int), ((ca 4), .int), ((ca 5), .int), ((ca 6), .int), ((ca 7), .int), ((ca 8), .int), ((ca 9), .int), ((ca 10), .int), ((ca 11), .int), ((ca 12), .int), ((ca 13), .int), ((ca 14), .int), ((ca 15), .int)] t ∧ va_D (A) [(h0, .inr (4, .ref st :: .ref po :: .int ps :: .int ie :: .ref g :: mr)), (h1, .inr (5, [.int so, .ref ao, .int le, .int ri, .int rl, .int nw, .int fa_])), (ao, .inr (0, [.int kd, .ref sg, .ref wt, .int e12, .int e13, .int e23])), (wt, .inl (cw, 3, .inl w)), (st, .inr (8, .ref fa :: sr)), (fa, .inl (cf, 16, .inr (.inr (.inr (.inr (fun j => some (fo j))))))), (g, .inl (cg, 6, .inl u)), ((fo 0), .inr (2, [.int (nm 0), .int (fk 0), .ref (va 0), .int (mi 0), .int (td 0)])), ((va 0), .inl ((ca 0), 3, .inl (v 0))), ((fo 1), .inr (2, [.int (nm 1), .int (fk 1), .ref (va 1), .int (mi 1), .int (td 1)])), ((va 1), .inl ((ca 1), 3, .inl (v 1))), ((fo 2), .inr (2, [.int (nm 2), .int (fk 2), .ref (va 2), .int (mi 2), .int (td 2)])), ((va 2), .inl ((ca 2), 3, .inl (v 2))), ((fo 3), .inr (2, [.int (nm 3), .int (fk 3), .ref (va 3), .int (mi 3), .int (td 3)])), ((va 3), .inl ((ca 3), 3, .inl (v 3))), ((fo 4), .inr (2, [.int (nm 4), .int (fk 4), .ref (va 4), .int (mi 4), .int (td 4)])), ((va 4), .inl ((ca 4), 3, .inl (v 4))), ((fo 5), .inr (2, [.int (nm 5), .int (fk 5), .ref (va 5), .int (mi 5), .int (td 5)])), ((va 5), .inl ((ca 5), 3, .inl (v 5))), ((fo 6), .inr (2, [.int (nm 6), .int (fk 6), .ref (va 6), .int (mi 6), .int (td 6)])), ((va 6), .inl ((ca 6), 3, .inl (v 6))), ((fo 7), .inr (2, [.int (nm 7), .int (fk 7), .ref (va 7), .int (mi 7), .int (td 7)])), ((va 7), .inl ((ca 7), 3, .inl (v 7))), ((fo 8), .inr (2, [.int (nm 8), .int (fk 8), .ref (va 8), .int (mi 8), .int (td 8)])), ((va 8), .inl ((ca 8), 3, .inl (v 8))), ((fo 9), .inr (2, [.int (nm 9), .int (fk 9), .ref (va 9), .int (mi 9), .int (td 9)])), ((va 9), .inl ((ca 9), 3, .inl (v 9))), ((fo 10), .inr (2, [.int (nm 10), .int (fk 10), .ref (va 10), .int (mi 10), .int (td 10)])), ((va 10), .inl ((ca 10), 3, .inl (v 10))), ((fo 11), .inr (2, [.int (nm 11), .int (fk 11), .ref (va 11), .int (mi 11), .int (td 11)])), ((va 11), .inl ((ca 11), 3, .inl (v 11))), ((fo 12), .inr (2, [.int (nm 12), .int (fk 12), .ref (va 12), .int (mi 12), .int (td 12)])), ((va 12), .inl ((ca 12), 3, .inl (v 12))), ((fo 13), .inr (2, [.int (nm 13), .int (fk 13), .ref (va 13), .int (mi 13), .int (td 13)])), ((va 13), .inl ((ca 13), 3, .inl (v 13))), ((fo 14), .inr (2, [.int (nm 14), .int (fk 14), .ref (va 14), .int (mi 14), .int (td 14)])), ((va 14), .inl ((ca 14), 3, .inl (v 14))), ((fo 15), .inr (2, [.int (nm 15), .int (fk 15), .ref (va 15), .int (mi 15), .int (td 15)])), ((va 15), .inl ((ca 15), 3, .inl (v 15)))]) (A)) #[.ref h0, .ref h1] s 0 0 A) (F0 m 110 ls []) := by
    intro ls H locs n o sm hP hS hl a1 a2 a3
    refine lv_iload hx hb dX8_outcome_110 (lv_at hl 0 rfl) ?_
    refine lv_bipush (v := (16 : Int32)) hx hb dX8_outcome_112 (by decide) ?_
    refine lv_icmp_ge hx hb dX8_outcome_114 rfl (fun q => absurd q (by decide)) (fun _ => ?_)
    refine lv_aload_n hx hb dX8_outcome_117 rfl (lv_at hl 4 rfl) ?_
    refine va_get (D := (dC, dI)) (ci := 4) (v := .ref st) (C := RX4) (T := TX4) (N := 17) hx hb hts (by decide +kernel) hown hK hP 0 rfl rfl 0 (by decide) (hts (.fieldLink RX8 18 "Ruleengine$Search" "state" "LRuleengine$State;") (by decide +kernel)) (fun _ h9 => h9) rfl dX8_outcome_118 ?_
    refine va_get (D := (dC, dI)) (ci := 8) (v := .ref fa) (C := RX9) (T := TX9) (N := 13) hx hb hts (by decide +kernel) hown hK hP 4 rfl rfl 0 (by decide) (hts (.fieldLink RX8 87 "Ruleengine$State" "fact" "[LRuleengine$Fact;") (by decide +kernel)) (fun _ h9 => h9) rfl dX8_outcome_121 ?_
    refine lv_iload hx hb dX8_outcome_124 (lv_at hl 0 rfl) ?_
    refine va_aldq (i := (10)) hx hb hK hP 5 1 rfl rfl (by unfold vp_in; decide) dX8_outcome_126 ?_
    refine W.eq (g2 := F0 m 127 _ (.ref (fo 10) :: _)) rfl ?_
    refine lv_astore (lv' := [(6, .ref (fo 10)), (5, .int (10)), (4, .int sm), (3, .int o), (2, .int n), (0, .ref h0), (1, .ref h1)]) hx hb dX8_outcome_127 hl (by decide) rfl (fun ls hl => ?_)
    refine lv_aload_n hx hb dX8_outcome_129 rfl (lv_at hl 6 rfl) ?_
    refine va_get (D := (dC, dI)) (ci := 5) (v := .ref ao) (C := RX5) (T := TX5) (N := 7) hx hb hts (by decide +kernel) hown hK hP 1 rfl rfl 1 (by decide) (hts (.fieldLink RX8 60 "Ruleengine$Part" "atom" "LRuleengine$Atom;") (by decide +kernel)) (fun _ h9 => h9) rfl dX8_outcome_130 ?_
    refine lv_aload hx hb dX8_outcome_133 (lv_at hl 0 rfl) ?_
    refine lv_aload_n hx hb dX8_outcome_135 rfl (lv_at hl 5 rfl) ?_
    refine va_get (D := (dC, dI)) (ci := 4) (v := .ref g) (C := RX4) (T := TX4) (N := 17) hx hb hts (by decide +kernel) hown hK hP 0 rfl rfl 4 (by decide) (hts (.fieldLink RX8 9 "Ruleengine$Search" "values" "[I") (by decide +kernel)) (fun _ h9 => h9) rfl dX8_outcome_136 ?_
    have hPc := hP.sub (ws' := [(ao, .inr (0, [.int kd, .ref sg, .ref wt, .int e12, .int e13, .int e23])), (wt, .inl (cw, 3, .inl w)), ((fo 10), .inr (2, [.int (nm 10), .int (fk 10), .ref (va 10), .int (mi 10), .int (td 10)])), ((va 10), .inl ((ca 10), 3, .inl (v 10))), (g, .inl (cg, 6, .inl vs))]) [2, 3, 27, 28, 6] rfl
    have hDc := hD.sub (ws' := [(ao, .inr (0, [.int kd, .ref sg, .ref wt, .int e12, .int e13, .int e23])), (wt, .inl (cw, 3, .inl w)), ((fo 10), .inr (2, [.int (nm 10), .int (fk 10), .ref (va 10), .int (mi 10), .int (td 10)])), ((va 10), .inl ((ca 10), 3, .inl (v 10))), (g, .inl (cg, 6, .inl vs))]) [2, 3, 27, 28, 6] (by decide) rfl
    have hKc := hK.sub (tys' := [(cw, .int), ((ca 10), .int), (cg, .int)]) [0, 13, 2] rfl
    refine va_calli (va_runV (As := [.ref (fo 10), .ref g]) (rest := []) ⟨hx, hb, hml, hown, hts⟩ (kX0_fits l dC dI H.size ao sg wt (fo 10) (va 10) g cw (ca 10) cg kd e12 e13 e23 (nm 10) (fk 10) (mi 10) (td 10) w (v 10) vs) (cwV 2 hts ggq rfl rfl rfl (by decide +kernel) ⟨Nat.le_of_ble_eq_true rfl, Nat.le_of_ble_eq_true rfl⟩) ⟨fun a U g mk q => by obtain ⟨q0, q1, qP, qK, qD⟩ := q; exact ⟨q0, q1, qP, va_K.moved (u := U) (U := U.calling g mk a) (Vm.Alike.refl U.vm) qK, qD⟩, va_recv hKc hPc (ci := 0) (q0 := 0) rfl rfl, fun U hU hW => ⟨rfl, by rw [hU], by rw [hU]; exact hPc, va_K.moved hW.alike hKc, hDc.weaken (fun _ _ _ _ => trivial)⟩⟩ rfl rfl hl.1 rfl (lv_room (Nat.le_of_ble_eq_true rfl)) dX8_outcome_139 ⟨Nat.le_of_ble_eq_true rfl, Nat.le_of_ble_eq_true rfl⟩) hS (fun q _ h => h.elim) (fun q h => h.elim) (fun rr u t H1 locs ht hvm hw hB hz1 hk1 hS => ?_)
    have hP : va_P (dC, dI) CL [(h0, .inr (4, .ref st :: .ref po :: .int ps :: .int ie :: .ref g :: mr)), (h1, .inr (5, [.int so, .ref ao, .int le, .int ri, .int rl, .int nw, .int fa_])), (ao, .inr (0, [.int kd, .ref sg, .ref wt, .int e12, .int e13, .int e23])), (wt, .inl (cw, 3, .inl w)), (st, .inr (8, .ref fa :: sr)), (fa, .inl (cf, 16, .inr (.inr (.inr (.inr (fun j => some (fo j))))))), (g, .inl (cg, 6, .inl vs)), ((fo 0), .inr (2, [.int (nm 0), .int (fk 0), .ref (va 0), .int (mi 0), .int (td 0)])), ((va 0), .inl ((ca 0), 3, .inl (v 0))), ((fo 1), .inr (2, [.int (nm 1), .int (fk 1), .ref (va 1), .int (mi 1), .int (td 1)])), ((va 1), .inl ((ca 1), 3, .inl (v 1))), ((fo 2), .inr (2, [.int (nm 2), .int (fk 2), .ref (va 2), .int (mi 2), .int (td 2)])), ((va 2), .inl ((ca 2), 3, .inl (v 2))), ((fo 3), .inr (2, [.int (nm 3), .int (fk 3), .ref (va 3), .int (mi 3), .int (td 3)])), ((va 3), .inl ((ca 3), 3, .inl (v 3))), ((fo 4), .inr (2, [.int (nm 4), .int (fk 4), .ref (va 4), .int (mi 4), .int (td 4)])), ((va 4), .inl ((ca 4), 3, .inl (v 4))), ((fo 5), .inr (2, [.int (nm 5), .int (fk 5), .ref (va 5), .int (mi 5), .int (td 5)])), ((va 5), .inl ((ca 5), 3, .inl (v 5))), ((fo 6), .inr (2, [.int (nm 6), .int (fk 6), .ref (va 6), .int (mi 6), .int (td 6)])), ((va 6), .inl ((ca 6), 3, .inl (v 6))), ((fo 7), .inr (2, [.int (nm 7), .int (fk 7), .ref (va 7), .int (mi 7), .int (td 7)])), ((va 7), .inl ((ca 7), 3, .inl (v 7))), ((fo 8), .inr (2, [.int (nm 8), .int (fk 8), .ref (va 8), .int (mi 8), .int (td 8)])), ((va 8), .inl ((ca 8), 3, .inl (v 8))), ((fo 9), .inr (2, [.int (nm 9), .int (fk 9), .ref (va 9), .int (mi 9), .int (td 9)])), ((va 9), .inl ((ca 9), 3, .inl (v 9))), ((fo 10), .inr (2, [.int (nm 10), .int (fk 10), .ref (va 10), .int (mi 10), .int (td 10)])), ((va 10), .inl ((ca 10), 3, .inl (v 10))), ((fo 11), .inr (2, [.int (nm 11), .int (fk 11), .ref (va 11), .int (mi 11), .int (td 11)])), ((va 11), .inl ((ca 11), 3, .inl (v 11))), ((fo 12), .inr (2, [.int (nm 12), .int (fk 12), .ref (va 12), .int (mi 12), .int (td 12)])), ((va 12), .inl ((ca 12), 3, .inl (v 12))), ((fo 13), .inr (2, [.int (nm 13), .int (fk 13), .ref (va 13), .int (mi 13), .int (td 13)])), ((va 13), .inl ((ca 13), 3, .inl (v 13))), ((fo 14), .inr (2, [.int (nm 14), .int (fk 14), .ref (va 14), .int (mi 14), .int (td 14)])), ((va 14), .inl ((ca 14), 3, .inl (v 14))), ((fo 15), .inr (2, [.int (nm 15), .int (fk 15), .ref (va 15), .int (mi 15), .int (td 15)])), ((va 15), .inl ((ca 15), 3, .inl (v 15)))] H1 := hP.kept (fun k x hx => hk1 x.1 ((hP k x hx).lt) (fun h => h))
    generalize H1 = H at hP hS ⊢
    refine lv_if_eq hx hb dX8_outcome_142 rfl (fun q45 => ?_) (fun q45 => ?_)
    · refine lv_aload hx hb dX8_outcome_166 (lv_at hl 0 rfl) ?_
      refine va_get (D := (dC, dI)) (ci := 2) (v := .int (fk 10)) (C := RX2) (T := TX2) (N := 5) hx hb hts (by decide +kernel) hown hK hP 27 rfl rfl 1 (by decide) (hts (.fieldLink RX8 100 "Ruleengine$Fact" "kind" "I") (by decide +kernel)) (fun _ h9 => h9) rfl dX8_outcome_168 ?_
      refine lv_aload_n hx hb dX8_outcome_171 rfl (lv_at hl 6 rfl) ?_
      refine va_get (D := (dC, dI)) (ci := 5) (v := .ref ao) (C := RX5) (T := TX5) (N := 7) hx hb hts (by decide +kernel) hown hK hP 1 rfl rfl 1 (by decide) (hts (.fieldLink RX8 60 "Ruleengine$Part" "atom" "LRuleengine$Atom;") (by decide +kernel)) (fun _ h9 => h9) rfl dX8_outcome_172 ?_
      refine va_get (D := (dC, dI)) (ci := 0) (v := .int kd) (C := RX0) (T := TX0) (N := 6) hx hb hts (by decide +kernel) hown hK hP 2 rfl rfl 0 (by decide) (hts (.fieldLink RX8 103 "Ruleengine$Atom" "kind" "I") (by decide +kernel)) (fun _ h9 => h9) rfl dX8_outcome_175 ?_
      refine lv_icmp_ne hx hb dX8_outcome_178 rfl (fun q46 => ?_) (fun q46 => ?_)
      · refine lv_iinc (v := (11)) (lv' := [(5, .int (11)), (6, .ref (fo 10)), (4, .int sm), (3, .int o), (2, .int n), (0, .ref h0), (1, .ref h1)]) hx hb dX8_outcome_184 hl (k := 1) rfl (by decide) (by decide) rfl (fun ls hl => ?_)
        refine lv_goto hx hb dX8_outcome_187 rfl ?_
        have h0 : rr = 0 := by assumption
        have hf : ¬ lf_fit kd e12 e13 e23 w vs (fk 10) (v 10) := fun hh => by rw [if_pos hh] at hw; rw [hw] at h0; exact absurd h0 (by decide)
        have hp : (fun k => decide (lf_fit kd e12 e13 e23 w vs (fk k) (v k))) 10 = false := decide_eq_false hf
        have hk : fk 10 ≠ kd := by assumption
        have hq : (fun k => !decide (lf_fit kd e12 e13 e23 w vs (fk k) (v k)) && decide (fk k = kd)) 10 = false := by show (!decide (lf_fit kd e12 e13 e23 w vs (fk 10) (v 10)) && decide (fk 10 = kd)) = false; rw [decide_eq_false (p := fk 10 = kd) hk]; exact Bool.and_false _
        exact it11 ls H locs _ _ _ hP hS (lv_sub hl [0, 2, 3, 4, 5, 6] rfl) (by rw [a1]; exact (lf_cnt_n (P := (fun k => decide (lf_fit kd e12 e13 e23 w vs (fk k) (v k)))) (k := 10) hp).symm) (by rw [a2]; exact (lf_cnt_n (P := (fun k => !decide (lf_fit kd e12 e13 e23 w vs (fk k) (v k)) && decide (fk k = kd))) (k := 10) hq).symm) (by rw [a3]; exact (lf_sum_n (P := (fun k => decide (lf_fit kd e12 e13 e23 w vs (fk k) (v k)))) (x := (fun k => v k fa_.toNatClampNeg)) (k := 10) hp).symm)
      · refine lv_iinc (v := (o + 1)) (lv' := [(3, .int (o + 1)), (6, .ref (fo 10)), (5, .int (10)), (4, .int sm), (2, .int n), (0, .ref h0), (1, .ref h1)]) hx hb dX8_outcome_181 hl (k := 3) rfl (by rfl) (by decide) rfl (fun ls hl => ?_)
        refine lv_iinc (v := (11)) (lv' := [(5, .int (11)), (3, .int (o + 1)), (6, .ref (fo 10)), (4, .int sm), (2, .int n), (0, .ref h0), (1, .ref h1)]) hx hb dX8_outcome_184 hl (k := 2) rfl (by decide) (by decide) rfl (fun ls hl => ?_)
        refine lv_goto hx hb dX8_outcome_187 rfl ?_
        have h0 : rr = 0 := by assumption
        have hf : ¬ lf_fit kd e12 e13 e23 w vs (fk 10) (v 10) := fun hh => by rw [if_pos hh] at hw; rw [hw] at h0; exact absurd h0 (by decide)
        have hp : (fun k => decide (lf_fit kd e12 e13 e23 w vs (fk k) (v k))) 10 = false := decide_eq_false hf
        have hk : fk 10 = kd := by assumption
        have hq : (fun k => !decide (lf_fit kd e12 e13 e23 w vs (fk k) (v k)) && decide (fk k = kd)) 10 = true := by show (!decide (lf_fit kd e12 e13 e23 w vs (fk 10) (v 10)) && decide (fk 10 = kd)) = true; rw [decide_eq_false hf, decide_eq_true hk]; rfl
        exact it11 ls H locs _ _ _ hP hS (lv_sub hl [0, 3, 1, 4, 5, 6] rfl) (by rw [a1]; exact (lf_cnt_n (P := (fun k => decide (lf_fit kd e12 e13 e23 w vs (fk k) (v k)))) (k := 10) hp).symm) (by rw [a2]; exact (lf_cnt_y (P := (fun k => !decide (lf_fit kd e12 e13 e23 w vs (fk k) (v k)) && decide (fk k = kd))) (k := 10) hq).symm) (by rw [a3]; exact (lf_sum_n (P := (fun k => decide (lf_fit kd e12 e13 e23 w vs (fk k) (v k)))) (x := (fun k => v k fa_.toNatClampNeg)) (k := 10) hp).symm)
    · refine lv_iinc (v := (n + 1)) (lv' := [(2, .int (n + 1)), (6, .ref (fo 10)), (5, .int (10)), (4, .int sm), (3, .int o), (0, .ref h0), (1, .ref h1)]) hx hb dX8_outcome_145 hl (k := 4) rfl (by rfl) (by decide) rfl (fun ls hl => ?_)
      refine lv_iload hx hb dX8_outcome_148 (lv_at hl 3 rfl) ?_
      refine lv_aload hx hb dX8_outcome_150 (lv_at hl 1 rfl) ?_
      refine va_get (D := (dC, dI)) (ci := 2) (v := .ref (va 10)) (C := RX2) (T := TX2) (N := 5) hx hb hts (by decide +kernel) hown hK hP 27 rfl rfl 2 (by decide) (hts (.fieldLink RX8 92 "Ruleengine$Fact" "value" "[I") (by decide +kernel)) (fun _ h9 => h9) rfl dX8_outcome_152 ?_
      refine lv_aload_n hx hb dX8_outcome_155 rfl (lv_at hl 6 rfl) ?_
      refine va_get (D := (dC, dI)) (ci := 5) (v := .int fa_) (C := RX5) (T := TX5) (N := 7) hx hb hts (by decide +kernel) hown hK hP 1 rfl rfl 6 (by decide) (hts (.fieldLink RX8 97 "Ruleengine$Part" "at" "I") (by decide +kernel)) (fun _ h9 => h9) rfl dX8_outcome_156 ?_
      refine va_iald (i := fa_) hx hb hK hP 28 13 rfl rfl hat dX8_outcome_159 ?_
      refine lv_iadd hx hb dX8_outcome_160 ?_
      refine lv_istore (lv' := [(4, .int (sm + ((v 10) (fa_).toNatClampNeg))), (2, .int (n + 1)), (6, .ref (fo 10)), (5, .int (10)), (3, .int o), (0, .ref h0), (1, .ref h1)]) hx hb dX8_outcome_161 hl (by decide) rfl (fun ls hl => ?_)
      refine lv_goto hx hb dX8_outcome_163 rfl ?_
      refine lv_iinc (v := (11)) (lv' := [(5, .int (11)), (4, .int (sm + ((v 10) (fa_).toNatClampNeg))), (2, .int (n + 1)), (6, .ref (fo 10)), (3, .int o), (0, .ref h0), (1, .ref h1)]) hx hb dX8_outcome_184 hl (k := 3) rfl (by decide) (by decide) rfl (fun ls hl => ?_)
      refine lv_goto hx hb dX8_outcome_187 rfl ?_
      have hf : lf_fit kd e12 e13 e23 w vs (fk 10) (v 10) := Decidable.byContradiction (fun hh => by rw [if_neg hh] at hw; exact absurd hw (by assumption))
      have hp : (fun k => decide (lf_fit kd e12 e13 e23 w vs (fk k) (v k))) 10 = true := decide_eq_true hf
      have hq : (fun k => !decide (lf_fit kd e12 e13 e23 w vs (fk k) (v k)) && decide (fk k = kd)) 10 = false := by show (!decide (lf_fit kd e12 e13 e23 w vs (fk 10) (v 10)) && decide (fk 10 = kd)) = false; rw [decide_eq_true hf]; rfl
      exact it11 ls H locs _ _ _ hP hS (lv_sub hl [0, 1, 4, 2, 5, 6] rfl) (by rw [a1]; exact (lf_cnt_y (P := (fun k => decide (lf_fit kd e12 e13 e23 w vs (fk k) (v k)))) (k := 10) hp).symm) (by rw [a2]; exact (lf_cnt_n (P := (fun k => !decide (lf_fit kd e12 e13 e23 w vs (fk k) (v k)) && decide (fk k = kd))) (k := 10) hq).symm) (by rw [a3]; exact (lf_sum_y (P := (fun k => decide (lf_fit kd e12 e13 e23 w vs (fk k) (v k)))) (x := (fun k => v k fa_.toNatClampNeg)) (k := 10) hp).symm)
  have it9 : ∀ (ls : Array Slot) (H : Heap) (locs : List Loc) (n o sm : Int32), va_P (dC, dI) CL [(h0, .inr (4, .ref st :: .ref po :: .int ps :: .int ie :: .ref g :: mr)), (h1, .inr (5, [.int so, .ref ao, .int le, .int ri, .int rl, .int nw, .int fa_])), (ao, .inr (0, [.int kd, .ref sg, .ref wt, .int e12, .int e13, .int e23])), (wt, .inl (cw, 3, .inl w)), (st, .inr (8, .ref fa :: sr)), (fa, .inl (cf, 16, .inr (.inr (.inr (.inr (fun j => some (fo j))))))), (g, .inl (cg, 6, .inl vs)), ((fo 0), .inr (2, [.int (nm 0), .int (fk 0), .ref (va 0), .int (mi 0), .int (td 0)])), ((va 0), .inl ((ca 0), 3, .inl (v 0))), ((fo 1), .inr (2, [.int (nm 1), .int (fk 1), .ref (va 1), .int (mi 1), .int (td 1)])), ((va 1), .inl ((ca 1), 3, .inl (v 1))), ((fo 2), .inr (2, [.int (nm 2), .int (fk 2), .ref (va 2), .int (mi 2), .int (td 2)])), ((va 2), .inl ((ca 2), 3, .inl (v 2))), ((fo 3), .inr (2, [.int (nm 3), .int (fk 3), .ref (va 3), .int (mi 3), .int (td 3)])), ((va 3), .inl ((ca 3), 3, .inl (v 3))), ((fo 4), .inr (2, [.int (nm 4), .int (fk 4), .ref (va 4), .int (mi 4), .int (td 4)])), ((va 4), .inl ((ca 4), 3, .inl (v 4))), ((fo 5), .inr (2, [.int (nm 5), .int (fk 5), .ref (va 5), .int (mi 5), .int (td 5)])), ((va 5), .inl ((ca 5), 3, .inl (v 5))), ((fo 6), .inr (2, [.int (nm 6), .int (fk 6), .ref (va 6), .int (mi 6), .int (td 6)])), ((va 6), .inl ((ca 6), 3, .inl (v 6))), ((fo 7), .inr (2, [.int (nm 7), .int (fk 7), .ref (va 7), .int (mi 7), .int (td 7)])), ((va 7), .inl ((ca 7), 3, .inl (v 7))), ((fo 8), .inr (2, [.int (nm 8), .int (fk 8), .ref (va 8), .int (mi 8), .int (td 8)])), ((va 8), .inl ((ca 8), 3, .inl (v 8))), ((fo 9), .inr (2, [.int (nm 9), .int (fk 9), .ref (va 9), .int (mi 9), .int (td 9)])), ((va 9), .inl ((ca 9), 3, .inl (v 9))), ((fo 10), .inr (2, [.int (nm 10), .int (fk 10), .ref (va 10), .int (mi 10), .int (td 10)])), ((va 10), .inl ((ca 10), 3, .inl (v 10))), ((fo 11), .inr (2, [.int (nm 11), .int (fk 11), .ref (va 11), .int (mi 11), .int (td 11)])), ((va 11), .inl ((ca 11), 3, .inl (v 11))), ((fo 12), .inr (2, [.int (nm 12), .int (fk 12), .ref (va 12), .int (mi 12), .int (td 12)])), ((va 12), .inl ((ca 12), 3, .inl (v 12))), ((fo 13), .inr (2, [.int (nm 13), .int (fk 13), .ref (va 13), .int (mi 13), .int (td 13)])), ((va 13), .inl ((ca 13), 3, .inl (v 13))), ((fo 14), .inr (2, [.int (nm 14), .int (fk 14), .ref (va 14), .int (mi 14), .int (td 14)])), ((va 14), .inl ((ca 14), 3, .inl (v 14))), ((fo 15), .inr (2, [.int (nm 15), .int (fk 15), .ref (va 15), .int (mi 15), .int (td 15)])), ((va 15), .inl ((ca 15), 3, .inl (v 15)))] H → va_S A s.heap H locs → lv_has ls 7 [(5, .int (9)), (4, .int sm), (3, .int o), (2, .int n), (0, .ref h0), (1, .ref h1)] → n = lf_cnt (fun k => decide (lf_fit kd e12 e13 e23 w vs (fk k) (v k))) 9 → o = lf_cnt (fun k => !decide (lf_fit kd e12 e13 e23 w vs (fk k) (v k)) && decide (fk k = kd)) 9 → sm = lf_sum (fun k => decide (lf_fit kd e12 e13 e23 w vs (fk k) (v k))) (fun k => v k fa_.toNatClampNeg) 9 → W p l e (headSpec wqX8_outcome ({ frames := 1, cells := 0, slots := 0, locals := 24 })).room s m #[.ref h0, .ref h1] below meth c H locs 0 0 (MQ below (va_Qi (fun (r : Int32) (u : Nat → Int32) => (u = if (so = 4 ∨ so = 5) ∧ nw ≠ 0 then upd vs (le - 16).toNatClampNeg (if so = 5 then lf_sum (fun k => decide (lf_fit kd e12 e13 e23 w vs (fk k) (v k))) (fun k => v k fa_.toNatClampNeg) 16 else lf_cnt (fun k => decide (lf_fit kd e12 e13 e23 w vs (fk k) (v k))) 16) else vs) ∧ r = if so = 4 ∨ so = 5 then (if u (le - 16).toNatClampNeg = (if so = 5 then lf_sum (fun k => decide (lf_fit kd e12 e13 e23 w vs (fk k) (v k))) (fun k => v k fa_.toNatClampNeg) 16 else lf_cnt (fun k => decide (lf_fit kd e12 e13 e23 w vs (fk k) (v k))) 16) then (if so = 5 then lf_sum (fun k => decide (lf_fit kd e12 e13 e23 w vs (fk k) (v k))) (fun k => v k fa_.toNatClampNeg) 16 else lf_cnt (fun k => decide (lf_fit kd e12 e13 e23 w vs (fk k) (v k))) 16) else -1) else if (if so = 2 then 0 < lf_cnt (fun k => decide (lf_fit kd e12 e13 e23 w vs (fk k) (v k))) 16 else (if so = 3 then lf_cnt (fun k => !decide (lf_fit kd e12 e13 e23 w vs (fk k) (v k)) && decide (fk k = kd)) 16 else lf_cnt (fun k => decide (lf_fit kd e12 e13 e23 w vs (fk k) (v k))) 16) = 0) then 0 else -1) (fun u t => va_P (dC, dI) CL [(h0, .inr (4, .ref st :: .ref po :: .int ps :: .int ie :: .ref g :: mr)), (h1, .inr (5, [.int so, .ref ao, .int le, .int ri, .int rl, .int nw, .int fa_])), (ao, .inr (0, [.int kd, .ref sg, .ref wt, .int e12, .int e13, .int e23])), (wt, .inl (cw, 3, .inl w)), (st, .inr (8, .ref fa :: sr)), (fa, .inl (cf, 16, .inr (.inr (.inr (.inr (fun j => some (fo j))))))), (g, .inl (cg, 6, .inl u)), ((fo 0), .inr (2, [.int (nm 0), .int (fk 0), .ref (va 0), .int (mi 0), .int (td 0)])), ((va 0), .inl ((ca 0), 3, .inl (v 0))), ((fo 1), .inr (2, [.int (nm 1), .int (fk 1), .ref (va 1), .int (mi 1), .int (td 1)])), ((va 1), .inl ((ca 1), 3, .inl (v 1))), ((fo 2), .inr (2, [.int (nm 2), .int (fk 2), .ref (va 2), .int (mi 2), .int (td 2)])), ((va 2), .inl ((ca 2), 3, .inl (v 2))), ((fo 3), .inr (2, [.int (nm 3), .int (fk 3), .ref (va 3), .int (mi 3), .int (td 3)])), ((va 3), .inl ((ca 3), 3, .inl (v 3))), ((fo 4), .inr (2, [.int (nm 4), .int (fk 4), .ref (va 4), .int (mi 4), .int (td 4)])), ((va 4), .inl ((ca 4), 3, .inl (v 4))), ((fo 5), .inr (2, [.int (nm 5), .int (fk 5), .ref (va 5), .int (mi 5), .int (td 5)])), ((va 5), .inl ((ca 5), 3, .inl (v 5))), ((fo 6), .inr (2, [.int (nm 6), .int (fk 6), .ref (va 6), .int (mi 6), .int (td 6)])), ((va 6), .inl ((ca 6), 3, .inl (v 6))), ((fo 7), .inr (2, [.int (nm 7), .int (fk 7), .ref (va 7), .int (mi 7), .int (td 7)])), ((va 7), .inl ((ca 7), 3, .inl (v 7))), ((fo 8), .inr (2, [.int (nm 8), .int (fk 8), .ref (va 8), .int (mi 8), .int (td 8)])), ((va 8), .inl ((ca 8), 3, .inl (v 8))), ((fo 9), .inr (2, [.int (nm 9), .int (fk 9), .ref (va 9), .int (mi 9), .int (td 9)])), ((va 9), .inl ((ca 9), 3, .inl (v 9))), ((fo 10), .inr (2, [.int (nm 10), .int (fk 10), .ref (va 10), .int (mi 10), .int (td 10)])), ((va 10), .inl ((ca 10), 3, .inl (v 10))), ((fo 11), .inr (2, [.int (nm 11), .int (fk 11), .ref (va 11), .int (mi 11), .int (td 11)])), ((va 11), .inl ((ca 11), 3, .inl (v 11))), ((fo 12), .inr (2, [.int (nm 12), .int (fk 12), .ref (va 12), .int (mi 12), .int (td 12)])), ((va 12), .inl ((ca 12), 3, .inl (v 12))), ((fo 13), .inr (2, [.int (nm 13), .int (fk 13), .ref (va 13), .int (mi 13), .int (td 13)])), ((va 13), .inl ((ca 13), 3, .inl (v 13))), ((fo 14), .inr (2, [.int (nm 14), .int (fk 14), .ref (va 14), .int (mi 14), .int (td 14)])), ((va 14), .inl ((ca 14), 3, .inl (v 14))), ((fo 15), .inr (2, [.int (nm 15), .int (fk 15), .ref (va 15), .int (mi 15), .int (td 15)])), ((va 15), .inl ((ca 15), 3, .inl (v 15)))] t.heap ∧ va_K (dC, dI) CL [(cw, .int), (cf, .object RX2), (cg, .int), ((ca 0), .int), ((ca 1), .int), ((ca 2), .int), ((ca 3), .int), ((ca 4), .int), ((ca 5), .int), ((ca 6), .int), ((ca 7), .int), ((ca 8), .int), ((ca 9), .int), ((ca 10), .int), ((ca 11), .int), ((ca 12), .int), ((ca 13), .int), ((ca 14), .int), ((ca 15), .int)] t ∧ va_D (A) [(h0, .inr (4, .ref st :: .ref po :: .int ps :: .int ie :: .ref g :: mr)), (h1, .inr (5, [.int so, .ref ao, .int le, .int ri, .int rl, .int nw, .int fa_])), (ao, .inr (0, [.int kd, .ref sg, .ref wt, .int e12, .int e13, .int e23])), (wt, .inl (cw, 3, .inl w)), (st, .inr (8, .ref fa :: sr)), (fa, .inl (cf, 16, .inr (.inr (.inr (.inr (fun j => some (fo j))))))), (g, .inl (cg, 6, .inl u)), ((fo 0), .inr (2, [.int (nm 0), .int (fk 0), .ref (va 0), .int (mi 0), .int (td 0)])), ((va 0), .inl ((ca 0), 3, .inl (v 0))), ((fo 1), .inr (2, [.int (nm 1), .int (fk 1), .ref (va 1), .int (mi 1), .int (td 1)])), ((va 1), .inl ((ca 1), 3, .inl (v 1))), ((fo 2), .inr (2, [.int (nm 2), .int (fk 2), .ref (va 2), .int (mi 2), .int (td 2)])), ((va 2), .inl ((ca 2), 3, .inl (v 2))), ((fo 3), .inr (2, [.int (nm 3), .int (fk 3), .ref (va 3), .int (mi 3), .int (td 3)])), ((va 3), .inl ((ca 3), 3, .inl (v 3))), ((fo 4), .inr (2, [.int (nm 4), .int (fk 4), .ref (va 4), .int (mi 4), .int (td 4)])), ((va 4), .inl ((ca 4), 3, .inl (v 4))), ((fo 5), .inr (2, [.int (nm 5), .int (fk 5), .ref (va 5), .int (mi 5), .int (td 5)])), ((va 5), .inl ((ca 5), 3, .inl (v 5))), ((fo 6), .inr (2, [.int (nm 6), .int (fk 6), .ref (va 6), .int (mi 6), .int (td 6)])), ((va 6), .inl ((ca 6), 3, .inl (v 6))), ((fo 7), .inr (2, [.int (nm 7), .int (fk 7), .ref (va 7), .int (mi 7), .int (td 7)])), ((va 7), .inl ((ca 7), 3, .inl (v 7))), ((fo 8), .inr (2, [.int (nm 8), .int (fk 8), .ref (va 8), .int (mi 8), .int (td 8)])), ((va 8), .inl ((ca 8), 3, .inl (v 8))), ((fo 9), .inr (2, [.int (nm 9), .int (fk 9), .ref (va 9), .int (mi 9), .int (td 9)])), ((va 9), .inl ((ca 9), 3, .inl (v 9))), ((fo 10), .inr (2, [.int (nm 10), .int (fk 10), .ref (va 10), .int (mi 10), .int (td 10)])), ((va 10), .inl ((ca 10), 3, .inl (v 10))), ((fo 11), .inr (2, [.int (nm 11), .int (fk 11), .ref (va 11), .int (mi 11), .int (td 11)])), ((va 11), .inl ((ca 11), 3, .inl (v 11))), ((fo 12), .inr (2, [.int (nm 12), .int (fk 12), .ref (va 12), .int (mi 12), .int (td 12)])), ((va 12), .inl ((ca 12), 3, .inl (v 12))), ((fo 13), .inr (2, [.int (nm 13), .int (fk 13), .ref (va 13), .int (mi 13), .int (td 13)])), ((va 13), .inl ((ca 13), 3, .inl (v 13))), ((fo 14), .inr (2, [.int (nm 14), .int (fk 14), .ref (va 14), .int (mi 14), .int (td 14)])), ((va 14), .inl ((ca 14), 3, .inl (v 14))), ((fo 15), .inr (2, [.int (nm 15), .int (fk 15), .ref (va 15), .int (mi 15), .int (td 15)])), ((va 15), .inl ((ca 15), 3, .inl (v 15)))]) (A)) #[.ref h0, .ref h1] s 0 0 A) (F0 m 110 ls []) := by
    intro ls H locs n o sm hP hS hl a1 a2 a3
    refine lv_iload hx hb dX8_outcome_110 (lv_at hl 0 rfl) ?_
    refine lv_bipush (v := (16 : Int32)) hx hb dX8_outcome_112 (by decide) ?_
    refine lv_icmp_ge hx hb dX8_outcome_114 rfl (fun q => absurd q (by decide)) (fun _ => ?_)
    refine lv_aload_n hx hb dX8_outcome_117 rfl (lv_at hl 4 rfl) ?_
    refine va_get (D := (dC, dI)) (ci := 4) (v := .ref st) (C := RX4) (T := TX4) (N := 17) hx hb hts (by decide +kernel) hown hK hP 0 rfl rfl 0 (by decide) (hts (.fieldLink RX8 18 "Ruleengine$Search" "state" "LRuleengine$State;") (by decide +kernel)) (fun _ h9 => h9) rfl dX8_outcome_118 ?_
    refine va_get (D := (dC, dI)) (ci := 8) (v := .ref fa) (C := RX9) (T := TX9) (N := 13) hx hb hts (by decide +kernel) hown hK hP 4 rfl rfl 0 (by decide) (hts (.fieldLink RX8 87 "Ruleengine$State" "fact" "[LRuleengine$Fact;") (by decide +kernel)) (fun _ h9 => h9) rfl dX8_outcome_121 ?_
    refine lv_iload hx hb dX8_outcome_124 (lv_at hl 0 rfl) ?_
    refine va_aldq (i := (9)) hx hb hK hP 5 1 rfl rfl (by unfold vp_in; decide) dX8_outcome_126 ?_
    refine W.eq (g2 := F0 m 127 _ (.ref (fo 9) :: _)) rfl ?_
    refine lv_astore (lv' := [(6, .ref (fo 9)), (5, .int (9)), (4, .int sm), (3, .int o), (2, .int n), (0, .ref h0), (1, .ref h1)]) hx hb dX8_outcome_127 hl (by decide) rfl (fun ls hl => ?_)
    refine lv_aload_n hx hb dX8_outcome_129 rfl (lv_at hl 6 rfl) ?_
    refine va_get (D := (dC, dI)) (ci := 5) (v := .ref ao) (C := RX5) (T := TX5) (N := 7) hx hb hts (by decide +kernel) hown hK hP 1 rfl rfl 1 (by decide) (hts (.fieldLink RX8 60 "Ruleengine$Part" "atom" "LRuleengine$Atom;") (by decide +kernel)) (fun _ h9 => h9) rfl dX8_outcome_130 ?_
    refine lv_aload hx hb dX8_outcome_133 (lv_at hl 0 rfl) ?_
    refine lv_aload_n hx hb dX8_outcome_135 rfl (lv_at hl 5 rfl) ?_
    refine va_get (D := (dC, dI)) (ci := 4) (v := .ref g) (C := RX4) (T := TX4) (N := 17) hx hb hts (by decide +kernel) hown hK hP 0 rfl rfl 4 (by decide) (hts (.fieldLink RX8 9 "Ruleengine$Search" "values" "[I") (by decide +kernel)) (fun _ h9 => h9) rfl dX8_outcome_136 ?_
    have hPc := hP.sub (ws' := [(ao, .inr (0, [.int kd, .ref sg, .ref wt, .int e12, .int e13, .int e23])), (wt, .inl (cw, 3, .inl w)), ((fo 9), .inr (2, [.int (nm 9), .int (fk 9), .ref (va 9), .int (mi 9), .int (td 9)])), ((va 9), .inl ((ca 9), 3, .inl (v 9))), (g, .inl (cg, 6, .inl vs))]) [2, 3, 25, 26, 6] rfl
    have hDc := hD.sub (ws' := [(ao, .inr (0, [.int kd, .ref sg, .ref wt, .int e12, .int e13, .int e23])), (wt, .inl (cw, 3, .inl w)), ((fo 9), .inr (2, [.int (nm 9), .int (fk 9), .ref (va 9), .int (mi 9), .int (td 9)])), ((va 9), .inl ((ca 9), 3, .inl (v 9))), (g, .inl (cg, 6, .inl vs))]) [2, 3, 25, 26, 6] (by decide) rfl
    have hKc := hK.sub (tys' := [(cw, .int), ((ca 9), .int), (cg, .int)]) [0, 12, 2] rfl
    refine va_calli (va_runV (As := [.ref (fo 9), .ref g]) (rest := []) ⟨hx, hb, hml, hown, hts⟩ (kX0_fits l dC dI H.size ao sg wt (fo 9) (va 9) g cw (ca 9) cg kd e12 e13 e23 (nm 9) (fk 9) (mi 9) (td 9) w (v 9) vs) (cwV 2 hts ggq rfl rfl rfl (by decide +kernel) ⟨Nat.le_of_ble_eq_true rfl, Nat.le_of_ble_eq_true rfl⟩) ⟨fun a U g mk q => by obtain ⟨q0, q1, qP, qK, qD⟩ := q; exact ⟨q0, q1, qP, va_K.moved (u := U) (U := U.calling g mk a) (Vm.Alike.refl U.vm) qK, qD⟩, va_recv hKc hPc (ci := 0) (q0 := 0) rfl rfl, fun U hU hW => ⟨rfl, by rw [hU], by rw [hU]; exact hPc, va_K.moved hW.alike hKc, hDc.weaken (fun _ _ _ _ => trivial)⟩⟩ rfl rfl hl.1 rfl (lv_room (Nat.le_of_ble_eq_true rfl)) dX8_outcome_139 ⟨Nat.le_of_ble_eq_true rfl, Nat.le_of_ble_eq_true rfl⟩) hS (fun q _ h => h.elim) (fun q h => h.elim) (fun rr u t H1 locs ht hvm hw hB hz1 hk1 hS => ?_)
    have hP : va_P (dC, dI) CL [(h0, .inr (4, .ref st :: .ref po :: .int ps :: .int ie :: .ref g :: mr)), (h1, .inr (5, [.int so, .ref ao, .int le, .int ri, .int rl, .int nw, .int fa_])), (ao, .inr (0, [.int kd, .ref sg, .ref wt, .int e12, .int e13, .int e23])), (wt, .inl (cw, 3, .inl w)), (st, .inr (8, .ref fa :: sr)), (fa, .inl (cf, 16, .inr (.inr (.inr (.inr (fun j => some (fo j))))))), (g, .inl (cg, 6, .inl vs)), ((fo 0), .inr (2, [.int (nm 0), .int (fk 0), .ref (va 0), .int (mi 0), .int (td 0)])), ((va 0), .inl ((ca 0), 3, .inl (v 0))), ((fo 1), .inr (2, [.int (nm 1), .int (fk 1), .ref (va 1), .int (mi 1), .int (td 1)])), ((va 1), .inl ((ca 1), 3, .inl (v 1))), ((fo 2), .inr (2, [.int (nm 2), .int (fk 2), .ref (va 2), .int (mi 2), .int (td 2)])), ((va 2), .inl ((ca 2), 3, .inl (v 2))), ((fo 3), .inr (2, [.int (nm 3), .int (fk 3), .ref (va 3), .int (mi 3), .int (td 3)])), ((va 3), .inl ((ca 3), 3, .inl (v 3))), ((fo 4), .inr (2, [.int (nm 4), .int (fk 4), .ref (va 4), .int (mi 4), .int (td 4)])), ((va 4), .inl ((ca 4), 3, .inl (v 4))), ((fo 5), .inr (2, [.int (nm 5), .int (fk 5), .ref (va 5), .int (mi 5), .int (td 5)])), ((va 5), .inl ((ca 5), 3, .inl (v 5))), ((fo 6), .inr (2, [.int (nm 6), .int (fk 6), .ref (va 6), .int (mi 6), .int (td 6)])), ((va 6), .inl ((ca 6), 3, .inl (v 6))), ((fo 7), .inr (2, [.int (nm 7), .int (fk 7), .ref (va 7), .int (mi 7), .int (td 7)])), ((va 7), .inl ((ca 7), 3, .inl (v 7))), ((fo 8), .inr (2, [.int (nm 8), .int (fk 8), .ref (va 8), .int (mi 8), .int (td 8)])), ((va 8), .inl ((ca 8), 3, .inl (v 8))), ((fo 9), .inr (2, [.int (nm 9), .int (fk 9), .ref (va 9), .int (mi 9), .int (td 9)])), ((va 9), .inl ((ca 9), 3, .inl (v 9))), ((fo 10), .inr (2, [.int (nm 10), .int (fk 10), .ref (va 10), .int (mi 10), .int (td 10)])), ((va 10), .inl ((ca 10), 3, .inl (v 10))), ((fo 11), .inr (2, [.int (nm 11), .int (fk 11), .ref (va 11), .int (mi 11), .int (td 11)])), ((va 11), .inl ((ca 11), 3, .inl (v 11))), ((fo 12), .inr (2, [.int (nm 12), .int (fk 12), .ref (va 12), .int (mi 12), .int (td 12)])), ((va 12), .inl ((ca 12), 3, .inl (v 12))), ((fo 13), .inr (2, [.int (nm 13), .int (fk 13), .ref (va 13), .int (mi 13), .int (td 13)])), ((va 13), .inl ((ca 13), 3, .inl (v 13))), ((fo 14), .inr (2, [.int (nm 14), .int (fk 14), .ref (va 14), .int (mi 14), .int (td 14)])), ((va 14), .inl ((ca 14), 3, .inl (v 14))), ((fo 15), .inr (2, [.int (nm 15), .int (fk 15), .ref (va 15), .int (mi 15), .int (td 15)])), ((va 15), .inl ((ca 15), 3, .inl (v 15)))] H1 := hP.kept (fun k x hx => hk1 x.1 ((hP k x hx).lt) (fun h => h))
    generalize H1 = H at hP hS ⊢
    refine lv_if_eq hx hb dX8_outcome_142 rfl (fun q48 => ?_) (fun q48 => ?_)
    · refine lv_aload hx hb dX8_outcome_166 (lv_at hl 0 rfl) ?_
      refine va_get (D := (dC, dI)) (ci := 2) (v := .int (fk 9)) (C := RX2) (T := TX2) (N := 5) hx hb hts (by decide +kernel) hown hK hP 25 rfl rfl 1 (by decide) (hts (.fieldLink RX8 100 "Ruleengine$Fact" "kind" "I") (by decide +kernel)) (fun _ h9 => h9) rfl dX8_outcome_168 ?_
      refine lv_aload_n hx hb dX8_outcome_171 rfl (lv_at hl 6 rfl) ?_
      refine va_get (D := (dC, dI)) (ci := 5) (v := .ref ao) (C := RX5) (T := TX5) (N := 7) hx hb hts (by decide +kernel) hown hK hP 1 rfl rfl 1 (by decide) (hts (.fieldLink RX8 60 "Ruleengine$Part" "atom" "LRuleengine$Atom;") (by decide +kernel)) (fun _ h9 => h9) rfl dX8_outcome_172 ?_
      refine va_get (D := (dC, dI)) (ci := 0) (v := .int kd) (C := RX0) (T := TX0) (N := 6) hx hb hts (by decide +kernel) hown hK hP 2 rfl rfl 0 (by decide) (hts (.fieldLink RX8 103 "Ruleengine$Atom" "kind" "I") (by decide +kernel)) (fun _ h9 => h9) rfl dX8_outcome_175 ?_
      refine lv_icmp_ne hx hb dX8_outcome_178 rfl (fun q49 => ?_) (fun q49 => ?_)
      · refine lv_iinc (v := (10)) (lv' := [(5, .int (10)), (6, .ref (fo 9)), (4, .int sm), (3, .int o), (2, .int n), (0, .ref h0), (1, .ref h1)]) hx hb dX8_outcome_184 hl (k := 1) rfl (by decide) (by decide) rfl (fun ls hl => ?_)
        refine lv_goto hx hb dX8_outcome_187 rfl ?_
        have h0 : rr = 0 := by assumption
        have hf : ¬ lf_fit kd e12 e13 e23 w vs (fk 9) (v 9) := fun hh => by rw [if_pos hh] at hw; rw [hw] at h0; exact absurd h0 (by decide)
        have hp : (fun k => decide (lf_fit kd e12 e13 e23 w vs (fk k) (v k))) 9 = false := decide_eq_false hf
        have hk : fk 9 ≠ kd := by assumption
        have hq : (fun k => !decide (lf_fit kd e12 e13 e23 w vs (fk k) (v k)) && decide (fk k = kd)) 9 = false := by show (!decide (lf_fit kd e12 e13 e23 w vs (fk 9) (v 9)) && decide (fk 9 = kd)) = false; rw [decide_eq_false (p := fk 9 = kd) hk]; exact Bool.and_false _
        exact it10 ls H locs _ _ _ hP hS (lv_sub hl [0, 2, 3, 4, 5, 6] rfl) (by rw [a1]; exact (lf_cnt_n (P := (fun k => decide (lf_fit kd e12 e13 e23 w vs (fk k) (v k)))) (k := 9) hp).symm) (by rw [a2]; exact (lf_cnt_n (P := (fun k => !decide (lf_fit kd e12 e13 e23 w vs (fk k) (v k)) && decide (fk k = kd))) (k := 9) hq).symm) (by rw [a3]; exact (lf_sum_n (P := (fun k => decide (lf_fit kd e12 e13 e23 w vs (fk k) (v k)))) (x := (fun k => v k fa_.toNatClampNeg)) (k := 9) hp).symm)
      · refine lv_iinc (v := (o + 1)) (lv' := [(3, .int (o + 1)), (6, .ref (fo 9)), (5, .int (9)), (4, .int sm), (2, .int n), (0, .ref h0), (1, .ref h1)]) hx hb dX8_outcome_181 hl (k := 3) rfl (by rfl) (by decide) rfl (fun ls hl => ?_)
        refine lv_iinc (v := (10)) (lv' := [(5, .int (10)), (3, .int (o + 1)), (6, .ref (fo 9)), (4, .int sm), (2, .int n), (0, .ref h0), (1, .ref h1)]) hx hb dX8_outcome_184 hl (k := 2) rfl (by decide) (by decide) rfl (fun ls hl => ?_)
        refine lv_goto hx hb dX8_outcome_187 rfl ?_
        have h0 : rr = 0 := by assumption
        have hf : ¬ lf_fit kd e12 e13 e23 w vs (fk 9) (v 9) := fun hh => by rw [if_pos hh] at hw; rw [hw] at h0; exact absurd h0 (by decide)
        have hp : (fun k => decide (lf_fit kd e12 e13 e23 w vs (fk k) (v k))) 9 = false := decide_eq_false hf
        have hk : fk 9 = kd := by assumption
        have hq : (fun k => !decide (lf_fit kd e12 e13 e23 w vs (fk k) (v k)) && decide (fk k = kd)) 9 = true := by show (!decide (lf_fit kd e12 e13 e23 w vs (fk 9) (v 9)) && decide (fk 9 = kd)) = true; rw [decide_eq_false hf, decide_eq_true hk]; rfl
        exact it10 ls H locs _ _ _ hP hS (lv_sub hl [0, 3, 1, 4, 5, 6] rfl) (by rw [a1]; exact (lf_cnt_n (P := (fun k => decide (lf_fit kd e12 e13 e23 w vs (fk k) (v k)))) (k := 9) hp).symm) (by rw [a2]; exact (lf_cnt_y (P := (fun k => !decide (lf_fit kd e12 e13 e23 w vs (fk k) (v k)) && decide (fk k = kd))) (k := 9) hq).symm) (by rw [a3]; exact (lf_sum_n (P := (fun k => decide (lf_fit kd e12 e13 e23 w vs (fk k) (v k)))) (x := (fun k => v k fa_.toNatClampNeg)) (k := 9) hp).symm)
    · refine lv_iinc (v := (n + 1)) (lv' := [(2, .int (n + 1)), (6, .ref (fo 9)), (5, .int (9)), (4, .int sm), (3, .int o), (0, .ref h0), (1, .ref h1)]) hx hb dX8_outcome_145 hl (k := 4) rfl (by rfl) (by decide) rfl (fun ls hl => ?_)
      refine lv_iload hx hb dX8_outcome_148 (lv_at hl 3 rfl) ?_
      refine lv_aload hx hb dX8_outcome_150 (lv_at hl 1 rfl) ?_
      refine va_get (D := (dC, dI)) (ci := 2) (v := .ref (va 9)) (C := RX2) (T := TX2) (N := 5) hx hb hts (by decide +kernel) hown hK hP 25 rfl rfl 2 (by decide) (hts (.fieldLink RX8 92 "Ruleengine$Fact" "value" "[I") (by decide +kernel)) (fun _ h9 => h9) rfl dX8_outcome_152 ?_
      refine lv_aload_n hx hb dX8_outcome_155 rfl (lv_at hl 6 rfl) ?_
      refine va_get (D := (dC, dI)) (ci := 5) (v := .int fa_) (C := RX5) (T := TX5) (N := 7) hx hb hts (by decide +kernel) hown hK hP 1 rfl rfl 6 (by decide) (hts (.fieldLink RX8 97 "Ruleengine$Part" "at" "I") (by decide +kernel)) (fun _ h9 => h9) rfl dX8_outcome_156 ?_
      refine va_iald (i := fa_) hx hb hK hP 26 12 rfl rfl hat dX8_outcome_159 ?_
      refine lv_iadd hx hb dX8_outcome_160 ?_
      refine lv_istore (lv' := [(4, .int (sm + ((v 9) (fa_).toNatClampNeg))), (2, .int (n + 1)), (6, .ref (fo 9)), (5, .int (9)), (3, .int o), (0, .ref h0), (1, .ref h1)]) hx hb dX8_outcome_161 hl (by decide) rfl (fun ls hl => ?_)
      refine lv_goto hx hb dX8_outcome_163 rfl ?_
      refine lv_iinc (v := (10)) (lv' := [(5, .int (10)), (4, .int (sm + ((v 9) (fa_).toNatClampNeg))), (2, .int (n + 1)), (6, .ref (fo 9)), (3, .int o), (0, .ref h0), (1, .ref h1)]) hx hb dX8_outcome_184 hl (k := 3) rfl (by decide) (by decide) rfl (fun ls hl => ?_)
      refine lv_goto hx hb dX8_outcome_187 rfl ?_
      have hf : lf_fit kd e12 e13 e23 w vs (fk 9) (v 9) := Decidable.byContradiction (fun hh => by rw [if_neg hh] at hw; exact absurd hw (by assumption))
      have hp : (fun k => decide (lf_fit kd e12 e13 e23 w vs (fk k) (v k))) 9 = true := decide_eq_true hf
      have hq : (fun k => !decide (lf_fit kd e12 e13 e23 w vs (fk k) (v k)) && decide (fk k = kd)) 9 = false := by show (!decide (lf_fit kd e12 e13 e23 w vs (fk 9) (v 9)) && decide (fk 9 = kd)) = false; rw [decide_eq_true hf]; rfl
      exact it10 ls H locs _ _ _ hP hS (lv_sub hl [0, 1, 4, 2, 5, 6] rfl) (by rw [a1]; exact (lf_cnt_y (P := (fun k => decide (lf_fit kd e12 e13 e23 w vs (fk k) (v k)))) (k := 9) hp).symm) (by rw [a2]; exact (lf_cnt_n (P := (fun k => !decide (lf_fit kd e12 e13 e23 w vs (fk k) (v k)) && decide (fk k = kd))) (k := 9) hq).symm) (by rw [a3]; exact (lf_sum_y (P := (fun k => decide (lf_fit kd e12 e13 e23 w vs (fk k) (v k)))) (x := (fun k => v k fa_.toNatClampNeg)) (k := 9) hp).symm)
  have it8 : ∀ (ls : Array Slot) (H : Heap) (locs : List Loc) (n o sm : Int32), va_P (dC, dI) CL [(h0, .inr (4, .ref st :: .ref po :: .int ps :: .int ie :: .ref g :: mr)), (h1, .inr (5, [.int so, .ref ao, .int le, .int ri, .int rl, .int nw, .int fa_])), (ao, .inr (0, [.int kd, .ref sg, .ref wt, .int e12, .int e13, .int e23])), (wt, .inl (cw, 3, .inl w)), (st, .inr (8, .ref fa :: sr)), (fa, .inl (cf, 16, .inr (.inr (.inr (.inr (fun j => some (fo j))))))), (g, .inl (cg, 6, .inl vs)), ((fo 0), .inr (2, [.int (nm 0), .int (fk 0), .ref (va 0), .int (mi 0), .int (td 0)])), ((va 0), .inl ((ca 0), 3, .inl (v 0))), ((fo 1), .inr (2, [.int (nm 1), .int (fk 1), .ref (va 1), .int (mi 1), .int (td 1)])), ((va 1), .inl ((ca 1), 3, .inl (v 1))), ((fo 2), .inr (2, [.int (nm 2), .int (fk 2), .ref (va 2), .int (mi 2), .int (td 2)])), ((va 2), .inl ((ca 2), 3, .inl (v 2))), ((fo 3), .inr (2, [.int (nm 3), .int (fk 3), .ref (va 3), .int (mi 3), .int (td 3)])), ((va 3), .inl ((ca 3), 3, .inl (v 3))), ((fo 4), .inr (2, [.int (nm 4), .int (fk 4), .ref (va 4), .int (mi 4), .int (td 4)])), ((va 4), .inl ((ca 4), 3, .inl (v 4))), ((fo 5), .inr (2, [.int (nm 5), .int (fk 5), .ref (va 5), .int (mi 5), .int (td 5)])), ((va 5), .inl ((ca 5), 3, .inl (v 5))), ((fo 6), .inr (2, [.int (nm 6), .int (fk 6), .ref (va 6), .int (mi 6), .int (td 6)])), ((va 6), .inl ((ca 6), 3, .inl (v 6))), ((fo 7), .inr (2, [.int (nm 7), .int (fk 7), .ref (va 7), .int (mi 7), .int (td 7)])), ((va 7), .inl ((ca 7), 3, .inl (v 7))), ((fo 8), .inr (2, [.int (nm 8), .int (fk 8), .ref (va 8), .int (mi 8), .int (td 8)])), ((va 8), .inl ((ca 8), 3, .inl (v 8))), ((fo 9), .inr (2, [.int (nm 9), .int (fk 9), .ref (va 9), .int (mi 9), .int (td 9)])), ((va 9), .inl ((ca 9), 3, .inl (v 9))), ((fo 10), .inr (2, [.int (nm 10), .int (fk 10), .ref (va 10), .int (mi 10), .int (td 10)])), ((va 10), .inl ((ca 10), 3, .inl (v 10))), ((fo 11), .inr (2, [.int (nm 11), .int (fk 11), .ref (va 11), .int (mi 11), .int (td 11)])), ((va 11), .inl ((ca 11), 3, .inl (v 11))), ((fo 12), .inr (2, [.int (nm 12), .int (fk 12), .ref (va 12), .int (mi 12), .int (td 12)])), ((va 12), .inl ((ca 12), 3, .inl (v 12))), ((fo 13), .inr (2, [.int (nm 13), .int (fk 13), .ref (va 13), .int (mi 13), .int (td 13)])), ((va 13), .inl ((ca 13), 3, .inl (v 13))), ((fo 14), .inr (2, [.int (nm 14), .int (fk 14), .ref (va 14), .int (mi 14), .int (td 14)])), ((va 14), .inl ((ca 14), 3, .inl (v 14))), ((fo 15), .inr (2, [.int (nm 15), .int (fk 15), .ref (va 15), .int (mi 15), .int (td 15)])), ((va 15), .inl ((ca 15), 3, .inl (v 15)))] H → va_S A s.heap H locs → lv_has ls 7 [(5, .int (8)), (4, .int sm), (3, .int o), (2, .int n), (0, .ref h0), (1, .ref h1)] → n = lf_cnt (fun k => decide (lf_fit kd e12 e13 e23 w vs (fk k) (v k))) 8 → o = lf_cnt (fun k => !decide (lf_fit kd e12 e13 e23 w vs (fk k) (v k)) && decide (fk k = kd)) 8 → sm = lf_sum (fun k => decide (lf_fit kd e12 e13 e23 w vs (fk k) (v k))) (fun k => v k fa_.toNatClampNeg) 8 → W p l e (headSpec wqX8_outcome ({ frames := 1, cells := 0, slots := 0, locals := 24 })).room s m #[.ref h0, .ref h1] below meth c H locs 0 0 (MQ below (va_Qi (fun (r : Int32) (u : Nat → Int32) => (u = if (so = 4 ∨ so = 5) ∧ nw ≠ 0 then upd vs (le - 16).toNatClampNeg (if so = 5 then lf_sum (fun k => decide (lf_fit kd e12 e13 e23 w vs (fk k) (v k))) (fun k => v k fa_.toNatClampNeg) 16 else lf_cnt (fun k => decide (lf_fit kd e12 e13 e23 w vs (fk k) (v k))) 16) else vs) ∧ r = if so = 4 ∨ so = 5 then (if u (le - 16).toNatClampNeg = (if so = 5 then lf_sum (fun k => decide (lf_fit kd e12 e13 e23 w vs (fk k) (v k))) (fun k => v k fa_.toNatClampNeg) 16 else lf_cnt (fun k => decide (lf_fit kd e12 e13 e23 w vs (fk k) (v k))) 16) then (if so = 5 then lf_sum (fun k => decide (lf_fit kd e12 e13 e23 w vs (fk k) (v k))) (fun k => v k fa_.toNatClampNeg) 16 else lf_cnt (fun k => decide (lf_fit kd e12 e13 e23 w vs (fk k) (v k))) 16) else -1) else if (if so = 2 then 0 < lf_cnt (fun k => decide (lf_fit kd e12 e13 e23 w vs (fk k) (v k))) 16 else (if so = 3 then lf_cnt (fun k => !decide (lf_fit kd e12 e13 e23 w vs (fk k) (v k)) && decide (fk k = kd)) 16 else lf_cnt (fun k => decide (lf_fit kd e12 e13 e23 w vs (fk k) (v k))) 16) = 0) then 0 else -1) (fun u t => va_P (dC, dI) CL [(h0, .inr (4, .ref st :: .ref po :: .int ps :: .int ie :: .ref g :: mr)), (h1, .inr (5, [.int so, .ref ao, .int le, .int ri, .int rl, .int nw, .int fa_])), (ao, .inr (0, [.int kd, .ref sg, .ref wt, .int e12, .int e13, .int e23])), (wt, .inl (cw, 3, .inl w)), (st, .inr (8, .ref fa :: sr)), (fa, .inl (cf, 16, .inr (.inr (.inr (.inr (fun j => some (fo j))))))), (g, .inl (cg, 6, .inl u)), ((fo 0), .inr (2, [.int (nm 0), .int (fk 0), .ref (va 0), .int (mi 0), .int (td 0)])), ((va 0), .inl ((ca 0), 3, .inl (v 0))), ((fo 1), .inr (2, [.int (nm 1), .int (fk 1), .ref (va 1), .int (mi 1), .int (td 1)])), ((va 1), .inl ((ca 1), 3, .inl (v 1))), ((fo 2), .inr (2, [.int (nm 2), .int (fk 2), .ref (va 2), .int (mi 2), .int (td 2)])), ((va 2), .inl ((ca 2), 3, .inl (v 2))), ((fo 3), .inr (2, [.int (nm 3), .int (fk 3), .ref (va 3), .int (mi 3), .int (td 3)])), ((va 3), .inl ((ca 3), 3, .inl (v 3))), ((fo 4), .inr (2, [.int (nm 4), .int (fk 4), .ref (va 4), .int (mi 4), .int (td 4)])), ((va 4), .inl ((ca 4), 3, .inl (v 4))), ((fo 5), .inr (2, [.int (nm 5), .int (fk 5), .ref (va 5), .int (mi 5), .int (td 5)])), ((va 5), .inl ((ca 5), 3, .inl (v 5))), ((fo 6), .inr (2, [.int (nm 6), .int (fk 6), .ref (va 6), .int (mi 6), .int (td 6)])), ((va 6), .inl ((ca 6), 3, .inl (v 6))), ((fo 7), .inr (2, [.int (nm 7), .int (fk 7), .ref (va 7), .int (mi 7), .int (td 7)])), ((va 7), .inl ((ca 7), 3, .inl (v 7))), ((fo 8), .inr (2, [.int (nm 8), .int (fk 8), .ref (va 8), .int (mi 8), .int (td 8)])), ((va 8), .inl ((ca 8), 3, .inl (v 8))), ((fo 9), .inr (2, [.int (nm 9), .int (fk 9), .ref (va 9), .int (mi 9), .int (td 9)])), ((va 9), .inl ((ca 9), 3, .inl (v 9))), ((fo 10), .inr (2, [.int (nm 10), .int (fk 10), .ref (va 10), .int (mi 10), .int (td 10)])), ((va 10), .inl ((ca 10), 3, .inl (v 10))), ((fo 11), .inr (2, [.int (nm 11), .int (fk 11), .ref (va 11), .int (mi 11), .int (td 11)])), ((va 11), .inl ((ca 11), 3, .inl (v 11))), ((fo 12), .inr (2, [.int (nm 12), .int (fk 12), .ref (va 12), .int (mi 12), .int (td 12)])), ((va 12), .inl ((ca 12), 3, .inl (v 12))), ((fo 13), .inr (2, [.int (nm 13), .int (fk 13), .ref (va 13), .int (mi 13), .int (td 13)])), ((va 13), .inl ((ca 13), 3, .inl (v 13))), ((fo 14), .inr (2, [.int (nm 14), .int (fk 14), .ref (va 14), .int (mi 14), .int (td 14)])), ((va 14), .inl ((ca 14), 3, .inl (v 14))), ((fo 15), .inr (2, [.int (nm 15), .int (fk 15), .ref (va 15), .int (mi 15), .int (td 15)])), ((va 15), .inl ((ca 15), 3, .inl (v 15)))] t.heap ∧ va_K (dC, dI) CL [(cw, .int), (cf, .object RX2), (cg, .int), ((ca 0), .int), ((ca 1), .int), ((ca 2), .int), ((ca 3), .int), ((ca 4), .int), ((ca 5), .int), ((ca 6), .int), ((ca 7), .int), ((ca 8), .int), ((ca 9), .int), ((ca 10), .int), ((ca 11), .int), ((ca 12), .int), ((ca 13), .int), ((ca 14), .int), ((ca 15), .int)] t ∧ va_D (A) [(h0, .inr (4, .ref st :: .ref po :: .int ps :: .int ie :: .ref g :: mr)), (h1, .inr (5, [.int so, .ref ao, .int le, .int ri, .int rl, .int nw, .int fa_])), (ao, .inr (0, [.int kd, .ref sg, .ref wt, .int e12, .int e13, .int e23])), (wt, .inl (cw, 3, .inl w)), (st, .inr (8, .ref fa :: sr)), (fa, .inl (cf, 16, .inr (.inr (.inr (.inr (fun j => some (fo j))))))), (g, .inl (cg, 6, .inl u)), ((fo 0), .inr (2, [.int (nm 0), .int (fk 0), .ref (va 0), .int (mi 0), .int (td 0)])), ((va 0), .inl ((ca 0), 3, .inl (v 0))), ((fo 1), .inr (2, [.int (nm 1), .int (fk 1), .ref (va 1), .int (mi 1), .int (td 1)])), ((va 1), .inl ((ca 1), 3, .inl (v 1))), ((fo 2), .inr (2, [.int (nm 2), .int (fk 2), .ref (va 2), .int (mi 2), .int (td 2)])), ((va 2), .inl ((ca 2), 3, .inl (v 2))), ((fo 3), .inr (2, [.int (nm 3), .int (fk 3), .ref (va 3), .int (mi 3), .int (td 3)])), ((va 3), .inl ((ca 3), 3, .inl (v 3))), ((fo 4), .inr (2, [.int (nm 4), .int (fk 4), .ref (va 4), .int (mi 4), .int (td 4)])), ((va 4), .inl ((ca 4), 3, .inl (v 4))), ((fo 5), .inr (2, [.int (nm 5), .int (fk 5), .ref (va 5), .int (mi 5), .int (td 5)])), ((va 5), .inl ((ca 5), 3, .inl (v 5))), ((fo 6), .inr (2, [.int (nm 6), .int (fk 6), .ref (va 6), .int (mi 6), .int (td 6)])), ((va 6), .inl ((ca 6), 3, .inl (v 6))), ((fo 7), .inr (2, [.int (nm 7), .int (fk 7), .ref (va 7), .int (mi 7), .int (td 7)])), ((va 7), .inl ((ca 7), 3, .inl (v 7))), ((fo 8), .inr (2, [.int (nm 8), .int (fk 8), .ref (va 8), .int (mi 8), .int (td 8)])), ((va 8), .inl ((ca 8), 3, .inl (v 8))), ((fo 9), .inr (2, [.int (nm 9), .int (fk 9), .ref (va 9), .int (mi 9), .int (td 9)])), ((va 9), .inl ((ca 9), 3, .inl (v 9))), ((fo 10), .inr (2, [.int (nm 10), .int (fk 10), .ref (va 10), .int (mi 10), .int (td 10)])), ((va 10), .inl ((ca 10), 3, .inl (v 10))), ((fo 11), .inr (2, [.int (nm 11), .int (fk 11), .ref (va 11), .int (mi 11), .int (td 11)])), ((va 11), .inl ((ca 11), 3, .inl (v 11))), ((fo 12), .inr (2, [.int (nm 12), .int (fk 12), .ref (va 12), .int (mi 12), .int (td 12)])), ((va 12), .inl ((ca 12), 3, .inl (v 12))), ((fo 13), .inr (2, [.int (nm 13), .int (fk 13), .ref (va 13), .int (mi 13), .int (td 13)])), ((va 13), .inl ((ca 13), 3, .inl (v 13))), ((fo 14), .inr (2, [.int (nm 14), .int (fk 14), .ref (va 14), .int (mi 14), .int (td 14)])), ((va 14), .inl ((ca 14), 3, .inl (v 14))), ((fo 15), .inr (2, [.int (nm 15), .int (fk 15), .ref (va 15), .int (mi 15), .int (td 15)])), ((va 15), .inl ((ca 15), 3, .inl (v 15)))]) (A)) #[.ref h0, .ref h1] s 0 0 A) (F0 m 110 ls []) := by
    intro ls H locs n o sm hP hS hl a1 a2 a3
    refine lv_iload hx hb dX8_outcome_110 (lv_at hl 0 rfl) ?_
    refine lv_bipush (v := (16 : Int32)) hx hb dX8_outcome_112 (by decide) ?_
    refine lv_icmp_ge hx hb dX8_outcome_114 rfl (fun q => absurd q (by decide)) (fun _ => ?_)
    refine lv_aload_n hx hb dX8_outcome_117 rfl (lv_at hl 4 rfl) ?_
    refine va_get (D := (dC, dI)) (ci := 4) (v := .ref st) (C := RX4) (T := TX4) (N := 17) hx hb hts (by decide +kernel) hown hK hP 0 rfl rfl 0 (by decide) (hts (.fieldLink RX8 18 "Ruleengine$Search" "state" "LRuleengine$State;") (by decide +kernel)) (fun _ h9 => h9) rfl dX8_outcome_118 ?_
    refine va_get (D := (dC, dI)) (ci := 8) (v := .ref fa) (C := RX9) (T := TX9) (N := 13) hx hb hts (by decide +kernel) hown hK hP 4 rfl rfl 0 (by decide) (hts (.fieldLink RX8 87 "Ruleengine$State" "fact" "[LRuleengine$Fact;") (by decide +kernel)) (fun _ h9 => h9) rfl dX8_outcome_121 ?_
    refine lv_iload hx hb dX8_outcome_124 (lv_at hl 0 rfl) ?_
    refine va_aldq (i := (8)) hx hb hK hP 5 1 rfl rfl (by unfold vp_in; decide) dX8_outcome_126 ?_
    refine W.eq (g2 := F0 m 127 _ (.ref (fo 8) :: _)) rfl ?_
    refine lv_astore (lv' := [(6, .ref (fo 8)), (5, .int (8)), (4, .int sm), (3, .int o), (2, .int n), (0, .ref h0), (1, .ref h1)]) hx hb dX8_outcome_127 hl (by decide) rfl (fun ls hl => ?_)
    refine lv_aload_n hx hb dX8_outcome_129 rfl (lv_at hl 6 rfl) ?_
    refine va_get (D := (dC, dI)) (ci := 5) (v := .ref ao) (C := RX5) (T := TX5) (N := 7) hx hb hts (by decide +kernel) hown hK hP 1 rfl rfl 1 (by decide) (hts (.fieldLink RX8 60 "Ruleengine$Part" "atom" "LRuleengine$Atom;") (by decide +kernel)) (fun _ h9 => h9) rfl dX8_outcome_130 ?_
    refine lv_aload hx hb dX8_outcome_133 (lv_at hl 0 rfl) ?_
    refine lv_aload_n hx hb dX8_outcome_135 rfl (lv_at hl 5 rfl) ?_
    refine va_get (D := (dC, dI)) (ci := 4) (v := .ref g) (C := RX4) (T := TX4) (N := 17) hx hb hts (by decide +kernel) hown hK hP 0 rfl rfl 4 (by decide) (hts (.fieldLink RX8 9 "Ruleengine$Search" "values" "[I") (by decide +kernel)) (fun _ h9 => h9) rfl dX8_outcome_136 ?_
    have hPc := hP.sub (ws' := [(ao, .inr (0, [.int kd, .ref sg, .ref wt, .int e12, .int e13, .int e23])), (wt, .inl (cw, 3, .inl w)), ((fo 8), .inr (2, [.int (nm 8), .int (fk 8), .ref (va 8), .int (mi 8), .int (td 8)])), ((va 8), .inl ((ca 8), 3, .inl (v 8))), (g, .inl (cg, 6, .inl vs))]) [2, 3, 23, 24, 6] rfl
    have hDc := hD.sub (ws' := [(ao, .inr (0, [.int kd, .ref sg, .ref wt, .int e12, .int e13, .int e23])), (wt, .inl (cw, 3, .inl w)), ((fo 8), .inr (2, [.int (nm 8), .int (fk 8), .ref (va 8), .int (mi 8), .int (td 8)])), ((va 8), .inl ((ca 8), 3, .inl (v 8))), (g, .inl (cg, 6, .inl vs))]) [2, 3, 23, 24, 6] (by decide) rfl
    have hKc := hK.sub (tys' := [(cw, .int), ((ca 8), .int), (cg, .int)]) [0, 11, 2] rfl
    refine va_calli (va_runV (As := [.ref (fo 8), .ref g]) (rest := []) ⟨hx, hb, hml, hown, hts⟩ (kX0_fits l dC dI H.size ao sg wt (fo 8) (va 8) g cw (ca 8) cg kd e12 e13 e23 (nm 8) (fk 8) (mi 8) (td 8) w (v 8) vs) (cwV 2 hts ggq rfl rfl rfl (by decide +kernel) ⟨Nat.le_of_ble_eq_true rfl, Nat.le_of_ble_eq_true rfl⟩) ⟨fun a U g mk q => by obtain ⟨q0, q1, qP, qK, qD⟩ := q; exact ⟨q0, q1, qP, va_K.moved (u := U) (U := U.calling g mk a) (Vm.Alike.refl U.vm) qK, qD⟩, va_recv hKc hPc (ci := 0) (q0 := 0) rfl rfl, fun U hU hW => ⟨rfl, by rw [hU], by rw [hU]; exact hPc, va_K.moved hW.alike hKc, hDc.weaken (fun _ _ _ _ => trivial)⟩⟩ rfl rfl hl.1 rfl (lv_room (Nat.le_of_ble_eq_true rfl)) dX8_outcome_139 ⟨Nat.le_of_ble_eq_true rfl, Nat.le_of_ble_eq_true rfl⟩) hS (fun q _ h => h.elim) (fun q h => h.elim) (fun rr u t H1 locs ht hvm hw hB hz1 hk1 hS => ?_)
    have hP : va_P (dC, dI) CL [(h0, .inr (4, .ref st :: .ref po :: .int ps :: .int ie :: .ref g :: mr)), (h1, .inr (5, [.int so, .ref ao, .int le, .int ri, .int rl, .int nw, .int fa_])), (ao, .inr (0, [.int kd, .ref sg, .ref wt, .int e12, .int e13, .int e23])), (wt, .inl (cw, 3, .inl w)), (st, .inr (8, .ref fa :: sr)), (fa, .inl (cf, 16, .inr (.inr (.inr (.inr (fun j => some (fo j))))))), (g, .inl (cg, 6, .inl vs)), ((fo 0), .inr (2, [.int (nm 0), .int (fk 0), .ref (va 0), .int (mi 0), .int (td 0)])), ((va 0), .inl ((ca 0), 3, .inl (v 0))), ((fo 1), .inr (2, [.int (nm 1), .int (fk 1), .ref (va 1), .int (mi 1), .int (td 1)])), ((va 1), .inl ((ca 1), 3, .inl (v 1))), ((fo 2), .inr (2, [.int (nm 2), .int (fk 2), .ref (va 2), .int (mi 2), .int (td 2)])), ((va 2), .inl ((ca 2), 3, .inl (v 2))), ((fo 3), .inr (2, [.int (nm 3), .int (fk 3), .ref (va 3), .int (mi 3), .int (td 3)])), ((va 3), .inl ((ca 3), 3, .inl (v 3))), ((fo 4), .inr (2, [.int (nm 4), .int (fk 4), .ref (va 4), .int (mi 4), .int (td 4)])), ((va 4), .inl ((ca 4), 3, .inl (v 4))), ((fo 5), .inr (2, [.int (nm 5), .int (fk 5), .ref (va 5), .int (mi 5), .int (td 5)])), ((va 5), .inl ((ca 5), 3, .inl (v 5))), ((fo 6), .inr (2, [.int (nm 6), .int (fk 6), .ref (va 6), .int (mi 6), .int (td 6)])), ((va 6), .inl ((ca 6), 3, .inl (v 6))), ((fo 7), .inr (2, [.int (nm 7), .int (fk 7), .ref (va 7), .int (mi 7), .int (td 7)])), ((va 7), .inl ((ca 7), 3, .inl (v 7))), ((fo 8), .inr (2, [.int (nm 8), .int (fk 8), .ref (va 8), .int (mi 8), .int (td 8)])), ((va 8), .inl ((ca 8), 3, .inl (v 8))), ((fo 9), .inr (2, [.int (nm 9), .int (fk 9), .ref (va 9), .int (mi 9), .int (td 9)])), ((va 9), .inl ((ca 9), 3, .inl (v 9))), ((fo 10), .inr (2, [.int (nm 10), .int (fk 10), .ref (va 10), .int (mi 10), .int (td 10)])), ((va 10), .inl ((ca 10), 3, .inl (v 10))), ((fo 11), .inr (2, [.int (nm 11), .int (fk 11), .ref (va 11), .int (mi 11), .int (td 11)])), ((va 11), .inl ((ca 11), 3, .inl (v 11))), ((fo 12), .inr (2, [.int (nm 12), .int (fk 12), .ref (va 12), .int (mi 12), .int (td 12)])), ((va 12), .inl ((ca 12), 3, .inl (v 12))), ((fo 13), .inr (2, [.int (nm 13), .int (fk 13), .ref (va 13), .int (mi 13), .int (td 13)])), ((va 13), .inl ((ca 13), 3, .inl (v 13))), ((fo 14), .inr (2, [.int (nm 14), .int (fk 14), .ref (va 14), .int (mi 14), .int (td 14)])), ((va 14), .inl ((ca 14), 3, .inl (v 14))), ((fo 15), .inr (2, [.int (nm 15), .int (fk 15), .ref (va 15), .int (mi 15), .int (td 15)])), ((va 15), .inl ((ca 15), 3, .inl (v 15)))] H1 := hP.kept (fun k x hx => hk1 x.1 ((hP k x hx).lt) (fun h => h))
    generalize H1 = H at hP hS ⊢
    refine lv_if_eq hx hb dX8_outcome_142 rfl (fun q51 => ?_) (fun q51 => ?_)
    · refine lv_aload hx hb dX8_outcome_166 (lv_at hl 0 rfl) ?_
      refine va_get (D := (dC, dI)) (ci := 2) (v := .int (fk 8)) (C := RX2) (T := TX2) (N := 5) hx hb hts (by decide +kernel) hown hK hP 23 rfl rfl 1 (by decide) (hts (.fieldLink RX8 100 "Ruleengine$Fact" "kind" "I") (by decide +kernel)) (fun _ h9 => h9) rfl dX8_outcome_168 ?_
      refine lv_aload_n hx hb dX8_outcome_171 rfl (lv_at hl 6 rfl) ?_
      refine va_get (D := (dC, dI)) (ci := 5) (v := .ref ao) (C := RX5) (T := TX5) (N := 7) hx hb hts (by decide +kernel) hown hK hP 1 rfl rfl 1 (by decide) (hts (.fieldLink RX8 60 "Ruleengine$Part" "atom" "LRuleengine$Atom;") (by decide +kernel)) (fun _ h9 => h9) rfl dX8_outcome_172 ?_
      refine va_get (D := (dC, dI)) (ci := 0) (v := .int kd) (C := RX0) (T := TX0) (N := 6) hx hb hts (by decide +kernel) hown hK hP 2 rfl rfl 0 (by decide) (hts (.fieldLink RX8 103 "Ruleengine$Atom" "kind" "I") (by decide +kernel)) (fun _ h9 => h9) rfl dX8_outcome_175 ?_
      refine lv_icmp_ne hx hb dX8_outcome_178 rfl (fun q52 => ?_) (fun q52 => ?_)
      · refine lv_iinc (v := (9)) (lv' := [(5, .int (9)), (6, .ref (fo 8)), (4, .int sm), (3, .int o), (2, .int n), (0, .ref h0), (1, .ref h1)]) hx hb dX8_outcome_184 hl (k := 1) rfl (by decide) (by decide) rfl (fun ls hl => ?_)
        refine lv_goto hx hb dX8_outcome_187 rfl ?_
        have h0 : rr = 0 := by assumption
        have hf : ¬ lf_fit kd e12 e13 e23 w vs (fk 8) (v 8) := fun hh => by rw [if_pos hh] at hw; rw [hw] at h0; exact absurd h0 (by decide)
        have hp : (fun k => decide (lf_fit kd e12 e13 e23 w vs (fk k) (v k))) 8 = false := decide_eq_false hf
        have hk : fk 8 ≠ kd := by assumption
        have hq : (fun k => !decide (lf_fit kd e12 e13 e23 w vs (fk k) (v k)) && decide (fk k = kd)) 8 = false := by show (!decide (lf_fit kd e12 e13 e23 w vs (fk 8) (v 8)) && decide (fk 8 = kd)) = false; rw [decide_eq_false (p := fk 8 = kd) hk]; exact Bool.and_false _
        exact it9 ls H locs _ _ _ hP hS (lv_sub hl [0, 2, 3, 4, 5, 6] rfl) (by rw [a1]; exact (lf_cnt_n (P := (fun k => decide (lf_fit kd e12 e13 e23 w vs (fk k) (v k)))) (k := 8) hp).symm) (by rw [a2]; exact (lf_cnt_n (P := (fun k => !decide (lf_fit kd e12 e13 e23 w vs (fk k) (v k)) && decide (fk k = kd))) (k := 8) hq).symm) (by rw [a3]; exact (lf_sum_n (P := (fun k => decide (lf_fit kd e12 e13 e23 w vs (fk k) (v k)))) (x := (fun k => v k fa_.toNatClampNeg)) (k := 8) hp).symm)
      · refine lv_iinc (v := (o + 1)) (lv' := [(3, .int (o + 1)), (6, .ref (fo 8)), (5, .int (8)), (4, .int sm), (2, .int n), (0, .ref h0), (1, .ref h1)]) hx hb dX8_outcome_181 hl (k := 3) rfl (by rfl) (by decide) rfl (fun ls hl => ?_)
        refine lv_iinc (v := (9)) (lv' := [(5, .int (9)), (3, .int (o + 1)), (6, .ref (fo 8)), (4, .int sm), (2, .int n), (0, .ref h0), (1, .ref h1)]) hx hb dX8_outcome_184 hl (k := 2) rfl (by decide) (by decide) rfl (fun ls hl => ?_)
        refine lv_goto hx hb dX8_outcome_187 rfl ?_
        have h0 : rr = 0 := by assumption
        have hf : ¬ lf_fit kd e12 e13 e23 w vs (fk 8) (v 8) := fun hh => by rw [if_pos hh] at hw; rw [hw] at h0; exact absurd h0 (by decide)
        have hp : (fun k => decide (lf_fit kd e12 e13 e23 w vs (fk k) (v k))) 8 = false := decide_eq_false hf
        have hk : fk 8 = kd := by assumption
        have hq : (fun k => !decide (lf_fit kd e12 e13 e23 w vs (fk k) (v k)) && decide (fk k = kd)) 8 = true := by show (!decide (lf_fit kd e12 e13 e23 w vs (fk 8) (v 8)) && decide (fk 8 = kd)) = true; rw [decide_eq_false hf, decide_eq_true hk]; rfl
        exact it9 ls H locs _ _ _ hP hS (lv_sub hl [0, 3, 1, 4, 5, 6] rfl) (by rw [a1]; exact (lf_cnt_n (P := (fun k => decide (lf_fit kd e12 e13 e23 w vs (fk k) (v k)))) (k := 8) hp).symm) (by rw [a2]; exact (lf_cnt_y (P := (fun k => !decide (lf_fit kd e12 e13 e23 w vs (fk k) (v k)) && decide (fk k = kd))) (k := 8) hq).symm) (by rw [a3]; exact (lf_sum_n (P := (fun k => decide (lf_fit kd e12 e13 e23 w vs (fk k) (v k)))) (x := (fun k => v k fa_.toNatClampNeg)) (k := 8) hp).symm)
    · refine lv_iinc (v := (n + 1)) (lv' := [(2, .int (n + 1)), (6, .ref (fo 8)), (5, .int (8)), (4, .int sm), (3, .int o), (0, .ref h0), (1, .ref h1)]) hx hb dX8_outcome_145 hl (k := 4) rfl (by rfl) (by decide) rfl (fun ls hl => ?_)
      refine lv_iload hx hb dX8_outcome_148 (lv_at hl 3 rfl) ?_
      refine lv_aload hx hb dX8_outcome_150 (lv_at hl 1 rfl) ?_
      refine va_get (D := (dC, dI)) (ci := 2) (v := .ref (va 8)) (C := RX2) (T := TX2) (N := 5) hx hb hts (by decide +kernel) hown hK hP 23 rfl rfl 2 (by decide) (hts (.fieldLink RX8 92 "Ruleengine$Fact" "value" "[I") (by decide +kernel)) (fun _ h9 => h9) rfl dX8_outcome_152 ?_
      refine lv_aload_n hx hb dX8_outcome_155 rfl (lv_at hl 6 rfl) ?_
      refine va_get (D := (dC, dI)) (ci := 5) (v := .int fa_) (C := RX5) (T := TX5) (N := 7) hx hb hts (by decide +kernel) hown hK hP 1 rfl rfl 6 (by decide) (hts (.fieldLink RX8 97 "Ruleengine$Part" "at" "I") (by decide +kernel)) (fun _ h9 => h9) rfl dX8_outcome_156 ?_
      refine va_iald (i := fa_) hx hb hK hP 24 11 rfl rfl hat dX8_outcome_159 ?_
      refine lv_iadd hx hb dX8_outcome_160 ?_
      refine lv_istore (lv' := [(4, .int (sm + ((v 8) (fa_).toNatClampNeg))), (2, .int (n + 1)), (6, .ref (fo 8)), (5, .int (8)), (3, .int o), (0, .ref h0), (1, .ref h1)]) hx hb dX8_outcome_161 hl (by decide) rfl (fun ls hl => ?_)
      refine lv_goto hx hb dX8_outcome_163 rfl ?_
      refine lv_iinc (v := (9)) (lv' := [(5, .int (9)), (4, .int (sm + ((v 8) (fa_).toNatClampNeg))), (2, .int (n + 1)), (6, .ref (fo 8)), (3, .int o), (0, .ref h0), (1, .ref h1)]) hx hb dX8_outcome_184 hl (k := 3) rfl (by decide) (by decide) rfl (fun ls hl => ?_)
      refine lv_goto hx hb dX8_outcome_187 rfl ?_
      have hf : lf_fit kd e12 e13 e23 w vs (fk 8) (v 8) := Decidable.byContradiction (fun hh => by rw [if_neg hh] at hw; exact absurd hw (by assumption))
      have hp : (fun k => decide (lf_fit kd e12 e13 e23 w vs (fk k) (v k))) 8 = true := decide_eq_true hf
      have hq : (fun k => !decide (lf_fit kd e12 e13 e23 w vs (fk k) (v k)) && decide (fk k = kd)) 8 = false := by show (!decide (lf_fit kd e12 e13 e23 w vs (fk 8) (v 8)) && decide (fk 8 = kd)) = false; rw [decide_eq_true hf]; rfl
      exact it9 ls H locs _ _ _ hP hS (lv_sub hl [0, 1, 4, 2, 5, 6] rfl) (by rw [a1]; exact (lf_cnt_y (P := (fun k => decide (lf_fit kd e12 e13 e23 w vs (fk k) (v k)))) (k := 8) hp).symm) (by rw [a2]; exact (lf_cnt_n (P := (fun k => !decide (lf_fit kd e12 e13 e23 w vs (fk k) (v k)) && decide (fk k = kd))) (k := 8) hq).symm) (by rw [a3]; exact (lf_sum_y (P := (fun k => decide (lf_fit kd e12 e13 e23 w vs (fk k) (v k)))) (x := (fun k => v k fa_.toNatClampNeg)) (k := 8) hp).symm)
  have it7 : ∀ (ls : Array Slot) (H : Heap) (locs : List Loc) (n o sm : Int32), va_P (dC, dI) CL [(h0, .inr (4, .ref st :: .ref po :: .int ps :: .int ie :: .ref g :: mr)), (h1, .inr (5, [.int so, .ref ao, .int le, .int ri, .int rl, .int nw, .int fa_])), (ao, .inr (0, [.int kd, .ref sg, .ref wt, .int e12, .int e13, .int e23])), (wt, .inl (cw, 3, .inl w)), (st, .inr (8, .ref fa :: sr)), (fa, .inl (cf, 16, .inr (.inr (.inr (.inr (fun j => some (fo j))))))), (g, .inl (cg, 6, .inl vs)), ((fo 0), .inr (2, [.int (nm 0), .int (fk 0), .ref (va 0), .int (mi 0), .int (td 0)])), ((va 0), .inl ((ca 0), 3, .inl (v 0))), ((fo 1), .inr (2, [.int (nm 1), .int (fk 1), .ref (va 1), .int (mi 1), .int (td 1)])), ((va 1), .inl ((ca 1), 3, .inl (v 1))), ((fo 2), .inr (2, [.int (nm 2), .int (fk 2), .ref (va 2), .int (mi 2), .int (td 2)])), ((va 2), .inl ((ca 2), 3, .inl (v 2))), ((fo 3), .inr (2, [.int (nm 3), .int (fk 3), .ref (va 3), .int (mi 3), .int (td 3)])), ((va 3), .inl ((ca 3), 3, .inl (v 3))), ((fo 4), .inr (2, [.int (nm 4), .int (fk 4), .ref (va 4), .int (mi 4), .int (td 4)])), ((va 4), .inl ((ca 4), 3, .inl (v 4))), ((fo 5), .inr (2, [.int (nm 5), .int (fk 5), .ref (va 5), .int (mi 5), .int (td 5)])), ((va 5), .inl ((ca 5), 3, .inl (v 5))), ((fo 6), .inr (2, [.int (nm 6), .int (fk 6), .ref (va 6), .int (mi 6), .int (td 6)])), ((va 6), .inl ((ca 6), 3, .inl (v 6))), ((fo 7), .inr (2, [.int (nm 7), .int (fk 7), .ref (va 7), .int (mi 7), .int (td 7)])), ((va 7), .inl ((ca 7), 3, .inl (v 7))), ((fo 8), .inr (2, [.int (nm 8), .int (fk 8), .ref (va 8), .int (mi 8), .int (td 8)])), ((va 8), .inl ((ca 8), 3, .inl (v 8))), ((fo 9), .inr (2, [.int (nm 9), .int (fk 9), .ref (va 9), .int (mi 9), .int (td 9)])), ((va 9), .inl ((ca 9), 3, .inl (v 9))), ((fo 10), .inr (2, [.int (nm 10), .int (fk 10), .ref (va 10), .int (mi 10), .int (td 10)])), ((va 10), .inl ((ca 10), 3, .inl (v 10))), ((fo 11), .inr (2, [.int (nm 11), .int (fk 11), .ref (va 11), .int (mi 11), .int (td 11)])), ((va 11), .inl ((ca 11), 3, .inl (v 11))), ((fo 12), .inr (2, [.int (nm 12), .int (fk 12), .ref (va 12), .int (mi 12), .int (td 12)])), ((va 12), .inl ((ca 12), 3, .inl (v 12))), ((fo 13), .inr (2, [.int (nm 13), .int (fk 13), .ref (va 13), .int (mi 13), .int (td 13)])), ((va 13), .inl ((ca 13), 3, .inl (v 13))), ((fo 14), .inr (2, [.int (nm 14), .int (fk 14), .ref (va 14), .int (mi 14), .int (td 14)])), ((va 14), .inl ((ca 14), 3, .inl (v 14))), ((fo 15), .inr (2, [.int (nm 15), .int (fk 15), .ref (va 15), .int (mi 15), .int (td 15)])), ((va 15), .inl ((ca 15), 3, .inl (v 15)))] H → va_S A s.heap H locs → lv_has ls 7 [(5, .int (7)), (4, .int sm), (3, .int o), (2, .int n), (0, .ref h0), (1, .ref h1)] → n = lf_cnt (fun k => decide (lf_fit kd e12 e13 e23 w vs (fk k) (v k))) 7 → o = lf_cnt (fun k => !decide (lf_fit kd e12 e13 e23 w vs (fk k) (v k)) && decide (fk k = kd)) 7 → sm = lf_sum (fun k => decide (lf_fit kd e12 e13 e23 w vs (fk k) (v k))) (fun k => v k fa_.toNatClampNeg) 7 → W p l e (headSpec wqX8_outcome ({ frames := 1, cells := 0, slots := 0, locals := 24 })).room s m #[.ref h0, .ref h1] below meth c H locs 0 0 (MQ below (va_Qi (fun (r : Int32) (u : Nat → Int32) => (u = if (so = 4 ∨ so = 5) ∧ nw ≠ 0 then upd vs (le - 16).toNatClampNeg (if so = 5 then lf_sum (fun k => decide (lf_fit kd e12 e13 e23 w vs (fk k) (v k))) (fun k => v k fa_.toNatClampNeg) 16 else lf_cnt (fun k => decide (lf_fit kd e12 e13 e23 w vs (fk k) (v k))) 16) else vs) ∧ r = if so = 4 ∨ so = 5 then (if u (le - 16).toNatClampNeg = (if so = 5 then lf_sum (fun k => decide (lf_fit kd e12 e13 e23 w vs (fk k) (v k))) (fun k => v k fa_.toNatClampNeg) 16 else lf_cnt (fun k => decide (lf_fit kd e12 e13 e23 w vs (fk k) (v k))) 16) then (if so = 5 then lf_sum (fun k => decide (lf_fit kd e12 e13 e23 w vs (fk k) (v k))) (fun k => v k fa_.toNatClampNeg) 16 else lf_cnt (fun k => decide (lf_fit kd e12 e13 e23 w vs (fk k) (v k))) 16) else -1) else if (if so = 2 then 0 < lf_cnt (fun k => decide (lf_fit kd e12 e13 e23 w vs (fk k) (v k))) 16 else (if so = 3 then lf_cnt (fun k => !decide (lf_fit kd e12 e13 e23 w vs (fk k) (v k)) && decide (fk k = kd)) 16 else lf_cnt (fun k => decide (lf_fit kd e12 e13 e23 w vs (fk k) (v k))) 16) = 0) then 0 else -1) (fun u t => va_P (dC, dI) CL [(h0, .inr (4, .ref st :: .ref po :: .int ps :: .int ie :: .ref g :: mr)), (h1, .inr (5, [.int so, .ref ao, .int le, .int ri, .int rl, .int nw, .int fa_])), (ao, .inr (0, [.int kd, .ref sg, .ref wt, .int e12, .int e13, .int e23])), (wt, .inl (cw, 3, .inl w)), (st, .inr (8, .ref fa :: sr)), (fa, .inl (cf, 16, .inr (.inr (.inr (.inr (fun j => some (fo j))))))), (g, .inl (cg, 6, .inl u)), ((fo 0), .inr (2, [.int (nm 0), .int (fk 0), .ref (va 0), .int (mi 0), .int (td 0)])), ((va 0), .inl ((ca 0), 3, .inl (v 0))), ((fo 1), .inr (2, [.int (nm 1), .int (fk 1), .ref (va 1), .int (mi 1), .int (td 1)])), ((va 1), .inl ((ca 1), 3, .inl (v 1))), ((fo 2), .inr (2, [.int (nm 2), .int (fk 2), .ref (va 2), .int (mi 2), .int (td 2)])), ((va 2), .inl ((ca 2), 3, .inl (v 2))), ((fo 3), .inr (2, [.int (nm 3), .int (fk 3), .ref (va 3), .int (mi 3), .int (td 3)])), ((va 3), .inl ((ca 3), 3, .inl (v 3))), ((fo 4), .inr (2, [.int (nm 4), .int (fk 4), .ref (va 4), .int (mi 4), .int (td 4)])), ((va 4), .inl ((ca 4), 3, .inl (v 4))), ((fo 5), .inr (2, [.int (nm 5), .int (fk 5), .ref (va 5), .int (mi 5), .int (td 5)])), ((va 5), .inl ((ca 5), 3, .inl (v 5))), ((fo 6), .inr (2, [.int (nm 6), .int (fk 6), .ref (va 6), .int (mi 6), .int (td 6)])), ((va 6), .inl ((ca 6), 3, .inl (v 6))), ((fo 7), .inr (2, [.int (nm 7), .int (fk 7), .ref (va 7), .int (mi 7), .int (td 7)])), ((va 7), .inl ((ca 7), 3, .inl (v 7))), ((fo 8), .inr (2, [.int (nm 8), .int (fk 8), .ref (va 8), .int (mi 8), .int (td 8)])), ((va 8), .inl ((ca 8), 3, .inl (v 8))), ((fo 9), .inr (2, [.int (nm 9), .int (fk 9), .ref (va 9), .int (mi 9), .int (td 9)])), ((va 9), .inl ((ca 9), 3, .inl (v 9))), ((fo 10), .inr (2, [.int (nm 10), .int (fk 10), .ref (va 10), .int (mi 10), .int (td 10)])), ((va 10), .inl ((ca 10), 3, .inl (v 10))), ((fo 11), .inr (2, [.int (nm 11), .int (fk 11), .ref (va 11), .int (mi 11), .int (td 11)])), ((va 11), .inl ((ca 11), 3, .inl (v 11))), ((fo 12), .inr (2, [.int (nm 12), .int (fk 12), .ref (va 12), .int (mi 12), .int (td 12)])), ((va 12), .inl ((ca 12), 3, .inl (v 12))), ((fo 13), .inr (2, [.int (nm 13), .int (fk 13), .ref (va 13), .int (mi 13), .int (td 13)])), ((va 13), .inl ((ca 13), 3, .inl (v 13))), ((fo 14), .inr (2, [.int (nm 14), .int (fk 14), .ref (va 14), .int (mi 14), .int (td 14)])), ((va 14), .inl ((ca 14), 3, .inl (v 14))), ((fo 15), .inr (2, [.int (nm 15), .int (fk 15), .ref (va 15), .int (mi 15), .int (td 15)])), ((va 15), .inl ((ca 15), 3, .inl (v 15)))] t.heap ∧ va_K (dC, dI) CL [(cw, .int), (cf, .object RX2), (cg, .int), ((ca 0), .int), ((ca 1), .int), ((ca 2), .int), ((ca 3), .int), ((ca 4), .int), ((ca 5), .int), ((ca 6), .int), ((ca 7), .int), ((ca 8), .int), ((ca 9), .int), ((ca 10), .int), ((ca 11), .int), ((ca 12), .int), ((ca 13), .int), ((ca 14), .int), ((ca 15), .int)] t ∧ va_D (A) [(h0, .inr (4, .ref st :: .ref po :: .int ps :: .int ie :: .ref g :: mr)), (h1, .inr (5, [.int so, .ref ao, .int le, .int ri, .int rl, .int nw, .int fa_])), (ao, .inr (0, [.int kd, .ref sg, .ref wt, .int e12, .int e13, .int e23])), (wt, .inl (cw, 3, .inl w)), (st, .inr (8, .ref fa :: sr)), (fa, .inl (cf, 16, .inr (.inr (.inr (.inr (fun j => some (fo j))))))), (g, .inl (cg, 6, .inl u)), ((fo 0), .inr (2, [.int (nm 0), .int (fk 0), .ref (va 0), .int (mi 0), .int (td 0)])), ((va 0), .inl ((ca 0), 3, .inl (v 0))), ((fo 1), .inr (2, [.int (nm 1), .int (fk 1), .ref (va 1), .int (mi 1), .int (td 1)])), ((va 1), .inl ((ca 1), 3, .inl (v 1))), ((fo 2), .inr (2, [.int (nm 2), .int (fk 2), .ref (va 2), .int (mi 2), .int (td 2)])), ((va 2), .inl ((ca 2), 3, .inl (v 2))), ((fo 3), .inr (2, [.int (nm 3), .int (fk 3), .ref (va 3), .int (mi 3), .int (td 3)])), ((va 3), .inl ((ca 3), 3, .inl (v 3))), ((fo 4), .inr (2, [.int (nm 4), .int (fk 4), .ref (va 4), .int (mi 4), .int (td 4)])), ((va 4), .inl ((ca 4), 3, .inl (v 4))), ((fo 5), .inr (2, [.int (nm 5), .int (fk 5), .ref (va 5), .int (mi 5), .int (td 5)])), ((va 5), .inl ((ca 5), 3, .inl (v 5))), ((fo 6), .inr (2, [.int (nm 6), .int (fk 6), .ref (va 6), .int (mi 6), .int (td 6)])), ((va 6), .inl ((ca 6), 3, .inl (v 6))), ((fo 7), .inr (2, [.int (nm 7), .int (fk 7), .ref (va 7), .int (mi 7), .int (td 7)])), ((va 7), .inl ((ca 7), 3, .inl (v 7))), ((fo 8), .inr (2, [.int (nm 8), .int (fk 8), .ref (va 8), .int (mi 8), .int (td 8)])), ((va 8), .inl ((ca 8), 3, .inl (v 8))), ((fo 9), .inr (2, [.int (nm 9), .int (fk 9), .ref (va 9), .int (mi 9), .int (td 9)])), ((va 9), .inl ((ca 9), 3, .inl (v 9))), ((fo 10), .inr (2, [.int (nm 10), .int (fk 10), .ref (va 10), .int (mi 10), .int (td 10)])), ((va 10), .inl ((ca 10), 3, .inl (v 10))), ((fo 11), .inr (2, [.int (nm 11), .int (fk 11), .ref (va 11), .int (mi 11), .int (td 11)])), ((va 11), .inl ((ca 11), 3, .inl (v 11))), ((fo 12), .inr (2, [.int (nm 12), .int (fk 12), .ref (va 12), .int (mi 12), .int (td 12)])), ((va 12), .inl ((ca 12), 3, .inl (v 12))), ((fo 13), .inr (2, [.int (nm 13), .int (fk 13), .ref (va 13), .int (mi 13), .int (td 13)])), ((va 13), .inl ((ca 13), 3, .inl (v 13))), ((fo 14), .inr (2, [.int (nm 14), .int (fk 14), .ref (va 14), .int (mi 14), .int (td 14)])), ((va 14), .inl ((ca 14), 3, .inl (v 14))), ((fo 15), .inr (2, [.int (nm 15), .int (fk 15), .ref (va 15), .int (mi 15), .int (td 15)])), ((va 15), .inl ((ca 15), 3, .inl (v 15)))]) (A)) #[.ref h0, .ref h1] s 0 0 A) (F0 m 110 ls []) := by
    intro ls H locs n o sm hP hS hl a1 a2 a3
    refine lv_iload hx hb dX8_outcome_110 (lv_at hl 0 rfl) ?_
    refine lv_bipush (v := (16 : Int32)) hx hb dX8_outcome_112 (by decide) ?_
    refine lv_icmp_ge hx hb dX8_outcome_114 rfl (fun q => absurd q (by decide)) (fun _ => ?_)
    refine lv_aload_n hx hb dX8_outcome_117 rfl (lv_at hl 4 rfl) ?_
    refine va_get (D := (dC, dI)) (ci := 4) (v := .ref st) (C := RX4) (T := TX4) (N := 17) hx hb hts (by decide +kernel) hown hK hP 0 rfl rfl 0 (by decide) (hts (.fieldLink RX8 18 "Ruleengine$Search" "state" "LRuleengine$State;") (by decide +kernel)) (fun _ h9 => h9) rfl dX8_outcome_118 ?_
    refine va_get (D := (dC, dI)) (ci := 8) (v := .ref fa) (C := RX9) (T := TX9) (N := 13) hx hb hts (by decide +kernel) hown hK hP 4 rfl rfl 0 (by decide) (hts (.fieldLink RX8 87 "Ruleengine$State" "fact" "[LRuleengine$Fact;") (by decide +kernel)) (fun _ h9 => h9) rfl dX8_outcome_121 ?_
    refine lv_iload hx hb dX8_outcome_124 (lv_at hl 0 rfl) ?_
    refine va_aldq (i := (7)) hx hb hK hP 5 1 rfl rfl (by unfold vp_in; decide) dX8_outcome_126 ?_
    refine W.eq (g2 := F0 m 127 _ (.ref (fo 7) :: _)) rfl ?_
    refine lv_astore (lv' := [(6, .ref (fo 7)), (5, .int (7)), (4, .int sm), (3, .int o), (2, .int n), (0, .ref h0), (1, .ref h1)]) hx hb dX8_outcome_127 hl (by decide) rfl (fun ls hl => ?_)
    refine lv_aload_n hx hb dX8_outcome_129 rfl (lv_at hl 6 rfl) ?_
    refine va_get (D := (dC, dI)) (ci := 5) (v := .ref ao) (C := RX5) (T := TX5) (N := 7) hx hb hts (by decide +kernel) hown hK hP 1 rfl rfl 1 (by decide) (hts (.fieldLink RX8 60 "Ruleengine$Part" "atom" "LRuleengine$Atom;") (by decide +kernel)) (fun _ h9 => h9) rfl dX8_outcome_130 ?_
    refine lv_aload hx hb dX8_outcome_133 (lv_at hl 0 rfl) ?_
    refine lv_aload_n hx hb dX8_outcome_135 rfl (lv_at hl 5 rfl) ?_
    refine va_get (D := (dC, dI)) (ci := 4) (v := .ref g) (C := RX4) (T := TX4) (N := 17) hx hb hts (by decide +kernel) hown hK hP 0 rfl rfl 4 (by decide) (hts (.fieldLink RX8 9 "Ruleengine$Search" "values" "[I") (by decide +kernel)) (fun _ h9 => h9) rfl dX8_outcome_136 ?_
    have hPc := hP.sub (ws' := [(ao, .inr (0, [.int kd, .ref sg, .ref wt, .int e12, .int e13, .int e23])), (wt, .inl (cw, 3, .inl w)), ((fo 7), .inr (2, [.int (nm 7), .int (fk 7), .ref (va 7), .int (mi 7), .int (td 7)])), ((va 7), .inl ((ca 7), 3, .inl (v 7))), (g, .inl (cg, 6, .inl vs))]) [2, 3, 21, 22, 6] rfl
    have hDc := hD.sub (ws' := [(ao, .inr (0, [.int kd, .ref sg, .ref wt, .int e12, .int e13, .int e23])), (wt, .inl (cw, 3, .inl w)), ((fo 7), .inr (2, [.int (nm 7), .int (fk 7), .ref (va 7), .int (mi 7), .int (td 7)])), ((va 7), .inl ((ca 7), 3, .inl (v 7))), (g, .inl (cg, 6, .inl vs))]) [2, 3, 21, 22, 6] (by decide) rfl
    have hKc := hK.sub (tys' := [(cw, .int), ((ca 7), .int), (cg, .int)]) [0, 10, 2] rfl
    refine va_calli (va_runV (As := [.ref (fo 7), .ref g]) (rest := []) ⟨hx, hb, hml, hown, hts⟩ (kX0_fits l dC dI H.size ao sg wt (fo 7) (va 7) g cw (ca 7) cg kd e12 e13 e23 (nm 7) (fk 7) (mi 7) (td 7) w (v 7) vs) (cwV 2 hts ggq rfl rfl rfl (by decide +kernel) ⟨Nat.le_of_ble_eq_true rfl, Nat.le_of_ble_eq_true rfl⟩) ⟨fun a U g mk q => by obtain ⟨q0, q1, qP, qK, qD⟩ := q; exact ⟨q0, q1, qP, va_K.moved (u := U) (U := U.calling g mk a) (Vm.Alike.refl U.vm) qK, qD⟩, va_recv hKc hPc (ci := 0) (q0 := 0) rfl rfl, fun U hU hW => ⟨rfl, by rw [hU], by rw [hU]; exact hPc, va_K.moved hW.alike hKc, hDc.weaken (fun _ _ _ _ => trivial)⟩⟩ rfl rfl hl.1 rfl (lv_room (Nat.le_of_ble_eq_true rfl)) dX8_outcome_139 ⟨Nat.le_of_ble_eq_true rfl, Nat.le_of_ble_eq_true rfl⟩) hS (fun q _ h => h.elim) (fun q h => h.elim) (fun rr u t H1 locs ht hvm hw hB hz1 hk1 hS => ?_)
    have hP : va_P (dC, dI) CL [(h0, .inr (4, .ref st :: .ref po :: .int ps :: .int ie :: .ref g :: mr)), (h1, .inr (5, [.int so, .ref ao, .int le, .int ri, .int rl, .int nw, .int fa_])), (ao, .inr (0, [.int kd, .ref sg, .ref wt, .int e12, .int e13, .int e23])), (wt, .inl (cw, 3, .inl w)), (st, .inr (8, .ref fa :: sr)), (fa, .inl (cf, 16, .inr (.inr (.inr (.inr (fun j => some (fo j))))))), (g, .inl (cg, 6, .inl vs)), ((fo 0), .inr (2, [.int (nm 0), .int (fk 0), .ref (va 0), .int (mi 0), .int (td 0)])), ((va 0), .inl ((ca 0), 3, .inl (v 0))), ((fo 1), .inr (2, [.int (nm 1), .int (fk 1), .ref (va 1), .int (mi 1), .int (td 1)])), ((va 1), .inl ((ca 1), 3, .inl (v 1))), ((fo 2), .inr (2, [.int (nm 2), .int (fk 2), .ref (va 2), .int (mi 2), .int (td 2)])), ((va 2), .inl ((ca 2), 3, .inl (v 2))), ((fo 3), .inr (2, [.int (nm 3), .int (fk 3), .ref (va 3), .int (mi 3), .int (td 3)])), ((va 3), .inl ((ca 3), 3, .inl (v 3))), ((fo 4), .inr (2, [.int (nm 4), .int (fk 4), .ref (va 4), .int (mi 4), .int (td 4)])), ((va 4), .inl ((ca 4), 3, .inl (v 4))), ((fo 5), .inr (2, [.int (nm 5), .int (fk 5), .ref (va 5), .int (mi 5), .int (td 5)])), ((va 5), .inl ((ca 5), 3, .inl (v 5))), ((fo 6), .inr (2, [.int (nm 6), .int (fk 6), .ref (va 6), .int (mi 6), .int (td 6)])), ((va 6), .inl ((ca 6), 3, .inl (v 6))), ((fo 7), .inr (2, [.int (nm 7), .int (fk 7), .ref (va 7), .int (mi 7), .int (td 7)])), ((va 7), .inl ((ca 7), 3, .inl (v 7))), ((fo 8), .inr (2, [.int (nm 8), .int (fk 8), .ref (va 8), .int (mi 8), .int (td 8)])), ((va 8), .inl ((ca 8), 3, .inl (v 8))), ((fo 9), .inr (2, [.int (nm 9), .int (fk 9), .ref (va 9), .int (mi 9), .int (td 9)])), ((va 9), .inl ((ca 9), 3, .inl (v 9))), ((fo 10), .inr (2, [.int (nm 10), .int (fk 10), .ref (va 10), .int (mi 10), .int (td 10)])), ((va 10), .inl ((ca 10), 3, .inl (v 10))), ((fo 11), .inr (2, [.int (nm 11), .int (fk 11), .ref (va 11), .int (mi 11), .int (td 11)])), ((va 11), .inl ((ca 11), 3, .inl (v 11))), ((fo 12), .inr (2, [.int (nm 12), .int (fk 12), .ref (va 12), .int (mi 12), .int (td 12)])), ((va 12), .inl ((ca 12), 3, .inl (v 12))), ((fo 13), .inr (2, [.int (nm 13), .int (fk 13), .ref (va 13), .int (mi 13), .int (td 13)])), ((va 13), .inl ((ca 13), 3, .inl (v 13))), ((fo 14), .inr (2, [.int (nm 14), .int (fk 14), .ref (va 14), .int (mi 14), .int (td 14)])), ((va 14), .inl ((ca 14), 3, .inl (v 14))), ((fo 15), .inr (2, [.int (nm 15), .int (fk 15), .ref (va 15), .int (mi 15), .int (td 15)])), ((va 15), .inl ((ca 15), 3, .inl (v 15)))] H1 := hP.kept (fun k x hx => hk1 x.1 ((hP k x hx).lt) (fun h => h))
    generalize H1 = H at hP hS ⊢
    refine lv_if_eq hx hb dX8_outcome_142 rfl (fun q54 => ?_) (fun q54 => ?_)
    · refine lv_aload hx hb dX8_outcome_166 (lv_at hl 0 rfl) ?_
      refine va_get (D := (dC, dI)) (ci := 2) (v := .int (fk 7)) (C := RX2) (T := TX2) (N := 5) hx hb hts (by decide +kernel) hown hK hP 21 rfl rfl 1 (by decide) (hts (.fieldLink RX8 100 "Ruleengine$Fact" "kind" "I") (by decide +kernel)) (fun _ h9 => h9) rfl dX8_outcome_168 ?_
      refine lv_aload_n hx hb dX8_outcome_171 rfl (lv_at hl 6 rfl) ?_
      refine va_get (D := (dC, dI)) (ci := 5) (v := .ref ao) (C := RX5) (T := TX5) (N := 7) hx hb hts (by decide +kernel) hown hK hP 1 rfl rfl 1 (by decide) (hts (.fieldLink RX8 60 "Ruleengine$Part" "atom" "LRuleengine$Atom;") (by decide +kernel)) (fun _ h9 => h9) rfl dX8_outcome_172 ?_
      refine va_get (D := (dC, dI)) (ci := 0) (v := .int kd) (C := RX0) (T := TX0) (N := 6) hx hb hts (by decide +kernel) hown hK hP 2 rfl rfl 0 (by decide) (hts (.fieldLink RX8 103 "Ruleengine$Atom" "kind" "I") (by decide +kernel)) (fun _ h9 => h9) rfl dX8_outcome_175 ?_
      refine lv_icmp_ne hx hb dX8_outcome_178 rfl (fun q55 => ?_) (fun q55 => ?_)
      · refine lv_iinc (v := (8)) (lv' := [(5, .int (8)), (6, .ref (fo 7)), (4, .int sm), (3, .int o), (2, .int n), (0, .ref h0), (1, .ref h1)]) hx hb dX8_outcome_184 hl (k := 1) rfl (by decide) (by decide) rfl (fun ls hl => ?_)
        refine lv_goto hx hb dX8_outcome_187 rfl ?_
        have h0 : rr = 0 := by assumption
        have hf : ¬ lf_fit kd e12 e13 e23 w vs (fk 7) (v 7) := fun hh => by rw [if_pos hh] at hw; rw [hw] at h0; exact absurd h0 (by decide)
        have hp : (fun k => decide (lf_fit kd e12 e13 e23 w vs (fk k) (v k))) 7 = false := decide_eq_false hf
        have hk : fk 7 ≠ kd := by assumption
        have hq : (fun k => !decide (lf_fit kd e12 e13 e23 w vs (fk k) (v k)) && decide (fk k = kd)) 7 = false := by show (!decide (lf_fit kd e12 e13 e23 w vs (fk 7) (v 7)) && decide (fk 7 = kd)) = false; rw [decide_eq_false (p := fk 7 = kd) hk]; exact Bool.and_false _
        exact it8 ls H locs _ _ _ hP hS (lv_sub hl [0, 2, 3, 4, 5, 6] rfl) (by rw [a1]; exact (lf_cnt_n (P := (fun k => decide (lf_fit kd e12 e13 e23 w vs (fk k) (v k)))) (k := 7) hp).symm) (by rw [a2]; exact (lf_cnt_n (P := (fun k => !decide (lf_fit kd e12 e13 e23 w vs (fk k) (v k)) && decide (fk k = kd))) (k := 7) hq).symm) (by rw [a3]; exact (lf_sum_n (P := (fun k => decide (lf_fit kd e12 e13 e23 w vs (fk k) (v k)))) (x := (fun k => v k fa_.toNatClampNeg)) (k := 7) hp).symm)
      · refine lv_iinc (v := (o + 1)) (lv' := [(3, .int (o + 1)), (6, .ref (fo 7)), (5, .int (7)), (4, .int sm), (2, .int n), (0, .ref h0), (1, .ref h1)]) hx hb dX8_outcome_181 hl (k := 3) rfl (by rfl) (by decide) rfl (fun ls hl => ?_)
        refine lv_iinc (v := (8)) (lv' := [(5, .int (8)), (3, .int (o + 1)), (6, .ref (fo 7)), (4, .int sm), (2, .int n), (0, .ref h0), (1, .ref h1)]) hx hb dX8_outcome_184 hl (k := 2) rfl (by decide) (by decide) rfl (fun ls hl => ?_)
        refine lv_goto hx hb dX8_outcome_187 rfl ?_
        have h0 : rr = 0 := by assumption
        have hf : ¬ lf_fit kd e12 e13 e23 w vs (fk 7) (v 7) := fun hh => by rw [if_pos hh] at hw; rw [hw] at h0; exact absurd h0 (by decide)
        have hp : (fun k => decide (lf_fit kd e12 e13 e23 w vs (fk k) (v k))) 7 = false := decide_eq_false hf
        have hk : fk 7 = kd := by assumption
        have hq : (fun k => !decide (lf_fit kd e12 e13 e23 w vs (fk k) (v k)) && decide (fk k = kd)) 7 = true := by show (!decide (lf_fit kd e12 e13 e23 w vs (fk 7) (v 7)) && decide (fk 7 = kd)) = true; rw [decide_eq_false hf, decide_eq_true hk]; rfl
        exact it8 ls H locs _ _ _ hP hS (lv_sub hl [0, 3, 1, 4, 5, 6] rfl) (by rw [a1]; exact (lf_cnt_n (P := (fun k => decide (lf_fit kd e12 e13 e23 w vs (fk k) (v k)))) (k := 7) hp).symm) (by rw [a2]; exact (lf_cnt_y (P := (fun k => !decide (lf_fit kd e12 e13 e23 w vs (fk k) (v k)) && decide (fk k = kd))) (k := 7) hq).symm) (by rw [a3]; exact (lf_sum_n (P := (fun k => decide (lf_fit kd e12 e13 e23 w vs (fk k) (v k)))) (x := (fun k => v k fa_.toNatClampNeg)) (k := 7) hp).symm)
    · refine lv_iinc (v := (n + 1)) (lv' := [(2, .int (n + 1)), (6, .ref (fo 7)), (5, .int (7)), (4, .int sm), (3, .int o), (0, .ref h0), (1, .ref h1)]) hx hb dX8_outcome_145 hl (k := 4) rfl (by rfl) (by decide) rfl (fun ls hl => ?_)
      refine lv_iload hx hb dX8_outcome_148 (lv_at hl 3 rfl) ?_
      refine lv_aload hx hb dX8_outcome_150 (lv_at hl 1 rfl) ?_
      refine va_get (D := (dC, dI)) (ci := 2) (v := .ref (va 7)) (C := RX2) (T := TX2) (N := 5) hx hb hts (by decide +kernel) hown hK hP 21 rfl rfl 2 (by decide) (hts (.fieldLink RX8 92 "Ruleengine$Fact" "value" "[I") (by decide +kernel)) (fun _ h9 => h9) rfl dX8_outcome_152 ?_
      refine lv_aload_n hx hb dX8_outcome_155 rfl (lv_at hl 6 rfl) ?_
      refine va_get (D := (dC, dI)) (ci := 5) (v := .int fa_) (C := RX5) (T := TX5) (N := 7) hx hb hts (by decide +kernel) hown hK hP 1 rfl rfl 6 (by decide) (hts (.fieldLink RX8 97 "Ruleengine$Part" "at" "I") (by decide +kernel)) (fun _ h9 => h9) rfl dX8_outcome_156 ?_
      refine va_iald (i := fa_) hx hb hK hP 22 10 rfl rfl hat dX8_outcome_159 ?_
      refine lv_iadd hx hb dX8_outcome_160 ?_
      refine lv_istore (lv' := [(4, .int (sm + ((v 7) (fa_).toNatClampNeg))), (2, .int (n + 1)), (6, .ref (fo 7)), (5, .int (7)), (3, .int o), (0, .ref h0), (1, .ref h1)]) hx hb dX8_outcome_161 hl (by decide) rfl (fun ls hl => ?_)
      refine lv_goto hx hb dX8_outcome_163 rfl ?_
      refine lv_iinc (v := (8)) (lv' := [(5, .int (8)), (4, .int (sm + ((v 7) (fa_).toNatClampNeg))), (2, .int (n + 1)), (6, .ref (fo 7)), (3, .int o), (0, .ref h0), (1, .ref h1)]) hx hb dX8_outcome_184 hl (k := 3) rfl (by decide) (by decide) rfl (fun ls hl => ?_)
      refine lv_goto hx hb dX8_outcome_187 rfl ?_
      have hf : lf_fit kd e12 e13 e23 w vs (fk 7) (v 7) := Decidable.byContradiction (fun hh => by rw [if_neg hh] at hw; exact absurd hw (by assumption))
      have hp : (fun k => decide (lf_fit kd e12 e13 e23 w vs (fk k) (v k))) 7 = true := decide_eq_true hf
      have hq : (fun k => !decide (lf_fit kd e12 e13 e23 w vs (fk k) (v k)) && decide (fk k = kd)) 7 = false := by show (!decide (lf_fit kd e12 e13 e23 w vs (fk 7) (v 7)) && decide (fk 7 = kd)) = false; rw [decide_eq_true hf]; rfl
      exact it8 ls H locs _ _ _ hP hS (lv_sub hl [0, 1, 4, 2, 5, 6] rfl) (by rw [a1]; exact (lf_cnt_y (P := (fun k => decide (lf_fit kd e12 e13 e23 w vs (fk k) (v k)))) (k := 7) hp).symm) (by rw [a2]; exact (lf_cnt_n (P := (fun k => !decide (lf_fit kd e12 e13 e23 w vs (fk k) (v k)) && decide (fk k = kd))) (k := 7) hq).symm) (by rw [a3]; exact (lf_sum_y (P := (fun k => decide (lf_fit kd e12 e13 e23 w vs (fk k) (v k)))) (x := (fun k => v k fa_.toNatClampNeg)) (k := 7) hp).symm)
  have it6 : ∀ (ls : Array Slot) (H : Heap) (locs : List Loc) (n o sm : Int32), va_P (dC, dI) CL [(h0, .inr (4, .ref st :: .ref po :: .int ps :: .int ie :: .ref g :: mr)), (h1, .inr (5, [.int so, .ref ao, .int le, .int ri, .int rl, .int nw, .int fa_])), (ao, .inr (0, [.int kd, .ref sg, .ref wt, .int e12, .int e13, .int e23])), (wt, .inl (cw, 3, .inl w)), (st, .inr (8, .ref fa :: sr)), (fa, .inl (cf, 16, .inr (.inr (.inr (.inr (fun j => some (fo j))))))), (g, .inl (cg, 6, .inl vs)), ((fo 0), .inr (2, [.int (nm 0), .int (fk 0), .ref (va 0), .int (mi 0), .int (td 0)])), ((va 0), .inl ((ca 0), 3, .inl (v 0))), ((fo 1), .inr (2, [.int (nm 1), .int (fk 1), .ref (va 1), .int (mi 1), .int (td 1)])), ((va 1), .inl ((ca 1), 3, .inl (v 1))), ((fo 2), .inr (2, [.int (nm 2), .int (fk 2), .ref (va 2), .int (mi 2), .int (td 2)])), ((va 2), .inl ((ca 2), 3, .inl (v 2))), ((fo 3), .inr (2, [.int (nm 3), .int (fk 3), .ref (va 3), .int (mi 3), .int (td 3)])), ((va 3), .inl ((ca 3), 3, .inl (v 3))), ((fo 4), .inr (2, [.int (nm 4), .int (fk 4), .ref (va 4), .int (mi 4), .int (td 4)])), ((va 4), .inl ((ca 4), 3, .inl (v 4))), ((fo 5), .inr (2, [.int (nm 5), .int (fk 5), .ref (va 5), .int (mi 5), .int (td 5)])), ((va 5), .inl ((ca 5), 3, .inl (v 5))), ((fo 6), .inr (2, [.int (nm 6), .int (fk 6), .ref (va 6), .int (mi 6), .int (td 6)])), ((va 6), .inl ((ca 6), 3, .inl (v 6))), ((fo 7), .inr (2, [.int (nm 7), .int (fk 7), .ref (va 7), .int (mi 7), .int (td 7)])), ((va 7), .inl ((ca 7), 3, .inl (v 7))), ((fo 8), .inr (2, [.int (nm 8), .int (fk 8), .ref (va 8), .int (mi 8), .int (td 8)])), ((va 8), .inl ((ca 8), 3, .inl (v 8))), ((fo 9), .inr (2, [.int (nm 9), .int (fk 9), .ref (va 9), .int (mi 9), .int (td 9)])), ((va 9), .inl ((ca 9), 3, .inl (v 9))), ((fo 10), .inr (2, [.int (nm 10), .int (fk 10), .ref (va 10), .int (mi 10), .int (td 10)])), ((va 10), .inl ((ca 10), 3, .inl (v 10))), ((fo 11), .inr (2, [.int (nm 11), .int (fk 11), .ref (va 11), .int (mi 11), .int (td 11)])), ((va 11), .inl ((ca 11), 3, .inl (v 11))), ((fo 12), .inr (2, [.int (nm 12), .int (fk 12), .ref (va 12), .int (mi 12), .int (td 12)])), ((va 12), .inl ((ca 12), 3, .inl (v 12))), ((fo 13), .inr (2, [.int (nm 13), .int (fk 13), .ref (va 13), .int (mi 13), .int (td 13)])), ((va 13), .inl ((ca 13), 3, .inl (v 13))), ((fo 14), .inr (2, [.int (nm 14), .int (fk 14), .ref (va 14), .int (mi 14), .int (td 14)])), ((va 14), .inl ((ca 14), 3, .inl (v 14))), ((fo 15), .inr (2, [.int (nm 15), .int (fk 15), .ref (va 15), .int (mi 15), .int (td 15)])), ((va 15), .inl ((ca 15), 3, .inl (v 15)))] H → va_S A s.heap H locs → lv_has ls 7 [(5, .int (6)), (4, .int sm), (3, .int o), (2, .int n), (0, .ref h0), (1, .ref h1)] → n = lf_cnt (fun k => decide (lf_fit kd e12 e13 e23 w vs (fk k) (v k))) 6 → o = lf_cnt (fun k => !decide (lf_fit kd e12 e13 e23 w vs (fk k) (v k)) && decide (fk k = kd)) 6 → sm = lf_sum (fun k => decide (lf_fit kd e12 e13 e23 w vs (fk k) (v k))) (fun k => v k fa_.toNatClampNeg) 6 → W p l e (headSpec wqX8_outcome ({ frames := 1, cells := 0, slots := 0, locals := 24 })).room s m #[.ref h0, .ref h1] below meth c H locs 0 0 (MQ below (va_Qi (fun (r : Int32) (u : Nat → Int32) => (u = if (so = 4 ∨ so = 5) ∧ nw ≠ 0 then upd vs (le - 16).toNatClampNeg (if so = 5 then lf_sum (fun k => decide (lf_fit kd e12 e13 e23 w vs (fk k) (v k))) (fun k => v k fa_.toNatClampNeg) 16 else lf_cnt (fun k => decide (lf_fit kd e12 e13 e23 w vs (fk k) (v k))) 16) else vs) ∧ r = if so = 4 ∨ so = 5 then (if u (le - 16).toNatClampNeg = (if so = 5 then lf_sum (fun k => decide (lf_fit kd e12 e13 e23 w vs (fk k) (v k))) (fun k => v k fa_.toNatClampNeg) 16 else lf_cnt (fun k => decide (lf_fit kd e12 e13 e23 w vs (fk k) (v k))) 16) then (if so = 5 then lf_sum (fun k => decide (lf_fit kd e12 e13 e23 w vs (fk k) (v k))) (fun k => v k fa_.toNatClampNeg) 16 else lf_cnt (fun k => decide (lf_fit kd e12 e13 e23 w vs (fk k) (v k))) 16) else -1) else if (if so = 2 then 0 < lf_cnt (fun k => decide (lf_fit kd e12 e13 e23 w vs (fk k) (v k))) 16 else (if so = 3 then lf_cnt (fun k => !decide (lf_fit kd e12 e13 e23 w vs (fk k) (v k)) && decide (fk k = kd)) 16 else lf_cnt (fun k => decide (lf_fit kd e12 e13 e23 w vs (fk k) (v k))) 16) = 0) then 0 else -1) (fun u t => va_P (dC, dI) CL [(h0, .inr (4, .ref st :: .ref po :: .int ps :: .int ie :: .ref g :: mr)), (h1, .inr (5, [.int so, .ref ao, .int le, .int ri, .int rl, .int nw, .int fa_])), (ao, .inr (0, [.int kd, .ref sg, .ref wt, .int e12, .int e13, .int e23])), (wt, .inl (cw, 3, .inl w)), (st, .inr (8, .ref fa :: sr)), (fa, .inl (cf, 16, .inr (.inr (.inr (.inr (fun j => some (fo j))))))), (g, .inl (cg, 6, .inl u)), ((fo 0), .inr (2, [.int (nm 0), .int (fk 0), .ref (va 0), .int (mi 0), .int (td 0)])), ((va 0), .inl ((ca 0), 3, .inl (v 0))), ((fo 1), .inr (2, [.int (nm 1), .int (fk 1), .ref (va 1), .int (mi 1), .int (td 1)])), ((va 1), .inl ((ca 1), 3, .inl (v 1))), ((fo 2), .inr (2, [.int (nm 2), .int (fk 2), .ref (va 2), .int (mi 2), .int (td 2)])), ((va 2), .inl ((ca 2), 3, .inl (v 2))), ((fo 3), .inr (2, [.int (nm 3), .int (fk 3), .ref (va 3), .int (mi 3), .int (td 3)])), ((va 3), .inl ((ca 3), 3, .inl (v 3))), ((fo 4), .inr (2, [.int (nm 4), .int (fk 4), .ref (va 4), .int (mi 4), .int (td 4)])), ((va 4), .inl ((ca 4), 3, .inl (v 4))), ((fo 5), .inr (2, [.int (nm 5), .int (fk 5), .ref (va 5), .int (mi 5), .int (td 5)])), ((va 5), .inl ((ca 5), 3, .inl (v 5))), ((fo 6), .inr (2, [.int (nm 6), .int (fk 6), .ref (va 6), .int (mi 6), .int (td 6)])), ((va 6), .inl ((ca 6), 3, .inl (v 6))), ((fo 7), .inr (2, [.int (nm 7), .int (fk 7), .ref (va 7), .int (mi 7), .int (td 7)])), ((va 7), .inl ((ca 7), 3, .inl (v 7))), ((fo 8), .inr (2, [.int (nm 8), .int (fk 8), .ref (va 8), .int (mi 8), .int (td 8)])), ((va 8), .inl ((ca 8), 3, .inl (v 8))), ((fo 9), .inr (2, [.int (nm 9), .int (fk 9), .ref (va 9), .int (mi 9), .int (td 9)])), ((va 9), .inl ((ca 9), 3, .inl (v 9))), ((fo 10), .inr (2, [.int (nm 10), .int (fk 10), .ref (va 10), .int (mi 10), .int (td 10)])), ((va 10), .inl ((ca 10), 3, .inl (v 10))), ((fo 11), .inr (2, [.int (nm 11), .int (fk 11), .ref (va 11), .int (mi 11), .int (td 11)])), ((va 11), .inl ((ca 11), 3, .inl (v 11))), ((fo 12), .inr (2, [.int (nm 12), .int (fk 12), .ref (va 12), .int (mi 12), .int (td 12)])), ((va 12), .inl ((ca 12), 3, .inl (v 12))), ((fo 13), .inr (2, [.int (nm 13), .int (fk 13), .ref (va 13), .int (mi 13), .int (td 13)])), ((va 13), .inl ((ca 13), 3, .inl (v 13))), ((fo 14), .inr (2, [.int (nm 14), .int (fk 14), .ref (va 14), .int (mi 14), .int (td 14)])), ((va 14), .inl ((ca 14), 3, .inl (v 14))), ((fo 15), .inr (2, [.int (nm 15), .int (fk 15), .ref (va 15), .int (mi 15), .int (td 15)])), ((va 15), .inl ((ca 15), 3, .inl (v 15)))] t.heap ∧ va_K (dC, dI) CL [(cw, .int), (cf, .object RX2), (cg, .int), ((ca 0), .int), ((ca 1), .int), ((ca 2), .int), ((ca 3), .int), ((ca 4), .int), ((ca 5), .int), ((ca 6), .int), ((ca 7), .int), ((ca 8), .int), ((ca 9), .int), ((ca 10), .int), ((ca 11), .int), ((ca 12), .int), ((ca 13), .int), ((ca 14), .int), ((ca 15), .int)] t ∧ va_D (A) [(h0, .inr (4, .ref st :: .ref po :: .int ps :: .int ie :: .ref g :: mr)), (h1, .inr (5, [.int so, .ref ao, .int le, .int ri, .int rl, .int nw, .int fa_])), (ao, .inr (0, [.int kd, .ref sg, .ref wt, .int e12, .int e13, .int e23])), (wt, .inl (cw, 3, .inl w)), (st, .inr (8, .ref fa :: sr)), (fa, .inl (cf, 16, .inr (.inr (.inr (.inr (fun j => some (fo j))))))), (g, .inl (cg, 6, .inl u)), ((fo 0), .inr (2, [.int (nm 0), .int (fk 0), .ref (va 0), .int (mi 0), .int (td 0)])), ((va 0), .inl ((ca 0), 3, .inl (v 0))), ((fo 1), .inr (2, [.int (nm 1), .int (fk 1), .ref (va 1), .int (mi 1), .int (td 1)])), ((va 1), .inl ((ca 1), 3, .inl (v 1))), ((fo 2), .inr (2, [.int (nm 2), .int (fk 2), .ref (va 2), .int (mi 2), .int (td 2)])), ((va 2), .inl ((ca 2), 3, .inl (v 2))), ((fo 3), .inr (2, [.int (nm 3), .int (fk 3), .ref (va 3), .int (mi 3), .int (td 3)])), ((va 3), .inl ((ca 3), 3, .inl (v 3))), ((fo 4), .inr (2, [.int (nm 4), .int (fk 4), .ref (va 4), .int (mi 4), .int (td 4)])), ((va 4), .inl ((ca 4), 3, .inl (v 4))), ((fo 5), .inr (2, [.int (nm 5), .int (fk 5), .ref (va 5), .int (mi 5), .int (td 5)])), ((va 5), .inl ((ca 5), 3, .inl (v 5))), ((fo 6), .inr (2, [.int (nm 6), .int (fk 6), .ref (va 6), .int (mi 6), .int (td 6)])), ((va 6), .inl ((ca 6), 3, .inl (v 6))), ((fo 7), .inr (2, [.int (nm 7), .int (fk 7), .ref (va 7), .int (mi 7), .int (td 7)])), ((va 7), .inl ((ca 7), 3, .inl (v 7))), ((fo 8), .inr (2, [.int (nm 8), .int (fk 8), .ref (va 8), .int (mi 8), .int (td 8)])), ((va 8), .inl ((ca 8), 3, .inl (v 8))), ((fo 9), .inr (2, [.int (nm 9), .int (fk 9), .ref (va 9), .int (mi 9), .int (td 9)])), ((va 9), .inl ((ca 9), 3, .inl (v 9))), ((fo 10), .inr (2, [.int (nm 10), .int (fk 10), .ref (va 10), .int (mi 10), .int (td 10)])), ((va 10), .inl ((ca 10), 3, .inl (v 10))), ((fo 11), .inr (2, [.int (nm 11), .int (fk 11), .ref (va 11), .int (mi 11), .int (td 11)])), ((va 11), .inl ((ca 11), 3, .inl (v 11))), ((fo 12), .inr (2, [.int (nm 12), .int (fk 12), .ref (va 12), .int (mi 12), .int (td 12)])), ((va 12), .inl ((ca 12), 3, .inl (v 12))), ((fo 13), .inr (2, [.int (nm 13), .int (fk 13), .ref (va 13), .int (mi 13), .int (td 13)])), ((va 13), .inl ((ca 13), 3, .inl (v 13))), ((fo 14), .inr (2, [.int (nm 14), .int (fk 14), .ref (va 14), .int (mi 14), .int (td 14)])), ((va 14), .inl ((ca 14), 3, .inl (v 14))), ((fo 15), .inr (2, [.int (nm 15), .int (fk 15), .ref (va 15), .int (mi 15), .int (td 15)])), ((va 15), .inl ((ca 15), 3, .inl (v 15)))]) (A)) #[.ref h0, .ref h1] s 0 0 A) (F0 m 110 ls []) := by
    intro ls H locs n o sm hP hS hl a1 a2 a3
    refine lv_iload hx hb dX8_outcome_110 (lv_at hl 0 rfl) ?_
    refine lv_bipush (v := (16 : Int32)) hx hb dX8_outcome_112 (by decide) ?_
    refine lv_icmp_ge hx hb dX8_outcome_114 rfl (fun q => absurd q (by decide)) (fun _ => ?_)
    refine lv_aload_n hx hb dX8_outcome_117 rfl (lv_at hl 4 rfl) ?_
    refine va_get (D := (dC, dI)) (ci := 4) (v := .ref st) (C := RX4) (T := TX4) (N := 17) hx hb hts (by decide +kernel) hown hK hP 0 rfl rfl 0 (by decide) (hts (.fieldLink RX8 18 "Ruleengine$Search" "state" "LRuleengine$State;") (by decide +kernel)) (fun _ h9 => h9) rfl dX8_outcome_118 ?_
    refine va_get (D := (dC, dI)) (ci := 8) (v := .ref fa) (C := RX9) (T := TX9) (N := 13) hx hb hts (by decide +kernel) hown hK hP 4 rfl rfl 0 (by decide) (hts (.fieldLink RX8 87 "Ruleengine$State" "fact" "[LRuleengine$Fact;") (by decide +kernel)) (fun _ h9 => h9) rfl dX8_outcome_121 ?_
    refine lv_iload hx hb dX8_outcome_124 (lv_at hl 0 rfl) ?_
    refine va_aldq (i := (6)) hx hb hK hP 5 1 rfl rfl (by unfold vp_in; decide) dX8_outcome_126 ?_
    refine W.eq (g2 := F0 m 127 _ (.ref (fo 6) :: _)) rfl ?_
    refine lv_astore (lv' := [(6, .ref (fo 6)), (5, .int (6)), (4, .int sm), (3, .int o), (2, .int n), (0, .ref h0), (1, .ref h1)]) hx hb dX8_outcome_127 hl (by decide) rfl (fun ls hl => ?_)
    refine lv_aload_n hx hb dX8_outcome_129 rfl (lv_at hl 6 rfl) ?_
    refine va_get (D := (dC, dI)) (ci := 5) (v := .ref ao) (C := RX5) (T := TX5) (N := 7) hx hb hts (by decide +kernel) hown hK hP 1 rfl rfl 1 (by decide) (hts (.fieldLink RX8 60 "Ruleengine$Part" "atom" "LRuleengine$Atom;") (by decide +kernel)) (fun _ h9 => h9) rfl dX8_outcome_130 ?_
    refine lv_aload hx hb dX8_outcome_133 (lv_at hl 0 rfl) ?_
    refine lv_aload_n hx hb dX8_outcome_135 rfl (lv_at hl 5 rfl) ?_
    refine va_get (D := (dC, dI)) (ci := 4) (v := .ref g) (C := RX4) (T := TX4) (N := 17) hx hb hts (by decide +kernel) hown hK hP 0 rfl rfl 4 (by decide) (hts (.fieldLink RX8 9 "Ruleengine$Search" "values" "[I") (by decide +kernel)) (fun _ h9 => h9) rfl dX8_outcome_136 ?_
    have hPc := hP.sub (ws' := [(ao, .inr (0, [.int kd, .ref sg, .ref wt, .int e12, .int e13, .int e23])), (wt, .inl (cw, 3, .inl w)), ((fo 6), .inr (2, [.int (nm 6), .int (fk 6), .ref (va 6), .int (mi 6), .int (td 6)])), ((va 6), .inl ((ca 6), 3, .inl (v 6))), (g, .inl (cg, 6, .inl vs))]) [2, 3, 19, 20, 6] rfl
    have hDc := hD.sub (ws' := [(ao, .inr (0, [.int kd, .ref sg, .ref wt, .int e12, .int e13, .int e23])), (wt, .inl (cw, 3, .inl w)), ((fo 6), .inr (2, [.int (nm 6), .int (fk 6), .ref (va 6), .int (mi 6), .int (td 6)])), ((va 6), .inl ((ca 6), 3, .inl (v 6))), (g, .inl (cg, 6, .inl vs))]) [2, 3, 19, 20, 6] (by decide) rfl
    have hKc := hK.sub (tys' := [(cw, .int), ((ca 6), .int), (cg, .int)]) [0, 9, 2] rfl
    refine va_calli (va_runV (As := [.ref (fo 6), .ref g]) (rest := []) ⟨hx, hb, hml, hown, hts⟩ (kX0_fits l dC dI H.size ao sg wt (fo 6) (va 6) g cw (ca 6) cg kd e12 e13 e23 (nm 6) (fk 6) (mi 6) (td 6) w (v 6) vs) (cwV 2 hts ggq rfl rfl rfl (by decide +kernel) ⟨Nat.le_of_ble_eq_true rfl, Nat.le_of_ble_eq_true rfl⟩) ⟨fun a U g mk q => by obtain ⟨q0, q1, qP, qK, qD⟩ := q; exact ⟨q0, q1, qP, va_K.moved (u := U) (U := U.calling g mk a) (Vm.Alike.refl U.vm) qK, qD⟩, va_recv hKc hPc (ci := 0) (q0 := 0) rfl rfl, fun U hU hW => ⟨rfl, by rw [hU], by rw [hU]; exact hPc, va_K.moved hW.alike hKc, hDc.weaken (fun _ _ _ _ => trivial)⟩⟩ rfl rfl hl.1 rfl (lv_room (Nat.le_of_ble_eq_true rfl)) dX8_outcome_139 ⟨Nat.le_of_ble_eq_true rfl, Nat.le_of_ble_eq_true rfl⟩) hS (fun q _ h => h.elim) (fun q h => h.elim) (fun rr u t H1 locs ht hvm hw hB hz1 hk1 hS => ?_)
    have hP : va_P (dC, dI) CL [(h0, .inr (4, .ref st :: .ref po :: .int ps :: .int ie :: .ref g :: mr)), (h1, .inr (5, [.int so, .ref ao, .int le, .int ri, .int rl, .int nw, .int fa_])), (ao, .inr (0, [.int kd, .ref sg, .ref wt, .int e12, .int e13, .int e23])), (wt, .inl (cw, 3, .inl w)), (st, .inr (8, .ref fa :: sr)), (fa, .inl (cf, 16, .inr (.inr (.inr (.inr (fun j => some (fo j))))))), (g, .inl (cg, 6, .inl vs)), ((fo 0), .inr (2, [.int (nm 0), .int (fk 0), .ref (va 0), .int (mi 0), .int (td 0)])), ((va 0), .inl ((ca 0), 3, .inl (v 0))), ((fo 1), .inr (2, [.int (nm 1), .int (fk 1), .ref (va 1), .int (mi 1), .int (td 1)])), ((va 1), .inl ((ca 1), 3, .inl (v 1))), ((fo 2), .inr (2, [.int (nm 2), .int (fk 2), .ref (va 2), .int (mi 2), .int (td 2)])), ((va 2), .inl ((ca 2), 3, .inl (v 2))), ((fo 3), .inr (2, [.int (nm 3), .int (fk 3), .ref (va 3), .int (mi 3), .int (td 3)])), ((va 3), .inl ((ca 3), 3, .inl (v 3))), ((fo 4), .inr (2, [.int (nm 4), .int (fk 4), .ref (va 4), .int (mi 4), .int (td 4)])), ((va 4), .inl ((ca 4), 3, .inl (v 4))), ((fo 5), .inr (2, [.int (nm 5), .int (fk 5), .ref (va 5), .int (mi 5), .int (td 5)])), ((va 5), .inl ((ca 5), 3, .inl (v 5))), ((fo 6), .inr (2, [.int (nm 6), .int (fk 6), .ref (va 6), .int (mi 6), .int (td 6)])), ((va 6), .inl ((ca 6), 3, .inl (v 6))), ((fo 7), .inr (2, [.int (nm 7), .int (fk 7), .ref (va 7), .int (mi 7), .int (td 7)])), ((va 7), .inl ((ca 7), 3, .inl (v 7))), ((fo 8), .inr (2, [.int (nm 8), .int (fk 8), .ref (va 8), .int (mi 8), .int (td 8)])), ((va 8), .inl ((ca 8), 3, .inl (v 8))), ((fo 9), .inr (2, [.int (nm 9), .int (fk 9), .ref (va 9), .int (mi 9), .int (td 9)])), ((va 9), .inl ((ca 9), 3, .inl (v 9))), ((fo 10), .inr (2, [.int (nm 10), .int (fk 10), .ref (va 10), .int (mi 10), .int (td 10)])), ((va 10), .inl ((ca 10), 3, .inl (v 10))), ((fo 11), .inr (2, [.int (nm 11), .int (fk 11), .ref (va 11), .int (mi 11), .int (td 11)])), ((va 11), .inl ((ca 11), 3, .inl (v 11))), ((fo 12), .inr (2, [.int (nm 12), .int (fk 12), .ref (va 12), .int (mi 12), .int (td 12)])), ((va 12), .inl ((ca 12), 3, .inl (v 12))), ((fo 13), .inr (2, [.int (nm 13), .int (fk 13), .ref (va 13), .int (mi 13), .int (td 13)])), ((va 13), .inl ((ca 13), 3, .inl (v 13))), ((fo 14), .inr (2, [.int (nm 14), .int (fk 14), .ref (va 14), .int (mi 14), .int (td 14)])), ((va 14), .inl ((ca 14), 3, .inl (v 14))), ((fo 15), .inr (2, [.int (nm 15), .int (fk 15), .ref (va 15), .int (mi 15), .int (td 15)])), ((va 15), .inl ((ca 15), 3, .inl (v 15)))] H1 := hP.kept (fun k x hx => hk1 x.1 ((hP k x hx).lt) (fun h => h))
    generalize H1 = H at hP hS ⊢
    refine lv_if_eq hx hb dX8_outcome_142 rfl (fun q57 => ?_) (fun q57 => ?_)
    · refine lv_aload hx hb dX8_outcome_166 (lv_at hl 0 rfl) ?_
      refine va_get (D := (dC, dI)) (ci := 2) (v := .int (fk 6)) (C := RX2) (T := TX2) (N := 5) hx hb hts (by decide +kernel) hown hK hP 19 rfl rfl 1 (by decide) (hts (.fieldLink RX8 100 "Ruleengine$Fact" "kind" "I") (by decide +kernel)) (fun _ h9 => h9) rfl dX8_outcome_168 ?_
      refine lv_aload_n hx hb dX8_outcome_171 rfl (lv_at hl 6 rfl) ?_
      refine va_get (D := (dC, dI)) (ci := 5) (v := .ref ao) (C := RX5) (T := TX5) (N := 7) hx hb hts (by decide +kernel) hown hK hP 1 rfl rfl 1 (by decide) (hts (.fieldLink RX8 60 "Ruleengine$Part" "atom" "LRuleengine$Atom;") (by decide +kernel)) (fun _ h9 => h9) rfl dX8_outcome_172 ?_
      refine va_get (D := (dC, dI)) (ci := 0) (v := .int kd) (C := RX0) (T := TX0) (N := 6) hx hb hts (by decide +kernel) hown hK hP 2 rfl rfl 0 (by decide) (hts (.fieldLink RX8 103 "Ruleengine$Atom" "kind" "I") (by decide +kernel)) (fun _ h9 => h9) rfl dX8_outcome_175 ?_
      refine lv_icmp_ne hx hb dX8_outcome_178 rfl (fun q58 => ?_) (fun q58 => ?_)
      · refine lv_iinc (v := (7)) (lv' := [(5, .int (7)), (6, .ref (fo 6)), (4, .int sm), (3, .int o), (2, .int n), (0, .ref h0), (1, .ref h1)]) hx hb dX8_outcome_184 hl (k := 1) rfl (by decide) (by decide) rfl (fun ls hl => ?_)
        refine lv_goto hx hb dX8_outcome_187 rfl ?_
        have h0 : rr = 0 := by assumption
        have hf : ¬ lf_fit kd e12 e13 e23 w vs (fk 6) (v 6) := fun hh => by rw [if_pos hh] at hw; rw [hw] at h0; exact absurd h0 (by decide)
        have hp : (fun k => decide (lf_fit kd e12 e13 e23 w vs (fk k) (v k))) 6 = false := decide_eq_false hf
        have hk : fk 6 ≠ kd := by assumption
        have hq : (fun k => !decide (lf_fit kd e12 e13 e23 w vs (fk k) (v k)) && decide (fk k = kd)) 6 = false := by show (!decide (lf_fit kd e12 e13 e23 w vs (fk 6) (v 6)) && decide (fk 6 = kd)) = false; rw [decide_eq_false (p := fk 6 = kd) hk]; exact Bool.and_false _
        exact it7 ls H locs _ _ _ hP hS (lv_sub hl [0, 2, 3, 4, 5, 6] rfl) (by rw [a1]; exact (lf_cnt_n (P := (fun k => decide (lf_fit kd e12 e13 e23 w vs (fk k) (v k)))) (k := 6) hp).symm) (by rw [a2]; exact (lf_cnt_n (P := (fun k => !decide (lf_fit kd e12 e13 e23 w vs (fk k) (v k)) && decide (fk k = kd))) (k := 6) hq).symm) (by rw [a3]; exact (lf_sum_n (P := (fun k => decide (lf_fit kd e12 e13 e23 w vs (fk k) (v k)))) (x := (fun k => v k fa_.toNatClampNeg)) (k := 6) hp).symm)
      · refine lv_iinc (v := (o + 1)) (lv' := [(3, .int (o + 1)), (6, .ref (fo 6)), (5, .int (6)), (4, .int sm), (2, .int n), (0, .ref h0), (1, .ref h1)]) hx hb dX8_outcome_181 hl (k := 3) rfl (by rfl) (by decide) rfl (fun ls hl => ?_)
        refine lv_iinc (v := (7)) (lv' := [(5, .int (7)), (3, .int (o + 1)), (6, .ref (fo 6)), (4, .int sm), (2, .int n), (0, .ref h0), (1, .ref h1)]) hx hb dX8_outcome_184 hl (k := 2) rfl (by decide) (by decide) rfl (fun ls hl => ?_)
        refine lv_goto hx hb dX8_outcome_187 rfl ?_
        have h0 : rr = 0 := by assumption
        have hf : ¬ lf_fit kd e12 e13 e23 w vs (fk 6) (v 6) := fun hh => by rw [if_pos hh] at hw; rw [hw] at h0; exact absurd h0 (by decide)
        have hp : (fun k => decide (lf_fit kd e12 e13 e23 w vs (fk k) (v k))) 6 = false := decide_eq_false hf
        have hk : fk 6 = kd := by assumption
        have hq : (fun k => !decide (lf_fit kd e12 e13 e23 w vs (fk k) (v k)) && decide (fk k = kd)) 6 = true := by show (!decide (lf_fit kd e12 e13 e23 w vs (fk 6) (v 6)) && decide (fk 6 = kd)) = true; rw [decide_eq_false hf, decide_eq_true hk]; rfl
        exact it7 ls H locs _ _ _ hP hS (lv_sub hl [0, 3, 1, 4, 5, 6] rfl) (by rw [a1]; exact (lf_cnt_n (P := (fun k => decide (lf_fit kd e12 e13 e23 w vs (fk k) (v k)))) (k := 6) hp).symm) (by rw [a2]; exact (lf_cnt_y (P := (fun k => !decide (lf_fit kd e12 e13 e23 w vs (fk k) (v k)) && decide (fk k = kd))) (k := 6) hq).symm) (by rw [a3]; exact (lf_sum_n (P := (fun k => decide (lf_fit kd e12 e13 e23 w vs (fk k) (v k)))) (x := (fun k => v k fa_.toNatClampNeg)) (k := 6) hp).symm)
    · refine lv_iinc (v := (n + 1)) (lv' := [(2, .int (n + 1)), (6, .ref (fo 6)), (5, .int (6)), (4, .int sm), (3, .int o), (0, .ref h0), (1, .ref h1)]) hx hb dX8_outcome_145 hl (k := 4) rfl (by rfl) (by decide) rfl (fun ls hl => ?_)
      refine lv_iload hx hb dX8_outcome_148 (lv_at hl 3 rfl) ?_
      refine lv_aload hx hb dX8_outcome_150 (lv_at hl 1 rfl) ?_
      refine va_get (D := (dC, dI)) (ci := 2) (v := .ref (va 6)) (C := RX2) (T := TX2) (N := 5) hx hb hts (by decide +kernel) hown hK hP 19 rfl rfl 2 (by decide) (hts (.fieldLink RX8 92 "Ruleengine$Fact" "value" "[I") (by decide +kernel)) (fun _ h9 => h9) rfl dX8_outcome_152 ?_
      refine lv_aload_n hx hb dX8_outcome_155 rfl (lv_at hl 6 rfl) ?_
      refine va_get (D := (dC, dI)) (ci := 5) (v := .int fa_) (C := RX5) (T := TX5) (N := 7) hx hb hts (by decide +kernel) hown hK hP 1 rfl rfl 6 (by decide) (hts (.fieldLink RX8 97 "Ruleengine$Part" "at" "I") (by decide +kernel)) (fun _ h9 => h9) rfl dX8_outcome_156 ?_
      refine va_iald (i := fa_) hx hb hK hP 20 9 rfl rfl hat dX8_outcome_159 ?_
      refine lv_iadd hx hb dX8_outcome_160 ?_
      refine lv_istore (lv' := [(4, .int (sm + ((v 6) (fa_).toNatClampNeg))), (2, .int (n + 1)), (6, .ref (fo 6)), (5, .int (6)), (3, .int o), (0, .ref h0), (1, .ref h1)]) hx hb dX8_outcome_161 hl (by decide) rfl (fun ls hl => ?_)
      refine lv_goto hx hb dX8_outcome_163 rfl ?_
      refine lv_iinc (v := (7)) (lv' := [(5, .int (7)), (4, .int (sm + ((v 6) (fa_).toNatClampNeg))), (2, .int (n + 1)), (6, .ref (fo 6)), (3, .int o), (0, .ref h0), (1, .ref h1)]) hx hb dX8_outcome_184 hl (k := 3) rfl (by decide) (by decide) rfl (fun ls hl => ?_)
      refine lv_goto hx hb dX8_outcome_187 rfl ?_
      have hf : lf_fit kd e12 e13 e23 w vs (fk 6) (v 6) := Decidable.byContradiction (fun hh => by rw [if_neg hh] at hw; exact absurd hw (by assumption))
      have hp : (fun k => decide (lf_fit kd e12 e13 e23 w vs (fk k) (v k))) 6 = true := decide_eq_true hf
      have hq : (fun k => !decide (lf_fit kd e12 e13 e23 w vs (fk k) (v k)) && decide (fk k = kd)) 6 = false := by show (!decide (lf_fit kd e12 e13 e23 w vs (fk 6) (v 6)) && decide (fk 6 = kd)) = false; rw [decide_eq_true hf]; rfl
      exact it7 ls H locs _ _ _ hP hS (lv_sub hl [0, 1, 4, 2, 5, 6] rfl) (by rw [a1]; exact (lf_cnt_y (P := (fun k => decide (lf_fit kd e12 e13 e23 w vs (fk k) (v k)))) (k := 6) hp).symm) (by rw [a2]; exact (lf_cnt_n (P := (fun k => !decide (lf_fit kd e12 e13 e23 w vs (fk k) (v k)) && decide (fk k = kd))) (k := 6) hq).symm) (by rw [a3]; exact (lf_sum_y (P := (fun k => decide (lf_fit kd e12 e13 e23 w vs (fk k) (v k)))) (x := (fun k => v k fa_.toNatClampNeg)) (k := 6) hp).symm)
  have it5 : ∀ (ls : Array Slot) (H : Heap) (locs : List Loc) (n o sm : Int32), va_P (dC, dI) CL [(h0, .inr (4, .ref st :: .ref po :: .int ps :: .int ie :: .ref g :: mr)), (h1, .inr (5, [.int so, .ref ao, .int le, .int ri, .int rl, .int nw, .int fa_])), (ao, .inr (0, [.int kd, .ref sg, .ref wt, .int e12, .int e13, .int e23])), (wt, .inl (cw, 3, .inl w)), (st, .inr (8, .ref fa :: sr)), (fa, .inl (cf, 16, .inr (.inr (.inr (.inr (fun j => some (fo j))))))), (g, .inl (cg, 6, .inl vs)), ((fo 0), .inr (2, [.int (nm 0), .int (fk 0), .ref (va 0), .int (mi 0), .int (td 0)])), ((va 0), .inl ((ca 0), 3, .inl (v 0))), ((fo 1), .inr (2, [.int (nm 1), .int (fk 1), .ref (va 1), .int (mi 1), .int (td 1)])), ((va 1), .inl ((ca 1), 3, .inl (v 1))), ((fo 2), .inr (2, [.int (nm 2), .int (fk 2), .ref (va 2), .int (mi 2), .int (td 2)])), ((va 2), .inl ((ca 2), 3, .inl (v 2))), ((fo 3), .inr (2, [.int (nm 3), .int (fk 3), .ref (va 3), .int (mi 3), .int (td 3)])), ((va 3), .inl ((ca 3), 3, .inl (v 3))), ((fo 4), .inr (2, [.int (nm 4), .int (fk 4), .ref (va 4), .int (mi 4), .int (td 4)])), ((va 4), .inl ((ca 4), 3, .inl (v 4))), ((fo 5), .inr (2, [.int (nm 5), .int (fk 5), .ref (va 5), .int (mi 5), .int (td 5)])), ((va 5), .inl ((ca 5), 3, .inl (v 5))), ((fo 6), .inr (2, [.int (nm 6), .int (fk 6), .ref (va 6), .int (mi 6), .int (td 6)])), ((va 6), .inl ((ca 6), 3, .inl (v 6))), ((fo 7), .inr (2, [.int (nm 7), .int (fk 7), .ref (va 7), .int (mi 7), .int (td 7)])), ((va 7), .inl ((ca 7), 3, .inl (v 7))), ((fo 8), .inr (2, [.int (nm 8), .int (fk 8), .ref (va 8), .int (mi 8), .int (td 8)])), ((va 8), .inl ((ca 8), 3, .inl (v 8))), ((fo 9), .inr (2, [.int (nm 9), .int (fk 9), .ref (va 9), .int (mi 9), .int (td 9)])), ((va 9), .inl ((ca 9), 3, .inl (v 9))), ((fo 10), .inr (2, [.int (nm 10), .int (fk 10), .ref (va 10), .int (mi 10), .int (td 10)])), ((va 10), .inl ((ca 10), 3, .inl (v 10))), ((fo 11), .inr (2, [.int (nm 11), .int (fk 11), .ref (va 11), .int (mi 11), .int (td 11)])), ((va 11), .inl ((ca 11), 3, .inl (v 11))), ((fo 12), .inr (2, [.int (nm 12), .int (fk 12), .ref (va 12), .int (mi 12), .int (td 12)])), ((va 12), .inl ((ca 12), 3, .inl (v 12))), ((fo 13), .inr (2, [.int (nm 13), .int (fk 13), .ref (va 13), .int (mi 13), .int (td 13)])), ((va 13), .inl ((ca 13), 3, .inl (v 13))), ((fo 14), .inr (2, [.int (nm 14), .int (fk 14), .ref (va 14), .int (mi 14), .int (td 14)])), ((va 14), .inl ((ca 14), 3, .inl (v 14))), ((fo 15), .inr (2, [.int (nm 15), .int (fk 15), .ref (va 15), .int (mi 15), .int (td 15)])), ((va 15), .inl ((ca 15), 3, .inl (v 15)))] H → va_S A s.heap H locs → lv_has ls 7 [(5, .int (5)), (4, .int sm), (3, .int o), (2, .int n), (0, .ref h0), (1, .ref h1)] → n = lf_cnt (fun k => decide (lf_fit kd e12 e13 e23 w vs (fk k) (v k))) 5 → o = lf_cnt (fun k => !decide (lf_fit kd e12 e13 e23 w vs (fk k) (v k)) && decide (fk k = kd)) 5 → sm = lf_sum (fun k => decide (lf_fit kd e12 e13 e23 w vs (fk k) (v k))) (fun k => v k fa_.toNatClampNeg) 5 → W p l e (headSpec wqX8_outcome ({ frames := 1, cells := 0, slots := 0, locals := 24 })).room s m #[.ref h0, .ref h1] below meth c H locs 0 0 (MQ below (va_Qi (fun (r : Int32) (u : Nat → Int32) => (u = if (so = 4 ∨ so = 5) ∧ nw ≠ 0 then upd vs (le - 16).toNatClampNeg (if so = 5 then lf_sum (fun k => decide (lf_fit kd e12 e13 e23 w vs (fk k) (v k))) (fun k => v k fa_.toNatClampNeg) 16 else lf_cnt (fun k => decide (lf_fit kd e12 e13 e23 w vs (fk k) (v k))) 16) else vs) ∧ r = if so = 4 ∨ so = 5 then (if u (le - 16).toNatClampNeg = (if so = 5 then lf_sum (fun k => decide (lf_fit kd e12 e13 e23 w vs (fk k) (v k))) (fun k => v k fa_.toNatClampNeg) 16 else lf_cnt (fun k => decide (lf_fit kd e12 e13 e23 w vs (fk k) (v k))) 16) then (if so = 5 then lf_sum (fun k => decide (lf_fit kd e12 e13 e23 w vs (fk k) (v k))) (fun k => v k fa_.toNatClampNeg) 16 else lf_cnt (fun k => decide (lf_fit kd e12 e13 e23 w vs (fk k) (v k))) 16) else -1) else if (if so = 2 then 0 < lf_cnt (fun k => decide (lf_fit kd e12 e13 e23 w vs (fk k) (v k))) 16 else (if so = 3 then lf_cnt (fun k => !decide (lf_fit kd e12 e13 e23 w vs (fk k) (v k)) && decide (fk k = kd)) 16 else lf_cnt (fun k => decide (lf_fit kd e12 e13 e23 w vs (fk k) (v k))) 16) = 0) then 0 else -1) (fun u t => va_P (dC, dI) CL [(h0, .inr (4, .ref st :: .ref po :: .int ps :: .int ie :: .ref g :: mr)), (h1, .inr (5, [.int so, .ref ao, .int le, .int ri, .int rl, .int nw, .int fa_])), (ao, .inr (0, [.int kd, .ref sg, .ref wt, .int e12, .int e13, .int e23])), (wt, .inl (cw, 3, .inl w)), (st, .inr (8, .ref fa :: sr)), (fa, .inl (cf, 16, .inr (.inr (.inr (.inr (fun j => some (fo j))))))), (g, .inl (cg, 6, .inl u)), ((fo 0), .inr (2, [.int (nm 0), .int (fk 0), .ref (va 0), .int (mi 0), .int (td 0)])), ((va 0), .inl ((ca 0), 3, .inl (v 0))), ((fo 1), .inr (2, [.int (nm 1), .int (fk 1), .ref (va 1), .int (mi 1), .int (td 1)])), ((va 1), .inl ((ca 1), 3, .inl (v 1))), ((fo 2), .inr (2, [.int (nm 2), .int (fk 2), .ref (va 2), .int (mi 2), .int (td 2)])), ((va 2), .inl ((ca 2), 3, .inl (v 2))), ((fo 3), .inr (2, [.int (nm 3), .int (fk 3), .ref (va 3), .int (mi 3), .int (td 3)])), ((va 3), .inl ((ca 3), 3, .inl (v 3))), ((fo 4), .inr (2, [.int (nm 4), .int (fk 4), .ref (va 4), .int (mi 4), .int (td 4)])), ((va 4), .inl ((ca 4), 3, .inl (v 4))), ((fo 5), .inr (2, [.int (nm 5), .int (fk 5), .ref (va 5), .int (mi 5), .int (td 5)])), ((va 5), .inl ((ca 5), 3, .inl (v 5))), ((fo 6), .inr (2, [.int (nm 6), .int (fk 6), .ref (va 6), .int (mi 6), .int (td 6)])), ((va 6), .inl ((ca 6), 3, .inl (v 6))), ((fo 7), .inr (2, [.int (nm 7), .int (fk 7), .ref (va 7), .int (mi 7), .int (td 7)])), ((va 7), .inl ((ca 7), 3, .inl (v 7))), ((fo 8), .inr (2, [.int (nm 8), .int (fk 8), .ref (va 8), .int (mi 8), .int (td 8)])), ((va 8), .inl ((ca 8), 3, .inl (v 8))), ((fo 9), .inr (2, [.int (nm 9), .int (fk 9), .ref (va 9), .int (mi 9), .int (td 9)])), ((va 9), .inl ((ca 9), 3, .inl (v 9))), ((fo 10), .inr (2, [.int (nm 10), .int (fk 10), .ref (va 10), .int (mi 10), .int (td 10)])), ((va 10), .inl ((ca 10), 3, .inl (v 10))), ((fo 11), .inr (2, [.int (nm 11), .int (fk 11), .ref (va 11), .int (mi 11), .int (td 11)])), ((va 11), .inl ((ca 11), 3, .inl (v 11))), ((fo 12), .inr (2, [.int (nm 12), .int (fk 12), .ref (va 12), .int (mi 12), .int (td 12)])), ((va 12), .inl ((ca 12), 3, .inl (v 12))), ((fo 13), .inr (2, [.int (nm 13), .int (fk 13), .ref (va 13), .int (mi 13), .int (td 13)])), ((va 13), .inl ((ca 13), 3, .inl (v 13))), ((fo 14), .inr (2, [.int (nm 14), .int (fk 14), .ref (va 14), .int (mi 14), .int (td 14)])), ((va 14), .inl ((ca 14), 3, .inl (v 14))), ((fo 15), .inr (2, [.int (nm 15), .int (fk 15), .ref (va 15), .int (mi 15), .int (td 15)])), ((va 15), .inl ((ca 15), 3, .inl (v 15)))] t.heap ∧ va_K (dC, dI) CL [(cw, .int), (cf, .object RX2), (cg, .int), ((ca 0), .int), ((ca 1), .int), ((ca 2), .int), ((ca 3), .int), ((ca 4), .int), ((ca 5), .int), ((ca 6), .int), ((ca 7), .int), ((ca 8), .int), ((ca 9), .int), ((ca 10), .int), ((ca 11), .int), ((ca 12), .int), ((ca 13), .int), ((ca 14), .int), ((ca 15), .int)] t ∧ va_D (A) [(h0, .inr (4, .ref st :: .ref po :: .int ps :: .int ie :: .ref g :: mr)), (h1, .inr (5, [.int so, .ref ao, .int le, .int ri, .int rl, .int nw, .int fa_])), (ao, .inr (0, [.int kd, .ref sg, .ref wt, .int e12, .int e13, .int e23])), (wt, .inl (cw, 3, .inl w)), (st, .inr (8, .ref fa :: sr)), (fa, .inl (cf, 16, .inr (.inr (.inr (.inr (fun j => some (fo j))))))), (g, .inl (cg, 6, .inl u)), ((fo 0), .inr (2, [.int (nm 0), .int (fk 0), .ref (va 0), .int (mi 0), .int (td 0)])), ((va 0), .inl ((ca 0), 3, .inl (v 0))), ((fo 1), .inr (2, [.int (nm 1), .int (fk 1), .ref (va 1), .int (mi 1), .int (td 1)])), ((va 1), .inl ((ca 1), 3, .inl (v 1))), ((fo 2), .inr (2, [.int (nm 2), .int (fk 2), .ref (va 2), .int (mi 2), .int (td 2)])), ((va 2), .inl ((ca 2), 3, .inl (v 2))), ((fo 3), .inr (2, [.int (nm 3), .int (fk 3), .ref (va 3), .int (mi 3), .int (td 3)])), ((va 3), .inl ((ca 3), 3, .inl (v 3))), ((fo 4), .inr (2, [.int (nm 4), .int (fk 4), .ref (va 4), .int (mi 4), .int (td 4)])), ((va 4), .inl ((ca 4), 3, .inl (v 4))), ((fo 5), .inr (2, [.int (nm 5), .int (fk 5), .ref (va 5), .int (mi 5), .int (td 5)])), ((va 5), .inl ((ca 5), 3, .inl (v 5))), ((fo 6), .inr (2, [.int (nm 6), .int (fk 6), .ref (va 6), .int (mi 6), .int (td 6)])), ((va 6), .inl ((ca 6), 3, .inl (v 6))), ((fo 7), .inr (2, [.int (nm 7), .int (fk 7), .ref (va 7), .int (mi 7), .int (td 7)])), ((va 7), .inl ((ca 7), 3, .inl (v 7))), ((fo 8), .inr (2, [.int (nm 8), .int (fk 8), .ref (va 8), .int (mi 8), .int (td 8)])), ((va 8), .inl ((ca 8), 3, .inl (v 8))), ((fo 9), .inr (2, [.int (nm 9), .int (fk 9), .ref (va 9), .int (mi 9), .int (td 9)])), ((va 9), .inl ((ca 9), 3, .inl (v 9))), ((fo 10), .inr (2, [.int (nm 10), .int (fk 10), .ref (va 10), .int (mi 10), .int (td 10)])), ((va 10), .inl ((ca 10), 3, .inl (v 10))), ((fo 11), .inr (2, [.int (nm 11), .int (fk 11), .ref (va 11), .int (mi 11), .int (td 11)])), ((va 11), .inl ((ca 11), 3, .inl (v 11))), ((fo 12), .inr (2, [.int (nm 12), .int (fk 12), .ref (va 12), .int (mi 12), .int (td 12)])), ((va 12), .inl ((ca 12), 3, .inl (v 12))), ((fo 13), .inr (2, [.int (nm 13), .int (fk 13), .ref (va 13), .int (mi 13), .int (td 13)])), ((va 13), .inl ((ca 13), 3, .inl (v 13))), ((fo 14), .inr (2, [.int (nm 14), .int (fk 14), .ref (va 14), .int (mi 14), .int (td 14)])), ((va 14), .inl ((ca 14), 3, .inl (v 14))), ((fo 15), .inr (2, [.int (nm 15), .int (fk 15), .ref (va 15), .int (mi 15), .int (td 15)])), ((va 15), .inl ((ca 15), 3, .inl (v 15)))]) (A)) #[.ref h0, .ref h1] s 0 0 A) (F0 m 110 ls []) := by
    intro ls H locs n o sm hP hS hl a1 a2 a3
    refine lv_iload hx hb dX8_outcome_110 (lv_at hl 0 rfl) ?_
    refine lv_bipush (v := (16 : Int32)) hx hb dX8_outcome_112 (by decide) ?_
    refine lv_icmp_ge hx hb dX8_outcome_114 rfl (fun q => absurd q (by decide)) (fun _ => ?_)
    refine lv_aload_n hx hb dX8_outcome_117 rfl (lv_at hl 4 rfl) ?_
    refine va_get (D := (dC, dI)) (ci := 4) (v := .ref st) (C := RX4) (T := TX4) (N := 17) hx hb hts (by decide +kernel) hown hK hP 0 rfl rfl 0 (by decide) (hts (.fieldLink RX8 18 "Ruleengine$Search" "state" "LRuleengine$State;") (by decide +kernel)) (fun _ h9 => h9) rfl dX8_outcome_118 ?_
    refine va_get (D := (dC, dI)) (ci := 8) (v := .ref fa) (C := RX9) (T := TX9) (N := 13) hx hb hts (by decide +kernel) hown hK hP 4 rfl rfl 0 (by decide) (hts (.fieldLink RX8 87 "Ruleengine$State" "fact" "[LRuleengine$Fact;") (by decide +kernel)) (fun _ h9 => h9) rfl dX8_outcome_121 ?_
    refine lv_iload hx hb dX8_outcome_124 (lv_at hl 0 rfl) ?_
    refine va_aldq (i := (5)) hx hb hK hP 5 1 rfl rfl (by unfold vp_in; decide) dX8_outcome_126 ?_
    refine W.eq (g2 := F0 m 127 _ (.ref (fo 5) :: _)) rfl ?_
    refine lv_astore (lv' := [(6, .ref (fo 5)), (5, .int (5)), (4, .int sm), (3, .int o), (2, .int n), (0, .ref h0), (1, .ref h1)]) hx hb dX8_outcome_127 hl (by decide) rfl (fun ls hl => ?_)
    refine lv_aload_n hx hb dX8_outcome_129 rfl (lv_at hl 6 rfl) ?_
    refine va_get (D := (dC, dI)) (ci := 5) (v := .ref ao) (C := RX5) (T := TX5) (N := 7) hx hb hts (by decide +kernel) hown hK hP 1 rfl rfl 1 (by decide) (hts (.fieldLink RX8 60 "Ruleengine$Part" "atom" "LRuleengine$Atom;") (by decide +kernel)) (fun _ h9 => h9) rfl dX8_outcome_130 ?_
    refine lv_aload hx hb dX8_outcome_133 (lv_at hl 0 rfl) ?_
    refine lv_aload_n hx hb dX8_outcome_135 rfl (lv_at hl 5 rfl) ?_
    refine va_get (D := (dC, dI)) (ci := 4) (v := .ref g) (C := RX4) (T := TX4) (N := 17) hx hb hts (by decide +kernel) hown hK hP 0 rfl rfl 4 (by decide) (hts (.fieldLink RX8 9 "Ruleengine$Search" "values" "[I") (by decide +kernel)) (fun _ h9 => h9) rfl dX8_outcome_136 ?_
    have hPc := hP.sub (ws' := [(ao, .inr (0, [.int kd, .ref sg, .ref wt, .int e12, .int e13, .int e23])), (wt, .inl (cw, 3, .inl w)), ((fo 5), .inr (2, [.int (nm 5), .int (fk 5), .ref (va 5), .int (mi 5), .int (td 5)])), ((va 5), .inl ((ca 5), 3, .inl (v 5))), (g, .inl (cg, 6, .inl vs))]) [2, 3, 17, 18, 6] rfl
    have hDc := hD.sub (ws' := [(ao, .inr (0, [.int kd, .ref sg, .ref wt, .int e12, .int e13, .int e23])), (wt, .inl (cw, 3, .inl w)), ((fo 5), .inr (2, [.int (nm 5), .int (fk 5), .ref (va 5), .int (mi 5), .int (td 5)])), ((va 5), .inl ((ca 5), 3, .inl (v 5))), (g, .inl (cg, 6, .inl vs))]) [2, 3, 17, 18, 6] (by decide) rfl
    have hKc := hK.sub (tys' := [(cw, .int), ((ca 5), .int), (cg, .int)]) [0, 8, 2] rfl
    refine va_calli (va_runV (As := [.ref (fo 5), .ref g]) (rest := []) ⟨hx, hb, hml, hown, hts⟩ (kX0_fits l dC dI H.size ao sg wt (fo 5) (va 5) g cw (ca 5) cg kd e12 e13 e23 (nm 5) (fk 5) (mi 5) (td 5) w (v 5) vs) (cwV 2 hts ggq rfl rfl rfl (by decide +kernel) ⟨Nat.le_of_ble_eq_true rfl, Nat.le_of_ble_eq_true rfl⟩) ⟨fun a U g mk q => by obtain ⟨q0, q1, qP, qK, qD⟩ := q; exact ⟨q0, q1, qP, va_K.moved (u := U) (U := U.calling g mk a) (Vm.Alike.refl U.vm) qK, qD⟩, va_recv hKc hPc (ci := 0) (q0 := 0) rfl rfl, fun U hU hW => ⟨rfl, by rw [hU], by rw [hU]; exact hPc, va_K.moved hW.alike hKc, hDc.weaken (fun _ _ _ _ => trivial)⟩⟩ rfl rfl hl.1 rfl (lv_room (Nat.le_of_ble_eq_true rfl)) dX8_outcome_139 ⟨Nat.le_of_ble_eq_true rfl, Nat.le_of_ble_eq_true rfl⟩) hS (fun q _ h => h.elim) (fun q h => h.elim) (fun rr u t H1 locs ht hvm hw hB hz1 hk1 hS => ?_)
    have hP : va_P (dC, dI) CL [(h0, .inr (4, .ref st :: .ref po :: .int ps :: .int ie :: .ref g :: mr)), (h1, .inr (5, [.int so, .ref ao, .int le, .int ri, .int rl, .int nw, .int fa_])), (ao, .inr (0, [.int kd, .ref sg, .ref wt, .int e12, .int e13, .int e23])), (wt, .inl (cw, 3, .inl w)), (st, .inr (8, .ref fa :: sr)), (fa, .inl (cf, 16, .inr (.inr (.inr (.inr (fun j => some (fo j))))))), (g, .inl (cg, 6, .inl vs)), ((fo 0), .inr (2, [.int (nm 0), .int (fk 0), .ref (va 0), .int (mi 0), .int (td 0)])), ((va 0), .inl ((ca 0), 3, .inl (v 0))), ((fo 1), .inr (2, [.int (nm 1), .int (fk 1), .ref (va 1), .int (mi 1), .int (td 1)])), ((va 1), .inl ((ca 1), 3, .inl (v 1))), ((fo 2), .inr (2, [.int (nm 2), .int (fk 2), .ref (va 2), .int (mi 2), .int (td 2)])), ((va 2), .inl ((ca 2), 3, .inl (v 2))), ((fo 3), .inr (2, [.int (nm 3), .int (fk 3), .ref (va 3), .int (mi 3), .int (td 3)])), ((va 3), .inl ((ca 3), 3, .inl (v 3))), ((fo 4), .inr (2, [.int (nm 4), .int (fk 4), .ref (va 4), .int (mi 4), .int (td 4)])), ((va 4), .inl ((ca 4), 3, .inl (v 4))), ((fo 5), .inr (2, [.int (nm 5), .int (fk 5), .ref (va 5), .int (mi 5), .int (td 5)])), ((va 5), .inl ((ca 5), 3, .inl (v 5))), ((fo 6), .inr (2, [.int (nm 6), .int (fk 6), .ref (va 6), .int (mi 6), .int (td 6)])), ((va 6), .inl ((ca 6), 3, .inl (v 6))), ((fo 7), .inr (2, [.int (nm 7), .int (fk 7), .ref (va 7), .int (mi 7), .int (td 7)])), ((va 7), .inl ((ca 7), 3, .inl (v 7))), ((fo 8), .inr (2, [.int (nm 8), .int (fk 8), .ref (va 8), .int (mi 8), .int (td 8)])), ((va 8), .inl ((ca 8), 3, .inl (v 8))), ((fo 9), .inr (2, [.int (nm 9), .int (fk 9), .ref (va 9), .int (mi 9), .int (td 9)])), ((va 9), .inl ((ca 9), 3, .inl (v 9))), ((fo 10), .inr (2, [.int (nm 10), .int (fk 10), .ref (va 10), .int (mi 10), .int (td 10)])), ((va 10), .inl ((ca 10), 3, .inl (v 10))), ((fo 11), .inr (2, [.int (nm 11), .int (fk 11), .ref (va 11), .int (mi 11), .int (td 11)])), ((va 11), .inl ((ca 11), 3, .inl (v 11))), ((fo 12), .inr (2, [.int (nm 12), .int (fk 12), .ref (va 12), .int (mi 12), .int (td 12)])), ((va 12), .inl ((ca 12), 3, .inl (v 12))), ((fo 13), .inr (2, [.int (nm 13), .int (fk 13), .ref (va 13), .int (mi 13), .int (td 13)])), ((va 13), .inl ((ca 13), 3, .inl (v 13))), ((fo 14), .inr (2, [.int (nm 14), .int (fk 14), .ref (va 14), .int (mi 14), .int (td 14)])), ((va 14), .inl ((ca 14), 3, .inl (v 14))), ((fo 15), .inr (2, [.int (nm 15), .int (fk 15), .ref (va 15), .int (mi 15), .int (td 15)])), ((va 15), .inl ((ca 15), 3, .inl (v 15)))] H1 := hP.kept (fun k x hx => hk1 x.1 ((hP k x hx).lt) (fun h => h))
    generalize H1 = H at hP hS ⊢
    refine lv_if_eq hx hb dX8_outcome_142 rfl (fun q60 => ?_) (fun q60 => ?_)
    · refine lv_aload hx hb dX8_outcome_166 (lv_at hl 0 rfl) ?_
      refine va_get (D := (dC, dI)) (ci := 2) (v := .int (fk 5)) (C := RX2) (T := TX2) (N := 5) hx hb hts (by decide +kernel) hown hK hP 17 rfl rfl 1 (by decide) (hts (.fieldLink RX8 100 "Ruleengine$Fact" "kind" "I") (by decide +kernel)) (fun _ h9 => h9) rfl dX8_outcome_168 ?_
      refine lv_aload_n hx hb dX8_outcome_171 rfl (lv_at hl 6 rfl) ?_
      refine va_get (D := (dC, dI)) (ci := 5) (v := .ref ao) (C := RX5) (T := TX5) (N := 7) hx hb hts (by decide +kernel) hown hK hP 1 rfl rfl 1 (by decide) (hts (.fieldLink RX8 60 "Ruleengine$Part" "atom" "LRuleengine$Atom;") (by decide +kernel)) (fun _ h9 => h9) rfl dX8_outcome_172 ?_
      refine va_get (D := (dC, dI)) (ci := 0) (v := .int kd) (C := RX0) (T := TX0) (N := 6) hx hb hts (by decide +kernel) hown hK hP 2 rfl rfl 0 (by decide) (hts (.fieldLink RX8 103 "Ruleengine$Atom" "kind" "I") (by decide +kernel)) (fun _ h9 => h9) rfl dX8_outcome_175 ?_
      refine lv_icmp_ne hx hb dX8_outcome_178 rfl (fun q61 => ?_) (fun q61 => ?_)
      · refine lv_iinc (v := (6)) (lv' := [(5, .int (6)), (6, .ref (fo 5)), (4, .int sm), (3, .int o), (2, .int n), (0, .ref h0), (1, .ref h1)]) hx hb dX8_outcome_184 hl (k := 1) rfl (by decide) (by decide) rfl (fun ls hl => ?_)
        refine lv_goto hx hb dX8_outcome_187 rfl ?_
        have h0 : rr = 0 := by assumption
        have hf : ¬ lf_fit kd e12 e13 e23 w vs (fk 5) (v 5) := fun hh => by rw [if_pos hh] at hw; rw [hw] at h0; exact absurd h0 (by decide)
        have hp : (fun k => decide (lf_fit kd e12 e13 e23 w vs (fk k) (v k))) 5 = false := decide_eq_false hf
        have hk : fk 5 ≠ kd := by assumption
        have hq : (fun k => !decide (lf_fit kd e12 e13 e23 w vs (fk k) (v k)) && decide (fk k = kd)) 5 = false := by show (!decide (lf_fit kd e12 e13 e23 w vs (fk 5) (v 5)) && decide (fk 5 = kd)) = false; rw [decide_eq_false (p := fk 5 = kd) hk]; exact Bool.and_false _
        exact it6 ls H locs _ _ _ hP hS (lv_sub hl [0, 2, 3, 4, 5, 6] rfl) (by rw [a1]; exact (lf_cnt_n (P := (fun k => decide (lf_fit kd e12 e13 e23 w vs (fk k) (v k)))) (k := 5) hp).symm) (by rw [a2]; exact (lf_cnt_n (P := (fun k => !decide (lf_fit kd e12 e13 e23 w vs (fk k) (v k)) && decide (fk k = kd))) (k := 5) hq).symm) (by rw [a3]; exact (lf_sum_n (P := (fun k => decide (lf_fit kd e12 e13 e23 w vs (fk k) (v k)))) (x := (fun k => v k fa_.toNatClampNeg)) (k := 5) hp).symm)
      · refine lv_iinc (v := (o + 1)) (lv' := [(3, .int (o + 1)), (6, .ref (fo 5)), (5, .int (5)), (4, .int sm), (2, .int n), (0, .ref h0), (1, .ref h1)]) hx hb dX8_outcome_181 hl (k := 3) rfl (by rfl) (by decide) rfl (fun ls hl => ?_)
        refine lv_iinc (v := (6)) (lv' := [(5, .int (6)), (3, .int (o + 1)), (6, .ref (fo 5)), (4, .int sm), (2, .int n), (0, .ref h0), (1, .ref h1)]) hx hb dX8_outcome_184 hl (k := 2) rfl (by decide) (by decide) rfl (fun ls hl => ?_)
        refine lv_goto hx hb dX8_outcome_187 rfl ?_
        have h0 : rr = 0 := by assumption
        have hf : ¬ lf_fit kd e12 e13 e23 w vs (fk 5) (v 5) := fun hh => by rw [if_pos hh] at hw; rw [hw] at h0; exact absurd h0 (by decide)
        have hp : (fun k => decide (lf_fit kd e12 e13 e23 w vs (fk k) (v k))) 5 = false := decide_eq_false hf
        have hk : fk 5 = kd := by assumption
        have hq : (fun k => !decide (lf_fit kd e12 e13 e23 w vs (fk k) (v k)) && decide (fk k = kd)) 5 = true := by show (!decide (lf_fit kd e12 e13 e23 w vs (fk 5) (v 5)) && decide (fk 5 = kd)) = true; rw [decide_eq_false hf, decide_eq_true hk]; rfl
        exact it6 ls H locs _ _ _ hP hS (lv_sub hl [0, 3, 1, 4, 5, 6] rfl) (by rw [a1]; exact (lf_cnt_n (P := (fun k => decide (lf_fit kd e12 e13 e23 w vs (fk k) (v k)))) (k := 5) hp).symm) (by rw [a2]; exact (lf_cnt_y (P := (fun k => !decide (lf_fit kd e12 e13 e23 w vs (fk k) (v k)) && decide (fk k = kd))) (k := 5) hq).symm) (by rw [a3]; exact (lf_sum_n (P := (fun k => decide (lf_fit kd e12 e13 e23 w vs (fk k) (v k)))) (x := (fun k => v k fa_.toNatClampNeg)) (k := 5) hp).symm)
    · refine lv_iinc (v := (n + 1)) (lv' := [(2, .int (n + 1)), (6, .ref (fo 5)), (5, .int (5)), (4, .int sm), (3, .int o), (0, .ref h0), (1, .ref h1)]) hx hb dX8_outcome_145 hl (k := 4) rfl (by rfl) (by decide) rfl (fun ls hl => ?_)
      refine lv_iload hx hb dX8_outcome_148 (lv_at hl 3 rfl) ?_
      refine lv_aload hx hb dX8_outcome_150 (lv_at hl 1 rfl) ?_
      refine va_get (D := (dC, dI)) (ci := 2) (v := .ref (va 5)) (C := RX2) (T := TX2) (N := 5) hx hb hts (by decide +kernel) hown hK hP 17 rfl rfl 2 (by decide) (hts (.fieldLink RX8 92 "Ruleengine$Fact" "value" "[I") (by decide +kernel)) (fun _ h9 => h9) rfl dX8_outcome_152 ?_
      refine lv_aload_n hx hb dX8_outcome_155 rfl (lv_at hl 6 rfl) ?_
      refine va_get (D := (dC, dI)) (ci := 5) (v := .int fa_) (C := RX5) (T := TX5) (N := 7) hx hb hts (by decide +kernel) hown hK hP 1 rfl rfl 6 (by decide) (hts (.fieldLink RX8 97 "Ruleengine$Part" "at" "I") (by decide +kernel)) (fun _ h9 => h9) rfl dX8_outcome_156 ?_
      refine va_iald (i := fa_) hx hb hK hP 18 8 rfl rfl hat dX8_outcome_159 ?_
      refine lv_iadd hx hb dX8_outcome_160 ?_
      refine lv_istore (lv' := [(4, .int (sm + ((v 5) (fa_).toNatClampNeg))), (2, .int (n + 1)), (6, .ref (fo 5)), (5, .int (5)), (3, .int o), (0, .ref h0), (1, .ref h1)]) hx hb dX8_outcome_161 hl (by decide) rfl (fun ls hl => ?_)
      refine lv_goto hx hb dX8_outcome_163 rfl ?_
      refine lv_iinc (v := (6)) (lv' := [(5, .int (6)), (4, .int (sm + ((v 5) (fa_).toNatClampNeg))), (2, .int (n + 1)), (6, .ref (fo 5)), (3, .int o), (0, .ref h0), (1, .ref h1)]) hx hb dX8_outcome_184 hl (k := 3) rfl (by decide) (by decide) rfl (fun ls hl => ?_)
      refine lv_goto hx hb dX8_outcome_187 rfl ?_
      have hf : lf_fit kd e12 e13 e23 w vs (fk 5) (v 5) := Decidable.byContradiction (fun hh => by rw [if_neg hh] at hw; exact absurd hw (by assumption))
      have hp : (fun k => decide (lf_fit kd e12 e13 e23 w vs (fk k) (v k))) 5 = true := decide_eq_true hf
      have hq : (fun k => !decide (lf_fit kd e12 e13 e23 w vs (fk k) (v k)) && decide (fk k = kd)) 5 = false := by show (!decide (lf_fit kd e12 e13 e23 w vs (fk 5) (v 5)) && decide (fk 5 = kd)) = false; rw [decide_eq_true hf]; rfl
      exact it6 ls H locs _ _ _ hP hS (lv_sub hl [0, 1, 4, 2, 5, 6] rfl) (by rw [a1]; exact (lf_cnt_y (P := (fun k => decide (lf_fit kd e12 e13 e23 w vs (fk k) (v k)))) (k := 5) hp).symm) (by rw [a2]; exact (lf_cnt_n (P := (fun k => !decide (lf_fit kd e12 e13 e23 w vs (fk k) (v k)) && decide (fk k = kd))) (k := 5) hq).symm) (by rw [a3]; exact (lf_sum_y (P := (fun k => decide (lf_fit kd e12 e13 e23 w vs (fk k) (v k)))) (x := (fun k => v k fa_.toNatClampNeg)) (k := 5) hp).symm)
  have it4 : ∀ (ls : Array Slot) (H : Heap) (locs : List Loc) (n o sm : Int32), va_P (dC, dI) CL [(h0, .inr (4, .ref st :: .ref po :: .int ps :: .int ie :: .ref g :: mr)), (h1, .inr (5, [.int so, .ref ao, .int le, .int ri, .int rl, .int nw, .int fa_])), (ao, .inr (0, [.int kd, .ref sg, .ref wt, .int e12, .int e13, .int e23])), (wt, .inl (cw, 3, .inl w)), (st, .inr (8, .ref fa :: sr)), (fa, .inl (cf, 16, .inr (.inr (.inr (.inr (fun j => some (fo j))))))), (g, .inl (cg, 6, .inl vs)), ((fo 0), .inr (2, [.int (nm 0), .int (fk 0), .ref (va 0), .int (mi 0), .int (td 0)])), ((va 0), .inl ((ca 0), 3, .inl (v 0))), ((fo 1), .inr (2, [.int (nm 1), .int (fk 1), .ref (va 1), .int (mi 1), .int (td 1)])), ((va 1), .inl ((ca 1), 3, .inl (v 1))), ((fo 2), .inr (2, [.int (nm 2), .int (fk 2), .ref (va 2), .int (mi 2), .int (td 2)])), ((va 2), .inl ((ca 2), 3, .inl (v 2))), ((fo 3), .inr (2, [.int (nm 3), .int (fk 3), .ref (va 3), .int (mi 3), .int (td 3)])), ((va 3), .inl ((ca 3), 3, .inl (v 3))), ((fo 4), .inr (2, [.int (nm 4), .int (fk 4), .ref (va 4), .int (mi 4), .int (td 4)])), ((va 4), .inl ((ca 4), 3, .inl (v 4))), ((fo 5), .inr (2, [.int (nm 5), .int (fk 5), .ref (va 5), .int (mi 5), .int (td 5)])), ((va 5), .inl ((ca 5), 3, .inl (v 5))), ((fo 6), .inr (2, [.int (nm 6), .int (fk 6), .ref (va 6), .int (mi 6), .int (td 6)])), ((va 6), .inl ((ca 6), 3, .inl (v 6))), ((fo 7), .inr (2, [.int (nm 7), .int (fk 7), .ref (va 7), .int (mi 7), .int (td 7)])), ((va 7), .inl ((ca 7), 3, .inl (v 7))), ((fo 8), .inr (2, [.int (nm 8), .int (fk 8), .ref (va 8), .int (mi 8), .int (td 8)])), ((va 8), .inl ((ca 8), 3, .inl (v 8))), ((fo 9), .inr (2, [.int (nm 9), .int (fk 9), .ref (va 9), .int (mi 9), .int (td 9)])), ((va 9), .inl ((ca 9), 3, .inl (v 9))), ((fo 10), .inr (2, [.int (nm 10), .int (fk 10), .ref (va 10), .int (mi 10), .int (td 10)])), ((va 10), .inl ((ca 10), 3, .inl (v 10))), ((fo 11), .inr (2, [.int (nm 11), .int (fk 11), .ref (va 11), .int (mi 11), .int (td 11)])), ((va 11), .inl ((ca 11), 3, .inl (v 11))), ((fo 12), .inr (2, [.int (nm 12), .int (fk 12), .ref (va 12), .int (mi 12), .int (td 12)])), ((va 12), .inl ((ca 12), 3, .inl (v 12))), ((fo 13), .inr (2, [.int (nm 13), .int (fk 13), .ref (va 13), .int (mi 13), .int (td 13)])), ((va 13), .inl ((ca 13), 3, .inl (v 13))), ((fo 14), .inr (2, [.int (nm 14), .int (fk 14), .ref (va 14), .int (mi 14), .int (td 14)])), ((va 14), .inl ((ca 14), 3, .inl (v 14))), ((fo 15), .inr (2, [.int (nm 15), .int (fk 15), .ref (va 15), .int (mi 15), .int (td 15)])), ((va 15), .inl ((ca 15), 3, .inl (v 15)))] H → va_S A s.heap H locs → lv_has ls 7 [(5, .int (4)), (4, .int sm), (3, .int o), (2, .int n), (0, .ref h0), (1, .ref h1)] → n = lf_cnt (fun k => decide (lf_fit kd e12 e13 e23 w vs (fk k) (v k))) 4 → o = lf_cnt (fun k => !decide (lf_fit kd e12 e13 e23 w vs (fk k) (v k)) && decide (fk k = kd)) 4 → sm = lf_sum (fun k => decide (lf_fit kd e12 e13 e23 w vs (fk k) (v k))) (fun k => v k fa_.toNatClampNeg) 4 → W p l e (headSpec wqX8_outcome ({ frames := 1, cells := 0, slots := 0, locals := 24 })).room s m #[.ref h0, .ref h1] below meth c H locs 0 0 (MQ below (va_Qi (fun (r : Int32) (u : Nat → Int32) => (u = if (so = 4 ∨ so = 5) ∧ nw ≠ 0 then upd vs (le - 16).toNatClampNeg (if so = 5 then lf_sum (fun k => decide (lf_fit kd e12 e13 e23 w vs (fk k) (v k))) (fun k => v k fa_.toNatClampNeg) 16 else lf_cnt (fun k => decide (lf_fit kd e12 e13 e23 w vs (fk k) (v k))) 16) else vs) ∧ r = if so = 4 ∨ so = 5 then (if u (le - 16).toNatClampNeg = (if so = 5 then lf_sum (fun k => decide (lf_fit kd e12 e13 e23 w vs (fk k) (v k))) (fun k => v k fa_.toNatClampNeg) 16 else lf_cnt (fun k => decide (lf_fit kd e12 e13 e23 w vs (fk k) (v k))) 16) then (if so = 5 then lf_sum (fun k => decide (lf_fit kd e12 e13 e23 w vs (fk k) (v k))) (fun k => v k fa_.toNatClampNeg) 16 else lf_cnt (fun k => decide (lf_fit kd e12 e13 e23 w vs (fk k) (v k))) 16) else -1) else if (if so = 2 then 0 < lf_cnt (fun k => decide (lf_fit kd e12 e13 e23 w vs (fk k) (v k))) 16 else (if so = 3 then lf_cnt (fun k => !decide (lf_fit kd e12 e13 e23 w vs (fk k) (v k)) && decide (fk k = kd)) 16 else lf_cnt (fun k => decide (lf_fit kd e12 e13 e23 w vs (fk k) (v k))) 16) = 0) then 0 else -1) (fun u t => va_P (dC, dI) CL [(h0, .inr (4, .ref st :: .ref po :: .int ps :: .int ie :: .ref g :: mr)), (h1, .inr (5, [.int so, .ref ao, .int le, .int ri, .int rl, .int nw, .int fa_])), (ao, .inr (0, [.int kd, .ref sg, .ref wt, .int e12, .int e13, .int e23])), (wt, .inl (cw, 3, .inl w)), (st, .inr (8, .ref fa :: sr)), (fa, .inl (cf, 16, .inr (.inr (.inr (.inr (fun j => some (fo j))))))), (g, .inl (cg, 6, .inl u)), ((fo 0), .inr (2, [.int (nm 0), .int (fk 0), .ref (va 0), .int (mi 0), .int (td 0)])), ((va 0), .inl ((ca 0), 3, .inl (v 0))), ((fo 1), .inr (2, [.int (nm 1), .int (fk 1), .ref (va 1), .int (mi 1), .int (td 1)])), ((va 1), .inl ((ca 1), 3, .inl (v 1))), ((fo 2), .inr (2, [.int (nm 2), .int (fk 2), .ref (va 2), .int (mi 2), .int (td 2)])), ((va 2), .inl ((ca 2), 3, .inl (v 2))), ((fo 3), .inr (2, [.int (nm 3), .int (fk 3), .ref (va 3), .int (mi 3), .int (td 3)])), ((va 3), .inl ((ca 3), 3, .inl (v 3))), ((fo 4), .inr (2, [.int (nm 4), .int (fk 4), .ref (va 4), .int (mi 4), .int (td 4)])), ((va 4), .inl ((ca 4), 3, .inl (v 4))), ((fo 5), .inr (2, [.int (nm 5), .int (fk 5), .ref (va 5), .int (mi 5), .int (td 5)])), ((va 5), .inl ((ca 5), 3, .inl (v 5))), ((fo 6), .inr (2, [.int (nm 6), .int (fk 6), .ref (va 6), .int (mi 6), .int (td 6)])), ((va 6), .inl ((ca 6), 3, .inl (v 6))), ((fo 7), .inr (2, [.int (nm 7), .int (fk 7), .ref (va 7), .int (mi 7), .int (td 7)])), ((va 7), .inl ((ca 7), 3, .inl (v 7))), ((fo 8), .inr (2, [.int (nm 8), .int (fk 8), .ref (va 8), .int (mi 8), .int (td 8)])), ((va 8), .inl ((ca 8), 3, .inl (v 8))), ((fo 9), .inr (2, [.int (nm 9), .int (fk 9), .ref (va 9), .int (mi 9), .int (td 9)])), ((va 9), .inl ((ca 9), 3, .inl (v 9))), ((fo 10), .inr (2, [.int (nm 10), .int (fk 10), .ref (va 10), .int (mi 10), .int (td 10)])), ((va 10), .inl ((ca 10), 3, .inl (v 10))), ((fo 11), .inr (2, [.int (nm 11), .int (fk 11), .ref (va 11), .int (mi 11), .int (td 11)])), ((va 11), .inl ((ca 11), 3, .inl (v 11))), ((fo 12), .inr (2, [.int (nm 12), .int (fk 12), .ref (va 12), .int (mi 12), .int (td 12)])), ((va 12), .inl ((ca 12), 3, .inl (v 12))), ((fo 13), .inr (2, [.int (nm 13), .int (fk 13), .ref (va 13), .int (mi 13), .int (td 13)])), ((va 13), .inl ((ca 13), 3, .inl (v 13))), ((fo 14), .inr (2, [.int (nm 14), .int (fk 14), .ref (va 14), .int (mi 14), .int (td 14)])), ((va 14), .inl ((ca 14), 3, .inl (v 14))), ((fo 15), .inr (2, [.int (nm 15), .int (fk 15), .ref (va 15), .int (mi 15), .int (td 15)])), ((va 15), .inl ((ca 15), 3, .inl (v 15)))] t.heap ∧ va_K (dC, dI) CL [(cw, .int), (cf, .object RX2), (cg, .int), ((ca 0), .int), ((ca 1), .int), ((ca 2), .int), ((ca 3), .int), ((ca 4), .int), ((ca 5), .int), ((ca 6), .int), ((ca 7), .int), ((ca 8), .int), ((ca 9), .int), ((ca 10), .int), ((ca 11), .int), ((ca 12), .int), ((ca 13), .int), ((ca 14), .int), ((ca 15), .int)] t ∧ va_D (A) [(h0, .inr (4, .ref st :: .ref po :: .int ps :: .int ie :: .ref g :: mr)), (h1, .inr (5, [.int so, .ref ao, .int le, .int ri, .int rl, .int nw, .int fa_])), (ao, .inr (0, [.int kd, .ref sg, .ref wt, .int e12, .int e13, .int e23])), (wt, .inl (cw, 3, .inl w)), (st, .inr (8, .ref fa :: sr)), (fa, .inl (cf, 16, .inr (.inr (.inr (.inr (fun j => some (fo j))))))), (g, .inl (cg, 6, .inl u)), ((fo 0), .inr (2, [.int (nm 0), .int (fk 0), .ref (va 0), .int (mi 0), .int (td 0)])), ((va 0), .inl ((ca 0), 3, .inl (v 0))), ((fo 1), .inr (2, [.int (nm 1), .int (fk 1), .ref (va 1), .int (mi 1), .int (td 1)])), ((va 1), .inl ((ca 1), 3, .inl (v 1))), ((fo 2), .inr (2, [.int (nm 2), .int (fk 2), .ref (va 2), .int (mi 2), .int (td 2)])), ((va 2), .inl ((ca 2), 3, .inl (v 2))), ((fo 3), .inr (2, [.int (nm 3), .int (fk 3), .ref (va 3), .int (mi 3), .int (td 3)])), ((va 3), .inl ((ca 3), 3, .inl (v 3))), ((fo 4), .inr (2, [.int (nm 4), .int (fk 4), .ref (va 4), .int (mi 4), .int (td 4)])), ((va 4), .inl ((ca 4), 3, .inl (v 4))), ((fo 5), .inr (2, [.int (nm 5), .int (fk 5), .ref (va 5), .int (mi 5), .int (td 5)])), ((va 5), .inl ((ca 5), 3, .inl (v 5))), ((fo 6), .inr (2, [.int (nm 6), .int (fk 6), .ref (va 6), .int (mi 6), .int (td 6)])), ((va 6), .inl ((ca 6), 3, .inl (v 6))), ((fo 7), .inr (2, [.int (nm 7), .int (fk 7), .ref (va 7), .int (mi 7), .int (td 7)])), ((va 7), .inl ((ca 7), 3, .inl (v 7))), ((fo 8), .inr (2, [.int (nm 8), .int (fk 8), .ref (va 8), .int (mi 8), .int (td 8)])), ((va 8), .inl ((ca 8), 3, .inl (v 8))), ((fo 9), .inr (2, [.int (nm 9), .int (fk 9), .ref (va 9), .int (mi 9), .int (td 9)])), ((va 9), .inl ((ca 9), 3, .inl (v 9))), ((fo 10), .inr (2, [.int (nm 10), .int (fk 10), .ref (va 10), .int (mi 10), .int (td 10)])), ((va 10), .inl ((ca 10), 3, .inl (v 10))), ((fo 11), .inr (2, [.int (nm 11), .int (fk 11), .ref (va 11), .int (mi 11), .int (td 11)])), ((va 11), .inl ((ca 11), 3, .inl (v 11))), ((fo 12), .inr (2, [.int (nm 12), .int (fk 12), .ref (va 12), .int (mi 12), .int (td 12)])), ((va 12), .inl ((ca 12), 3, .inl (v 12))), ((fo 13), .inr (2, [.int (nm 13), .int (fk 13), .ref (va 13), .int (mi 13), .int (td 13)])), ((va 13), .inl ((ca 13), 3, .inl (v 13))), ((fo 14), .inr (2, [.int (nm 14), .int (fk 14), .ref (va 14), .int (mi 14), .int (td 14)])), ((va 14), .inl ((ca 14), 3, .inl (v 14))), ((fo 15), .inr (2, [.int (nm 15), .int (fk 15), .ref (va 15), .int (mi 15), .int (td 15)])), ((va 15), .inl ((ca 15), 3, .inl (v 15)))]) (A)) #[.ref h0, .ref h1] s 0 0 A) (F0 m 110 ls []) := by
    intro ls H locs n o sm hP hS hl a1 a2 a3
    refine lv_iload hx hb dX8_outcome_110 (lv_at hl 0 rfl) ?_
    refine lv_bipush (v := (16 : Int32)) hx hb dX8_outcome_112 (by decide) ?_
    refine lv_icmp_ge hx hb dX8_outcome_114 rfl (fun q => absurd q (by decide)) (fun _ => ?_)
    refine lv_aload_n hx hb dX8_outcome_117 rfl (lv_at hl 4 rfl) ?_
    refine va_get (D := (dC, dI)) (ci := 4) (v := .ref st) (C := RX4) (T := TX4) (N := 17) hx hb hts (by decide +kernel) hown hK hP 0 rfl rfl 0 (by decide) (hts (.fieldLink RX8 18 "Ruleengine$Search" "state" "LRuleengine$State;") (by decide +kernel)) (fun _ h9 => h9) rfl dX8_outcome_118 ?_
    refine va_get (D := (dC, dI)) (ci := 8) (v := .ref fa) (C := RX9) (T := TX9) (N := 13) hx hb hts (by decide +kernel) hown hK hP 4 rfl rfl 0 (by decide) (hts (.fieldLink RX8 87 "Ruleengine$State" "fact" "[LRuleengine$Fact;") (by decide +kernel)) (fun _ h9 => h9) rfl dX8_outcome_121 ?_
    refine lv_iload hx hb dX8_outcome_124 (lv_at hl 0 rfl) ?_
    refine va_aldq (i := (4)) hx hb hK hP 5 1 rfl rfl (by unfold vp_in; decide) dX8_outcome_126 ?_
    refine W.eq (g2 := F0 m 127 _ (.ref (fo 4) :: _)) rfl ?_
    refine lv_astore (lv' := [(6, .ref (fo 4)), (5, .int (4)), (4, .int sm), (3, .int o), (2, .int n), (0, .ref h0), (1, .ref h1)]) hx hb dX8_outcome_127 hl (by decide) rfl (fun ls hl => ?_)
    refine lv_aload_n hx hb dX8_outcome_129 rfl (lv_at hl 6 rfl) ?_
    refine va_get (D := (dC, dI)) (ci := 5) (v := .ref ao) (C := RX5) (T := TX5) (N := 7) hx hb hts (by decide +kernel) hown hK hP 1 rfl rfl 1 (by decide) (hts (.fieldLink RX8 60 "Ruleengine$Part" "atom" "LRuleengine$Atom;") (by decide +kernel)) (fun _ h9 => h9) rfl dX8_outcome_130 ?_
    refine lv_aload hx hb dX8_outcome_133 (lv_at hl 0 rfl) ?_
    refine lv_aload_n hx hb dX8_outcome_135 rfl (lv_at hl 5 rfl) ?_
    refine va_get (D := (dC, dI)) (ci := 4) (v := .ref g) (C := RX4) (T := TX4) (N := 17) hx hb hts (by decide +kernel) hown hK hP 0 rfl rfl 4 (by decide) (hts (.fieldLink RX8 9 "Ruleengine$Search" "values" "[I") (by decide +kernel)) (fun _ h9 => h9) rfl dX8_outcome_136 ?_
    have hPc := hP.sub (ws' := [(ao, .inr (0, [.int kd, .ref sg, .ref wt, .int e12, .int e13, .int e23])), (wt, .inl (cw, 3, .inl w)), ((fo 4), .inr (2, [.int (nm 4), .int (fk 4), .ref (va 4), .int (mi 4), .int (td 4)])), ((va 4), .inl ((ca 4), 3, .inl (v 4))), (g, .inl (cg, 6, .inl vs))]) [2, 3, 15, 16, 6] rfl
    have hDc := hD.sub (ws' := [(ao, .inr (0, [.int kd, .ref sg, .ref wt, .int e12, .int e13, .int e23])), (wt, .inl (cw, 3, .inl w)), ((fo 4), .inr (2, [.int (nm 4), .int (fk 4), .ref (va 4), .int (mi 4), .int (td 4)])), ((va 4), .inl ((ca 4), 3, .inl (v 4))), (g, .inl (cg, 6, .inl vs))]) [2, 3, 15, 16, 6] (by decide) rfl
    have hKc := hK.sub (tys' := [(cw, .int), ((ca 4), .int), (cg, .int)]) [0, 7, 2] rfl
    refine va_calli (va_runV (As := [.ref (fo 4), .ref g]) (rest := []) ⟨hx, hb, hml, hown, hts⟩ (kX0_fits l dC dI H.size ao sg wt (fo 4) (va 4) g cw (ca 4) cg kd e12 e13 e23 (nm 4) (fk 4) (mi 4) (td 4) w (v 4) vs) (cwV 2 hts ggq rfl rfl rfl (by decide +kernel) ⟨Nat.le_of_ble_eq_true rfl, Nat.le_of_ble_eq_true rfl⟩) ⟨fun a U g mk q => by obtain ⟨q0, q1, qP, qK, qD⟩ := q; exact ⟨q0, q1, qP, va_K.moved (u := U) (U := U.calling g mk a) (Vm.Alike.refl U.vm) qK, qD⟩, va_recv hKc hPc (ci := 0) (q0 := 0) rfl rfl, fun U hU hW => ⟨rfl, by rw [hU], by rw [hU]; exact hPc, va_K.moved hW.alike hKc, hDc.weaken (fun _ _ _ _ => trivial)⟩⟩ rfl rfl hl.1 rfl (lv_room (Nat.le_of_ble_eq_true rfl)) dX8_outcome_139 ⟨Nat.le_of_ble_eq_true rfl, Nat.le_of_ble_eq_true rfl⟩) hS (fun q _ h => h.elim) (fun q h => h.elim) (fun rr u t H1 locs ht hvm hw hB hz1 hk1 hS => ?_)
    have hP : va_P (dC, dI) CL [(h0, .inr (4, .ref st :: .ref po :: .int ps :: .int ie :: .ref g :: mr)), (h1, .inr (5, [.int so, .ref ao, .int le, .int ri, .int rl, .int nw, .int fa_])), (ao, .inr (0, [.int kd, .ref sg, .ref wt, .int e12, .int e13, .int e23])), (wt, .inl (cw, 3, .inl w)), (st, .inr (8, .ref fa :: sr)), (fa, .inl (cf, 16, .inr (.inr (.inr (.inr (fun j => some (fo j))))))), (g, .inl (cg, 6, .inl vs)), ((fo 0), .inr (2, [.int (nm 0), .int (fk 0), .ref (va 0), .int (mi 0), .int (td 0)])), ((va 0), .inl ((ca 0), 3, .inl (v 0))), ((fo 1), .inr (2, [.int (nm 1), .int (fk 1), .ref (va 1), .int (mi 1), .int (td 1)])), ((va 1), .inl ((ca 1), 3, .inl (v 1))), ((fo 2), .inr (2, [.int (nm 2), .int (fk 2), .ref (va 2), .int (mi 2), .int (td 2)])), ((va 2), .inl ((ca 2), 3, .inl (v 2))), ((fo 3), .inr (2, [.int (nm 3), .int (fk 3), .ref (va 3), .int (mi 3), .int (td 3)])), ((va 3), .inl ((ca 3), 3, .inl (v 3))), ((fo 4), .inr (2, [.int (nm 4), .int (fk 4), .ref (va 4), .int (mi 4), .int (td 4)])), ((va 4), .inl ((ca 4), 3, .inl (v 4))), ((fo 5), .inr (2, [.int (nm 5), .int (fk 5), .ref (va 5), .int (mi 5), .int (td 5)])), ((va 5), .inl ((ca 5), 3, .inl (v 5))), ((fo 6), .inr (2, [.int (nm 6), .int (fk 6), .ref (va 6), .int (mi 6), .int (td 6)])), ((va 6), .inl ((ca 6), 3, .inl (v 6))), ((fo 7), .inr (2, [.int (nm 7), .int (fk 7), .ref (va 7), .int (mi 7), .int (td 7)])), ((va 7), .inl ((ca 7), 3, .inl (v 7))), ((fo 8), .inr (2, [.int (nm 8), .int (fk 8), .ref (va 8), .int (mi 8), .int (td 8)])), ((va 8), .inl ((ca 8), 3, .inl (v 8))), ((fo 9), .inr (2, [.int (nm 9), .int (fk 9), .ref (va 9), .int (mi 9), .int (td 9)])), ((va 9), .inl ((ca 9), 3, .inl (v 9))), ((fo 10), .inr (2, [.int (nm 10), .int (fk 10), .ref (va 10), .int (mi 10), .int (td 10)])), ((va 10), .inl ((ca 10), 3, .inl (v 10))), ((fo 11), .inr (2, [.int (nm 11), .int (fk 11), .ref (va 11), .int (mi 11), .int (td 11)])), ((va 11), .inl ((ca 11), 3, .inl (v 11))), ((fo 12), .inr (2, [.int (nm 12), .int (fk 12), .ref (va 12), .int (mi 12), .int (td 12)])), ((va 12), .inl ((ca 12), 3, .inl (v 12))), ((fo 13), .inr (2, [.int (nm 13), .int (fk 13), .ref (va 13), .int (mi 13), .int (td 13)])), ((va 13), .inl ((ca 13), 3, .inl (v 13))), ((fo 14), .inr (2, [.int (nm 14), .int (fk 14), .ref (va 14), .int (mi 14), .int (td 14)])), ((va 14), .inl ((ca 14), 3, .inl (v 14))), ((fo 15), .inr (2, [.int (nm 15), .int (fk 15), .ref (va 15), .int (mi 15), .int (td 15)])), ((va 15), .inl ((ca 15), 3, .inl (v 15)))] H1 := hP.kept (fun k x hx => hk1 x.1 ((hP k x hx).lt) (fun h => h))
    generalize H1 = H at hP hS ⊢
    refine lv_if_eq hx hb dX8_outcome_142 rfl (fun q63 => ?_) (fun q63 => ?_)
    · refine lv_aload hx hb dX8_outcome_166 (lv_at hl 0 rfl) ?_
      refine va_get (D := (dC, dI)) (ci := 2) (v := .int (fk 4)) (C := RX2) (T := TX2) (N := 5) hx hb hts (by decide +kernel) hown hK hP 15 rfl rfl 1 (by decide) (hts (.fieldLink RX8 100 "Ruleengine$Fact" "kind" "I") (by decide +kernel)) (fun _ h9 => h9) rfl dX8_outcome_168 ?_
      refine lv_aload_n hx hb dX8_outcome_171 rfl (lv_at hl 6 rfl) ?_
      refine va_get (D := (dC, dI)) (ci := 5) (v := .ref ao) (C := RX5) (T := TX5) (N := 7) hx hb hts (by decide +kernel) hown hK hP 1 rfl rfl 1 (by decide) (hts (.fieldLink RX8 60 "Ruleengine$Part" "atom" "LRuleengine$Atom;") (by decide +kernel)) (fun _ h9 => h9) rfl dX8_outcome_172 ?_
      refine va_get (D := (dC, dI)) (ci := 0) (v := .int kd) (C := RX0) (T := TX0) (N := 6) hx hb hts (by decide +kernel) hown hK hP 2 rfl rfl 0 (by decide) (hts (.fieldLink RX8 103 "Ruleengine$Atom" "kind" "I") (by decide +kernel)) (fun _ h9 => h9) rfl dX8_outcome_175 ?_
      refine lv_icmp_ne hx hb dX8_outcome_178 rfl (fun q64 => ?_) (fun q64 => ?_)
      · refine lv_iinc (v := (5)) (lv' := [(5, .int (5)), (6, .ref (fo 4)), (4, .int sm), (3, .int o), (2, .int n), (0, .ref h0), (1, .ref h1)]) hx hb dX8_outcome_184 hl (k := 1) rfl (by decide) (by decide) rfl (fun ls hl => ?_)
        refine lv_goto hx hb dX8_outcome_187 rfl ?_
        have h0 : rr = 0 := by assumption
        have hf : ¬ lf_fit kd e12 e13 e23 w vs (fk 4) (v 4) := fun hh => by rw [if_pos hh] at hw; rw [hw] at h0; exact absurd h0 (by decide)
        have hp : (fun k => decide (lf_fit kd e12 e13 e23 w vs (fk k) (v k))) 4 = false := decide_eq_false hf
        have hk : fk 4 ≠ kd := by assumption
        have hq : (fun k => !decide (lf_fit kd e12 e13 e23 w vs (fk k) (v k)) && decide (fk k = kd)) 4 = false := by show (!decide (lf_fit kd e12 e13 e23 w vs (fk 4) (v 4)) && decide (fk 4 = kd)) = false; rw [decide_eq_false (p := fk 4 = kd) hk]; exact Bool.and_false _
        exact it5 ls H locs _ _ _ hP hS (lv_sub hl [0, 2, 3, 4, 5, 6] rfl) (by rw [a1]; exact (lf_cnt_n (P := (fun k => decide (lf_fit kd e12 e13 e23 w vs (fk k) (v k)))) (k := 4) hp).symm) (by rw [a2]; exact (lf_cnt_n (P := (fun k => !decide (lf_fit kd e12 e13 e23 w vs (fk k) (v k)) && decide (fk k = kd))) (k := 4) hq).symm) (by rw [a3]; exact (lf_sum_n (P := (fun k => decide (lf_fit kd e12 e13 e23 w vs (fk k) (v k)))) (x := (fun k => v k fa_.toNatClampNeg)) (k := 4) hp).symm)
      · refine lv_iinc (v := (o + 1)) (lv' := [(3, .int (o + 1)), (6, .ref (fo 4)), (5, .int (4)), (4, .int sm), (2, .int n), (0, .ref h0), (1, .ref h1)]) hx hb dX8_outcome_181 hl (k := 3) rfl (by rfl) (by decide) rfl (fun ls hl => ?_)
        refine lv_iinc (v := (5)) (lv' := [(5, .int (5)), (3, .int (o + 1)), (6, .ref (fo 4)), (4, .int sm), (2, .int n), (0, .ref h0), (1, .ref h1)]) hx hb dX8_outcome_184 hl (k := 2) rfl (by decide) (by decide) rfl (fun ls hl => ?_)
        refine lv_goto hx hb dX8_outcome_187 rfl ?_
        have h0 : rr = 0 := by assumption
        have hf : ¬ lf_fit kd e12 e13 e23 w vs (fk 4) (v 4) := fun hh => by rw [if_pos hh] at hw; rw [hw] at h0; exact absurd h0 (by decide)
        have hp : (fun k => decide (lf_fit kd e12 e13 e23 w vs (fk k) (v k))) 4 = false := decide_eq_false hf
        have hk : fk 4 = kd := by assumption
        have hq : (fun k => !decide (lf_fit kd e12 e13 e23 w vs (fk k) (v k)) && decide (fk k = kd)) 4 = true := by show (!decide (lf_fit kd e12 e13 e23 w vs (fk 4) (v 4)) && decide (fk 4 = kd)) = true; rw [decide_eq_false hf, decide_eq_true hk]; rfl
        exact it5 ls H locs _ _ _ hP hS (lv_sub hl [0, 3, 1, 4, 5, 6] rfl) (by rw [a1]; exact (lf_cnt_n (P := (fun k => decide (lf_fit kd e12 e13 e23 w vs (fk k) (v k)))) (k := 4) hp).symm) (by rw [a2]; exact (lf_cnt_y (P := (fun k => !decide (lf_fit kd e12 e13 e23 w vs (fk k) (v k)) && decide (fk k = kd))) (k := 4) hq).symm) (by rw [a3]; exact (lf_sum_n (P := (fun k => decide (lf_fit kd e12 e13 e23 w vs (fk k) (v k)))) (x := (fun k => v k fa_.toNatClampNeg)) (k := 4) hp).symm)
    · refine lv_iinc (v := (n + 1)) (lv' := [(2, .int (n + 1)), (6, .ref (fo 4)), (5, .int (4)), (4, .int sm), (3, .int o), (0, .ref h0), (1, .ref h1)]) hx hb dX8_outcome_145 hl (k := 4) rfl (by rfl) (by decide) rfl (fun ls hl => ?_)
      refine lv_iload hx hb dX8_outcome_148 (lv_at hl 3 rfl) ?_
      refine lv_aload hx hb dX8_outcome_150 (lv_at hl 1 rfl) ?_
      refine va_get (D := (dC, dI)) (ci := 2) (v := .ref (va 4)) (C := RX2) (T := TX2) (N := 5) hx hb hts (by decide +kernel) hown hK hP 15 rfl rfl 2 (by decide) (hts (.fieldLink RX8 92 "Ruleengine$Fact" "value" "[I") (by decide +kernel)) (fun _ h9 => h9) rfl dX8_outcome_152 ?_
      refine lv_aload_n hx hb dX8_outcome_155 rfl (lv_at hl 6 rfl) ?_
      refine va_get (D := (dC, dI)) (ci := 5) (v := .int fa_) (C := RX5) (T := TX5) (N := 7) hx hb hts (by decide +kernel) hown hK hP 1 rfl rfl 6 (by decide) (hts (.fieldLink RX8 97 "Ruleengine$Part" "at" "I") (by decide +kernel)) (fun _ h9 => h9) rfl dX8_outcome_156 ?_
      refine va_iald (i := fa_) hx hb hK hP 16 7 rfl rfl hat dX8_outcome_159 ?_
      refine lv_iadd hx hb dX8_outcome_160 ?_
      refine lv_istore (lv' := [(4, .int (sm + ((v 4) (fa_).toNatClampNeg))), (2, .int (n + 1)), (6, .ref (fo 4)), (5, .int (4)), (3, .int o), (0, .ref h0), (1, .ref h1)]) hx hb dX8_outcome_161 hl (by decide) rfl (fun ls hl => ?_)
      refine lv_goto hx hb dX8_outcome_163 rfl ?_
      refine lv_iinc (v := (5)) (lv' := [(5, .int (5)), (4, .int (sm + ((v 4) (fa_).toNatClampNeg))), (2, .int (n + 1)), (6, .ref (fo 4)), (3, .int o), (0, .ref h0), (1, .ref h1)]) hx hb dX8_outcome_184 hl (k := 3) rfl (by decide) (by decide) rfl (fun ls hl => ?_)
      refine lv_goto hx hb dX8_outcome_187 rfl ?_
      have hf : lf_fit kd e12 e13 e23 w vs (fk 4) (v 4) := Decidable.byContradiction (fun hh => by rw [if_neg hh] at hw; exact absurd hw (by assumption))
      have hp : (fun k => decide (lf_fit kd e12 e13 e23 w vs (fk k) (v k))) 4 = true := decide_eq_true hf
      have hq : (fun k => !decide (lf_fit kd e12 e13 e23 w vs (fk k) (v k)) && decide (fk k = kd)) 4 = false := by show (!decide (lf_fit kd e12 e13 e23 w vs (fk 4) (v 4)) && decide (fk 4 = kd)) = false; rw [decide_eq_true hf]; rfl
      exact it5 ls H locs _ _ _ hP hS (lv_sub hl [0, 1, 4, 2, 5, 6] rfl) (by rw [a1]; exact (lf_cnt_y (P := (fun k => decide (lf_fit kd e12 e13 e23 w vs (fk k) (v k)))) (k := 4) hp).symm) (by rw [a2]; exact (lf_cnt_n (P := (fun k => !decide (lf_fit kd e12 e13 e23 w vs (fk k) (v k)) && decide (fk k = kd))) (k := 4) hq).symm) (by rw [a3]; exact (lf_sum_y (P := (fun k => decide (lf_fit kd e12 e13 e23 w vs (fk k) (v k)))) (x := (fun k => v k fa_.toNatClampNeg)) (k := 4) hp).symm)
  have it3 : ∀ (ls : Array Slot) (H : Heap) (locs : List Loc) (n o sm : Int32), va_P (dC, dI) CL [(h0, .inr (4, .ref st :: .ref po :: .int ps :: .int ie :: .ref g :: mr)), (h1, .inr (5, [.int so, .ref ao, .int le, .int ri, .int rl, .int nw, .int fa_])), (ao, .inr (0, [.int kd, .ref sg, .ref wt, .int e12, .int e13, .int e23])), (wt, .inl (cw, 3, .inl w)), (st, .inr (8, .ref fa :: sr)), (fa, .inl (cf, 16, .inr (.inr (.inr (.inr (fun j => some (fo j))))))), (g, .inl (cg, 6, .inl vs)), ((fo 0), .inr (2, [.int (nm 0), .int (fk 0), .ref (va 0), .int (mi 0), .int (td 0)])), ((va 0), .inl ((ca 0), 3, .inl (v 0))), ((fo 1), .inr (2, [.int (nm 1), .int (fk 1), .ref (va 1), .int (mi 1), .int (td 1)])), ((va 1), .inl ((ca 1), 3, .inl (v 1))), ((fo 2), .inr (2, [.int (nm 2), .int (fk 2), .ref (va 2), .int (mi 2), .int (td 2)])), ((va 2), .inl ((ca 2), 3, .inl (v 2))), ((fo 3), .inr (2, [.int (nm 3), .int (fk 3), .ref (va 3), .int (mi 3), .int (td 3)])), ((va 3), .inl ((ca 3), 3, .inl (v 3))), ((fo 4), .inr (2, [.int (nm 4), .int (fk 4), .ref (va 4), .int (mi 4), .int (td 4)])), ((va 4), .inl ((ca 4), 3, .inl (v 4))), ((fo 5), .inr (2, [.int (nm 5), .int (fk 5), .ref (va 5), .int (mi 5), .int (td 5)])), ((va 5), .inl ((ca 5), 3, .inl (v 5))), ((fo 6), .inr (2, [.int (nm 6), .int (fk 6), .ref (va 6), .int (mi 6), .int (td 6)])), ((va 6), .inl ((ca 6), 3, .inl (v 6))), ((fo 7), .inr (2, [.int (nm 7), .int (fk 7), .ref (va 7), .int (mi 7), .int (td 7)])), ((va 7), .inl ((ca 7), 3, .inl (v 7))), ((fo 8), .inr (2, [.int (nm 8), .int (fk 8), .ref (va 8), .int (mi 8), .int (td 8)])), ((va 8), .inl ((ca 8), 3, .inl (v 8))), ((fo 9), .inr (2, [.int (nm 9), .int (fk 9), .ref (va 9), .int (mi 9), .int (td 9)])), ((va 9), .inl ((ca 9), 3, .inl (v 9))), ((fo 10), .inr (2, [.int (nm 10), .int (fk 10), .ref (va 10), .int (mi 10), .int (td 10)])), ((va 10), .inl ((ca 10), 3, .inl (v 10))), ((fo 11), .inr (2, [.int (nm 11), .int (fk 11), .ref (va 11), .int (mi 11), .int (td 11)])), ((va 11), .inl ((ca 11), 3, .inl (v 11))), ((fo 12), .inr (2, [.int (nm 12), .int (fk 12), .ref (va 12), .int (mi 12), .int (td 12)])), ((va 12), .inl ((ca 12), 3, .inl (v 12))), ((fo 13), .inr (2, [.int (nm 13), .int (fk 13), .ref (va 13), .int (mi 13), .int (td 13)])), ((va 13), .inl ((ca 13), 3, .inl (v 13))), ((fo 14), .inr (2, [.int (nm 14), .int (fk 14), .ref (va 14), .int (mi 14), .int (td 14)])), ((va 14), .inl ((ca 14), 3, .inl (v 14))), ((fo 15), .inr (2, [.int (nm 15), .int (fk 15), .ref (va 15), .int (mi 15), .int (td 15)])), ((va 15), .inl ((ca 15), 3, .inl (v 15)))] H → va_S A s.heap H locs → lv_has ls 7 [(5, .int (3)), (4, .int sm), (3, .int o), (2, .int n), (0, .ref h0), (1, .ref h1)] → n = lf_cnt (fun k => decide (lf_fit kd e12 e13 e23 w vs (fk k) (v k))) 3 → o = lf_cnt (fun k => !decide (lf_fit kd e12 e13 e23 w vs (fk k) (v k)) && decide (fk k = kd)) 3 → sm = lf_sum (fun k => decide (lf_fit kd e12 e13 e23 w vs (fk k) (v k))) (fun k => v k fa_.toNatClampNeg) 3 → W p l e (headSpec wqX8_outcome ({ frames := 1, cells := 0, slots := 0, locals := 24 })).room s m #[.ref h0, .ref h1] below meth c H locs 0 0 (MQ below (va_Qi (fun (r : Int32) (u : Nat → Int32) => (u = if (so = 4 ∨ so = 5) ∧ nw ≠ 0 then upd vs (le - 16).toNatClampNeg (if so = 5 then lf_sum (fun k => decide (lf_fit kd e12 e13 e23 w vs (fk k) (v k))) (fun k => v k fa_.toNatClampNeg) 16 else lf_cnt (fun k => decide (lf_fit kd e12 e13 e23 w vs (fk k) (v k))) 16) else vs) ∧ r = if so = 4 ∨ so = 5 then (if u (le - 16).toNatClampNeg = (if so = 5 then lf_sum (fun k => decide (lf_fit kd e12 e13 e23 w vs (fk k) (v k))) (fun k => v k fa_.toNatClampNeg) 16 else lf_cnt (fun k => decide (lf_fit kd e12 e13 e23 w vs (fk k) (v k))) 16) then (if so = 5 then lf_sum (fun k => decide (lf_fit kd e12 e13 e23 w vs (fk k) (v k))) (fun k => v k fa_.toNatClampNeg) 16 else lf_cnt (fun k => decide (lf_fit kd e12 e13 e23 w vs (fk k) (v k))) 16) else -1) else if (if so = 2 then 0 < lf_cnt (fun k => decide (lf_fit kd e12 e13 e23 w vs (fk k) (v k))) 16 else (if so = 3 then lf_cnt (fun k => !decide (lf_fit kd e12 e13 e23 w vs (fk k) (v k)) && decide (fk k = kd)) 16 else lf_cnt (fun k => decide (lf_fit kd e12 e13 e23 w vs (fk k) (v k))) 16) = 0) then 0 else -1) (fun u t => va_P (dC, dI) CL [(h0, .inr (4, .ref st :: .ref po :: .int ps :: .int ie :: .ref g :: mr)), (h1, .inr (5, [.int so, .ref ao, .int le, .int ri, .int rl, .int nw, .int fa_])), (ao, .inr (0, [.int kd, .ref sg, .ref wt, .int e12, .int e13, .int e23])), (wt, .inl (cw, 3, .inl w)), (st, .inr (8, .ref fa :: sr)), (fa, .inl (cf, 16, .inr (.inr (.inr (.inr (fun j => some (fo j))))))), (g, .inl (cg, 6, .inl u)), ((fo 0), .inr (2, [.int (nm 0), .int (fk 0), .ref (va 0), .int (mi 0), .int (td 0)])), ((va 0), .inl ((ca 0), 3, .inl (v 0))), ((fo 1), .inr (2, [.int (nm 1), .int (fk 1), .ref (va 1), .int (mi 1), .int (td 1)])), ((va 1), .inl ((ca 1), 3, .inl (v 1))), ((fo 2), .inr (2, [.int (nm 2), .int (fk 2), .ref (va 2), .int (mi 2), .int (td 2)])), ((va 2), .inl ((ca 2), 3, .inl (v 2))), ((fo 3), .inr (2, [.int (nm 3), .int (fk 3), .ref (va 3), .int (mi 3), .int (td 3)])), ((va 3), .inl ((ca 3), 3, .inl (v 3))), ((fo 4), .inr (2, [.int (nm 4), .int (fk 4), .ref (va 4), .int (mi 4), .int (td 4)])), ((va 4), .inl ((ca 4), 3, .inl (v 4))), ((fo 5), .inr (2, [.int (nm 5), .int (fk 5), .ref (va 5), .int (mi 5), .int (td 5)])), ((va 5), .inl ((ca 5), 3, .inl (v 5))), ((fo 6), .inr (2, [.int (nm 6), .int (fk 6), .ref (va 6), .int (mi 6), .int (td 6)])), ((va 6), .inl ((ca 6), 3, .inl (v 6))), ((fo 7), .inr (2, [.int (nm 7), .int (fk 7), .ref (va 7), .int (mi 7), .int (td 7)])), ((va 7), .inl ((ca 7), 3, .inl (v 7))), ((fo 8), .inr (2, [.int (nm 8), .int (fk 8), .ref (va 8), .int (mi 8), .int (td 8)])), ((va 8), .inl ((ca 8), 3, .inl (v 8))), ((fo 9), .inr (2, [.int (nm 9), .int (fk 9), .ref (va 9), .int (mi 9), .int (td 9)])), ((va 9), .inl ((ca 9), 3, .inl (v 9))), ((fo 10), .inr (2, [.int (nm 10), .int (fk 10), .ref (va 10), .int (mi 10), .int (td 10)])), ((va 10), .inl ((ca 10), 3, .inl (v 10))), ((fo 11), .inr (2, [.int (nm 11), .int (fk 11), .ref (va 11), .int (mi 11), .int (td 11)])), ((va 11), .inl ((ca 11), 3, .inl (v 11))), ((fo 12), .inr (2, [.int (nm 12), .int (fk 12), .ref (va 12), .int (mi 12), .int (td 12)])), ((va 12), .inl ((ca 12), 3, .inl (v 12))), ((fo 13), .inr (2, [.int (nm 13), .int (fk 13), .ref (va 13), .int (mi 13), .int (td 13)])), ((va 13), .inl ((ca 13), 3, .inl (v 13))), ((fo 14), .inr (2, [.int (nm 14), .int (fk 14), .ref (va 14), .int (mi 14), .int (td 14)])), ((va 14), .inl ((ca 14), 3, .inl (v 14))), ((fo 15), .inr (2, [.int (nm 15), .int (fk 15), .ref (va 15), .int (mi 15), .int (td 15)])), ((va 15), .inl ((ca 15), 3, .inl (v 15)))] t.heap ∧ va_K (dC, dI) CL [(cw, .int), (cf, .object RX2), (cg, .int), ((ca 0), .int), ((ca 1), .int), ((ca 2), .int), ((ca 3), .int), ((ca 4), .int), ((ca 5), .int), ((ca 6), .int), ((ca 7), .int), ((ca 8), .int), ((ca 9), .int), ((ca 10), .int), ((ca 11), .int), ((ca 12), .int), ((ca 13), .int), ((ca 14), .int), ((ca 15), .int)] t ∧ va_D (A) [(h0, .inr (4, .ref st :: .ref po :: .int ps :: .int ie :: .ref g :: mr)), (h1, .inr (5, [.int so, .ref ao, .int le, .int ri, .int rl, .int nw, .int fa_])), (ao, .inr (0, [.int kd, .ref sg, .ref wt, .int e12, .int e13, .int e23])), (wt, .inl (cw, 3, .inl w)), (st, .inr (8, .ref fa :: sr)), (fa, .inl (cf, 16, .inr (.inr (.inr (.inr (fun j => some (fo j))))))), (g, .inl (cg, 6, .inl u)), ((fo 0), .inr (2, [.int (nm 0), .int (fk 0), .ref (va 0), .int (mi 0), .int (td 0)])), ((va 0), .inl ((ca 0), 3, .inl (v 0))), ((fo 1), .inr (2, [.int (nm 1), .int (fk 1), .ref (va 1), .int (mi 1), .int (td 1)])), ((va 1), .inl ((ca 1), 3, .inl (v 1))), ((fo 2), .inr (2, [.int (nm 2), .int (fk 2), .ref (va 2), .int (mi 2), .int (td 2)])), ((va 2), .inl ((ca 2), 3, .inl (v 2))), ((fo 3), .inr (2, [.int (nm 3), .int (fk 3), .ref (va 3), .int (mi 3), .int (td 3)])), ((va 3), .inl ((ca 3), 3, .inl (v 3))), ((fo 4), .inr (2, [.int (nm 4), .int (fk 4), .ref (va 4), .int (mi 4), .int (td 4)])), ((va 4), .inl ((ca 4), 3, .inl (v 4))), ((fo 5), .inr (2, [.int (nm 5), .int (fk 5), .ref (va 5), .int (mi 5), .int (td 5)])), ((va 5), .inl ((ca 5), 3, .inl (v 5))), ((fo 6), .inr (2, [.int (nm 6), .int (fk 6), .ref (va 6), .int (mi 6), .int (td 6)])), ((va 6), .inl ((ca 6), 3, .inl (v 6))), ((fo 7), .inr (2, [.int (nm 7), .int (fk 7), .ref (va 7), .int (mi 7), .int (td 7)])), ((va 7), .inl ((ca 7), 3, .inl (v 7))), ((fo 8), .inr (2, [.int (nm 8), .int (fk 8), .ref (va 8), .int (mi 8), .int (td 8)])), ((va 8), .inl ((ca 8), 3, .inl (v 8))), ((fo 9), .inr (2, [.int (nm 9), .int (fk 9), .ref (va 9), .int (mi 9), .int (td 9)])), ((va 9), .inl ((ca 9), 3, .inl (v 9))), ((fo 10), .inr (2, [.int (nm 10), .int (fk 10), .ref (va 10), .int (mi 10), .int (td 10)])), ((va 10), .inl ((ca 10), 3, .inl (v 10))), ((fo 11), .inr (2, [.int (nm 11), .int (fk 11), .ref (va 11), .int (mi 11), .int (td 11)])), ((va 11), .inl ((ca 11), 3, .inl (v 11))), ((fo 12), .inr (2, [.int (nm 12), .int (fk 12), .ref (va 12), .int (mi 12), .int (td 12)])), ((va 12), .inl ((ca 12), 3, .inl (v 12))), ((fo 13), .inr (2, [.int (nm 13), .int (fk 13), .ref (va 13), .int (mi 13), .int (td 13)])), ((va 13), .inl ((ca 13), 3, .inl (v 13))), ((fo 14), .inr (2, [.int (nm 14), .int (fk 14), .ref (va 14), .int (mi 14), .int (td 14)])), ((va 14), .inl ((ca 14), 3, .inl (v 14))), ((fo 15), .inr (2, [.int (nm 15), .int (fk 15), .ref (va 15), .int (mi 15), .int (td 15)])), ((va 15), .inl ((ca 15), 3, .inl (v 15)))]) (A)) #[.ref h0, .ref h1] s 0 0 A) (F0 m 110 ls []) := by
    intro ls H locs n o sm hP hS hl a1 a2 a3
    refine lv_iload hx hb dX8_outcome_110 (lv_at hl 0 rfl) ?_
    refine lv_bipush (v := (16 : Int32)) hx hb dX8_outcome_112 (by decide) ?_
    refine lv_icmp_ge hx hb dX8_outcome_114 rfl (fun q => absurd q (by decide)) (fun _ => ?_)
    refine lv_aload_n hx hb dX8_outcome_117 rfl (lv_at hl 4 rfl) ?_
    refine va_get (D := (dC, dI)) (ci := 4) (v := .ref st) (C := RX4) (T := TX4) (N := 17) hx hb hts (by decide +kernel) hown hK hP 0 rfl rfl 0 (by decide) (hts (.fieldLink RX8 18 "Ruleengine$Search" "state" "LRuleengine$State;") (by decide +kernel)) (fun _ h9 => h9) rfl dX8_outcome_118 ?_
    refine va_get (D := (dC, dI)) (ci := 8) (v := .ref fa) (C := RX9) (T := TX9) (N := 13) hx hb hts (by decide +kernel) hown hK hP 4 rfl rfl 0 (by decide) (hts (.fieldLink RX8 87 "Ruleengine$State" "fact" "[LRuleengine$Fact;") (by decide +kernel)) (fun _ h9 => h9) rfl dX8_outcome_121 ?_
    refine lv_iload hx hb dX8_outcome_124 (lv_at hl 0 rfl) ?_
    refine va_aldq (i := (3)) hx hb hK hP 5 1 rfl rfl (by unfold vp_in; decide) dX8_outcome_126 ?_
    refine W.eq (g2 := F0 m 127 _ (.ref (fo 3) :: _)) rfl ?_
    refine lv_astore (lv' := [(6, .ref (fo 3)), (5, .int (3)), (4, .int sm), (3, .int o), (2, .int n), (0, .ref h0), (1, .ref h1)]) hx hb dX8_outcome_127 hl (by decide) rfl (fun ls hl => ?_)
    refine lv_aload_n hx hb dX8_outcome_129 rfl (lv_at hl 6 rfl) ?_
    refine va_get (D := (dC, dI)) (ci := 5) (v := .ref ao) (C := RX5) (T := TX5) (N := 7) hx hb hts (by decide +kernel) hown hK hP 1 rfl rfl 1 (by decide) (hts (.fieldLink RX8 60 "Ruleengine$Part" "atom" "LRuleengine$Atom;") (by decide +kernel)) (fun _ h9 => h9) rfl dX8_outcome_130 ?_
    refine lv_aload hx hb dX8_outcome_133 (lv_at hl 0 rfl) ?_
    refine lv_aload_n hx hb dX8_outcome_135 rfl (lv_at hl 5 rfl) ?_
    refine va_get (D := (dC, dI)) (ci := 4) (v := .ref g) (C := RX4) (T := TX4) (N := 17) hx hb hts (by decide +kernel) hown hK hP 0 rfl rfl 4 (by decide) (hts (.fieldLink RX8 9 "Ruleengine$Search" "values" "[I") (by decide +kernel)) (fun _ h9 => h9) rfl dX8_outcome_136 ?_
    have hPc := hP.sub (ws' := [(ao, .inr (0, [.int kd, .ref sg, .ref wt, .int e12, .int e13, .int e23])), (wt, .inl (cw, 3, .inl w)), ((fo 3), .inr (2, [.int (nm 3), .int (fk 3), .ref (va 3), .int (mi 3), .int (td 3)])), ((va 3), .inl ((ca 3), 3, .inl (v 3))), (g, .inl (cg, 6, .inl vs))]) [2, 3, 13, 14, 6] rfl
    have hDc := hD.sub (ws' := [(ao, .inr (0, [.int kd, .ref sg, .ref wt, .int e12, .int e13, .int e23])), (wt, .inl (cw, 3, .inl w)), ((fo 3), .inr (2, [.int (nm 3), .int (fk 3), .ref (va 3), .int (mi 3), .int (td 3)])), ((va 3), .inl ((ca 3), 3, .inl (v 3))), (g, .inl (cg, 6, .inl vs))]) [2, 3, 13, 14, 6] (by decide) rfl
    have hKc := hK.sub (tys' := [(cw, .int), ((ca 3), .int), (cg, .int)]) [0, 6, 2] rfl
    refine va_calli (va_runV (As := [.ref (fo 3), .ref g]) (rest := []) ⟨hx, hb, hml, hown, hts⟩ (kX0_fits l dC dI H.size ao sg wt (fo 3) (va 3) g cw (ca 3) cg kd e12 e13 e23 (nm 3) (fk 3) (mi 3) (td 3) w (v 3) vs) (cwV 2 hts ggq rfl rfl rfl (by decide +kernel) ⟨Nat.le_of_ble_eq_true rfl, Nat.le_of_ble_eq_true rfl⟩) ⟨fun a U g mk q => by obtain ⟨q0, q1, qP, qK, qD⟩ := q; exact ⟨q0, q1, qP, va_K.moved (u := U) (U := U.calling g mk a) (Vm.Alike.refl U.vm) qK, qD⟩, va_recv hKc hPc (ci := 0) (q0 := 0) rfl rfl, fun U hU hW => ⟨rfl, by rw [hU], by rw [hU]; exact hPc, va_K.moved hW.alike hKc, hDc.weaken (fun _ _ _ _ => trivial)⟩⟩ rfl rfl hl.1 rfl (lv_room (Nat.le_of_ble_eq_true rfl)) dX8_outcome_139 ⟨Nat.le_of_ble_eq_true rfl, Nat.le_of_ble_eq_true rfl⟩) hS (fun q _ h => h.elim) (fun q h => h.elim) (fun rr u t H1 locs ht hvm hw hB hz1 hk1 hS => ?_)
    have hP : va_P (dC, dI) CL [(h0, .inr (4, .ref st :: .ref po :: .int ps :: .int ie :: .ref g :: mr)), (h1, .inr (5, [.int so, .ref ao, .int le, .int ri, .int rl, .int nw, .int fa_])), (ao, .inr (0, [.int kd, .ref sg, .ref wt, .int e12, .int e13, .int e23])), (wt, .inl (cw, 3, .inl w)), (st, .inr (8, .ref fa :: sr)), (fa, .inl (cf, 16, .inr (.inr (.inr (.inr (fun j => some (fo j))))))), (g, .inl (cg, 6, .inl vs)), ((fo 0), .inr (2, [.int (nm 0), .int (fk 0), .ref (va 0), .int (mi 0), .int (td 0)])), ((va 0), .inl ((ca 0), 3, .inl (v 0))), ((fo 1), .inr (2, [.int (nm 1), .int (fk 1), .ref (va 1), .int (mi 1), .int (td 1)])), ((va 1), .inl ((ca 1), 3, .inl (v 1))), ((fo 2), .inr (2, [.int (nm 2), .int (fk 2), .ref (va 2), .int (mi 2), .int (td 2)])), ((va 2), .inl ((ca 2), 3, .inl (v 2))), ((fo 3), .inr (2, [.int (nm 3), .int (fk 3), .ref (va 3), .int (mi 3), .int (td 3)])), ((va 3), .inl ((ca 3), 3, .inl (v 3))), ((fo 4), .inr (2, [.int (nm 4), .int (fk 4), .ref (va 4), .int (mi 4), .int (td 4)])), ((va 4), .inl ((ca 4), 3, .inl (v 4))), ((fo 5), .inr (2, [.int (nm 5), .int (fk 5), .ref (va 5), .int (mi 5), .int (td 5)])), ((va 5), .inl ((ca 5), 3, .inl (v 5))), ((fo 6), .inr (2, [.int (nm 6), .int (fk 6), .ref (va 6), .int (mi 6), .int (td 6)])), ((va 6), .inl ((ca 6), 3, .inl (v 6))), ((fo 7), .inr (2, [.int (nm 7), .int (fk 7), .ref (va 7), .int (mi 7), .int (td 7)])), ((va 7), .inl ((ca 7), 3, .inl (v 7))), ((fo 8), .inr (2, [.int (nm 8), .int (fk 8), .ref (va 8), .int (mi 8), .int (td 8)])), ((va 8), .inl ((ca 8), 3, .inl (v 8))), ((fo 9), .inr (2, [.int (nm 9), .int (fk 9), .ref (va 9), .int (mi 9), .int (td 9)])), ((va 9), .inl ((ca 9), 3, .inl (v 9))), ((fo 10), .inr (2, [.int (nm 10), .int (fk 10), .ref (va 10), .int (mi 10), .int (td 10)])), ((va 10), .inl ((ca 10), 3, .inl (v 10))), ((fo 11), .inr (2, [.int (nm 11), .int (fk 11), .ref (va 11), .int (mi 11), .int (td 11)])), ((va 11), .inl ((ca 11), 3, .inl (v 11))), ((fo 12), .inr (2, [.int (nm 12), .int (fk 12), .ref (va 12), .int (mi 12), .int (td 12)])), ((va 12), .inl ((ca 12), 3, .inl (v 12))), ((fo 13), .inr (2, [.int (nm 13), .int (fk 13), .ref (va 13), .int (mi 13), .int (td 13)])), ((va 13), .inl ((ca 13), 3, .inl (v 13))), ((fo 14), .inr (2, [.int (nm 14), .int (fk 14), .ref (va 14), .int (mi 14), .int (td 14)])), ((va 14), .inl ((ca 14), 3, .inl (v 14))), ((fo 15), .inr (2, [.int (nm 15), .int (fk 15), .ref (va 15), .int (mi 15), .int (td 15)])), ((va 15), .inl ((ca 15), 3, .inl (v 15)))] H1 := hP.kept (fun k x hx => hk1 x.1 ((hP k x hx).lt) (fun h => h))
    generalize H1 = H at hP hS ⊢
    refine lv_if_eq hx hb dX8_outcome_142 rfl (fun q66 => ?_) (fun q66 => ?_)
    · refine lv_aload hx hb dX8_outcome_166 (lv_at hl 0 rfl) ?_
      refine va_get (D := (dC, dI)) (ci := 2) (v := .int (fk 3)) (C := RX2) (T := TX2) (N := 5) hx hb hts (by decide +kernel) hown hK hP 13 rfl rfl 1 (by decide) (hts (.fieldLink RX8 100 "Ruleengine$Fact" "kind" "I") (by decide +kernel)) (fun _ h9 => h9) rfl dX8_outcome_168 ?_
      refine lv_aload_n hx hb dX8_outcome_171 rfl (lv_at hl 6 rfl) ?_
      refine va_get (D := (dC, dI)) (ci := 5) (v := .ref ao) (C := RX5) (T := TX5) (N := 7) hx hb hts (by decide +kernel) hown hK hP 1 rfl rfl 1 (by decide) (hts (.fieldLink RX8 60 "Ruleengine$Part" "atom" "LRuleengine$Atom;") (by decide +kernel)) (fun _ h9 => h9) rfl dX8_outcome_172 ?_
      refine va_get (D := (dC, dI)) (ci := 0) (v := .int kd) (C := RX0) (T := TX0) (N := 6) hx hb hts (by decide +kernel) hown hK hP 2 rfl rfl 0 (by decide) (hts (.fieldLink RX8 103 "Ruleengine$Atom" "kind" "I") (by decide +kernel)) (fun _ h9 => h9) rfl dX8_outcome_175 ?_
      refine lv_icmp_ne hx hb dX8_outcome_178 rfl (fun q67 => ?_) (fun q67 => ?_)
      · refine lv_iinc (v := (4)) (lv' := [(5, .int (4)), (6, .ref (fo 3)), (4, .int sm), (3, .int o), (2, .int n), (0, .ref h0), (1, .ref h1)]) hx hb dX8_outcome_184 hl (k := 1) rfl (by decide) (by decide) rfl (fun ls hl => ?_)
        refine lv_goto hx hb dX8_outcome_187 rfl ?_
        have h0 : rr = 0 := by assumption
        have hf : ¬ lf_fit kd e12 e13 e23 w vs (fk 3) (v 3) := fun hh => by rw [if_pos hh] at hw; rw [hw] at h0; exact absurd h0 (by decide)
        have hp : (fun k => decide (lf_fit kd e12 e13 e23 w vs (fk k) (v k))) 3 = false := decide_eq_false hf
        have hk : fk 3 ≠ kd := by assumption
        have hq : (fun k => !decide (lf_fit kd e12 e13 e23 w vs (fk k) (v k)) && decide (fk k = kd)) 3 = false := by show (!decide (lf_fit kd e12 e13 e23 w vs (fk 3) (v 3)) && decide (fk 3 = kd)) = false; rw [decide_eq_false (p := fk 3 = kd) hk]; exact Bool.and_false _
        exact it4 ls H locs _ _ _ hP hS (lv_sub hl [0, 2, 3, 4, 5, 6] rfl) (by rw [a1]; exact (lf_cnt_n (P := (fun k => decide (lf_fit kd e12 e13 e23 w vs (fk k) (v k)))) (k := 3) hp).symm) (by rw [a2]; exact (lf_cnt_n (P := (fun k => !decide (lf_fit kd e12 e13 e23 w vs (fk k) (v k)) && decide (fk k = kd))) (k := 3) hq).symm) (by rw [a3]; exact (lf_sum_n (P := (fun k => decide (lf_fit kd e12 e13 e23 w vs (fk k) (v k)))) (x := (fun k => v k fa_.toNatClampNeg)) (k := 3) hp).symm)
      · refine lv_iinc (v := (o + 1)) (lv' := [(3, .int (o + 1)), (6, .ref (fo 3)), (5, .int (3)), (4, .int sm), (2, .int n), (0, .ref h0), (1, .ref h1)]) hx hb dX8_outcome_181 hl (k := 3) rfl (by rfl) (by decide) rfl (fun ls hl => ?_)
        refine lv_iinc (v := (4)) (lv' := [(5, .int (4)), (3, .int (o + 1)), (6, .ref (fo 3)), (4, .int sm), (2, .int n), (0, .ref h0), (1, .ref h1)]) hx hb dX8_outcome_184 hl (k := 2) rfl (by decide) (by decide) rfl (fun ls hl => ?_)
        refine lv_goto hx hb dX8_outcome_187 rfl ?_
        have h0 : rr = 0 := by assumption
        have hf : ¬ lf_fit kd e12 e13 e23 w vs (fk 3) (v 3) := fun hh => by rw [if_pos hh] at hw; rw [hw] at h0; exact absurd h0 (by decide)
        have hp : (fun k => decide (lf_fit kd e12 e13 e23 w vs (fk k) (v k))) 3 = false := decide_eq_false hf
        have hk : fk 3 = kd := by assumption
        have hq : (fun k => !decide (lf_fit kd e12 e13 e23 w vs (fk k) (v k)) && decide (fk k = kd)) 3 = true := by show (!decide (lf_fit kd e12 e13 e23 w vs (fk 3) (v 3)) && decide (fk 3 = kd)) = true; rw [decide_eq_false hf, decide_eq_true hk]; rfl
        exact it4 ls H locs _ _ _ hP hS (lv_sub hl [0, 3, 1, 4, 5, 6] rfl) (by rw [a1]; exact (lf_cnt_n (P := (fun k => decide (lf_fit kd e12 e13 e23 w vs (fk k) (v k)))) (k := 3) hp).symm) (by rw [a2]; exact (lf_cnt_y (P := (fun k => !decide (lf_fit kd e12 e13 e23 w vs (fk k) (v k)) && decide (fk k = kd))) (k := 3) hq).symm) (by rw [a3]; exact (lf_sum_n (P := (fun k => decide (lf_fit kd e12 e13 e23 w vs (fk k) (v k)))) (x := (fun k => v k fa_.toNatClampNeg)) (k := 3) hp).symm)
    · refine lv_iinc (v := (n + 1)) (lv' := [(2, .int (n + 1)), (6, .ref (fo 3)), (5, .int (3)), (4, .int sm), (3, .int o), (0, .ref h0), (1, .ref h1)]) hx hb dX8_outcome_145 hl (k := 4) rfl (by rfl) (by decide) rfl (fun ls hl => ?_)
      refine lv_iload hx hb dX8_outcome_148 (lv_at hl 3 rfl) ?_
      refine lv_aload hx hb dX8_outcome_150 (lv_at hl 1 rfl) ?_
      refine va_get (D := (dC, dI)) (ci := 2) (v := .ref (va 3)) (C := RX2) (T := TX2) (N := 5) hx hb hts (by decide +kernel) hown hK hP 13 rfl rfl 2 (by decide) (hts (.fieldLink RX8 92 "Ruleengine$Fact" "value" "[I") (by decide +kernel)) (fun _ h9 => h9) rfl dX8_outcome_152 ?_
      refine lv_aload_n hx hb dX8_outcome_155 rfl (lv_at hl 6 rfl) ?_
      refine va_get (D := (dC, dI)) (ci := 5) (v := .int fa_) (C := RX5) (T := TX5) (N := 7) hx hb hts (by decide +kernel) hown hK hP 1 rfl rfl 6 (by decide) (hts (.fieldLink RX8 97 "Ruleengine$Part" "at" "I") (by decide +kernel)) (fun _ h9 => h9) rfl dX8_outcome_156 ?_
      refine va_iald (i := fa_) hx hb hK hP 14 6 rfl rfl hat dX8_outcome_159 ?_
      refine lv_iadd hx hb dX8_outcome_160 ?_
      refine lv_istore (lv' := [(4, .int (sm + ((v 3) (fa_).toNatClampNeg))), (2, .int (n + 1)), (6, .ref (fo 3)), (5, .int (3)), (3, .int o), (0, .ref h0), (1, .ref h1)]) hx hb dX8_outcome_161 hl (by decide) rfl (fun ls hl => ?_)
      refine lv_goto hx hb dX8_outcome_163 rfl ?_
      refine lv_iinc (v := (4)) (lv' := [(5, .int (4)), (4, .int (sm + ((v 3) (fa_).toNatClampNeg))), (2, .int (n + 1)), (6, .ref (fo 3)), (3, .int o), (0, .ref h0), (1, .ref h1)]) hx hb dX8_outcome_184 hl (k := 3) rfl (by decide) (by decide) rfl (fun ls hl => ?_)
      refine lv_goto hx hb dX8_outcome_187 rfl ?_
      have hf : lf_fit kd e12 e13 e23 w vs (fk 3) (v 3) := Decidable.byContradiction (fun hh => by rw [if_neg hh] at hw; exact absurd hw (by assumption))
      have hp : (fun k => decide (lf_fit kd e12 e13 e23 w vs (fk k) (v k))) 3 = true := decide_eq_true hf
      have hq : (fun k => !decide (lf_fit kd e12 e13 e23 w vs (fk k) (v k)) && decide (fk k = kd)) 3 = false := by show (!decide (lf_fit kd e12 e13 e23 w vs (fk 3) (v 3)) && decide (fk 3 = kd)) = false; rw [decide_eq_true hf]; rfl
      exact it4 ls H locs _ _ _ hP hS (lv_sub hl [0, 1, 4, 2, 5, 6] rfl) (by rw [a1]; exact (lf_cnt_y (P := (fun k => decide (lf_fit kd e12 e13 e23 w vs (fk k) (v k)))) (k := 3) hp).symm) (by rw [a2]; exact (lf_cnt_n (P := (fun k => !decide (lf_fit kd e12 e13 e23 w vs (fk k) (v k)) && decide (fk k = kd))) (k := 3) hq).symm) (by rw [a3]; exact (lf_sum_y (P := (fun k => decide (lf_fit kd e12 e13 e23 w vs (fk k) (v k)))) (x := (fun k => v k fa_.toNatClampNeg)) (k := 3) hp).symm)
  have it2 : ∀ (ls : Array Slot) (H : Heap) (locs : List Loc) (n o sm : Int32), va_P (dC, dI) CL [(h0, .inr (4, .ref st :: .ref po :: .int ps :: .int ie :: .ref g :: mr)), (h1, .inr (5, [.int so, .ref ao, .int le, .int ri, .int rl, .int nw, .int fa_])), (ao, .inr (0, [.int kd, .ref sg, .ref wt, .int e12, .int e13, .int e23])), (wt, .inl (cw, 3, .inl w)), (st, .inr (8, .ref fa :: sr)), (fa, .inl (cf, 16, .inr (.inr (.inr (.inr (fun j => some (fo j))))))), (g, .inl (cg, 6, .inl vs)), ((fo 0), .inr (2, [.int (nm 0), .int (fk 0), .ref (va 0), .int (mi 0), .int (td 0)])), ((va 0), .inl ((ca 0), 3, .inl (v 0))), ((fo 1), .inr (2, [.int (nm 1), .int (fk 1), .ref (va 1), .int (mi 1), .int (td 1)])), ((va 1), .inl ((ca 1), 3, .inl (v 1))), ((fo 2), .inr (2, [.int (nm 2), .int (fk 2), .ref (va 2), .int (mi 2), .int (td 2)])), ((va 2), .inl ((ca 2), 3, .inl (v 2))), ((fo 3), .inr (2, [.int (nm 3), .int (fk 3), .ref (va 3), .int (mi 3), .int (td 3)])), ((va 3), .inl ((ca 3), 3, .inl (v 3))), ((fo 4), .inr (2, [.int (nm 4), .int (fk 4), .ref (va 4), .int (mi 4), .int (td 4)])), ((va 4), .inl ((ca 4), 3, .inl (v 4))), ((fo 5), .inr (2, [.int (nm 5), .int (fk 5), .ref (va 5), .int (mi 5), .int (td 5)])), ((va 5), .inl ((ca 5), 3, .inl (v 5))), ((fo 6), .inr (2, [.int (nm 6), .int (fk 6), .ref (va 6), .int (mi 6), .int (td 6)])), ((va 6), .inl ((ca 6), 3, .inl (v 6))), ((fo 7), .inr (2, [.int (nm 7), .int (fk 7), .ref (va 7), .int (mi 7), .int (td 7)])), ((va 7), .inl ((ca 7), 3, .inl (v 7))), ((fo 8), .inr (2, [.int (nm 8), .int (fk 8), .ref (va 8), .int (mi 8), .int (td 8)])), ((va 8), .inl ((ca 8), 3, .inl (v 8))), ((fo 9), .inr (2, [.int (nm 9), .int (fk 9), .ref (va 9), .int (mi 9), .int (td 9)])), ((va 9), .inl ((ca 9), 3, .inl (v 9))), ((fo 10), .inr (2, [.int (nm 10), .int (fk 10), .ref (va 10), .int (mi 10), .int (td 10)])), ((va 10), .inl ((ca 10), 3, .inl (v 10))), ((fo 11), .inr (2, [.int (nm 11), .int (fk 11), .ref (va 11), .int (mi 11), .int (td 11)])), ((va 11), .inl ((ca 11), 3, .inl (v 11))), ((fo 12), .inr (2, [.int (nm 12), .int (fk 12), .ref (va 12), .int (mi 12), .int (td 12)])), ((va 12), .inl ((ca 12), 3, .inl (v 12))), ((fo 13), .inr (2, [.int (nm 13), .int (fk 13), .ref (va 13), .int (mi 13), .int (td 13)])), ((va 13), .inl ((ca 13), 3, .inl (v 13))), ((fo 14), .inr (2, [.int (nm 14), .int (fk 14), .ref (va 14), .int (mi 14), .int (td 14)])), ((va 14), .inl ((ca 14), 3, .inl (v 14))), ((fo 15), .inr (2, [.int (nm 15), .int (fk 15), .ref (va 15), .int (mi 15), .int (td 15)])), ((va 15), .inl ((ca 15), 3, .inl (v 15)))] H → va_S A s.heap H locs → lv_has ls 7 [(5, .int (2)), (4, .int sm), (3, .int o), (2, .int n), (0, .ref h0), (1, .ref h1)] → n = lf_cnt (fun k => decide (lf_fit kd e12 e13 e23 w vs (fk k) (v k))) 2 → o = lf_cnt (fun k => !decide (lf_fit kd e12 e13 e23 w vs (fk k) (v k)) && decide (fk k = kd)) 2 → sm = lf_sum (fun k => decide (lf_fit kd e12 e13 e23 w vs (fk k) (v k))) (fun k => v k fa_.toNatClampNeg) 2 → W p l e (headSpec wqX8_outcome ({ frames := 1, cells := 0, slots := 0, locals := 24 })).room s m #[.ref h0, .ref h1] below meth c H locs 0 0 (MQ below (va_Qi (fun (r : Int32) (u : Nat → Int32) => (u = if (so = 4 ∨ so = 5) ∧ nw ≠ 0 then upd vs (le - 16).toNatClampNeg (if so = 5 then lf_sum (fun k => decide (lf_fit kd e12 e13 e23 w vs (fk k) (v k))) (fun k => v k fa_.toNatClampNeg) 16 else lf_cnt (fun k => decide (lf_fit kd e12 e13 e23 w vs (fk k) (v k))) 16) else vs) ∧ r = if so = 4 ∨ so = 5 then (if u (le - 16).toNatClampNeg = (if so = 5 then lf_sum (fun k => decide (lf_fit kd e12 e13 e23 w vs (fk k) (v k))) (fun k => v k fa_.toNatClampNeg) 16 else lf_cnt (fun k => decide (lf_fit kd e12 e13 e23 w vs (fk k) (v k))) 16) then (if so = 5 then lf_sum (fun k => decide (lf_fit kd e12 e13 e23 w vs (fk k) (v k))) (fun k => v k fa_.toNatClampNeg) 16 else lf_cnt (fun k => decide (lf_fit kd e12 e13 e23 w vs (fk k) (v k))) 16) else -1) else if (if so = 2 then 0 < lf_cnt (fun k => decide (lf_fit kd e12 e13 e23 w vs (fk k) (v k))) 16 else (if so = 3 then lf_cnt (fun k => !decide (lf_fit kd e12 e13 e23 w vs (fk k) (v k)) && decide (fk k = kd)) 16 else lf_cnt (fun k => decide (lf_fit kd e12 e13 e23 w vs (fk k) (v k))) 16) = 0) then 0 else -1) (fun u t => va_P (dC, dI) CL [(h0, .inr (4, .ref st :: .ref po :: .int ps :: .int ie :: .ref g :: mr)), (h1, .inr (5, [.int so, .ref ao, .int le, .int ri, .int rl, .int nw, .int fa_])), (ao, .inr (0, [.int kd, .ref sg, .ref wt, .int e12, .int e13, .int e23])), (wt, .inl (cw, 3, .inl w)), (st, .inr (8, .ref fa :: sr)), (fa, .inl (cf, 16, .inr (.inr (.inr (.inr (fun j => some (fo j))))))), (g, .inl (cg, 6, .inl u)), ((fo 0), .inr (2, [.int (nm 0), .int (fk 0), .ref (va 0), .int (mi 0), .int (td 0)])), ((va 0), .inl ((ca 0), 3, .inl (v 0))), ((fo 1), .inr (2, [.int (nm 1), .int (fk 1), .ref (va 1), .int (mi 1), .int (td 1)])), ((va 1), .inl ((ca 1), 3, .inl (v 1))), ((fo 2), .inr (2, [.int (nm 2), .int (fk 2), .ref (va 2), .int (mi 2), .int (td 2)])), ((va 2), .inl ((ca 2), 3, .inl (v 2))), ((fo 3), .inr (2, [.int (nm 3), .int (fk 3), .ref (va 3), .int (mi 3), .int (td 3)])), ((va 3), .inl ((ca 3), 3, .inl (v 3))), ((fo 4), .inr (2, [.int (nm 4), .int (fk 4), .ref (va 4), .int (mi 4), .int (td 4)])), ((va 4), .inl ((ca 4), 3, .inl (v 4))), ((fo 5), .inr (2, [.int (nm 5), .int (fk 5), .ref (va 5), .int (mi 5), .int (td 5)])), ((va 5), .inl ((ca 5), 3, .inl (v 5))), ((fo 6), .inr (2, [.int (nm 6), .int (fk 6), .ref (va 6), .int (mi 6), .int (td 6)])), ((va 6), .inl ((ca 6), 3, .inl (v 6))), ((fo 7), .inr (2, [.int (nm 7), .int (fk 7), .ref (va 7), .int (mi 7), .int (td 7)])), ((va 7), .inl ((ca 7), 3, .inl (v 7))), ((fo 8), .inr (2, [.int (nm 8), .int (fk 8), .ref (va 8), .int (mi 8), .int (td 8)])), ((va 8), .inl ((ca 8), 3, .inl (v 8))), ((fo 9), .inr (2, [.int (nm 9), .int (fk 9), .ref (va 9), .int (mi 9), .int (td 9)])), ((va 9), .inl ((ca 9), 3, .inl (v 9))), ((fo 10), .inr (2, [.int (nm 10), .int (fk 10), .ref (va 10), .int (mi 10), .int (td 10)])), ((va 10), .inl ((ca 10), 3, .inl (v 10))), ((fo 11), .inr (2, [.int (nm 11), .int (fk 11), .ref (va 11), .int (mi 11), .int (td 11)])), ((va 11), .inl ((ca 11), 3, .inl (v 11))), ((fo 12), .inr (2, [.int (nm 12), .int (fk 12), .ref (va 12), .int (mi 12), .int (td 12)])), ((va 12), .inl ((ca 12), 3, .inl (v 12))), ((fo 13), .inr (2, [.int (nm 13), .int (fk 13), .ref (va 13), .int (mi 13), .int (td 13)])), ((va 13), .inl ((ca 13), 3, .inl (v 13))), ((fo 14), .inr (2, [.int (nm 14), .int (fk 14), .ref (va 14), .int (mi 14), .int (td 14)])), ((va 14), .inl ((ca 14), 3, .inl (v 14))), ((fo 15), .inr (2, [.int (nm 15), .int (fk 15), .ref (va 15), .int (mi 15), .int (td 15)])), ((va 15), .inl ((ca 15), 3, .inl (v 15)))] t.heap ∧ va_K (dC, dI) CL [(cw, .int), (cf, .object RX2), (cg, .int), ((ca 0), .int), ((ca 1), .int), ((ca 2), .int), ((ca 3), .int), ((ca 4), .int), ((ca 5), .int), ((ca 6), .int), ((ca 7), .int), ((ca 8), .int), ((ca 9), .int), ((ca 10), .int), ((ca 11), .int), ((ca 12), .int), ((ca 13), .int), ((ca 14), .int), ((ca 15), .int)] t ∧ va_D (A) [(h0, .inr (4, .ref st :: .ref po :: .int ps :: .int ie :: .ref g :: mr)), (h1, .inr (5, [.int so, .ref ao, .int le, .int ri, .int rl, .int nw, .int fa_])), (ao, .inr (0, [.int kd, .ref sg, .ref wt, .int e12, .int e13, .int e23])), (wt, .inl (cw, 3, .inl w)), (st, .inr (8, .ref fa :: sr)), (fa, .inl (cf, 16, .inr (.inr (.inr (.inr (fun j => some (fo j))))))), (g, .inl (cg, 6, .inl u)), ((fo 0), .inr (2, [.int (nm 0), .int (fk 0), .ref (va 0), .int (mi 0), .int (td 0)])), ((va 0), .inl ((ca 0), 3, .inl (v 0))), ((fo 1), .inr (2, [.int (nm 1), .int (fk 1), .ref (va 1), .int (mi 1), .int (td 1)])), ((va 1), .inl ((ca 1), 3, .inl (v 1))), ((fo 2), .inr (2, [.int (nm 2), .int (fk 2), .ref (va 2), .int (mi 2), .int (td 2)])), ((va 2), .inl ((ca 2), 3, .inl (v 2))), ((fo 3), .inr (2, [.int (nm 3), .int (fk 3), .ref (va 3), .int (mi 3), .int (td 3)])), ((va 3), .inl ((ca 3), 3, .inl (v 3))), ((fo 4), .inr (2, [.int (nm 4), .int (fk 4), .ref (va 4), .int (mi 4), .int (td 4)])), ((va 4), .inl ((ca 4), 3, .inl (v 4))), ((fo 5), .inr (2, [.int (nm 5), .int (fk 5), .ref (va 5), .int (mi 5), .int (td 5)])), ((va 5), .inl ((ca 5), 3, .inl (v 5))), ((fo 6), .inr (2, [.int (nm 6), .int (fk 6), .ref (va 6), .int (mi 6), .int (td 6)])), ((va 6), .inl ((ca 6), 3, .inl (v 6))), ((fo 7), .inr (2, [.int (nm 7), .int (fk 7), .ref (va 7), .int (mi 7), .int (td 7)])), ((va 7), .inl ((ca 7), 3, .inl (v 7))), ((fo 8), .inr (2, [.int (nm 8), .int (fk 8), .ref (va 8), .int (mi 8), .int (td 8)])), ((va 8), .inl ((ca 8), 3, .inl (v 8))), ((fo 9), .inr (2, [.int (nm 9), .int (fk 9), .ref (va 9), .int (mi 9), .int (td 9)])), ((va 9), .inl ((ca 9), 3, .inl (v 9))), ((fo 10), .inr (2, [.int (nm 10), .int (fk 10), .ref (va 10), .int (mi 10), .int (td 10)])), ((va 10), .inl ((ca 10), 3, .inl (v 10))), ((fo 11), .inr (2, [.int (nm 11), .int (fk 11), .ref (va 11), .int (mi 11), .int (td 11)])), ((va 11), .inl ((ca 11), 3, .inl (v 11))), ((fo 12), .inr (2, [.int (nm 12), .int (fk 12), .ref (va 12), .int (mi 12), .int (td 12)])), ((va 12), .inl ((ca 12), 3, .inl (v 12))), ((fo 13), .inr (2, [.int (nm 13), .int (fk 13), .ref (va 13), .int (mi 13), .int (td 13)])), ((va 13), .inl ((ca 13), 3, .inl (v 13))), ((fo 14), .inr (2, [.int (nm 14), .int (fk 14), .ref (va 14), .int (mi 14), .int (td 14)])), ((va 14), .inl ((ca 14), 3, .inl (v 14))), ((fo 15), .inr (2, [.int (nm 15), .int (fk 15), .ref (va 15), .int (mi 15), .int (td 15)])), ((va 15), .inl ((ca 15), 3, .inl (v 15)))]) (A)) #[.ref h0, .ref h1] s 0 0 A) (F0 m 110 ls []) := by
    intro ls H locs n o sm hP hS hl a1 a2 a3
    refine lv_iload hx hb dX8_outcome_110 (lv_at hl 0 rfl) ?_
    refine lv_bipush (v := (16 : Int32)) hx hb dX8_outcome_112 (by decide) ?_
    refine lv_icmp_ge hx hb dX8_outcome_114 rfl (fun q => absurd q (by decide)) (fun _ => ?_)
    refine lv_aload_n hx hb dX8_outcome_117 rfl (lv_at hl 4 rfl) ?_
    refine va_get (D := (dC, dI)) (ci := 4) (v := .ref st) (C := RX4) (T := TX4) (N := 17) hx hb hts (by decide +kernel) hown hK hP 0 rfl rfl 0 (by decide) (hts (.fieldLink RX8 18 "Ruleengine$Search" "state" "LRuleengine$State;") (by decide +kernel)) (fun _ h9 => h9) rfl dX8_outcome_118 ?_
    refine va_get (D := (dC, dI)) (ci := 8) (v := .ref fa) (C := RX9) (T := TX9) (N := 13) hx hb hts (by decide +kernel) hown hK hP 4 rfl rfl 0 (by decide) (hts (.fieldLink RX8 87 "Ruleengine$State" "fact" "[LRuleengine$Fact;") (by decide +kernel)) (fun _ h9 => h9) rfl dX8_outcome_121 ?_
    refine lv_iload hx hb dX8_outcome_124 (lv_at hl 0 rfl) ?_
    refine va_aldq (i := (2)) hx hb hK hP 5 1 rfl rfl (by unfold vp_in; decide) dX8_outcome_126 ?_
    refine W.eq (g2 := F0 m 127 _ (.ref (fo 2) :: _)) rfl ?_
    refine lv_astore (lv' := [(6, .ref (fo 2)), (5, .int (2)), (4, .int sm), (3, .int o), (2, .int n), (0, .ref h0), (1, .ref h1)]) hx hb dX8_outcome_127 hl (by decide) rfl (fun ls hl => ?_)
    refine lv_aload_n hx hb dX8_outcome_129 rfl (lv_at hl 6 rfl) ?_
    refine va_get (D := (dC, dI)) (ci := 5) (v := .ref ao) (C := RX5) (T := TX5) (N := 7) hx hb hts (by decide +kernel) hown hK hP 1 rfl rfl 1 (by decide) (hts (.fieldLink RX8 60 "Ruleengine$Part" "atom" "LRuleengine$Atom;") (by decide +kernel)) (fun _ h9 => h9) rfl dX8_outcome_130 ?_
    refine lv_aload hx hb dX8_outcome_133 (lv_at hl 0 rfl) ?_
    refine lv_aload_n hx hb dX8_outcome_135 rfl (lv_at hl 5 rfl) ?_
    refine va_get (D := (dC, dI)) (ci := 4) (v := .ref g) (C := RX4) (T := TX4) (N := 17) hx hb hts (by decide +kernel) hown hK hP 0 rfl rfl 4 (by decide) (hts (.fieldLink RX8 9 "Ruleengine$Search" "values" "[I") (by decide +kernel)) (fun _ h9 => h9) rfl dX8_outcome_136 ?_
    have hPc := hP.sub (ws' := [(ao, .inr (0, [.int kd, .ref sg, .ref wt, .int e12, .int e13, .int e23])), (wt, .inl (cw, 3, .inl w)), ((fo 2), .inr (2, [.int (nm 2), .int (fk 2), .ref (va 2), .int (mi 2), .int (td 2)])), ((va 2), .inl ((ca 2), 3, .inl (v 2))), (g, .inl (cg, 6, .inl vs))]) [2, 3, 11, 12, 6] rfl
    have hDc := hD.sub (ws' := [(ao, .inr (0, [.int kd, .ref sg, .ref wt, .int e12, .int e13, .int e23])), (wt, .inl (cw, 3, .inl w)), ((fo 2), .inr (2, [.int (nm 2), .int (fk 2), .ref (va 2), .int (mi 2), .int (td 2)])), ((va 2), .inl ((ca 2), 3, .inl (v 2))), (g, .inl (cg, 6, .inl vs))]) [2, 3, 11, 12, 6] (by decide) rfl
    have hKc := hK.sub (tys' := [(cw, .int), ((ca 2), .int), (cg, .int)]) [0, 5, 2] rfl
    refine va_calli (va_runV (As := [.ref (fo 2), .ref g]) (rest := []) ⟨hx, hb, hml, hown, hts⟩ (kX0_fits l dC dI H.size ao sg wt (fo 2) (va 2) g cw (ca 2) cg kd e12 e13 e23 (nm 2) (fk 2) (mi 2) (td 2) w (v 2) vs) (cwV 2 hts ggq rfl rfl rfl (by decide +kernel) ⟨Nat.le_of_ble_eq_true rfl, Nat.le_of_ble_eq_true rfl⟩) ⟨fun a U g mk q => by obtain ⟨q0, q1, qP, qK, qD⟩ := q; exact ⟨q0, q1, qP, va_K.moved (u := U) (U := U.calling g mk a) (Vm.Alike.refl U.vm) qK, qD⟩, va_recv hKc hPc (ci := 0) (q0 := 0) rfl rfl, fun U hU hW => ⟨rfl, by rw [hU], by rw [hU]; exact hPc, va_K.moved hW.alike hKc, hDc.weaken (fun _ _ _ _ => trivial)⟩⟩ rfl rfl hl.1 rfl (lv_room (Nat.le_of_ble_eq_true rfl)) dX8_outcome_139 ⟨Nat.le_of_ble_eq_true rfl, Nat.le_of_ble_eq_true rfl⟩) hS (fun q _ h => h.elim) (fun q h => h.elim) (fun rr u t H1 locs ht hvm hw hB hz1 hk1 hS => ?_)
    have hP : va_P (dC, dI) CL [(h0, .inr (4, .ref st :: .ref po :: .int ps :: .int ie :: .ref g :: mr)), (h1, .inr (5, [.int so, .ref ao, .int le, .int ri, .int rl, .int nw, .int fa_])), (ao, .inr (0, [.int kd, .ref sg, .ref wt, .int e12, .int e13, .int e23])), (wt, .inl (cw, 3, .inl w)), (st, .inr (8, .ref fa :: sr)), (fa, .inl (cf, 16, .inr (.inr (.inr (.inr (fun j => some (fo j))))))), (g, .inl (cg, 6, .inl vs)), ((fo 0), .inr (2, [.int (nm 0), .int (fk 0), .ref (va 0), .int (mi 0), .int (td 0)])), ((va 0), .inl ((ca 0), 3, .inl (v 0))), ((fo 1), .inr (2, [.int (nm 1), .int (fk 1), .ref (va 1), .int (mi 1), .int (td 1)])), ((va 1), .inl ((ca 1), 3, .inl (v 1))), ((fo 2), .inr (2, [.int (nm 2), .int (fk 2), .ref (va 2), .int (mi 2), .int (td 2)])), ((va 2), .inl ((ca 2), 3, .inl (v 2))), ((fo 3), .inr (2, [.int (nm 3), .int (fk 3), .ref (va 3), .int (mi 3), .int (td 3)])), ((va 3), .inl ((ca 3), 3, .inl (v 3))), ((fo 4), .inr (2, [.int (nm 4), .int (fk 4), .ref (va 4), .int (mi 4), .int (td 4)])), ((va 4), .inl ((ca 4), 3, .inl (v 4))), ((fo 5), .inr (2, [.int (nm 5), .int (fk 5), .ref (va 5), .int (mi 5), .int (td 5)])), ((va 5), .inl ((ca 5), 3, .inl (v 5))), ((fo 6), .inr (2, [.int (nm 6), .int (fk 6), .ref (va 6), .int (mi 6), .int (td 6)])), ((va 6), .inl ((ca 6), 3, .inl (v 6))), ((fo 7), .inr (2, [.int (nm 7), .int (fk 7), .ref (va 7), .int (mi 7), .int (td 7)])), ((va 7), .inl ((ca 7), 3, .inl (v 7))), ((fo 8), .inr (2, [.int (nm 8), .int (fk 8), .ref (va 8), .int (mi 8), .int (td 8)])), ((va 8), .inl ((ca 8), 3, .inl (v 8))), ((fo 9), .inr (2, [.int (nm 9), .int (fk 9), .ref (va 9), .int (mi 9), .int (td 9)])), ((va 9), .inl ((ca 9), 3, .inl (v 9))), ((fo 10), .inr (2, [.int (nm 10), .int (fk 10), .ref (va 10), .int (mi 10), .int (td 10)])), ((va 10), .inl ((ca 10), 3, .inl (v 10))), ((fo 11), .inr (2, [.int (nm 11), .int (fk 11), .ref (va 11), .int (mi 11), .int (td 11)])), ((va 11), .inl ((ca 11), 3, .inl (v 11))), ((fo 12), .inr (2, [.int (nm 12), .int (fk 12), .ref (va 12), .int (mi 12), .int (td 12)])), ((va 12), .inl ((ca 12), 3, .inl (v 12))), ((fo 13), .inr (2, [.int (nm 13), .int (fk 13), .ref (va 13), .int (mi 13), .int (td 13)])), ((va 13), .inl ((ca 13), 3, .inl (v 13))), ((fo 14), .inr (2, [.int (nm 14), .int (fk 14), .ref (va 14), .int (mi 14), .int (td 14)])), ((va 14), .inl ((ca 14), 3, .inl (v 14))), ((fo 15), .inr (2, [.int (nm 15), .int (fk 15), .ref (va 15), .int (mi 15), .int (td 15)])), ((va 15), .inl ((ca 15), 3, .inl (v 15)))] H1 := hP.kept (fun k x hx => hk1 x.1 ((hP k x hx).lt) (fun h => h))
    generalize H1 = H at hP hS ⊢
    refine lv_if_eq hx hb dX8_outcome_142 rfl (fun q69 => ?_) (fun q69 => ?_)
    · refine lv_aload hx hb dX8_outcome_166 (lv_at hl 0 rfl) ?_
      refine va_get (D := (dC, dI)) (ci := 2) (v := .int (fk 2)) (C := RX2) (T := TX2) (N := 5) hx hb hts (by decide +kernel) hown hK hP 11 rfl rfl 1 (by decide) (hts (.fieldLink RX8 100 "Ruleengine$Fact" "kind" "I") (by decide +kernel)) (fun _ h9 => h9) rfl dX8_outcome_168 ?_
      refine lv_aload_n hx hb dX8_outcome_171 rfl (lv_at hl 6 rfl) ?_
      refine va_get (D := (dC, dI)) (ci := 5) (v := .ref ao) (C := RX5) (T := TX5) (N := 7) hx hb hts (by decide +kernel) hown hK hP 1 rfl rfl 1 (by decide) (hts (.fieldLink RX8 60 "Ruleengine$Part" "atom" "LRuleengine$Atom;") (by decide +kernel)) (fun _ h9 => h9) rfl dX8_outcome_172 ?_
      refine va_get (D := (dC, dI)) (ci := 0) (v := .int kd) (C := RX0) (T := TX0) (N := 6) hx hb hts (by decide +kernel) hown hK hP 2 rfl rfl 0 (by decide) (hts (.fieldLink RX8 103 "Ruleengine$Atom" "kind" "I") (by decide +kernel)) (fun _ h9 => h9) rfl dX8_outcome_175 ?_
      refine lv_icmp_ne hx hb dX8_outcome_178 rfl (fun q70 => ?_) (fun q70 => ?_)
      · refine lv_iinc (v := (3)) (lv' := [(5, .int (3)), (6, .ref (fo 2)), (4, .int sm), (3, .int o), (2, .int n), (0, .ref h0), (1, .ref h1)]) hx hb dX8_outcome_184 hl (k := 1) rfl (by decide) (by decide) rfl (fun ls hl => ?_)
        refine lv_goto hx hb dX8_outcome_187 rfl ?_
        have h0 : rr = 0 := by assumption
        have hf : ¬ lf_fit kd e12 e13 e23 w vs (fk 2) (v 2) := fun hh => by rw [if_pos hh] at hw; rw [hw] at h0; exact absurd h0 (by decide)
        have hp : (fun k => decide (lf_fit kd e12 e13 e23 w vs (fk k) (v k))) 2 = false := decide_eq_false hf
        have hk : fk 2 ≠ kd := by assumption
        have hq : (fun k => !decide (lf_fit kd e12 e13 e23 w vs (fk k) (v k)) && decide (fk k = kd)) 2 = false := by show (!decide (lf_fit kd e12 e13 e23 w vs (fk 2) (v 2)) && decide (fk 2 = kd)) = false; rw [decide_eq_false (p := fk 2 = kd) hk]; exact Bool.and_false _
        exact it3 ls H locs _ _ _ hP hS (lv_sub hl [0, 2, 3, 4, 5, 6] rfl) (by rw [a1]; exact (lf_cnt_n (P := (fun k => decide (lf_fit kd e12 e13 e23 w vs (fk k) (v k)))) (k := 2) hp).symm) (by rw [a2]; exact (lf_cnt_n (P := (fun k => !decide (lf_fit kd e12 e13 e23 w vs (fk k) (v k)) && decide (fk k = kd))) (k := 2) hq).symm) (by rw [a3]; exact (lf_sum_n (P := (fun k => decide (lf_fit kd e12 e13 e23 w vs (fk k) (v k)))) (x := (fun k => v k fa_.toNatClampNeg)) (k := 2) hp).symm)
      · refine lv_iinc (v := (o + 1)) (lv' := [(3, .int (o + 1)), (6, .ref (fo 2)), (5, .int (2)), (4, .int sm), (2, .int n), (0, .ref h0), (1, .ref h1)]) hx hb dX8_outcome_181 hl (k := 3) rfl (by rfl) (by decide) rfl (fun ls hl => ?_)
        refine lv_iinc (v := (3)) (lv' := [(5, .int (3)), (3, .int (o + 1)), (6, .ref (fo 2)), (4, .int sm), (2, .int n), (0, .ref h0), (1, .ref h1)]) hx hb dX8_outcome_184 hl (k := 2) rfl (by decide) (by decide) rfl (fun ls hl => ?_)
        refine lv_goto hx hb dX8_outcome_187 rfl ?_
        have h0 : rr = 0 := by assumption
        have hf : ¬ lf_fit kd e12 e13 e23 w vs (fk 2) (v 2) := fun hh => by rw [if_pos hh] at hw; rw [hw] at h0; exact absurd h0 (by decide)
        have hp : (fun k => decide (lf_fit kd e12 e13 e23 w vs (fk k) (v k))) 2 = false := decide_eq_false hf
        have hk : fk 2 = kd := by assumption
        have hq : (fun k => !decide (lf_fit kd e12 e13 e23 w vs (fk k) (v k)) && decide (fk k = kd)) 2 = true := by show (!decide (lf_fit kd e12 e13 e23 w vs (fk 2) (v 2)) && decide (fk 2 = kd)) = true; rw [decide_eq_false hf, decide_eq_true hk]; rfl
        exact it3 ls H locs _ _ _ hP hS (lv_sub hl [0, 3, 1, 4, 5, 6] rfl) (by rw [a1]; exact (lf_cnt_n (P := (fun k => decide (lf_fit kd e12 e13 e23 w vs (fk k) (v k)))) (k := 2) hp).symm) (by rw [a2]; exact (lf_cnt_y (P := (fun k => !decide (lf_fit kd e12 e13 e23 w vs (fk k) (v k)) && decide (fk k = kd))) (k := 2) hq).symm) (by rw [a3]; exact (lf_sum_n (P := (fun k => decide (lf_fit kd e12 e13 e23 w vs (fk k) (v k)))) (x := (fun k => v k fa_.toNatClampNeg)) (k := 2) hp).symm)
    · refine lv_iinc (v := (n + 1)) (lv' := [(2, .int (n + 1)), (6, .ref (fo 2)), (5, .int (2)), (4, .int sm), (3, .int o), (0, .ref h0), (1, .ref h1)]) hx hb dX8_outcome_145 hl (k := 4) rfl (by rfl) (by decide) rfl (fun ls hl => ?_)
      refine lv_iload hx hb dX8_outcome_148 (lv_at hl 3 rfl) ?_
      refine lv_aload hx hb dX8_outcome_150 (lv_at hl 1 rfl) ?_
      refine va_get (D := (dC, dI)) (ci := 2) (v := .ref (va 2)) (C := RX2) (T := TX2) (N := 5) hx hb hts (by decide +kernel) hown hK hP 11 rfl rfl 2 (by decide) (hts (.fieldLink RX8 92 "Ruleengine$Fact" "value" "[I") (by decide +kernel)) (fun _ h9 => h9) rfl dX8_outcome_152 ?_
      refine lv_aload_n hx hb dX8_outcome_155 rfl (lv_at hl 6 rfl) ?_
      refine va_get (D := (dC, dI)) (ci := 5) (v := .int fa_) (C := RX5) (T := TX5) (N := 7) hx hb hts (by decide +kernel) hown hK hP 1 rfl rfl 6 (by decide) (hts (.fieldLink RX8 97 "Ruleengine$Part" "at" "I") (by decide +kernel)) (fun _ h9 => h9) rfl dX8_outcome_156 ?_
      refine va_iald (i := fa_) hx hb hK hP 12 5 rfl rfl hat dX8_outcome_159 ?_
      refine lv_iadd hx hb dX8_outcome_160 ?_
      refine lv_istore (lv' := [(4, .int (sm + ((v 2) (fa_).toNatClampNeg))), (2, .int (n + 1)), (6, .ref (fo 2)), (5, .int (2)), (3, .int o), (0, .ref h0), (1, .ref h1)]) hx hb dX8_outcome_161 hl (by decide) rfl (fun ls hl => ?_)
      refine lv_goto hx hb dX8_outcome_163 rfl ?_
      refine lv_iinc (v := (3)) (lv' := [(5, .int (3)), (4, .int (sm + ((v 2) (fa_).toNatClampNeg))), (2, .int (n + 1)), (6, .ref (fo 2)), (3, .int o), (0, .ref h0), (1, .ref h1)]) hx hb dX8_outcome_184 hl (k := 3) rfl (by decide) (by decide) rfl (fun ls hl => ?_)
      refine lv_goto hx hb dX8_outcome_187 rfl ?_
      have hf : lf_fit kd e12 e13 e23 w vs (fk 2) (v 2) := Decidable.byContradiction (fun hh => by rw [if_neg hh] at hw; exact absurd hw (by assumption))
      have hp : (fun k => decide (lf_fit kd e12 e13 e23 w vs (fk k) (v k))) 2 = true := decide_eq_true hf
      have hq : (fun k => !decide (lf_fit kd e12 e13 e23 w vs (fk k) (v k)) && decide (fk k = kd)) 2 = false := by show (!decide (lf_fit kd e12 e13 e23 w vs (fk 2) (v 2)) && decide (fk 2 = kd)) = false; rw [decide_eq_true hf]; rfl
      exact it3 ls H locs _ _ _ hP hS (lv_sub hl [0, 1, 4, 2, 5, 6] rfl) (by rw [a1]; exact (lf_cnt_y (P := (fun k => decide (lf_fit kd e12 e13 e23 w vs (fk k) (v k)))) (k := 2) hp).symm) (by rw [a2]; exact (lf_cnt_n (P := (fun k => !decide (lf_fit kd e12 e13 e23 w vs (fk k) (v k)) && decide (fk k = kd))) (k := 2) hq).symm) (by rw [a3]; exact (lf_sum_y (P := (fun k => decide (lf_fit kd e12 e13 e23 w vs (fk k) (v k)))) (x := (fun k => v k fa_.toNatClampNeg)) (k := 2) hp).symm)
  have it1 : ∀ (ls : Array Slot) (H : Heap) (locs : List Loc) (n o sm : Int32), va_P (dC, dI) CL [(h0, .inr (4, .ref st :: .ref po :: .int ps :: .int ie :: .ref g :: mr)), (h1, .inr (5, [.int so, .ref ao, .int le, .int ri, .int rl, .int nw, .int fa_])), (ao, .inr (0, [.int kd, .ref sg, .ref wt, .int e12, .int e13, .int e23])), (wt, .inl (cw, 3, .inl w)), (st, .inr (8, .ref fa :: sr)), (fa, .inl (cf, 16, .inr (.inr (.inr (.inr (fun j => some (fo j))))))), (g, .inl (cg, 6, .inl vs)), ((fo 0), .inr (2, [.int (nm 0), .int (fk 0), .ref (va 0), .int (mi 0), .int (td 0)])), ((va 0), .inl ((ca 0), 3, .inl (v 0))), ((fo 1), .inr (2, [.int (nm 1), .int (fk 1), .ref (va 1), .int (mi 1), .int (td 1)])), ((va 1), .inl ((ca 1), 3, .inl (v 1))), ((fo 2), .inr (2, [.int (nm 2), .int (fk 2), .ref (va 2), .int (mi 2), .int (td 2)])), ((va 2), .inl ((ca 2), 3, .inl (v 2))), ((fo 3), .inr (2, [.int (nm 3), .int (fk 3), .ref (va 3), .int (mi 3), .int (td 3)])), ((va 3), .inl ((ca 3), 3, .inl (v 3))), ((fo 4), .inr (2, [.int (nm 4), .int (fk 4), .ref (va 4), .int (mi 4), .int (td 4)])), ((va 4), .inl ((ca 4), 3, .inl (v 4))), ((fo 5), .inr (2, [.int (nm 5), .int (fk 5), .ref (va 5), .int (mi 5), .int (td 5)])), ((va 5), .inl ((ca 5), 3, .inl (v 5))), ((fo 6), .inr (2, [.int (nm 6), .int (fk 6), .ref (va 6), .int (mi 6), .int (td 6)])), ((va 6), .inl ((ca 6), 3, .inl (v 6))), ((fo 7), .inr (2, [.int (nm 7), .int (fk 7), .ref (va 7), .int (mi 7), .int (td 7)])), ((va 7), .inl ((ca 7), 3, .inl (v 7))), ((fo 8), .inr (2, [.int (nm 8), .int (fk 8), .ref (va 8), .int (mi 8), .int (td 8)])), ((va 8), .inl ((ca 8), 3, .inl (v 8))), ((fo 9), .inr (2, [.int (nm 9), .int (fk 9), .ref (va 9), .int (mi 9), .int (td 9)])), ((va 9), .inl ((ca 9), 3, .inl (v 9))), ((fo 10), .inr (2, [.int (nm 10), .int (fk 10), .ref (va 10), .int (mi 10), .int (td 10)])), ((va 10), .inl ((ca 10), 3, .inl (v 10))), ((fo 11), .inr (2, [.int (nm 11), .int (fk 11), .ref (va 11), .int (mi 11), .int (td 11)])), ((va 11), .inl ((ca 11), 3, .inl (v 11))), ((fo 12), .inr (2, [.int (nm 12), .int (fk 12), .ref (va 12), .int (mi 12), .int (td 12)])), ((va 12), .inl ((ca 12), 3, .inl (v 12))), ((fo 13), .inr (2, [.int (nm 13), .int (fk 13), .ref (va 13), .int (mi 13), .int (td 13)])), ((va 13), .inl ((ca 13), 3, .inl (v 13))), ((fo 14), .inr (2, [.int (nm 14), .int (fk 14), .ref (va 14), .int (mi 14), .int (td 14)])), ((va 14), .inl ((ca 14), 3, .inl (v 14))), ((fo 15), .inr (2, [.int (nm 15), .int (fk 15), .ref (va 15), .int (mi 15), .int (td 15)])), ((va 15), .inl ((ca 15), 3, .inl (v 15)))] H → va_S A s.heap H locs → lv_has ls 7 [(5, .int (1)), (4, .int sm), (3, .int o), (2, .int n), (0, .ref h0), (1, .ref h1)] → n = lf_cnt (fun k => decide (lf_fit kd e12 e13 e23 w vs (fk k) (v k))) 1 → o = lf_cnt (fun k => !decide (lf_fit kd e12 e13 e23 w vs (fk k) (v k)) && decide (fk k = kd)) 1 → sm = lf_sum (fun k => decide (lf_fit kd e12 e13 e23 w vs (fk k) (v k))) (fun k => v k fa_.toNatClampNeg) 1 → W p l e (headSpec wqX8_outcome ({ frames := 1, cells := 0, slots := 0, locals := 24 })).room s m #[.ref h0, .ref h1] below meth c H locs 0 0 (MQ below (va_Qi (fun (r : Int32) (u : Nat → Int32) => (u = if (so = 4 ∨ so = 5) ∧ nw ≠ 0 then upd vs (le - 16).toNatClampNeg (if so = 5 then lf_sum (fun k => decide (lf_fit kd e12 e13 e23 w vs (fk k) (v k))) (fun k => v k fa_.toNatClampNeg) 16 else lf_cnt (fun k => decide (lf_fit kd e12 e13 e23 w vs (fk k) (v k))) 16) else vs) ∧ r = if so = 4 ∨ so = 5 then (if u (le - 16).toNatClampNeg = (if so = 5 then lf_sum (fun k => decide (lf_fit kd e12 e13 e23 w vs (fk k) (v k))) (fun k => v k fa_.toNatClampNeg) 16 else lf_cnt (fun k => decide (lf_fit kd e12 e13 e23 w vs (fk k) (v k))) 16) then (if so = 5 then lf_sum (fun k => decide (lf_fit kd e12 e13 e23 w vs (fk k) (v k))) (fun k => v k fa_.toNatClampNeg) 16 else lf_cnt (fun k => decide (lf_fit kd e12 e13 e23 w vs (fk k) (v k))) 16) else -1) else if (if so = 2 then 0 < lf_cnt (fun k => decide (lf_fit kd e12 e13 e23 w vs (fk k) (v k))) 16 else (if so = 3 then lf_cnt (fun k => !decide (lf_fit kd e12 e13 e23 w vs (fk k) (v k)) && decide (fk k = kd)) 16 else lf_cnt (fun k => decide (lf_fit kd e12 e13 e23 w vs (fk k) (v k))) 16) = 0) then 0 else -1) (fun u t => va_P (dC, dI) CL [(h0, .inr (4, .ref st :: .ref po :: .int ps :: .int ie :: .ref g :: mr)), (h1, .inr (5, [.int so, .ref ao, .int le, .int ri, .int rl, .int nw, .int fa_])), (ao, .inr (0, [.int kd, .ref sg, .ref wt, .int e12, .int e13, .int e23])), (wt, .inl (cw, 3, .inl w)), (st, .inr (8, .ref fa :: sr)), (fa, .inl (cf, 16, .inr (.inr (.inr (.inr (fun j => some (fo j))))))), (g, .inl (cg, 6, .inl u)), ((fo 0), .inr (2, [.int (nm 0), .int (fk 0), .ref (va 0), .int (mi 0), .int (td 0)])), ((va 0), .inl ((ca 0), 3, .inl (v 0))), ((fo 1), .inr (2, [.int (nm 1), .int (fk 1), .ref (va 1), .int (mi 1), .int (td 1)])), ((va 1), .inl ((ca 1), 3, .inl (v 1))), ((fo 2), .inr (2, [.int (nm 2), .int (fk 2), .ref (va 2), .int (mi 2), .int (td 2)])), ((va 2), .inl ((ca 2), 3, .inl (v 2))), ((fo 3), .inr (2, [.int (nm 3), .int (fk 3), .ref (va 3), .int (mi 3), .int (td 3)])), ((va 3), .inl ((ca 3), 3, .inl (v 3))), ((fo 4), .inr (2, [.int (nm 4), .int (fk 4), .ref (va 4), .int (mi 4), .int (td 4)])), ((va 4), .inl ((ca 4), 3, .inl (v 4))), ((fo 5), .inr (2, [.int (nm 5), .int (fk 5), .ref (va 5), .int (mi 5), .int (td 5)])), ((va 5), .inl ((ca 5), 3, .inl (v 5))), ((fo 6), .inr (2, [.int (nm 6), .int (fk 6), .ref (va 6), .int (mi 6), .int (td 6)])), ((va 6), .inl ((ca 6), 3, .inl (v 6))), ((fo 7), .inr (2, [.int (nm 7), .int (fk 7), .ref (va 7), .int (mi 7), .int (td 7)])), ((va 7), .inl ((ca 7), 3, .inl (v 7))), ((fo 8), .inr (2, [.int (nm 8), .int (fk 8), .ref (va 8), .int (mi 8), .int (td 8)])), ((va 8), .inl ((ca 8), 3, .inl (v 8))), ((fo 9), .inr (2, [.int (nm 9), .int (fk 9), .ref (va 9), .int (mi 9), .int (td 9)])), ((va 9), .inl ((ca 9), 3, .inl (v 9))), ((fo 10), .inr (2, [.int (nm 10), .int (fk 10), .ref (va 10), .int (mi 10), .int (td 10)])), ((va 10), .inl ((ca 10), 3, .inl (v 10))), ((fo 11), .inr (2, [.int (nm 11), .int (fk 11), .ref (va 11), .int (mi 11), .int (td 11)])), ((va 11), .inl ((ca 11), 3, .inl (v 11))), ((fo 12), .inr (2, [.int (nm 12), .int (fk 12), .ref (va 12), .int (mi 12), .int (td 12)])), ((va 12), .inl ((ca 12), 3, .inl (v 12))), ((fo 13), .inr (2, [.int (nm 13), .int (fk 13), .ref (va 13), .int (mi 13), .int (td 13)])), ((va 13), .inl ((ca 13), 3, .inl (v 13))), ((fo 14), .inr (2, [.int (nm 14), .int (fk 14), .ref (va 14), .int (mi 14), .int (td 14)])), ((va 14), .inl ((ca 14), 3, .inl (v 14))), ((fo 15), .inr (2, [.int (nm 15), .int (fk 15), .ref (va 15), .int (mi 15), .int (td 15)])), ((va 15), .inl ((ca 15), 3, .inl (v 15)))] t.heap ∧ va_K (dC, dI) CL [(cw, .int), (cf, .object RX2), (cg, .int), ((ca 0), .int), ((ca 1), .int), ((ca 2), .int), ((ca 3), .int), ((ca 4), .int), ((ca 5), .int), ((ca 6), .int), ((ca 7), .int), ((ca 8), .int), ((ca 9), .int), ((ca 10), .int), ((ca 11), .int), ((ca 12), .int), ((ca 13), .int), ((ca 14), .int), ((ca 15), .int)] t ∧ va_D (A) [(h0, .inr (4, .ref st :: .ref po :: .int ps :: .int ie :: .ref g :: mr)), (h1, .inr (5, [.int so, .ref ao, .int le, .int ri, .int rl, .int nw, .int fa_])), (ao, .inr (0, [.int kd, .ref sg, .ref wt, .int e12, .int e13, .int e23])), (wt, .inl (cw, 3, .inl w)), (st, .inr (8, .ref fa :: sr)), (fa, .inl (cf, 16, .inr (.inr (.inr (.inr (fun j => some (fo j))))))), (g, .inl (cg, 6, .inl u)), ((fo 0), .inr (2, [.int (nm 0), .int (fk 0), .ref (va 0), .int (mi 0), .int (td 0)])), ((va 0), .inl ((ca 0), 3, .inl (v 0))), ((fo 1), .inr (2, [.int (nm 1), .int (fk 1), .ref (va 1), .int (mi 1), .int (td 1)])), ((va 1), .inl ((ca 1), 3, .inl (v 1))), ((fo 2), .inr (2, [.int (nm 2), .int (fk 2), .ref (va 2), .int (mi 2), .int (td 2)])), ((va 2), .inl ((ca 2), 3, .inl (v 2))), ((fo 3), .inr (2, [.int (nm 3), .int (fk 3), .ref (va 3), .int (mi 3), .int (td 3)])), ((va 3), .inl ((ca 3), 3, .inl (v 3))), ((fo 4), .inr (2, [.int (nm 4), .int (fk 4), .ref (va 4), .int (mi 4), .int (td 4)])), ((va 4), .inl ((ca 4), 3, .inl (v 4))), ((fo 5), .inr (2, [.int (nm 5), .int (fk 5), .ref (va 5), .int (mi 5), .int (td 5)])), ((va 5), .inl ((ca 5), 3, .inl (v 5))), ((fo 6), .inr (2, [.int (nm 6), .int (fk 6), .ref (va 6), .int (mi 6), .int (td 6)])), ((va 6), .inl ((ca 6), 3, .inl (v 6))), ((fo 7), .inr (2, [.int (nm 7), .int (fk 7), .ref (va 7), .int (mi 7), .int (td 7)])), ((va 7), .inl ((ca 7), 3, .inl (v 7))), ((fo 8), .inr (2, [.int (nm 8), .int (fk 8), .ref (va 8), .int (mi 8), .int (td 8)])), ((va 8), .inl ((ca 8), 3, .inl (v 8))), ((fo 9), .inr (2, [.int (nm 9), .int (fk 9), .ref (va 9), .int (mi 9), .int (td 9)])), ((va 9), .inl ((ca 9), 3, .inl (v 9))), ((fo 10), .inr (2, [.int (nm 10), .int (fk 10), .ref (va 10), .int (mi 10), .int (td 10)])), ((va 10), .inl ((ca 10), 3, .inl (v 10))), ((fo 11), .inr (2, [.int (nm 11), .int (fk 11), .ref (va 11), .int (mi 11), .int (td 11)])), ((va 11), .inl ((ca 11), 3, .inl (v 11))), ((fo 12), .inr (2, [.int (nm 12), .int (fk 12), .ref (va 12), .int (mi 12), .int (td 12)])), ((va 12), .inl ((ca 12), 3, .inl (v 12))), ((fo 13), .inr (2, [.int (nm 13), .int (fk 13), .ref (va 13), .int (mi 13), .int (td 13)])), ((va 13), .inl ((ca 13), 3, .inl (v 13))), ((fo 14), .inr (2, [.int (nm 14), .int (fk 14), .ref (va 14), .int (mi 14), .int (td 14)])), ((va 14), .inl ((ca 14), 3, .inl (v 14))), ((fo 15), .inr (2, [.int (nm 15), .int (fk 15), .ref (va 15), .int (mi 15), .int (td 15)])), ((va 15), .inl ((ca 15), 3, .inl (v 15)))]) (A)) #[.ref h0, .ref h1] s 0 0 A) (F0 m 110 ls []) := by
    intro ls H locs n o sm hP hS hl a1 a2 a3
    refine lv_iload hx hb dX8_outcome_110 (lv_at hl 0 rfl) ?_
    refine lv_bipush (v := (16 : Int32)) hx hb dX8_outcome_112 (by decide) ?_
    refine lv_icmp_ge hx hb dX8_outcome_114 rfl (fun q => absurd q (by decide)) (fun _ => ?_)
    refine lv_aload_n hx hb dX8_outcome_117 rfl (lv_at hl 4 rfl) ?_
    refine va_get (D := (dC, dI)) (ci := 4) (v := .ref st) (C := RX4) (T := TX4) (N := 17) hx hb hts (by decide +kernel) hown hK hP 0 rfl rfl 0 (by decide) (hts (.fieldLink RX8 18 "Ruleengine$Search" "state" "LRuleengine$State;") (by decide +kernel)) (fun _ h9 => h9) rfl dX8_outcome_118 ?_
    refine va_get (D := (dC, dI)) (ci := 8) (v := .ref fa) (C := RX9) (T := TX9) (N := 13) hx hb hts (by decide +kernel) hown hK hP 4 rfl rfl 0 (by decide) (hts (.fieldLink RX8 87 "Ruleengine$State" "fact" "[LRuleengine$Fact;") (by decide +kernel)) (fun _ h9 => h9) rfl dX8_outcome_121 ?_
    refine lv_iload hx hb dX8_outcome_124 (lv_at hl 0 rfl) ?_
    refine va_aldq (i := (1)) hx hb hK hP 5 1 rfl rfl (by unfold vp_in; decide) dX8_outcome_126 ?_
    refine W.eq (g2 := F0 m 127 _ (.ref (fo 1) :: _)) rfl ?_
    refine lv_astore (lv' := [(6, .ref (fo 1)), (5, .int (1)), (4, .int sm), (3, .int o), (2, .int n), (0, .ref h0), (1, .ref h1)]) hx hb dX8_outcome_127 hl (by decide) rfl (fun ls hl => ?_)
    refine lv_aload_n hx hb dX8_outcome_129 rfl (lv_at hl 6 rfl) ?_
    refine va_get (D := (dC, dI)) (ci := 5) (v := .ref ao) (C := RX5) (T := TX5) (N := 7) hx hb hts (by decide +kernel) hown hK hP 1 rfl rfl 1 (by decide) (hts (.fieldLink RX8 60 "Ruleengine$Part" "atom" "LRuleengine$Atom;") (by decide +kernel)) (fun _ h9 => h9) rfl dX8_outcome_130 ?_
    refine lv_aload hx hb dX8_outcome_133 (lv_at hl 0 rfl) ?_
    refine lv_aload_n hx hb dX8_outcome_135 rfl (lv_at hl 5 rfl) ?_
    refine va_get (D := (dC, dI)) (ci := 4) (v := .ref g) (C := RX4) (T := TX4) (N := 17) hx hb hts (by decide +kernel) hown hK hP 0 rfl rfl 4 (by decide) (hts (.fieldLink RX8 9 "Ruleengine$Search" "values" "[I") (by decide +kernel)) (fun _ h9 => h9) rfl dX8_outcome_136 ?_
    have hPc := hP.sub (ws' := [(ao, .inr (0, [.int kd, .ref sg, .ref wt, .int e12, .int e13, .int e23])), (wt, .inl (cw, 3, .inl w)), ((fo 1), .inr (2, [.int (nm 1), .int (fk 1), .ref (va 1), .int (mi 1), .int (td 1)])), ((va 1), .inl ((ca 1), 3, .inl (v 1))), (g, .inl (cg, 6, .inl vs))]) [2, 3, 9, 10, 6] rfl
    have hDc := hD.sub (ws' := [(ao, .inr (0, [.int kd, .ref sg, .ref wt, .int e12, .int e13, .int e23])), (wt, .inl (cw, 3, .inl w)), ((fo 1), .inr (2, [.int (nm 1), .int (fk 1), .ref (va 1), .int (mi 1), .int (td 1)])), ((va 1), .inl ((ca 1), 3, .inl (v 1))), (g, .inl (cg, 6, .inl vs))]) [2, 3, 9, 10, 6] (by decide) rfl
    have hKc := hK.sub (tys' := [(cw, .int), ((ca 1), .int), (cg, .int)]) [0, 4, 2] rfl
    refine va_calli (va_runV (As := [.ref (fo 1), .ref g]) (rest := []) ⟨hx, hb, hml, hown, hts⟩ (kX0_fits l dC dI H.size ao sg wt (fo 1) (va 1) g cw (ca 1) cg kd e12 e13 e23 (nm 1) (fk 1) (mi 1) (td 1) w (v 1) vs) (cwV 2 hts ggq rfl rfl rfl (by decide +kernel) ⟨Nat.le_of_ble_eq_true rfl, Nat.le_of_ble_eq_true rfl⟩) ⟨fun a U g mk q => by obtain ⟨q0, q1, qP, qK, qD⟩ := q; exact ⟨q0, q1, qP, va_K.moved (u := U) (U := U.calling g mk a) (Vm.Alike.refl U.vm) qK, qD⟩, va_recv hKc hPc (ci := 0) (q0 := 0) rfl rfl, fun U hU hW => ⟨rfl, by rw [hU], by rw [hU]; exact hPc, va_K.moved hW.alike hKc, hDc.weaken (fun _ _ _ _ => trivial)⟩⟩ rfl rfl hl.1 rfl (lv_room (Nat.le_of_ble_eq_true rfl)) dX8_outcome_139 ⟨Nat.le_of_ble_eq_true rfl, Nat.le_of_ble_eq_true rfl⟩) hS (fun q _ h => h.elim) (fun q h => h.elim) (fun rr u t H1 locs ht hvm hw hB hz1 hk1 hS => ?_)
    have hP : va_P (dC, dI) CL [(h0, .inr (4, .ref st :: .ref po :: .int ps :: .int ie :: .ref g :: mr)), (h1, .inr (5, [.int so, .ref ao, .int le, .int ri, .int rl, .int nw, .int fa_])), (ao, .inr (0, [.int kd, .ref sg, .ref wt, .int e12, .int e13, .int e23])), (wt, .inl (cw, 3, .inl w)), (st, .inr (8, .ref fa :: sr)), (fa, .inl (cf, 16, .inr (.inr (.inr (.inr (fun j => some (fo j))))))), (g, .inl (cg, 6, .inl vs)), ((fo 0), .inr (2, [.int (nm 0), .int (fk 0), .ref (va 0), .int (mi 0), .int (td 0)])), ((va 0), .inl ((ca 0), 3, .inl (v 0))), ((fo 1), .inr (2, [.int (nm 1), .int (fk 1), .ref (va 1), .int (mi 1), .int (td 1)])), ((va 1), .inl ((ca 1), 3, .inl (v 1))), ((fo 2), .inr (2, [.int (nm 2), .int (fk 2), .ref (va 2), .int (mi 2), .int (td 2)])), ((va 2), .inl ((ca 2), 3, .inl (v 2))), ((fo 3), .inr (2, [.int (nm 3), .int (fk 3), .ref (va 3), .int (mi 3), .int (td 3)])), ((va 3), .inl ((ca 3), 3, .inl (v 3))), ((fo 4), .inr (2, [.int (nm 4), .int (fk 4), .ref (va 4), .int (mi 4), .int (td 4)])), ((va 4), .inl ((ca 4), 3, .inl (v 4))), ((fo 5), .inr (2, [.int (nm 5), .int (fk 5), .ref (va 5), .int (mi 5), .int (td 5)])), ((va 5), .inl ((ca 5), 3, .inl (v 5))), ((fo 6), .inr (2, [.int (nm 6), .int (fk 6), .ref (va 6), .int (mi 6), .int (td 6)])), ((va 6), .inl ((ca 6), 3, .inl (v 6))), ((fo 7), .inr (2, [.int (nm 7), .int (fk 7), .ref (va 7), .int (mi 7), .int (td 7)])), ((va 7), .inl ((ca 7), 3, .inl (v 7))), ((fo 8), .inr (2, [.int (nm 8), .int (fk 8), .ref (va 8), .int (mi 8), .int (td 8)])), ((va 8), .inl ((ca 8), 3, .inl (v 8))), ((fo 9), .inr (2, [.int (nm 9), .int (fk 9), .ref (va 9), .int (mi 9), .int (td 9)])), ((va 9), .inl ((ca 9), 3, .inl (v 9))), ((fo 10), .inr (2, [.int (nm 10), .int (fk 10), .ref (va 10), .int (mi 10), .int (td 10)])), ((va 10), .inl ((ca 10), 3, .inl (v 10))), ((fo 11), .inr (2, [.int (nm 11), .int (fk 11), .ref (va 11), .int (mi 11), .int (td 11)])), ((va 11), .inl ((ca 11), 3, .inl (v 11))), ((fo 12), .inr (2, [.int (nm 12), .int (fk 12), .ref (va 12), .int (mi 12), .int (td 12)])), ((va 12), .inl ((ca 12), 3, .inl (v 12))), ((fo 13), .inr (2, [.int (nm 13), .int (fk 13), .ref (va 13), .int (mi 13), .int (td 13)])), ((va 13), .inl ((ca 13), 3, .inl (v 13))), ((fo 14), .inr (2, [.int (nm 14), .int (fk 14), .ref (va 14), .int (mi 14), .int (td 14)])), ((va 14), .inl ((ca 14), 3, .inl (v 14))), ((fo 15), .inr (2, [.int (nm 15), .int (fk 15), .ref (va 15), .int (mi 15), .int (td 15)])), ((va 15), .inl ((ca 15), 3, .inl (v 15)))] H1 := hP.kept (fun k x hx => hk1 x.1 ((hP k x hx).lt) (fun h => h))
    generalize H1 = H at hP hS ⊢
    refine lv_if_eq hx hb dX8_outcome_142 rfl (fun q72 => ?_) (fun q72 => ?_)
    · refine lv_aload hx hb dX8_outcome_166 (lv_at hl 0 rfl) ?_
      refine va_get (D := (dC, dI)) (ci := 2) (v := .int (fk 1)) (C := RX2) (T := TX2) (N := 5) hx hb hts (by decide +kernel) hown hK hP 9 rfl rfl 1 (by decide) (hts (.fieldLink RX8 100 "Ruleengine$Fact" "kind" "I") (by decide +kernel)) (fun _ h9 => h9) rfl dX8_outcome_168 ?_
      refine lv_aload_n hx hb dX8_outcome_171 rfl (lv_at hl 6 rfl) ?_
      refine va_get (D := (dC, dI)) (ci := 5) (v := .ref ao) (C := RX5) (T := TX5) (N := 7) hx hb hts (by decide +kernel) hown hK hP 1 rfl rfl 1 (by decide) (hts (.fieldLink RX8 60 "Ruleengine$Part" "atom" "LRuleengine$Atom;") (by decide +kernel)) (fun _ h9 => h9) rfl dX8_outcome_172 ?_
      refine va_get (D := (dC, dI)) (ci := 0) (v := .int kd) (C := RX0) (T := TX0) (N := 6) hx hb hts (by decide +kernel) hown hK hP 2 rfl rfl 0 (by decide) (hts (.fieldLink RX8 103 "Ruleengine$Atom" "kind" "I") (by decide +kernel)) (fun _ h9 => h9) rfl dX8_outcome_175 ?_
      refine lv_icmp_ne hx hb dX8_outcome_178 rfl (fun q73 => ?_) (fun q73 => ?_)
      · refine lv_iinc (v := (2)) (lv' := [(5, .int (2)), (6, .ref (fo 1)), (4, .int sm), (3, .int o), (2, .int n), (0, .ref h0), (1, .ref h1)]) hx hb dX8_outcome_184 hl (k := 1) rfl (by decide) (by decide) rfl (fun ls hl => ?_)
        refine lv_goto hx hb dX8_outcome_187 rfl ?_
        have h0 : rr = 0 := by assumption
        have hf : ¬ lf_fit kd e12 e13 e23 w vs (fk 1) (v 1) := fun hh => by rw [if_pos hh] at hw; rw [hw] at h0; exact absurd h0 (by decide)
        have hp : (fun k => decide (lf_fit kd e12 e13 e23 w vs (fk k) (v k))) 1 = false := decide_eq_false hf
        have hk : fk 1 ≠ kd := by assumption
        have hq : (fun k => !decide (lf_fit kd e12 e13 e23 w vs (fk k) (v k)) && decide (fk k = kd)) 1 = false := by show (!decide (lf_fit kd e12 e13 e23 w vs (fk 1) (v 1)) && decide (fk 1 = kd)) = false; rw [decide_eq_false (p := fk 1 = kd) hk]; exact Bool.and_false _
        exact it2 ls H locs _ _ _ hP hS (lv_sub hl [0, 2, 3, 4, 5, 6] rfl) (by rw [a1]; exact (lf_cnt_n (P := (fun k => decide (lf_fit kd e12 e13 e23 w vs (fk k) (v k)))) (k := 1) hp).symm) (by rw [a2]; exact (lf_cnt_n (P := (fun k => !decide (lf_fit kd e12 e13 e23 w vs (fk k) (v k)) && decide (fk k = kd))) (k := 1) hq).symm) (by rw [a3]; exact (lf_sum_n (P := (fun k => decide (lf_fit kd e12 e13 e23 w vs (fk k) (v k)))) (x := (fun k => v k fa_.toNatClampNeg)) (k := 1) hp).symm)
      · refine lv_iinc (v := (o + 1)) (lv' := [(3, .int (o + 1)), (6, .ref (fo 1)), (5, .int (1)), (4, .int sm), (2, .int n), (0, .ref h0), (1, .ref h1)]) hx hb dX8_outcome_181 hl (k := 3) rfl (by rfl) (by decide) rfl (fun ls hl => ?_)
        refine lv_iinc (v := (2)) (lv' := [(5, .int (2)), (3, .int (o + 1)), (6, .ref (fo 1)), (4, .int sm), (2, .int n), (0, .ref h0), (1, .ref h1)]) hx hb dX8_outcome_184 hl (k := 2) rfl (by decide) (by decide) rfl (fun ls hl => ?_)
        refine lv_goto hx hb dX8_outcome_187 rfl ?_
        have h0 : rr = 0 := by assumption
        have hf : ¬ lf_fit kd e12 e13 e23 w vs (fk 1) (v 1) := fun hh => by rw [if_pos hh] at hw; rw [hw] at h0; exact absurd h0 (by decide)
        have hp : (fun k => decide (lf_fit kd e12 e13 e23 w vs (fk k) (v k))) 1 = false := decide_eq_false hf
        have hk : fk 1 = kd := by assumption
        have hq : (fun k => !decide (lf_fit kd e12 e13 e23 w vs (fk k) (v k)) && decide (fk k = kd)) 1 = true := by show (!decide (lf_fit kd e12 e13 e23 w vs (fk 1) (v 1)) && decide (fk 1 = kd)) = true; rw [decide_eq_false hf, decide_eq_true hk]; rfl
        exact it2 ls H locs _ _ _ hP hS (lv_sub hl [0, 3, 1, 4, 5, 6] rfl) (by rw [a1]; exact (lf_cnt_n (P := (fun k => decide (lf_fit kd e12 e13 e23 w vs (fk k) (v k)))) (k := 1) hp).symm) (by rw [a2]; exact (lf_cnt_y (P := (fun k => !decide (lf_fit kd e12 e13 e23 w vs (fk k) (v k)) && decide (fk k = kd))) (k := 1) hq).symm) (by rw [a3]; exact (lf_sum_n (P := (fun k => decide (lf_fit kd e12 e13 e23 w vs (fk k) (v k)))) (x := (fun k => v k fa_.toNatClampNeg)) (k := 1) hp).symm)
    · refine lv_iinc (v := (n + 1)) (lv' := [(2, .int (n + 1)), (6, .ref (fo 1)), (5, .int (1)), (4, .int sm), (3, .int o), (0, .ref h0), (1, .ref h1)]) hx hb dX8_outcome_145 hl (k := 4) rfl (by rfl) (by decide) rfl (fun ls hl => ?_)
      refine lv_iload hx hb dX8_outcome_148 (lv_at hl 3 rfl) ?_
      refine lv_aload hx hb dX8_outcome_150 (lv_at hl 1 rfl) ?_
      refine va_get (D := (dC, dI)) (ci := 2) (v := .ref (va 1)) (C := RX2) (T := TX2) (N := 5) hx hb hts (by decide +kernel) hown hK hP 9 rfl rfl 2 (by decide) (hts (.fieldLink RX8 92 "Ruleengine$Fact" "value" "[I") (by decide +kernel)) (fun _ h9 => h9) rfl dX8_outcome_152 ?_
      refine lv_aload_n hx hb dX8_outcome_155 rfl (lv_at hl 6 rfl) ?_
      refine va_get (D := (dC, dI)) (ci := 5) (v := .int fa_) (C := RX5) (T := TX5) (N := 7) hx hb hts (by decide +kernel) hown hK hP 1 rfl rfl 6 (by decide) (hts (.fieldLink RX8 97 "Ruleengine$Part" "at" "I") (by decide +kernel)) (fun _ h9 => h9) rfl dX8_outcome_156 ?_
      refine va_iald (i := fa_) hx hb hK hP 10 4 rfl rfl hat dX8_outcome_159 ?_
      refine lv_iadd hx hb dX8_outcome_160 ?_
      refine lv_istore (lv' := [(4, .int (sm + ((v 1) (fa_).toNatClampNeg))), (2, .int (n + 1)), (6, .ref (fo 1)), (5, .int (1)), (3, .int o), (0, .ref h0), (1, .ref h1)]) hx hb dX8_outcome_161 hl (by decide) rfl (fun ls hl => ?_)
      refine lv_goto hx hb dX8_outcome_163 rfl ?_
      refine lv_iinc (v := (2)) (lv' := [(5, .int (2)), (4, .int (sm + ((v 1) (fa_).toNatClampNeg))), (2, .int (n + 1)), (6, .ref (fo 1)), (3, .int o), (0, .ref h0), (1, .ref h1)]) hx hb dX8_outcome_184 hl (k := 3) rfl (by decide) (by decide) rfl (fun ls hl => ?_)
      refine lv_goto hx hb dX8_outcome_187 rfl ?_
      have hf : lf_fit kd e12 e13 e23 w vs (fk 1) (v 1) := Decidable.byContradiction (fun hh => by rw [if_neg hh] at hw; exact absurd hw (by assumption))
      have hp : (fun k => decide (lf_fit kd e12 e13 e23 w vs (fk k) (v k))) 1 = true := decide_eq_true hf
      have hq : (fun k => !decide (lf_fit kd e12 e13 e23 w vs (fk k) (v k)) && decide (fk k = kd)) 1 = false := by show (!decide (lf_fit kd e12 e13 e23 w vs (fk 1) (v 1)) && decide (fk 1 = kd)) = false; rw [decide_eq_true hf]; rfl
      exact it2 ls H locs _ _ _ hP hS (lv_sub hl [0, 1, 4, 2, 5, 6] rfl) (by rw [a1]; exact (lf_cnt_y (P := (fun k => decide (lf_fit kd e12 e13 e23 w vs (fk k) (v k)))) (k := 1) hp).symm) (by rw [a2]; exact (lf_cnt_n (P := (fun k => !decide (lf_fit kd e12 e13 e23 w vs (fk k) (v k)) && decide (fk k = kd))) (k := 1) hq).symm) (by rw [a3]; exact (lf_sum_y (P := (fun k => decide (lf_fit kd e12 e13 e23 w vs (fk k) (v k)))) (x := (fun k => v k fa_.toNatClampNeg)) (k := 1) hp).symm)
  have it0 : ∀ (ls : Array Slot) (H : Heap) (locs : List Loc) (n o sm : Int32), va_P (dC, dI) CL [(h0, .inr (4, .ref st :: .ref po :: .int ps :: .int ie :: .ref g :: mr)), (h1, .inr (5, [.int so, .ref ao, .int le, .int ri, .int rl, .int nw, .int fa_])), (ao, .inr (0, [.int kd, .ref sg, .ref wt, .int e12, .int e13, .int e23])), (wt, .inl (cw, 3, .inl w)), (st, .inr (8, .ref fa :: sr)), (fa, .inl (cf, 16, .inr (.inr (.inr (.inr (fun j => some (fo j))))))), (g, .inl (cg, 6, .inl vs)), ((fo 0), .inr (2, [.int (nm 0), .int (fk 0), .ref (va 0), .int (mi 0), .int (td 0)])), ((va 0), .inl ((ca 0), 3, .inl (v 0))), ((fo 1), .inr (2, [.int (nm 1), .int (fk 1), .ref (va 1), .int (mi 1), .int (td 1)])), ((va 1), .inl ((ca 1), 3, .inl (v 1))), ((fo 2), .inr (2, [.int (nm 2), .int (fk 2), .ref (va 2), .int (mi 2), .int (td 2)])), ((va 2), .inl ((ca 2), 3, .inl (v 2))), ((fo 3), .inr (2, [.int (nm 3), .int (fk 3), .ref (va 3), .int (mi 3), .int (td 3)])), ((va 3), .inl ((ca 3), 3, .inl (v 3))), ((fo 4), .inr (2, [.int (nm 4), .int (fk 4), .ref (va 4), .int (mi 4), .int (td 4)])), ((va 4), .inl ((ca 4), 3, .inl (v 4))), ((fo 5), .inr (2, [.int (nm 5), .int (fk 5), .ref (va 5), .int (mi 5), .int (td 5)])), ((va 5), .inl ((ca 5), 3, .inl (v 5))), ((fo 6), .inr (2, [.int (nm 6), .int (fk 6), .ref (va 6), .int (mi 6), .int (td 6)])), ((va 6), .inl ((ca 6), 3, .inl (v 6))), ((fo 7), .inr (2, [.int (nm 7), .int (fk 7), .ref (va 7), .int (mi 7), .int (td 7)])), ((va 7), .inl ((ca 7), 3, .inl (v 7))), ((fo 8), .inr (2, [.int (nm 8), .int (fk 8), .ref (va 8), .int (mi 8), .int (td 8)])), ((va 8), .inl ((ca 8), 3, .inl (v 8))), ((fo 9), .inr (2, [.int (nm 9), .int (fk 9), .ref (va 9), .int (mi 9), .int (td 9)])), ((va 9), .inl ((ca 9), 3, .inl (v 9))), ((fo 10), .inr (2, [.int (nm 10), .int (fk 10), .ref (va 10), .int (mi 10), .int (td 10)])), ((va 10), .inl ((ca 10), 3, .inl (v 10))), ((fo 11), .inr (2, [.int (nm 11), .int (fk 11), .ref (va 11), .int (mi 11), .int (td 11)])), ((va 11), .inl ((ca 11), 3, .inl (v 11))), ((fo 12), .inr (2, [.int (nm 12), .int (fk 12), .ref (va 12), .int (mi 12), .int (td 12)])), ((va 12), .inl ((ca 12), 3, .inl (v 12))), ((fo 13), .inr (2, [.int (nm 13), .int (fk 13), .ref (va 13), .int (mi 13), .int (td 13)])), ((va 13), .inl ((ca 13), 3, .inl (v 13))), ((fo 14), .inr (2, [.int (nm 14), .int (fk 14), .ref (va 14), .int (mi 14), .int (td 14)])), ((va 14), .inl ((ca 14), 3, .inl (v 14))), ((fo 15), .inr (2, [.int (nm 15), .int (fk 15), .ref (va 15), .int (mi 15), .int (td 15)])), ((va 15), .inl ((ca 15), 3, .inl (v 15)))] H → va_S A s.heap H locs → lv_has ls 7 [(5, .int (0)), (4, .int sm), (3, .int o), (2, .int n), (0, .ref h0), (1, .ref h1)] → n = lf_cnt (fun k => decide (lf_fit kd e12 e13 e23 w vs (fk k) (v k))) 0 → o = lf_cnt (fun k => !decide (lf_fit kd e12 e13 e23 w vs (fk k) (v k)) && decide (fk k = kd)) 0 → sm = lf_sum (fun k => decide (lf_fit kd e12 e13 e23 w vs (fk k) (v k))) (fun k => v k fa_.toNatClampNeg) 0 → W p l e (headSpec wqX8_outcome ({ frames := 1, cells := 0, slots := 0, locals := 24 })).room s m #[.ref h0, .ref h1] below meth c H locs 0 0 (MQ below (va_Qi (fun (r : Int32) (u : Nat → Int32) => (u = if (so = 4 ∨ so = 5) ∧ nw ≠ 0 then upd vs (le - 16).toNatClampNeg (if so = 5 then lf_sum (fun k => decide (lf_fit kd e12 e13 e23 w vs (fk k) (v k))) (fun k => v k fa_.toNatClampNeg) 16 else lf_cnt (fun k => decide (lf_fit kd e12 e13 e23 w vs (fk k) (v k))) 16) else vs) ∧ r = if so = 4 ∨ so = 5 then (if u (le - 16).toNatClampNeg = (if so = 5 then lf_sum (fun k => decide (lf_fit kd e12 e13 e23 w vs (fk k) (v k))) (fun k => v k fa_.toNatClampNeg) 16 else lf_cnt (fun k => decide (lf_fit kd e12 e13 e23 w vs (fk k) (v k))) 16) then (if so = 5 then lf_sum (fun k => decide (lf_fit kd e12 e13 e23 w vs (fk k) (v k))) (fun k => v k fa_.toNatClampNeg) 16 else lf_cnt (fun k => decide (lf_fit kd e12 e13 e23 w vs (fk k) (v k))) 16) else -1) else if (if so = 2 then 0 < lf_cnt (fun k => decide (lf_fit kd e12 e13 e23 w vs (fk k) (v k))) 16 else (if so = 3 then lf_cnt (fun k => !decide (lf_fit kd e12 e13 e23 w vs (fk k) (v k)) && decide (fk k = kd)) 16 else lf_cnt (fun k => decide (lf_fit kd e12 e13 e23 w vs (fk k) (v k))) 16) = 0) then 0 else -1) (fun u t => va_P (dC, dI) CL [(h0, .inr (4, .ref st :: .ref po :: .int ps :: .int ie :: .ref g :: mr)), (h1, .inr (5, [.int so, .ref ao, .int le, .int ri, .int rl, .int nw, .int fa_])), (ao, .inr (0, [.int kd, .ref sg, .ref wt, .int e12, .int e13, .int e23])), (wt, .inl (cw, 3, .inl w)), (st, .inr (8, .ref fa :: sr)), (fa, .inl (cf, 16, .inr (.inr (.inr (.inr (fun j => some (fo j))))))), (g, .inl (cg, 6, .inl u)), ((fo 0), .inr (2, [.int (nm 0), .int (fk 0), .ref (va 0), .int (mi 0), .int (td 0)])), ((va 0), .inl ((ca 0), 3, .inl (v 0))), ((fo 1), .inr (2, [.int (nm 1), .int (fk 1), .ref (va 1), .int (mi 1), .int (td 1)])), ((va 1), .inl ((ca 1), 3, .inl (v 1))), ((fo 2), .inr (2, [.int (nm 2), .int (fk 2), .ref (va 2), .int (mi 2), .int (td 2)])), ((va 2), .inl ((ca 2), 3, .inl (v 2))), ((fo 3), .inr (2, [.int (nm 3), .int (fk 3), .ref (va 3), .int (mi 3), .int (td 3)])), ((va 3), .inl ((ca 3), 3, .inl (v 3))), ((fo 4), .inr (2, [.int (nm 4), .int (fk 4), .ref (va 4), .int (mi 4), .int (td 4)])), ((va 4), .inl ((ca 4), 3, .inl (v 4))), ((fo 5), .inr (2, [.int (nm 5), .int (fk 5), .ref (va 5), .int (mi 5), .int (td 5)])), ((va 5), .inl ((ca 5), 3, .inl (v 5))), ((fo 6), .inr (2, [.int (nm 6), .int (fk 6), .ref (va 6), .int (mi 6), .int (td 6)])), ((va 6), .inl ((ca 6), 3, .inl (v 6))), ((fo 7), .inr (2, [.int (nm 7), .int (fk 7), .ref (va 7), .int (mi 7), .int (td 7)])), ((va 7), .inl ((ca 7), 3, .inl (v 7))), ((fo 8), .inr (2, [.int (nm 8), .int (fk 8), .ref (va 8), .int (mi 8), .int (td 8)])), ((va 8), .inl ((ca 8), 3, .inl (v 8))), ((fo 9), .inr (2, [.int (nm 9), .int (fk 9), .ref (va 9), .int (mi 9), .int (td 9)])), ((va 9), .inl ((ca 9), 3, .inl (v 9))), ((fo 10), .inr (2, [.int (nm 10), .int (fk 10), .ref (va 10), .int (mi 10), .int (td 10)])), ((va 10), .inl ((ca 10), 3, .inl (v 10))), ((fo 11), .inr (2, [.int (nm 11), .int (fk 11), .ref (va 11), .int (mi 11), .int (td 11)])), ((va 11), .inl ((ca 11), 3, .inl (v 11))), ((fo 12), .inr (2, [.int (nm 12), .int (fk 12), .ref (va 12), .int (mi 12), .int (td 12)])), ((va 12), .inl ((ca 12), 3, .inl (v 12))), ((fo 13), .inr (2, [.int (nm 13), .int (fk 13), .ref (va 13), .int (mi 13), .int (td 13)])), ((va 13), .inl ((ca 13), 3, .inl (v 13))), ((fo 14), .inr (2, [.int (nm 14), .int (fk 14), .ref (va 14), .int (mi 14), .int (td 14)])), ((va 14), .inl ((ca 14), 3, .inl (v 14))), ((fo 15), .inr (2, [.int (nm 15), .int (fk 15), .ref (va 15), .int (mi 15), .int (td 15)])), ((va 15), .inl ((ca 15), 3, .inl (v 15)))] t.heap ∧ va_K (dC, dI) CL [(cw, .int), (cf, .object RX2), (cg, .int), ((ca 0), .int), ((ca 1), .int), ((ca 2), .int), ((ca 3), .int), ((ca 4), .int), ((ca 5), .int), ((ca 6), .int), ((ca 7), .int), ((ca 8), .int), ((ca 9), .int), ((ca 10), .int), ((ca 11), .int), ((ca 12), .int), ((ca 13), .int), ((ca 14), .int), ((ca 15), .int)] t ∧ va_D (A) [(h0, .inr (4, .ref st :: .ref po :: .int ps :: .int ie :: .ref g :: mr)), (h1, .inr (5, [.int so, .ref ao, .int le, .int ri, .int rl, .int nw, .int fa_])), (ao, .inr (0, [.int kd, .ref sg, .ref wt, .int e12, .int e13, .int e23])), (wt, .inl (cw, 3, .inl w)), (st, .inr (8, .ref fa :: sr)), (fa, .inl (cf, 16, .inr (.inr (.inr (.inr (fun j => some (fo j))))))), (g, .inl (cg, 6, .inl u)), ((fo 0), .inr (2, [.int (nm 0), .int (fk 0), .ref (va 0), .int (mi 0), .int (td 0)])), ((va 0), .inl ((ca 0), 3, .inl (v 0))), ((fo 1), .inr (2, [.int (nm 1), .int (fk 1), .ref (va 1), .int (mi 1), .int (td 1)])), ((va 1), .inl ((ca 1), 3, .inl (v 1))), ((fo 2), .inr (2, [.int (nm 2), .int (fk 2), .ref (va 2), .int (mi 2), .int (td 2)])), ((va 2), .inl ((ca 2), 3, .inl (v 2))), ((fo 3), .inr (2, [.int (nm 3), .int (fk 3), .ref (va 3), .int (mi 3), .int (td 3)])), ((va 3), .inl ((ca 3), 3, .inl (v 3))), ((fo 4), .inr (2, [.int (nm 4), .int (fk 4), .ref (va 4), .int (mi 4), .int (td 4)])), ((va 4), .inl ((ca 4), 3, .inl (v 4))), ((fo 5), .inr (2, [.int (nm 5), .int (fk 5), .ref (va 5), .int (mi 5), .int (td 5)])), ((va 5), .inl ((ca 5), 3, .inl (v 5))), ((fo 6), .inr (2, [.int (nm 6), .int (fk 6), .ref (va 6), .int (mi 6), .int (td 6)])), ((va 6), .inl ((ca 6), 3, .inl (v 6))), ((fo 7), .inr (2, [.int (nm 7), .int (fk 7), .ref (va 7), .int (mi 7), .int (td 7)])), ((va 7), .inl ((ca 7), 3, .inl (v 7))), ((fo 8), .inr (2, [.int (nm 8), .int (fk 8), .ref (va 8), .int (mi 8), .int (td 8)])), ((va 8), .inl ((ca 8), 3, .inl (v 8))), ((fo 9), .inr (2, [.int (nm 9), .int (fk 9), .ref (va 9), .int (mi 9), .int (td 9)])), ((va 9), .inl ((ca 9), 3, .inl (v 9))), ((fo 10), .inr (2, [.int (nm 10), .int (fk 10), .ref (va 10), .int (mi 10), .int (td 10)])), ((va 10), .inl ((ca 10), 3, .inl (v 10))), ((fo 11), .inr (2, [.int (nm 11), .int (fk 11), .ref (va 11), .int (mi 11), .int (td 11)])), ((va 11), .inl ((ca 11), 3, .inl (v 11))), ((fo 12), .inr (2, [.int (nm 12), .int (fk 12), .ref (va 12), .int (mi 12), .int (td 12)])), ((va 12), .inl ((ca 12), 3, .inl (v 12))), ((fo 13), .inr (2, [.int (nm 13), .int (fk 13), .ref (va 13), .int (mi 13), .int (td 13)])), ((va 13), .inl ((ca 13), 3, .inl (v 13))), ((fo 14), .inr (2, [.int (nm 14), .int (fk 14), .ref (va 14), .int (mi 14), .int (td 14)])), ((va 14), .inl ((ca 14), 3, .inl (v 14))), ((fo 15), .inr (2, [.int (nm 15), .int (fk 15), .ref (va 15), .int (mi 15), .int (td 15)])), ((va 15), .inl ((ca 15), 3, .inl (v 15)))]) (A)) #[.ref h0, .ref h1] s 0 0 A) (F0 m 110 ls []) := by
    intro ls H locs n o sm hP hS hl a1 a2 a3
    refine lv_iload hx hb dX8_outcome_110 (lv_at hl 0 rfl) ?_
    refine lv_bipush (v := (16 : Int32)) hx hb dX8_outcome_112 (by decide) ?_
    refine lv_icmp_ge hx hb dX8_outcome_114 rfl (fun q => absurd q (by decide)) (fun _ => ?_)
    refine lv_aload_n hx hb dX8_outcome_117 rfl (lv_at hl 4 rfl) ?_
    refine va_get (D := (dC, dI)) (ci := 4) (v := .ref st) (C := RX4) (T := TX4) (N := 17) hx hb hts (by decide +kernel) hown hK hP 0 rfl rfl 0 (by decide) (hts (.fieldLink RX8 18 "Ruleengine$Search" "state" "LRuleengine$State;") (by decide +kernel)) (fun _ h9 => h9) rfl dX8_outcome_118 ?_
    refine va_get (D := (dC, dI)) (ci := 8) (v := .ref fa) (C := RX9) (T := TX9) (N := 13) hx hb hts (by decide +kernel) hown hK hP 4 rfl rfl 0 (by decide) (hts (.fieldLink RX8 87 "Ruleengine$State" "fact" "[LRuleengine$Fact;") (by decide +kernel)) (fun _ h9 => h9) rfl dX8_outcome_121 ?_
    refine lv_iload hx hb dX8_outcome_124 (lv_at hl 0 rfl) ?_
    refine va_aldq (i := (0)) hx hb hK hP 5 1 rfl rfl (by unfold vp_in; decide) dX8_outcome_126 ?_
    refine W.eq (g2 := F0 m 127 _ (.ref (fo 0) :: _)) rfl ?_
    refine lv_astore (lv' := [(6, .ref (fo 0)), (5, .int (0)), (4, .int sm), (3, .int o), (2, .int n), (0, .ref h0), (1, .ref h1)]) hx hb dX8_outcome_127 hl (by decide) rfl (fun ls hl => ?_)
    refine lv_aload_n hx hb dX8_outcome_129 rfl (lv_at hl 6 rfl) ?_
    refine va_get (D := (dC, dI)) (ci := 5) (v := .ref ao) (C := RX5) (T := TX5) (N := 7) hx hb hts (by decide +kernel) hown hK hP 1 rfl rfl 1 (by decide) (hts (.fieldLink RX8 60 "Ruleengine$Part" "atom" "LRuleengine$Atom;") (by decide +kernel)) (fun _ h9 => h9) rfl dX8_outcome_130 ?_
    refine lv_aload hx hb dX8_outcome_133 (lv_at hl 0 rfl) ?_
    refine lv_aload_n hx hb dX8_outcome_135 rfl (lv_at hl 5 rfl) ?_
    refine va_get (D := (dC, dI)) (ci := 4) (v := .ref g) (C := RX4) (T := TX4) (N := 17) hx hb hts (by decide +kernel) hown hK hP 0 rfl rfl 4 (by decide) (hts (.fieldLink RX8 9 "Ruleengine$Search" "values" "[I") (by decide +kernel)) (fun _ h9 => h9) rfl dX8_outcome_136 ?_
    have hPc := hP.sub (ws' := [(ao, .inr (0, [.int kd, .ref sg, .ref wt, .int e12, .int e13, .int e23])), (wt, .inl (cw, 3, .inl w)), ((fo 0), .inr (2, [.int (nm 0), .int (fk 0), .ref (va 0), .int (mi 0), .int (td 0)])), ((va 0), .inl ((ca 0), 3, .inl (v 0))), (g, .inl (cg, 6, .inl vs))]) [2, 3, 7, 8, 6] rfl
    have hDc := hD.sub (ws' := [(ao, .inr (0, [.int kd, .ref sg, .ref wt, .int e12, .int e13, .int e23])), (wt, .inl (cw, 3, .inl w)), ((fo 0), .inr (2, [.int (nm 0), .int (fk 0), .ref (va 0), .int (mi 0), .int (td 0)])), ((va 0), .inl ((ca 0), 3, .inl (v 0))), (g, .inl (cg, 6, .inl vs))]) [2, 3, 7, 8, 6] (by decide) rfl
    have hKc := hK.sub (tys' := [(cw, .int), ((ca 0), .int), (cg, .int)]) [0, 3, 2] rfl
    refine va_calli (va_runV (As := [.ref (fo 0), .ref g]) (rest := []) ⟨hx, hb, hml, hown, hts⟩ (kX0_fits l dC dI H.size ao sg wt (fo 0) (va 0) g cw (ca 0) cg kd e12 e13 e23 (nm 0) (fk 0) (mi 0) (td 0) w (v 0) vs) (cwV 2 hts ggq rfl rfl rfl (by decide +kernel) ⟨Nat.le_of_ble_eq_true rfl, Nat.le_of_ble_eq_true rfl⟩) ⟨fun a U g mk q => by obtain ⟨q0, q1, qP, qK, qD⟩ := q; exact ⟨q0, q1, qP, va_K.moved (u := U) (U := U.calling g mk a) (Vm.Alike.refl U.vm) qK, qD⟩, va_recv hKc hPc (ci := 0) (q0 := 0) rfl rfl, fun U hU hW => ⟨rfl, by rw [hU], by rw [hU]; exact hPc, va_K.moved hW.alike hKc, hDc.weaken (fun _ _ _ _ => trivial)⟩⟩ rfl rfl hl.1 rfl (lv_room (Nat.le_of_ble_eq_true rfl)) dX8_outcome_139 ⟨Nat.le_of_ble_eq_true rfl, Nat.le_of_ble_eq_true rfl⟩) hS (fun q _ h => h.elim) (fun q h => h.elim) (fun rr u t H1 locs ht hvm hw hB hz1 hk1 hS => ?_)
    have hP : va_P (dC, dI) CL [(h0, .inr (4, .ref st :: .ref po :: .int ps :: .int ie :: .ref g :: mr)), (h1, .inr (5, [.int so, .ref ao, .int le, .int ri, .int rl, .int nw, .int fa_])), (ao, .inr (0, [.int kd, .ref sg, .ref wt, .int e12, .int e13, .int e23])), (wt, .inl (cw, 3, .inl w)), (st, .inr (8, .ref fa :: sr)), (fa, .inl (cf, 16, .inr (.inr (.inr (.inr (fun j => some (fo j))))))), (g, .inl (cg, 6, .inl vs)), ((fo 0), .inr (2, [.int (nm 0), .int (fk 0), .ref (va 0), .int (mi 0), .int (td 0)])), ((va 0), .inl ((ca 0), 3, .inl (v 0))), ((fo 1), .inr (2, [.int (nm 1), .int (fk 1), .ref (va 1), .int (mi 1), .int (td 1)])), ((va 1), .inl ((ca 1), 3, .inl (v 1))), ((fo 2), .inr (2, [.int (nm 2), .int (fk 2), .ref (va 2), .int (mi 2), .int (td 2)])), ((va 2), .inl ((ca 2), 3, .inl (v 2))), ((fo 3), .inr (2, [.int (nm 3), .int (fk 3), .ref (va 3), .int (mi 3), .int (td 3)])), ((va 3), .inl ((ca 3), 3, .inl (v 3))), ((fo 4), .inr (2, [.int (nm 4), .int (fk 4), .ref (va 4), .int (mi 4), .int (td 4)])), ((va 4), .inl ((ca 4), 3, .inl (v 4))), ((fo 5), .inr (2, [.int (nm 5), .int (fk 5), .ref (va 5), .int (mi 5), .int (td 5)])), ((va 5), .inl ((ca 5), 3, .inl (v 5))), ((fo 6), .inr (2, [.int (nm 6), .int (fk 6), .ref (va 6), .int (mi 6), .int (td 6)])), ((va 6), .inl ((ca 6), 3, .inl (v 6))), ((fo 7), .inr (2, [.int (nm 7), .int (fk 7), .ref (va 7), .int (mi 7), .int (td 7)])), ((va 7), .inl ((ca 7), 3, .inl (v 7))), ((fo 8), .inr (2, [.int (nm 8), .int (fk 8), .ref (va 8), .int (mi 8), .int (td 8)])), ((va 8), .inl ((ca 8), 3, .inl (v 8))), ((fo 9), .inr (2, [.int (nm 9), .int (fk 9), .ref (va 9), .int (mi 9), .int (td 9)])), ((va 9), .inl ((ca 9), 3, .inl (v 9))), ((fo 10), .inr (2, [.int (nm 10), .int (fk 10), .ref (va 10), .int (mi 10), .int (td 10)])), ((va 10), .inl ((ca 10), 3, .inl (v 10))), ((fo 11), .inr (2, [.int (nm 11), .int (fk 11), .ref (va 11), .int (mi 11), .int (td 11)])), ((va 11), .inl ((ca 11), 3, .inl (v 11))), ((fo 12), .inr (2, [.int (nm 12), .int (fk 12), .ref (va 12), .int (mi 12), .int (td 12)])), ((va 12), .inl ((ca 12), 3, .inl (v 12))), ((fo 13), .inr (2, [.int (nm 13), .int (fk 13), .ref (va 13), .int (mi 13), .int (td 13)])), ((va 13), .inl ((ca 13), 3, .inl (v 13))), ((fo 14), .inr (2, [.int (nm 14), .int (fk 14), .ref (va 14), .int (mi 14), .int (td 14)])), ((va 14), .inl ((ca 14), 3, .inl (v 14))), ((fo 15), .inr (2, [.int (nm 15), .int (fk 15), .ref (va 15), .int (mi 15), .int (td 15)])), ((va 15), .inl ((ca 15), 3, .inl (v 15)))] H1 := hP.kept (fun k x hx => hk1 x.1 ((hP k x hx).lt) (fun h => h))
    generalize H1 = H at hP hS ⊢
    refine lv_if_eq hx hb dX8_outcome_142 rfl (fun q75 => ?_) (fun q75 => ?_)
    · refine lv_aload hx hb dX8_outcome_166 (lv_at hl 0 rfl) ?_
      refine va_get (D := (dC, dI)) (ci := 2) (v := .int (fk 0)) (C := RX2) (T := TX2) (N := 5) hx hb hts (by decide +kernel) hown hK hP 7 rfl rfl 1 (by decide) (hts (.fieldLink RX8 100 "Ruleengine$Fact" "kind" "I") (by decide +kernel)) (fun _ h9 => h9) rfl dX8_outcome_168 ?_
      refine lv_aload_n hx hb dX8_outcome_171 rfl (lv_at hl 6 rfl) ?_
      refine va_get (D := (dC, dI)) (ci := 5) (v := .ref ao) (C := RX5) (T := TX5) (N := 7) hx hb hts (by decide +kernel) hown hK hP 1 rfl rfl 1 (by decide) (hts (.fieldLink RX8 60 "Ruleengine$Part" "atom" "LRuleengine$Atom;") (by decide +kernel)) (fun _ h9 => h9) rfl dX8_outcome_172 ?_
      refine va_get (D := (dC, dI)) (ci := 0) (v := .int kd) (C := RX0) (T := TX0) (N := 6) hx hb hts (by decide +kernel) hown hK hP 2 rfl rfl 0 (by decide) (hts (.fieldLink RX8 103 "Ruleengine$Atom" "kind" "I") (by decide +kernel)) (fun _ h9 => h9) rfl dX8_outcome_175 ?_
      refine lv_icmp_ne hx hb dX8_outcome_178 rfl (fun q76 => ?_) (fun q76 => ?_)
      · refine lv_iinc (v := (1)) (lv' := [(5, .int (1)), (6, .ref (fo 0)), (4, .int sm), (3, .int o), (2, .int n), (0, .ref h0), (1, .ref h1)]) hx hb dX8_outcome_184 hl (k := 1) rfl (by decide) (by decide) rfl (fun ls hl => ?_)
        refine lv_goto hx hb dX8_outcome_187 rfl ?_
        have h0 : rr = 0 := by assumption
        have hf : ¬ lf_fit kd e12 e13 e23 w vs (fk 0) (v 0) := fun hh => by rw [if_pos hh] at hw; rw [hw] at h0; exact absurd h0 (by decide)
        have hp : (fun k => decide (lf_fit kd e12 e13 e23 w vs (fk k) (v k))) 0 = false := decide_eq_false hf
        have hk : fk 0 ≠ kd := by assumption
        have hq : (fun k => !decide (lf_fit kd e12 e13 e23 w vs (fk k) (v k)) && decide (fk k = kd)) 0 = false := by show (!decide (lf_fit kd e12 e13 e23 w vs (fk 0) (v 0)) && decide (fk 0 = kd)) = false; rw [decide_eq_false (p := fk 0 = kd) hk]; exact Bool.and_false _
        exact it1 ls H locs _ _ _ hP hS (lv_sub hl [0, 2, 3, 4, 5, 6] rfl) (by rw [a1]; exact (lf_cnt_n (P := (fun k => decide (lf_fit kd e12 e13 e23 w vs (fk k) (v k)))) (k := 0) hp).symm) (by rw [a2]; exact (lf_cnt_n (P := (fun k => !decide (lf_fit kd e12 e13 e23 w vs (fk k) (v k)) && decide (fk k = kd))) (k := 0) hq).symm) (by rw [a3]; exact (lf_sum_n (P := (fun k => decide (lf_fit kd e12 e13 e23 w vs (fk k) (v k)))) (x := (fun k => v k fa_.toNatClampNeg)) (k := 0) hp).symm)
      · refine lv_iinc (v := (o + 1)) (lv' := [(3, .int (o + 1)), (6, .ref (fo 0)), (5, .int (0)), (4, .int sm), (2, .int n), (0, .ref h0), (1, .ref h1)]) hx hb dX8_outcome_181 hl (k := 3) rfl (by rfl) (by decide) rfl (fun ls hl => ?_)
        refine lv_iinc (v := (1)) (lv' := [(5, .int (1)), (3, .int (o + 1)), (6, .ref (fo 0)), (4, .int sm), (2, .int n), (0, .ref h0), (1, .ref h1)]) hx hb dX8_outcome_184 hl (k := 2) rfl (by decide) (by decide) rfl (fun ls hl => ?_)
        refine lv_goto hx hb dX8_outcome_187 rfl ?_
        have h0 : rr = 0 := by assumption
        have hf : ¬ lf_fit kd e12 e13 e23 w vs (fk 0) (v 0) := fun hh => by rw [if_pos hh] at hw; rw [hw] at h0; exact absurd h0 (by decide)
        have hp : (fun k => decide (lf_fit kd e12 e13 e23 w vs (fk k) (v k))) 0 = false := decide_eq_false hf
        have hk : fk 0 = kd := by assumption
        have hq : (fun k => !decide (lf_fit kd e12 e13 e23 w vs (fk k) (v k)) && decide (fk k = kd)) 0 = true := by show (!decide (lf_fit kd e12 e13 e23 w vs (fk 0) (v 0)) && decide (fk 0 = kd)) = true; rw [decide_eq_false hf, decide_eq_true hk]; rfl
        exact it1 ls H locs _ _ _ hP hS (lv_sub hl [0, 3, 1, 4, 5, 6] rfl) (by rw [a1]; exact (lf_cnt_n (P := (fun k => decide (lf_fit kd e12 e13 e23 w vs (fk k) (v k)))) (k := 0) hp).symm) (by rw [a2]; exact (lf_cnt_y (P := (fun k => !decide (lf_fit kd e12 e13 e23 w vs (fk k) (v k)) && decide (fk k = kd))) (k := 0) hq).symm) (by rw [a3]; exact (lf_sum_n (P := (fun k => decide (lf_fit kd e12 e13 e23 w vs (fk k) (v k)))) (x := (fun k => v k fa_.toNatClampNeg)) (k := 0) hp).symm)
    · refine lv_iinc (v := (n + 1)) (lv' := [(2, .int (n + 1)), (6, .ref (fo 0)), (5, .int (0)), (4, .int sm), (3, .int o), (0, .ref h0), (1, .ref h1)]) hx hb dX8_outcome_145 hl (k := 4) rfl (by rfl) (by decide) rfl (fun ls hl => ?_)
      refine lv_iload hx hb dX8_outcome_148 (lv_at hl 3 rfl) ?_
      refine lv_aload hx hb dX8_outcome_150 (lv_at hl 1 rfl) ?_
      refine va_get (D := (dC, dI)) (ci := 2) (v := .ref (va 0)) (C := RX2) (T := TX2) (N := 5) hx hb hts (by decide +kernel) hown hK hP 7 rfl rfl 2 (by decide) (hts (.fieldLink RX8 92 "Ruleengine$Fact" "value" "[I") (by decide +kernel)) (fun _ h9 => h9) rfl dX8_outcome_152 ?_
      refine lv_aload_n hx hb dX8_outcome_155 rfl (lv_at hl 6 rfl) ?_
      refine va_get (D := (dC, dI)) (ci := 5) (v := .int fa_) (C := RX5) (T := TX5) (N := 7) hx hb hts (by decide +kernel) hown hK hP 1 rfl rfl 6 (by decide) (hts (.fieldLink RX8 97 "Ruleengine$Part" "at" "I") (by decide +kernel)) (fun _ h9 => h9) rfl dX8_outcome_156 ?_
      refine va_iald (i := fa_) hx hb hK hP 8 3 rfl rfl hat dX8_outcome_159 ?_
      refine lv_iadd hx hb dX8_outcome_160 ?_
      refine lv_istore (lv' := [(4, .int (sm + ((v 0) (fa_).toNatClampNeg))), (2, .int (n + 1)), (6, .ref (fo 0)), (5, .int (0)), (3, .int o), (0, .ref h0), (1, .ref h1)]) hx hb dX8_outcome_161 hl (by decide) rfl (fun ls hl => ?_)
      refine lv_goto hx hb dX8_outcome_163 rfl ?_
      refine lv_iinc (v := (1)) (lv' := [(5, .int (1)), (4, .int (sm + ((v 0) (fa_).toNatClampNeg))), (2, .int (n + 1)), (6, .ref (fo 0)), (3, .int o), (0, .ref h0), (1, .ref h1)]) hx hb dX8_outcome_184 hl (k := 3) rfl (by decide) (by decide) rfl (fun ls hl => ?_)
      refine lv_goto hx hb dX8_outcome_187 rfl ?_
      have hf : lf_fit kd e12 e13 e23 w vs (fk 0) (v 0) := Decidable.byContradiction (fun hh => by rw [if_neg hh] at hw; exact absurd hw (by assumption))
      have hp : (fun k => decide (lf_fit kd e12 e13 e23 w vs (fk k) (v k))) 0 = true := decide_eq_true hf
      have hq : (fun k => !decide (lf_fit kd e12 e13 e23 w vs (fk k) (v k)) && decide (fk k = kd)) 0 = false := by show (!decide (lf_fit kd e12 e13 e23 w vs (fk 0) (v 0)) && decide (fk 0 = kd)) = false; rw [decide_eq_true hf]; rfl
      exact it1 ls H locs _ _ _ hP hS (lv_sub hl [0, 1, 4, 2, 5, 6] rfl) (by rw [a1]; exact (lf_cnt_y (P := (fun k => decide (lf_fit kd e12 e13 e23 w vs (fk k) (v k)))) (k := 0) hp).symm) (by rw [a2]; exact (lf_cnt_n (P := (fun k => !decide (lf_fit kd e12 e13 e23 w vs (fk k) (v k)) && decide (fk k = kd))) (k := 0) hq).symm) (by rw [a3]; exact (lf_sum_y (P := (fun k => decide (lf_fit kd e12 e13 e23 w vs (fk k) (v k)))) (x := (fun k => v k fa_.toNatClampNeg)) (k := 0) hp).symm)
  refine lv_aload_n hx hb dX8_outcome_0 rfl (lv_at hl 1 rfl) ?_
  refine va_get (D := (dC, dI)) (ci := 5) (v := .int so) (C := RX5) (T := TX5) (N := 7) hx hb hts (by decide +kernel) hown hK hP 1 rfl rfl 0 (by decide) (hts (.fieldLink RX8 43 "Ruleengine$Part" "sort" "I") (by decide +kernel)) (fun _ h9 => h9) rfl dX8_outcome_1 ?_
  refine lv_bipush (v := (6 : Int32)) hx hb dX8_outcome_4 (by decide) ?_
  refine lv_icmp_ne hx hb dX8_outcome_6 rfl (fun q77 => ?_) (fun q77 => ?_)
  · refine lv_iconst (v := (0 : Int32)) hx hb dX8_outcome_100 (by decide) ?_
    refine lv_istore_n (lv' := [(2, .int (0)), (0, .ref h0), (1, .ref h1)]) hx hb dX8_outcome_101 rfl hl (by decide) rfl (fun ls hl => ?_)
    refine lv_iconst (v := (0 : Int32)) hx hb dX8_outcome_102 (by decide) ?_
    refine lv_istore_n (lv' := [(3, .int (0)), (2, .int (0)), (0, .ref h0), (1, .ref h1)]) hx hb dX8_outcome_103 rfl hl (by decide) rfl (fun ls hl => ?_)
    refine lv_iconst (v := (0 : Int32)) hx hb dX8_outcome_104 (by decide) ?_
    refine lv_istore (lv' := [(4, .int (0)), (3, .int (0)), (2, .int (0)), (0, .ref h0), (1, .ref h1)]) hx hb dX8_outcome_105 hl (by decide) rfl (fun ls hl => ?_)
    refine lv_iconst (v := (0 : Int32)) hx hb dX8_outcome_107 (by decide) ?_
    refine lv_istore (lv' := [(5, .int (0)), (4, .int (0)), (3, .int (0)), (2, .int (0)), (0, .ref h0), (1, .ref h1)]) hx hb dX8_outcome_108 hl (by decide) rfl (fun ls hl => ?_)
    exact it0 ls s.heap [] 0 0 0 hP hS (lv_sub hl [0, 1, 2, 3, 4, 5] rfl) rfl rfl rfl
  · exact absurd (by assumption) hso
end
section
/-! Search.outcome, for a search that is a Matches, and a TEST. Printed by wip/gen/mk6.py. -/
/-- what a digit or a variable stands for -/
abbrev lf_worth (vs : Nat → Int32) (x : Int32) : Int32 := if 16 ≤ x ∧ x < 22 then vs (x - 16).toNatClampNeg else x
def wqX8_test : List Cond := .code yX8_outcome cX8_outcome 7 (some .int) :: ([.static yX11_worthOf, .initialized RX11, .fieldLink RX8 43 "Ruleengine$Part" "sort" "I", .fieldLink RX8 74 "Ruleengine$Part" "left" "I", .fieldLink RX8 9 "Ruleengine$Search" "values" "[I", .fieldLink RX8 81 "Ruleengine$Part" "right" "I", .fieldLink RX8 84 "Ruleengine$Part" "relation" "I", .fieldLink RX8 18 "Ruleengine$Search" "state" "LRuleengine$State;", .fieldLink RX8 87 "Ruleengine$State" "fact" "[LRuleengine$Fact;", .fieldLink RX8 60 "Ruleengine$Part" "atom" "LRuleengine$Atom;", .fieldLink RX8 92 "Ruleengine$Fact" "value" "[I", .fieldLink RX8 97 "Ruleengine$Part" "at" "I", .fieldLink RX8 100 "Ruleengine$Fact" "kind" "I", .fieldLink RX8 103 "Ruleengine$Atom" "kind" "I", .fieldLink RX8 104 "Ruleengine$Part" "isNew" "Z"] ++ wqX11_worthOf ++ wsX50 ++ wsX40)
theorem ggt : GoodIn wqX8_test wqX11_worthOf := goodIn_sub (by decide +kernel) (by decide +kernel)
set_option maxHeartbeats 8000000 in
set_option maxRecDepth 100000 in
/-- Search.outcome on a Matches, for a TEST: both sides equal, unequal, or the first less -/
theorem kX8_test (l : Launch) (dC : Nat → ClassId) (dI : Nat → Nat → Nat) (sz : Nat) (h0 h1 ao st g po : Nat) (mr : List Value) (cg : ClassId) (so le ri rl nw fa_ ps ie : Int32) (vs : Nat → Int32) (hso : so = 6) : Met l yX8_outcome wqX8_test ({ frames := 1, cells := 0, slots := 0, locals := 21 }) (va_Pc [.ref h0, .ref h1] (fun U => U.heap.size = sz ∧ va_Nw (.methodLinkNest RX8 77 yX11_worthOf "Ruleengine") U ∧ va_P (dC, dI) CL [(h0, .inr (4, .ref st :: .ref po :: .int ps :: .int ie :: .ref g :: mr)), (h1, .inr (5, [.int so, .ref ao, .int le, .int ri, .int rl, .int nw, .int fa_])), (g, .inl (cg, 6, .inl vs))] U.heap ∧ va_K (dC, dI) CL [(cg, .int)] U ∧ va_D (fun _ => True) [(h0, .inr (4, .ref st :: .ref po :: .int ps :: .int ie :: .ref g :: mr)), (h1, .inr (5, [.int so, .ref ao, .int le, .int ri, .int rl, .int nw, .int fa_])), (g, .inl (cg, 6, .inl vs))])) (va_Qi (fun (r : Int32) (_ : Unit) => r = if (if rl = 30 then lf_worth vs le < lf_worth vs ri else (lf_worth vs le = lf_worth vs ri ↔ rl = 28)) then 0 else -1) (fun _ t => va_P (dC, dI) CL [(h0, .inr (4, .ref st :: .ref po :: .int ps :: .int ie :: .ref g :: mr)), (h1, .inr (5, [.int so, .ref ao, .int le, .int ri, .int rl, .int nw, .int fa_])), (g, .inl (cg, 6, .inl vs))] t.heap ∧ va_K (dC, dI) CL [(cg, .int)] t ∧ va_D (fun _ => True) [(h0, .inr (4, .ref st :: .ref po :: .int ps :: .int ie :: .ref g :: mr)), (h1, .inr (5, [.int so, .ref ao, .int le, .int ri, .int rl, .int nw, .int fa_])), (g, .inl (cg, 6, .inl vs))]) (fun _ => False)) 0 0 (fun _ => False) := by
  refine Met.ofW (cc := cX8_outcome) (maxL := 7) (ret := (some .int)) (by decide) rfl ?_
  intro p e s m args below meth c s₁ B hml hv
  obtain ⟨rfl, hsz, hNw, hP, hK, hD⟩ := hv
  have hx := B.exec
  have hb := B.bytes
  have hr := B.returns
  have hts := atoms_spec (ws := wqX8_test) B.pre
  have hown : s.vm.findClass RX8 = some m.cls := findClass_of_methodNamed B.named
  have hlocks := B.notSynchronized
  have hS : va_S (fun _ => False) s.heap s.heap [] := va_S.rf
  have hl := lv_entry ([.ref h0, .ref h1]) (n := 7) (Nat.le_of_ble_eq_true rfl)
  rw [lg_entry_eq]
  generalize (lg_sl ([.ref h0, .ref h1]) ++ List.replicate (7 - (lg_sl ([.ref h0, .ref h1])).length) Slot.unset).toArray = ls at hl ⊢
  have hl : lv_has ls 7 [(0, .ref h0), (1, .ref h1)] := hl
  refine lv_aload_n hx hb dX8_outcome_0 rfl (lv_at hl 1 rfl) ?_
  refine va_get (D := (dC, dI)) (ci := 5) (v := .int so) (C := RX5) (T := TX5) (N := 7) hx hb hts (by decide +kernel) hown hK hP 1 rfl rfl 0 (by decide) (hts (.fieldLink RX8 43 "Ruleengine$Part" "sort" "I") (by decide +kernel)) (fun _ h9 => h9) rfl dX8_outcome_1 ?_
  refine lv_bipush (v := (6 : Int32)) hx hb dX8_outcome_4 (by decide) ?_
  refine lv_icmp_ne hx hb dX8_outcome_6 rfl (fun q1 => ?_) (fun q1 => ?_)
  · exact absurd hso (by assumption)
  · refine lv_aload_n hx hb dX8_outcome_9 rfl (lv_at hl 1 rfl) ?_
    refine va_get (D := (dC, dI)) (ci := 5) (v := .int le) (C := RX5) (T := TX5) (N := 7) hx hb hts (by decide +kernel) hown hK hP 1 rfl rfl 2 (by decide) (hts (.fieldLink RX8 74 "Ruleengine$Part" "left" "I") (by decide +kernel)) (fun _ h9 => h9) rfl dX8_outcome_10 ?_
    refine lv_aload_n hx hb dX8_outcome_13 rfl (lv_at hl 0 rfl) ?_
    refine va_get (D := (dC, dI)) (ci := 4) (v := .ref g) (C := RX4) (T := TX4) (N := 17) hx hb hts (by decide +kernel) hown hK hP 0 rfl rfl 4 (by decide) (hts (.fieldLink RX8 9 "Ruleengine$Search" "values" "[I") (by decide +kernel)) (fun _ h9 => h9) rfl dX8_outcome_14 ?_
    have hPc := hP.sub (ws' := [(g, .inl (cg, 6, .inl vs))]) [2] rfl
    have hDc := hD.sub (ws' := [(g, .inl (cg, 6, .inl vs))]) [2] (by decide) rfl
    have hKc := hK.sub (tys' := [(cg, .int)]) [0] rfl
    refine va_calli (va_runSN (As := [.int le, .ref g]) (rest := []) ⟨hx, hb, hml, hown, hts⟩ (kX11_worthOf l dC dI s.heap.size g cg le vs) ⟨va_cnB 2 hts ggt rfl rfl rfl hNw (hts (.initialized RX11) (by decide +kernel)) (by decide +kernel) ⟨Nat.le_of_ble_eq_true rfl, Nat.le_of_ble_eq_true rfl⟩, hts (.static yX11_worthOf) (by decide +kernel), trivial⟩ ⟨fun a U g mk q => by obtain ⟨q0, q1, qP, qK, qD⟩ := q; exact ⟨q0, q1, qP, va_K.moved (u := U) (U := U.calling g mk a) (Vm.Alike.refl U.vm) qK, qD⟩, fun U hU hW => ⟨rfl, by rw [hU], by rw [hU]; exact hPc, va_K.moved hW.alike hKc, hDc⟩⟩ rfl rfl hl.1 rfl (lv_room (Nat.le_of_ble_eq_true rfl)) dX8_outcome_17 ⟨Nat.le_of_ble_eq_true rfl, Nat.le_of_ble_eq_true rfl⟩) hS (fun q _ h => h.elim) (fun q h => h.elim) (fun r1 u1 t1 H1 locs1 ht1 hvm1 hw1 hB1 hz1 hk1 hS => ?_)
    have hP : va_P (dC, dI) CL [(h0, .inr (4, .ref st :: .ref po :: .int ps :: .int ie :: .ref g :: mr)), (h1, .inr (5, [.int so, .ref ao, .int le, .int ri, .int rl, .int nw, .int fa_])), (g, .inl (cg, 6, .inl vs))] H1 := hP.kept (fun k x hx => hk1 x.1 ((hP k x hx).lt) (fun h => h))
    have e1 : r1 = lf_worth vs le := hw1
    refine lv_istore_n (lv' := [(2, .int r1), (0, .ref h0), (1, .ref h1)]) hx hb dX8_outcome_20 rfl hl (by decide) rfl (fun ls hl => ?_)
    refine lv_aload_n hx hb dX8_outcome_21 rfl (lv_at hl 2 rfl) ?_
    refine va_get (D := (dC, dI)) (ci := 5) (v := .int ri) (C := RX5) (T := TX5) (N := 7) hx hb hts (by decide +kernel) hown hK hP 1 rfl rfl 3 (by decide) (hts (.fieldLink RX8 81 "Ruleengine$Part" "right" "I") (by decide +kernel)) (fun _ h9 => h9) rfl dX8_outcome_22 ?_
    refine lv_aload_n hx hb dX8_outcome_25 rfl (lv_at hl 1 rfl) ?_
    refine va_get (D := (dC, dI)) (ci := 4) (v := .ref g) (C := RX4) (T := TX4) (N := 17) hx hb hts (by decide +kernel) hown hK hP 0 rfl rfl 4 (by decide) (hts (.fieldLink RX8 9 "Ruleengine$Search" "values" "[I") (by decide +kernel)) (fun _ h9 => h9) rfl dX8_outcome_26 ?_
    have hPc := hP.sub (ws' := [(g, .inl (cg, 6, .inl vs))]) [2] rfl
    have hDc := hD.sub (ws' := [(g, .inl (cg, 6, .inl vs))]) [2] (by decide) rfl
    have hKc := hK.sub (tys' := [(cg, .int)]) [0] rfl
    refine va_calli (va_runSN (As := [.int ri, .ref g]) (rest := []) ⟨hx, hb, hml, hown, hts⟩ (kX11_worthOf l dC dI H1.size g cg ri vs) ⟨va_cnB 2 hts ggt rfl rfl rfl hNw (hts (.initialized RX11) (by decide +kernel)) (by decide +kernel) ⟨Nat.le_of_ble_eq_true rfl, Nat.le_of_ble_eq_true rfl⟩, hts (.static yX11_worthOf) (by decide +kernel), trivial⟩ ⟨fun a U g mk q => by obtain ⟨q0, q1, qP, qK, qD⟩ := q; exact ⟨q0, q1, qP, va_K.moved (u := U) (U := U.calling g mk a) (Vm.Alike.refl U.vm) qK, qD⟩, fun U hU hW => ⟨rfl, by rw [hU], by rw [hU]; exact hPc, va_K.moved hW.alike hKc, hDc⟩⟩ rfl rfl hl.1 rfl (lv_room (Nat.le_of_ble_eq_true rfl)) dX8_outcome_29 ⟨Nat.le_of_ble_eq_true rfl, Nat.le_of_ble_eq_true rfl⟩) hS (fun q _ h => h.elim) (fun q h => h.elim) (fun r2 u2 t2 H2 locs2 ht2 hvm2 hw2 hB2 hz2 hk2 hS => ?_)
    have hP : va_P (dC, dI) CL [(h0, .inr (4, .ref st :: .ref po :: .int ps :: .int ie :: .ref g :: mr)), (h1, .inr (5, [.int so, .ref ao, .int le, .int ri, .int rl, .int nw, .int fa_])), (g, .inl (cg, 6, .inl vs))] H2 := hP.kept (fun k x hx => hk2 x.1 ((hP k x hx).lt) (fun h => h))
    have e2 : r2 = lf_worth vs ri := hw2
    refine lv_istore_n (lv' := [(3, .int r2), (2, .int r1), (0, .ref h0), (1, .ref h1)]) hx hb dX8_outcome_32 rfl hl (by decide) rfl (fun ls hl => ?_)
    refine lv_aload_n hx hb dX8_outcome_33 rfl (lv_at hl 3 rfl) ?_
    refine va_get (D := (dC, dI)) (ci := 5) (v := .int rl) (C := RX5) (T := TX5) (N := 7) hx hb hts (by decide +kernel) hown hK hP 1 rfl rfl 4 (by decide) (hts (.fieldLink RX8 84 "Ruleengine$Part" "relation" "I") (by decide +kernel)) (fun _ h9 => h9) rfl dX8_outcome_34 ?_
    refine lv_bipush (v := (30 : Int32)) hx hb dX8_outcome_37 (by decide) ?_
    refine lv_icmp_ne hx hb dX8_outcome_39 rfl (fun q2 => ?_) (fun q2 => ?_)
    · refine lv_iload_n hx hb dX8_outcome_55 rfl (lv_at hl 1 rfl) ?_
      refine lv_iload_n hx hb dX8_outcome_56 rfl (lv_at hl 0 rfl) ?_
      refine lv_icmp_ne hx hb dX8_outcome_57 rfl (fun q3 => ?_) (fun q3 => ?_)
      · refine lv_iconst (v := (0 : Int32)) hx hb dX8_outcome_64 (by decide) ?_
        refine lv_aload_n hx hb dX8_outcome_65 rfl (lv_at hl 3 rfl) ?_
        refine va_get (D := (dC, dI)) (ci := 5) (v := .int rl) (C := RX5) (T := TX5) (N := 7) hx hb hts (by decide +kernel) hown hK hP 1 rfl rfl 4 (by decide) (hts (.fieldLink RX8 84 "Ruleengine$Part" "relation" "I") (by decide +kernel)) (fun _ h9 => h9) rfl dX8_outcome_66 ?_
        refine lv_bipush (v := (28 : Int32)) hx hb dX8_outcome_69 (by decide) ?_
        refine lv_icmp_ne hx hb dX8_outcome_71 rfl (fun q4 => ?_) (fun q4 => ?_)
        · refine lv_iconst (v := (0 : Int32)) hx hb dX8_outcome_78 (by decide) ?_
          refine lv_icmp_ne hx hb dX8_outcome_79 rfl (fun q => absurd q (by decide)) (fun _ => ?_)
          refine lv_iconst (v := (1 : Int32)) hx hb dX8_outcome_82 (by decide) ?_
          refine lv_goto hx hb dX8_outcome_83 rfl ?_
          refine lv_istore (lv' := [(4, .int (1)), (3, .int r2), (2, .int r1), (0, .ref h0), (1, .ref h1)]) hx hb dX8_outcome_87 hl (by decide) rfl (fun ls hl => ?_)
          refine lv_iload hx hb dX8_outcome_89 (lv_at hl 0 rfl) ?_
          refine lv_if_eq hx hb dX8_outcome_91 rfl (fun q => absurd q (by decide)) (fun _ => ?_)
          refine lv_iconst (v := (0 : Int32)) hx hb dX8_outcome_94 (by decide) ?_
          refine lv_goto hx hb dX8_outcome_95 rfl ?_
          exact W.iret hx hb hr (fun t ht hW => ⟨⟨_, (), rfl, by rw [← e1, ← e2]; clear hw1 hw2 e1 e2; simp_all, by rw [ht]; exact hP, va_K.moved hW.alike hK, hD⟩, hS.F ht⟩) hS.2.2 dX8_outcome_99
        · refine lv_iconst (v := (1 : Int32)) hx hb dX8_outcome_74 (by decide) ?_
          refine lv_goto hx hb dX8_outcome_75 rfl ?_
          refine lv_icmp_ne hx hb dX8_outcome_79 rfl (fun _ => ?_) (fun q => absurd q (by decide))
          refine lv_iconst (v := (0 : Int32)) hx hb dX8_outcome_86 (by decide) ?_
          refine lv_istore (lv' := [(4, .int (0)), (3, .int r2), (2, .int r1), (0, .ref h0), (1, .ref h1)]) hx hb dX8_outcome_87 hl (by decide) rfl (fun ls hl => ?_)
          refine lv_iload hx hb dX8_outcome_89 (lv_at hl 0 rfl) ?_
          refine lv_if_eq hx hb dX8_outcome_91 rfl (fun _ => ?_) (fun q => absurd (by decide) q)
          refine lv_iconst (v := (-1 : Int32)) hx hb dX8_outcome_98 (by decide) ?_
          exact W.iret hx hb hr (fun t ht hW => ⟨⟨_, (), rfl, by rw [← e1, ← e2]; clear hw1 hw2 e1 e2; simp_all, by rw [ht]; exact hP, va_K.moved hW.alike hK, hD⟩, hS.F ht⟩) hS.2.2 dX8_outcome_99
      · refine lv_iconst (v := (1 : Int32)) hx hb dX8_outcome_60 (by decide) ?_
        refine lv_goto hx hb dX8_outcome_61 rfl ?_
        refine lv_aload_n hx hb dX8_outcome_65 rfl (lv_at hl 3 rfl) ?_
        refine va_get (D := (dC, dI)) (ci := 5) (v := .int rl) (C := RX5) (T := TX5) (N := 7) hx hb hts (by decide +kernel) hown hK hP 1 rfl rfl 4 (by decide) (hts (.fieldLink RX8 84 "Ruleengine$Part" "relation" "I") (by decide +kernel)) (fun _ h9 => h9) rfl dX8_outcome_66 ?_
        refine lv_bipush (v := (28 : Int32)) hx hb dX8_outcome_69 (by decide) ?_
        refine lv_icmp_ne hx hb dX8_outcome_71 rfl (fun q9 => ?_) (fun q9 => ?_)
        · refine lv_iconst (v := (0 : Int32)) hx hb dX8_outcome_78 (by decide) ?_
          refine lv_icmp_ne hx hb dX8_outcome_79 rfl (fun _ => ?_) (fun q => absurd q (by decide))
          refine lv_iconst (v := (0 : Int32)) hx hb dX8_outcome_86 (by decide) ?_
          refine lv_istore (lv' := [(4, .int (0)), (3, .int r2), (2, .int r1), (0, .ref h0), (1, .ref h1)]) hx hb dX8_outcome_87 hl (by decide) rfl (fun ls hl => ?_)
          refine lv_iload hx hb dX8_outcome_89 (lv_at hl 0 rfl) ?_
          refine lv_if_eq hx hb dX8_outcome_91 rfl (fun _ => ?_) (fun q => absurd (by decide) q)
          refine lv_iconst (v := (-1 : Int32)) hx hb dX8_outcome_98 (by decide) ?_
          exact W.iret hx hb hr (fun t ht hW => ⟨⟨_, (), rfl, by rw [← e1, ← e2]; clear hw1 hw2 e1 e2; simp_all, by rw [ht]; exact hP, va_K.moved hW.alike hK, hD⟩, hS.F ht⟩) hS.2.2 dX8_outcome_99
        · refine lv_iconst (v := (1 : Int32)) hx hb dX8_outcome_74 (by decide) ?_
          refine lv_goto hx hb dX8_outcome_75 rfl ?_
          refine lv_icmp_ne hx hb dX8_outcome_79 rfl (fun q => absurd q (by decide)) (fun _ => ?_)
          refine lv_iconst (v := (1 : Int32)) hx hb dX8_outcome_82 (by decide) ?_
          refine lv_goto hx hb dX8_outcome_83 rfl ?_
          refine lv_istore (lv' := [(4, .int (1)), (3, .int r2), (2, .int r1), (0, .ref h0), (1, .ref h1)]) hx hb dX8_outcome_87 hl (by decide) rfl (fun ls hl => ?_)
          refine lv_iload hx hb dX8_outcome_89 (lv_at hl 0 rfl) ?_
          refine lv_if_eq hx hb dX8_outcome_91 rfl (fun q => absurd q (by decide)) (fun _ => ?_)
          refine lv_iconst (v := (0 : Int32)) hx hb dX8_outcome_94 (by decide) ?_
          refine lv_goto hx hb dX8_outcome_95 rfl ?_
          exact W.iret hx hb hr (fun t ht hW => ⟨⟨_, (), rfl, by rw [← e1, ← e2]; clear hw1 hw2 e1 e2; simp_all, by rw [ht]; exact hP, va_K.moved hW.alike hK, hD⟩, hS.F ht⟩) hS.2.2 dX8_outcome_99
    · refine lv_iload_n hx hb dX8_outcome_42 rfl (lv_at hl 1 rfl) ?_
      refine lv_iload_n hx hb dX8_outcome_43 rfl (lv_at hl 0 rfl) ?_
      refine lv_icmp_ge hx hb dX8_outcome_44 rfl (fun q14 => ?_) (fun q14 => ?_)
      · refine lv_iconst (v := (0 : Int32)) hx hb dX8_outcome_51 (by decide) ?_
        refine lv_goto hx hb dX8_outcome_52 rfl ?_
        refine lv_istore (lv' := [(4, .int (0)), (3, .int r2), (2, .int r1), (0, .ref h0), (1, .ref h1)]) hx hb dX8_outcome_87 hl (by decide) rfl (fun ls hl => ?_)
        refine lv_iload hx hb dX8_outcome_89 (lv_at hl 0 rfl) ?_
        refine lv_if_eq hx hb dX8_outcome_91 rfl (fun _ => ?_) (fun q => absurd (by decide) q)
        refine lv_iconst (v := (-1 : Int32)) hx hb dX8_outcome_98 (by decide) ?_
        exact W.iret hx hb hr (fun t ht hW => ⟨⟨_, (), rfl, by rw [← e1, ← e2]; clear hw1 hw2 e1 e2; simp_all, by rw [ht]; exact hP, va_K.moved hW.alike hK, hD⟩, hS.F ht⟩) hS.2.2 dX8_outcome_99
      · refine lv_iconst (v := (1 : Int32)) hx hb dX8_outcome_47 (by decide) ?_
        refine lv_goto hx hb dX8_outcome_48 rfl ?_
        refine lv_istore (lv' := [(4, .int (1)), (3, .int r2), (2, .int r1), (0, .ref h0), (1, .ref h1)]) hx hb dX8_outcome_87 hl (by decide) rfl (fun ls hl => ?_)
        refine lv_iload hx hb dX8_outcome_89 (lv_at hl 0 rfl) ?_
        refine lv_if_eq hx hb dX8_outcome_91 rfl (fun q => absurd q (by decide)) (fun _ => ?_)
        refine lv_iconst (v := (0 : Int32)) hx hb dX8_outcome_94 (by decide) ?_
        refine lv_goto hx hb dX8_outcome_95 rfl ?_
        exact W.iret hx hb hr (fun t ht hW => ⟨⟨_, (), rfl, by rw [← e1, ← e2]; clear hw1 hw2 e1 e2; simp_all, by rw [ht]; exact hP, va_K.moved hW.alike hK, hD⟩, hS.F ht⟩) hS.2.2 dX8_outcome_99
end
