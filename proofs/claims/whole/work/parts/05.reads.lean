/-! More that reads: worthOf, moduleAt, keyCount, placeIn, next. Printed by wip/gen/mk4.py. -/
theorem lf_five {x : Int32} (h1 : ¬ x < 1) (h2 : ¬ 5 < x) : vp_in (x - 1) 5 := by
  simp only [Int32.lt_iff_toInt_lt, Int32.reduceToInt] at h1 h2
  have h3 : x.toInt = 1 ∨ x.toInt = 2 ∨ x.toInt = 3 ∨ x.toInt = 4 ∨ x.toInt = 5 := by omega
  rcases h3 with h | h | h | h | h
  · obtain rfl : x = 1 := Int32.toInt_inj.mp (h.trans (by decide))
    unfold vp_in; decide
  · obtain rfl : x = 2 := Int32.toInt_inj.mp (h.trans (by decide))
    unfold vp_in; decide
  · obtain rfl : x = 3 := Int32.toInt_inj.mp (h.trans (by decide))
    unfold vp_in; decide
  · obtain rfl : x = 4 := Int32.toInt_inj.mp (h.trans (by decide))
    unfold vp_in; decide
  · obtain rfl : x = 5 := Int32.toInt_inj.mp (h.trans (by decide))
    unfold vp_in; decide
abbrev cX11_worthOf : ByteArray := prog_1_method_53_code
def yX11_worthOf : MethodName := ⟨RX11, "worthOf", "(I[I)I"⟩
def wqX11_worthOf : List Cond := .code yX11_worthOf cX11_worthOf 2 (some .int) :: ([])
theorem dX11_worthOf_0 : decode cX11_worthOf 0 = .ok (.iload_n 0, 1) := by decide +kernel
theorem dX11_worthOf_1 : decode cX11_worthOf 1 = .ok (.bipush 16, 2) := by decide +kernel
theorem dX11_worthOf_3 : decode cX11_worthOf 3 = .ok (.if_icmp .lt 18, 3) := by decide +kernel
theorem dX11_worthOf_6 : decode cX11_worthOf 6 = .ok (.iload_n 0, 1) := by decide +kernel
theorem dX11_worthOf_7 : decode cX11_worthOf 7 = .ok (.bipush 22, 2) := by decide +kernel
theorem dX11_worthOf_9 : decode cX11_worthOf 9 = .ok (.if_icmp .ge 12, 3) := by decide +kernel
theorem dX11_worthOf_12 : decode cX11_worthOf 12 = .ok (.aload_n 1, 1) := by decide +kernel
theorem dX11_worthOf_13 : decode cX11_worthOf 13 = .ok (.iload_n 0, 1) := by decide +kernel
theorem dX11_worthOf_14 : decode cX11_worthOf 14 = .ok (.bipush 16, 2) := by decide +kernel
theorem dX11_worthOf_16 : decode cX11_worthOf 16 = .ok (.isub, 1) := by decide +kernel
theorem dX11_worthOf_17 : decode cX11_worthOf 17 = .ok (.iaload, 1) := by decide +kernel
theorem dX11_worthOf_18 : decode cX11_worthOf 18 = .ok (.goto 4, 3) := by decide +kernel
theorem dX11_worthOf_21 : decode cX11_worthOf 21 = .ok (.iload_n 0, 1) := by decide +kernel
theorem dX11_worthOf_22 : decode cX11_worthOf 22 = .ok (.ireturn, 1) := by decide +kernel
set_option maxHeartbeats 8000000 in
set_option maxRecDepth 100000 in
/-- worthOf: what a digit or a variable stands for -/
theorem kX11_worthOf (l : Launch) (dC : Nat → ClassId) (dI : Nat → Nat → Nat) (sz : Nat) (g : Nat) (cg : ClassId) (p0 : Int32) (vs : Nat → Int32) : Met l yX11_worthOf wqX11_worthOf ({ frames := 0, cells := 0, slots := 0, locals := 0 }) (va_Pc [.int p0, .ref g] (fun U => U.heap.size = sz ∧ va_P (dC, dI) CL [(g, .inl (cg, 6, .inl vs))] U.heap ∧ va_K (dC, dI) CL [(cg, .int)] U ∧ va_D (fun _ => True) [(g, .inl (cg, 6, .inl vs))])) (va_Qi (fun (r : Int32) (_ : Unit) => r = if 16 ≤ p0 ∧ p0 < 22 then vs (p0 - 16).toNatClampNeg else p0) (fun _ t => va_P (dC, dI) CL [(g, .inl (cg, 6, .inl vs))] t.heap ∧ va_K (dC, dI) CL [(cg, .int)] t ∧ va_D (fun _ => True) [(g, .inl (cg, 6, .inl vs))]) (fun _ => False)) 0 0 (fun _ => False) := by
  refine Met.ofW (cc := cX11_worthOf) (maxL := 2) (ret := (some .int)) (by decide) rfl ?_
  intro p e s m args below meth c s₁ B hml hv
  obtain ⟨rfl, hsz, hP, hK, hD⟩ := hv
  have hx := B.exec
  have hb := B.bytes
  have hr := B.returns
  have hts := atoms_spec (ws := wqX11_worthOf) B.pre
  have hown : s.vm.findClass RX11 = some m.cls := findClass_of_methodNamed B.named
  have hlocks := B.notSynchronized
  have hS : va_S (fun _ => False) s.heap s.heap [] := va_S.rf
  have hl := lv_entry ([.int p0, .ref g]) (n := 2) (Nat.le_of_ble_eq_true rfl)
  rw [lg_entry_eq]
  generalize (lg_sl ([.int p0, .ref g]) ++ List.replicate (2 - (lg_sl ([.int p0, .ref g])).length) Slot.unset).toArray = ls at hl ⊢
  have hl : lv_has ls 2 [(0, .int p0), (1, .ref g)] := hl
  refine lv_iload_n hx hb dX11_worthOf_0 rfl (lv_at hl 0 rfl) ?_
  refine lv_bipush (v := (16 : Int32)) hx hb dX11_worthOf_1 (by decide) ?_
  refine lv_icmp_lt hx hb dX11_worthOf_3 rfl (fun q1 => ?_) (fun q1 => ?_)
  · refine lv_iload_n hx hb dX11_worthOf_21 rfl (lv_at hl 0 rfl) ?_
    exact W.iret hx hb hr (fun t ht hW => ⟨⟨_, (), rfl, (by first | exact (if_pos ⟨Int32.not_lt.mp (by assumption), Int32.not_le.mp (by assumption)⟩).symm | exact (if_neg (fun h => absurd (by assumption) (Int32.not_lt.mpr h.1))).symm | exact (if_neg (fun h => absurd (by assumption) (Int32.not_le.mpr h.2))).symm), by rw [ht]; exact hP, va_K.moved hW.alike hK, hD⟩, hS.F ht⟩) hS.2.2 dX11_worthOf_22
  · refine lv_iload_n hx hb dX11_worthOf_6 rfl (lv_at hl 0 rfl) ?_
    refine lv_bipush (v := (22 : Int32)) hx hb dX11_worthOf_7 (by decide) ?_
    refine lv_icmp_ge hx hb dX11_worthOf_9 rfl (fun q2 => ?_) (fun q2 => ?_)
    · refine lv_iload_n hx hb dX11_worthOf_21 rfl (lv_at hl 0 rfl) ?_
      exact W.iret hx hb hr (fun t ht hW => ⟨⟨_, (), rfl, (by first | exact (if_pos ⟨Int32.not_lt.mp (by assumption), Int32.not_le.mp (by assumption)⟩).symm | exact (if_neg (fun h => absurd (by assumption) (Int32.not_lt.mpr h.1))).symm | exact (if_neg (fun h => absurd (by assumption) (Int32.not_le.mpr h.2))).symm), by rw [ht]; exact hP, va_K.moved hW.alike hK, hD⟩, hS.F ht⟩) hS.2.2 dX11_worthOf_22
    · refine lv_aload_n hx hb dX11_worthOf_12 rfl (lv_at hl 1 rfl) ?_
      refine lv_iload_n hx hb dX11_worthOf_13 rfl (lv_at hl 0 rfl) ?_
      refine lv_bipush (v := (16 : Int32)) hx hb dX11_worthOf_14 (by decide) ?_
      refine lv_isub hx hb dX11_worthOf_16 ?_
      refine va_iald (i := (p0 - (16))) hx hb hK hP 0 0 rfl rfl (lf_var (by assumption) (by assumption)) dX11_worthOf_17 ?_
      refine lv_goto hx hb dX11_worthOf_18 rfl ?_
      exact W.iret hx hb hr (fun t ht hW => ⟨⟨_, (), rfl, (by first | exact (if_pos ⟨Int32.not_lt.mp (by assumption), Int32.not_le.mp (by assumption)⟩).symm | exact (if_neg (fun h => absurd (by assumption) (Int32.not_lt.mpr h.1))).symm | exact (if_neg (fun h => absurd (by assumption) (Int32.not_le.mpr h.2))).symm), by rw [ht]; exact hP, va_K.moved hW.alike hK, hD⟩, hS.F ht⟩) hS.2.2 dX11_worthOf_22
abbrev cX9_moduleAt : ByteArray := prog_11_method_20_code
def yX9_moduleAt : MethodName := ⟨RX9, "moduleAt", "(I)I"⟩
def wqX9_moduleAt : List Cond := .code yX9_moduleAt cX9_moduleAt 2 (some .int) :: ([.fieldLink RX9 34 "Ruleengine$State" "stack" "[I"] ++ wsX90)
theorem dX9_moduleAt_0 : decode cX9_moduleAt 0 = .ok (.iload_n 1, 1) := by decide +kernel
theorem dX9_moduleAt_1 : decode cX9_moduleAt 1 = .ok (.iconst 1, 1) := by decide +kernel
theorem dX9_moduleAt_2 : decode cX9_moduleAt 2 = .ok (.if_icmp .lt 19, 3) := by decide +kernel
theorem dX9_moduleAt_5 : decode cX9_moduleAt 5 = .ok (.iload_n 1, 1) := by decide +kernel
theorem dX9_moduleAt_6 : decode cX9_moduleAt 6 = .ok (.iconst 5, 1) := by decide +kernel
theorem dX9_moduleAt_7 : decode cX9_moduleAt 7 = .ok (.if_icmp .gt 14, 3) := by decide +kernel
theorem dX9_moduleAt_10 : decode cX9_moduleAt 10 = .ok (.aload_n 0, 1) := by decide +kernel
theorem dX9_moduleAt_11 : decode cX9_moduleAt 11 = .ok (.getfield 34, 3) := by decide +kernel
theorem dX9_moduleAt_14 : decode cX9_moduleAt 14 = .ok (.iload_n 1, 1) := by decide +kernel
theorem dX9_moduleAt_15 : decode cX9_moduleAt 15 = .ok (.iconst 1, 1) := by decide +kernel
theorem dX9_moduleAt_16 : decode cX9_moduleAt 16 = .ok (.isub, 1) := by decide +kernel
theorem dX9_moduleAt_17 : decode cX9_moduleAt 17 = .ok (.iaload, 1) := by decide +kernel
theorem dX9_moduleAt_18 : decode cX9_moduleAt 18 = .ok (.goto 4, 3) := by decide +kernel
theorem dX9_moduleAt_21 : decode cX9_moduleAt 21 = .ok (.iconst 0, 1) := by decide +kernel
theorem dX9_moduleAt_22 : decode cX9_moduleAt 22 = .ok (.ireturn, 1) := by decide +kernel
set_option maxHeartbeats 8000000 in
set_option maxRecDepth 100000 in
/-- State.moduleAt: the last one of so many modules; 0 where there are not so many -/
theorem kX9_moduleAt (l : Launch) (dC : Nat → ClassId) (dI : Nat → Nat → Nat) (sz : Nat) (h0 fa wm wc ru dn_ sk wr : Nat) (ck : ClassId) (ca mi dn de ss wn : Int32) (k : Nat → Int32) (p0 : Int32) : Met l yX9_moduleAt wqX9_moduleAt ({ frames := 0, cells := 0, slots := 0, locals := 0 }) (va_Pc [.ref h0, .int p0] (fun U => U.heap.size = sz ∧ va_P (dC, dI) CL [(h0, .inr (8, [.ref fa, .int ca, .int mi, .ref wm, .ref wc, .ref ru, .ref dn_, .int dn, .int de, .ref sk, .int ss, .ref wr, .int wn])), (sk, .inl (ck, 5, .inl k))] U.heap ∧ va_K (dC, dI) CL [(ck, .int)] U ∧ va_D (fun _ => True) [(h0, .inr (8, [.ref fa, .int ca, .int mi, .ref wm, .ref wc, .ref ru, .ref dn_, .int dn, .int de, .ref sk, .int ss, .ref wr, .int wn])), (sk, .inl (ck, 5, .inl k))])) (va_Qi (fun (r : Int32) (_ : Unit) => r = if 1 ≤ p0 ∧ p0 ≤ 5 then k (p0 - 1).toNatClampNeg else 0) (fun _ t => va_P (dC, dI) CL [(h0, .inr (8, [.ref fa, .int ca, .int mi, .ref wm, .ref wc, .ref ru, .ref dn_, .int dn, .int de, .ref sk, .int ss, .ref wr, .int wn])), (sk, .inl (ck, 5, .inl k))] t.heap ∧ va_K (dC, dI) CL [(ck, .int)] t ∧ va_D (fun _ => True) [(h0, .inr (8, [.ref fa, .int ca, .int mi, .ref wm, .ref wc, .ref ru, .ref dn_, .int dn, .int de, .ref sk, .int ss, .ref wr, .int wn])), (sk, .inl (ck, 5, .inl k))]) (fun _ => False)) 0 0 (fun _ => False) := by
  refine Met.ofW (cc := cX9_moduleAt) (maxL := 2) (ret := (some .int)) (by decide) rfl ?_
  intro p e s m args below meth c s₁ B hml hv
  obtain ⟨rfl, hsz, hP, hK, hD⟩ := hv
  have hx := B.exec
  have hb := B.bytes
  have hr := B.returns
  have hts := atoms_spec (ws := wqX9_moduleAt) B.pre
  have hown : s.vm.findClass RX9 = some m.cls := findClass_of_methodNamed B.named
  have hlocks := B.notSynchronized
  have hS : va_S (fun _ => False) s.heap s.heap [] := va_S.rf
  have hl := lv_entry ([.ref h0, .int p0]) (n := 2) (Nat.le_of_ble_eq_true rfl)
  rw [lg_entry_eq]
  generalize (lg_sl ([.ref h0, .int p0]) ++ List.replicate (2 - (lg_sl ([.ref h0, .int p0])).length) Slot.unset).toArray = ls at hl ⊢
  have hl : lv_has ls 2 [(0, .ref h0), (1, .int p0)] := hl
  refine lv_iload_n hx hb dX9_moduleAt_0 rfl (lv_at hl 1 rfl) ?_
  refine lv_iconst (v := (1 : Int32)) hx hb dX9_moduleAt_1 (by decide) ?_
  refine lv_icmp_lt hx hb dX9_moduleAt_2 rfl (fun q1 => ?_) (fun q1 => ?_)
  · refine lv_iconst (v := (0 : Int32)) hx hb dX9_moduleAt_21 (by decide) ?_
    exact W.iret hx hb hr (fun t ht hW => ⟨⟨_, (), rfl, (by first | exact (if_pos ⟨Int32.not_lt.mp (by assumption), Int32.not_lt.mp (by assumption)⟩).symm | exact (if_neg (fun h => absurd (by assumption) (Int32.not_lt.mpr h.1))).symm | exact (if_neg (fun h => absurd (by assumption) (Int32.not_lt.mpr h.2))).symm), by rw [ht]; exact hP, va_K.moved hW.alike hK, hD⟩, hS.F ht⟩) hS.2.2 dX9_moduleAt_22
  · refine lv_iload_n hx hb dX9_moduleAt_5 rfl (lv_at hl 1 rfl) ?_
    refine lv_iconst (v := (5 : Int32)) hx hb dX9_moduleAt_6 (by decide) ?_
    refine lv_icmp_gt hx hb dX9_moduleAt_7 rfl (fun q2 => ?_) (fun q2 => ?_)
    · refine lv_iconst (v := (0 : Int32)) hx hb dX9_moduleAt_21 (by decide) ?_
      exact W.iret hx hb hr (fun t ht hW => ⟨⟨_, (), rfl, (by first | exact (if_pos ⟨Int32.not_lt.mp (by assumption), Int32.not_lt.mp (by assumption)⟩).symm | exact (if_neg (fun h => absurd (by assumption) (Int32.not_lt.mpr h.1))).symm | exact (if_neg (fun h => absurd (by assumption) (Int32.not_lt.mpr h.2))).symm), by rw [ht]; exact hP, va_K.moved hW.alike hK, hD⟩, hS.F ht⟩) hS.2.2 dX9_moduleAt_22
    · refine lv_aload_n hx hb dX9_moduleAt_10 rfl (lv_at hl 0 rfl) ?_
      refine va_get (D := (dC, dI)) (ci := 8) (v := .ref sk) (C := RX9) (T := TX9) (N := 13) hx hb hts (by decide +kernel) hown hK hP 0 rfl rfl 9 (by decide) (hts (.fieldLink RX9 34 "Ruleengine$State" "stack" "[I") (by decide +kernel)) (fun _ h9 => h9) rfl dX9_moduleAt_11 ?_
      refine lv_iload_n hx hb dX9_moduleAt_14 rfl (lv_at hl 1 rfl) ?_
      refine lv_iconst (v := (1 : Int32)) hx hb dX9_moduleAt_15 (by decide) ?_
      refine lv_isub hx hb dX9_moduleAt_16 ?_
      refine va_iald (i := (p0 - (1))) hx hb hK hP 1 0 rfl rfl (lf_five (by assumption) (by assumption)) dX9_moduleAt_17 ?_
      refine lv_goto hx hb dX9_moduleAt_18 rfl ?_
      exact W.iret hx hb hr (fun t ht hW => ⟨⟨_, (), rfl, (by first | exact (if_pos ⟨Int32.not_lt.mp (by assumption), Int32.not_lt.mp (by assumption)⟩).symm | exact (if_neg (fun h => absurd (by assumption) (Int32.not_lt.mpr h.1))).symm | exact (if_neg (fun h => absurd (by assumption) (Int32.not_lt.mpr h.2))).symm), by rw [ht]; exact hP, va_K.moved hW.alike hK, hD⟩, hS.F ht⟩) hS.2.2 dX9_moduleAt_22
abbrev cX7_keyCount : ByteArray := prog_9_method_6_code
def yX7_keyCount : MethodName := ⟨RX7, "keyCount", "()I"⟩
def wqX7_keyCount : List Cond := .code yX7_keyCount cX7_keyCount 1 (some .int) :: ([.fieldLink RX7 38 "Ruleengine$Rule" "hasCount" "I"] ++ wsX70)
theorem dX7_keyCount_0 : decode cX7_keyCount 0 = .ok (.iconst 1, 1) := by decide +kernel
theorem dX7_keyCount_1 : decode cX7_keyCount 1 = .ok (.iconst 4, 1) := by decide +kernel
theorem dX7_keyCount_2 : decode cX7_keyCount 2 = .ok (.aload_n 0, 1) := by decide +kernel
theorem dX7_keyCount_3 : decode cX7_keyCount 3 = .ok (.getfield 38, 3) := by decide +kernel
theorem dX7_keyCount_6 : decode cX7_keyCount 6 = .ok (.imul, 1) := by decide +kernel
theorem dX7_keyCount_7 : decode cX7_keyCount 7 = .ok (.ishl, 1) := by decide +kernel
theorem dX7_keyCount_8 : decode cX7_keyCount 8 = .ok (.ireturn, 1) := by decide +kernel
set_option maxHeartbeats 8000000 in
set_option maxRecDepth 100000 in
/-- Rule.keyCount -/
theorem kX7_keyCount (l : Launch) (dC : Nat → ClassId) (dI : Nat → Nat → Nat) (sz : Nat) (h0 ty co en ha ac : Nat) (ur mo cc_ hc an ki : Int32) : Met l yX7_keyCount wqX7_keyCount ({ frames := 0, cells := 0, slots := 0, locals := 0 }) (va_Pc [.ref h0] (fun U => U.heap.size = sz ∧ va_P (dC, dI) CL [(h0, .inr (7, [.ref ty, .int ur, .int mo, .ref co, .ref en, .int cc_, .ref ha, .int hc, .ref ac, .int an, .int ki]))] U.heap ∧ va_K (dC, dI) CL [] U ∧ va_D (fun _ => True) [(h0, .inr (7, [.ref ty, .int ur, .int mo, .ref co, .ref en, .int cc_, .ref ha, .int hc, .ref ac, .int an, .int ki]))])) (va_Qi (fun (r : Int32) (_ : Unit) => r = 1 <<< ((4 * hc) &&& 31)) (fun _ t => va_P (dC, dI) CL [(h0, .inr (7, [.ref ty, .int ur, .int mo, .ref co, .ref en, .int cc_, .ref ha, .int hc, .ref ac, .int an, .int ki]))] t.heap ∧ va_K (dC, dI) CL [] t ∧ va_D (fun _ => True) [(h0, .inr (7, [.ref ty, .int ur, .int mo, .ref co, .ref en, .int cc_, .ref ha, .int hc, .ref ac, .int an, .int ki]))]) (fun _ => False)) 0 0 (fun _ => False) := by
  refine Met.ofW (cc := cX7_keyCount) (maxL := 1) (ret := (some .int)) (by decide) rfl ?_
  intro p e s m args below meth c s₁ B hml hv
  obtain ⟨rfl, hsz, hP, hK, hD⟩ := hv
  have hx := B.exec
  have hb := B.bytes
  have hr := B.returns
  have hts := atoms_spec (ws := wqX7_keyCount) B.pre
  have hown : s.vm.findClass RX7 = some m.cls := findClass_of_methodNamed B.named
  have hlocks := B.notSynchronized
  have hS : va_S (fun _ => False) s.heap s.heap [] := va_S.rf
  have hl := lv_entry ([.ref h0]) (n := 1) (Nat.le_of_ble_eq_true rfl)
  rw [lg_entry_eq]
  generalize (lg_sl ([.ref h0]) ++ List.replicate (1 - (lg_sl ([.ref h0])).length) Slot.unset).toArray = ls at hl ⊢
  have hl : lv_has ls 1 [(0, .ref h0)] := hl
  refine lv_iconst (v := (1 : Int32)) hx hb dX7_keyCount_0 (by decide) ?_
  refine lv_iconst (v := (4 : Int32)) hx hb dX7_keyCount_1 (by decide) ?_
  refine lv_aload_n hx hb dX7_keyCount_2 rfl (lv_at hl 0 rfl) ?_
  refine va_get (D := (dC, dI)) (ci := 7) (v := .int hc) (C := RX7) (T := TX7) (N := 11) hx hb hts (by decide +kernel) hown hK hP 0 rfl rfl 7 (by decide) (hts (.fieldLink RX7 38 "Ruleengine$Rule" "hasCount" "I") (by decide +kernel)) (fun _ h9 => h9) rfl dX7_keyCount_3 ?_
  refine lv_imul hx hb dX7_keyCount_6 ?_
  refine lv_ishl hx hb dX7_keyCount_7 ?_
  exact W.iret hx hb hr (fun t ht hW => ⟨⟨_, (), rfl, (by rfl), by rw [ht]; exact hP, va_K.moved hW.alike hK, hD⟩, hS.F ht⟩) hS.2.2 dX7_keyCount_8
abbrev cX7_placeIn : ByteArray := prog_9_method_4_code
def yX7_placeIn : MethodName := ⟨RX7, "placeIn", "(JI)I"⟩
def wqX7_placeIn : List Cond := .code yX7_placeIn cX7_placeIn 4 (some .int) :: ([.fieldLink RX7 27 "Ruleengine$Rule" "hasAt" "[I"] ++ wsX70)
theorem dX7_placeIn_0 : decode cX7_placeIn 0 = .ok (.lload_n 1, 1) := by decide +kernel
theorem dX7_placeIn_1 : decode cX7_placeIn 1 = .ok (.bipush 8, 2) := by decide +kernel
theorem dX7_placeIn_3 : decode cX7_placeIn 3 = .ok (.aload_n 0, 1) := by decide +kernel
theorem dX7_placeIn_4 : decode cX7_placeIn 4 = .ok (.getfield 27, 3) := by decide +kernel
theorem dX7_placeIn_7 : decode cX7_placeIn 7 = .ok (.iload_n 3, 1) := by decide +kernel
theorem dX7_placeIn_8 : decode cX7_placeIn 8 = .ok (.iaload, 1) := by decide +kernel
theorem dX7_placeIn_9 : decode cX7_placeIn 9 = .ok (.imul, 1) := by decide +kernel
theorem dX7_placeIn_10 : decode cX7_placeIn 10 = .ok (.lshr, 1) := by decide +kernel
theorem dX7_placeIn_11 : decode cX7_placeIn 11 = .ok (.l2i, 1) := by decide +kernel
theorem dX7_placeIn_12 : decode cX7_placeIn 12 = .ok (.bipush 15, 2) := by decide +kernel
theorem dX7_placeIn_14 : decode cX7_placeIn 14 = .ok (.iand, 1) := by decide +kernel
theorem dX7_placeIn_15 : decode cX7_placeIn 15 = .ok (.ireturn, 1) := by decide +kernel
set_option maxHeartbeats 8000000 in
set_option maxRecDepth 100000 in
/-- Rule.placeIn: the place of the fact for a HAS -/
theorem kX7_placeIn (l : Launch) (dC : Nat → ClassId) (dI : Nat → Nat → Nat) (sz : Nat) (h0 ty co en ha ac : Nat) (ur mo cc_ hc an ki : Int32) (ca : ClassId) (f : Nat → Int32) (p0 : Int64) (p1 : Int32) (hin : vp_in p1 3) : Met l yX7_placeIn wqX7_placeIn ({ frames := 0, cells := 0, slots := 0, locals := 0 }) (va_Pc [.ref h0, .long p0, .int p1] (fun U => U.heap.size = sz ∧ va_P (dC, dI) CL [(h0, .inr (7, [.ref ty, .int ur, .int mo, .ref co, .ref en, .int cc_, .ref ha, .int hc, .ref ac, .int an, .int ki])), (ha, .inl (ca, 3, .inl f))] U.heap ∧ va_K (dC, dI) CL [(ca, .int)] U ∧ va_D (fun _ => True) [(h0, .inr (7, [.ref ty, .int ur, .int mo, .ref co, .ref en, .int cc_, .ref ha, .int hc, .ref ac, .int an, .int ki])), (ha, .inl (ca, 3, .inl f))])) (va_Qi (fun (r : Int32) (_ : Unit) => r = (p0 >>> ((8 * f p1.toNatClampNeg).toInt64 &&& 63)).toInt32 &&& 15) (fun _ t => va_P (dC, dI) CL [(h0, .inr (7, [.ref ty, .int ur, .int mo, .ref co, .ref en, .int cc_, .ref ha, .int hc, .ref ac, .int an, .int ki])), (ha, .inl (ca, 3, .inl f))] t.heap ∧ va_K (dC, dI) CL [(ca, .int)] t ∧ va_D (fun _ => True) [(h0, .inr (7, [.ref ty, .int ur, .int mo, .ref co, .ref en, .int cc_, .ref ha, .int hc, .ref ac, .int an, .int ki])), (ha, .inl (ca, 3, .inl f))]) (fun _ => False)) 0 0 (fun _ => False) := by
  refine Met.ofW (cc := cX7_placeIn) (maxL := 4) (ret := (some .int)) (by decide) rfl ?_
  intro p e s m args below meth c s₁ B hml hv
  obtain ⟨rfl, hsz, hP, hK, hD⟩ := hv
  have hx := B.exec
  have hb := B.bytes
  have hr := B.returns
  have hts := atoms_spec (ws := wqX7_placeIn) B.pre
  have hown : s.vm.findClass RX7 = some m.cls := findClass_of_methodNamed B.named
  have hlocks := B.notSynchronized
  have hS : va_S (fun _ => False) s.heap s.heap [] := va_S.rf
  have hl := lv_entry ([.ref h0, .long p0, .int p1]) (n := 4) (Nat.le_of_ble_eq_true rfl)
  rw [lg_entry_eq]
  generalize (lg_sl ([.ref h0, .long p0, .int p1]) ++ List.replicate (4 - (lg_sl ([.ref h0, .long p0, .int p1])).length) Slot.unset).toArray = ls at hl ⊢
  have hl : lv_has ls 4 [(0, .ref h0), (1, .long p0), (3, .int p1)] := hl
  refine lv_lload_n hx hb dX7_placeIn_0 rfl (lv_at hl 1 rfl) ?_
  refine lv_bipush (v := (8 : Int32)) hx hb dX7_placeIn_1 (by decide) ?_
  refine lv_aload_n hx hb dX7_placeIn_3 rfl (lv_at hl 0 rfl) ?_
  refine va_get (D := (dC, dI)) (ci := 7) (v := .ref ha) (C := RX7) (T := TX7) (N := 11) hx hb hts (by decide +kernel) hown hK hP 0 rfl rfl 6 (by decide) (hts (.fieldLink RX7 27 "Ruleengine$Rule" "hasAt" "[I") (by decide +kernel)) (fun _ h9 => h9) rfl dX7_placeIn_4 ?_
  refine lv_iload_n hx hb dX7_placeIn_7 rfl (lv_at hl 2 rfl) ?_
  refine va_iald (i := p1) hx hb hK hP 1 0 rfl rfl hin dX7_placeIn_8 ?_
  refine lv_imul hx hb dX7_placeIn_9 ?_
  refine lv_lshr hx hb dX7_placeIn_10 rfl ?_
  refine lv_l2i hx hb dX7_placeIn_11 rfl ?_
  refine lv_bipush (v := (15 : Int32)) hx hb dX7_placeIn_12 (by decide) ?_
  refine lv_iand hx hb dX7_placeIn_14 ?_
  exact W.iret hx hb hr (fun t ht hW => ⟨⟨_, (), rfl, rfl, by rw [ht]; exact hP, va_K.moved hW.alike hK, hD⟩, hS.F ht⟩) hS.2.2 dX7_placeIn_15
abbrev cX6_next : ByteArray := prog_8_method_6_code
def yX6_next : MethodName := ⟨RX6, "next", "()I"⟩
def wqX6_next : List Cond := .code yX6_next cX6_next 1 (some .int) :: ([.fieldLink RX6 82 "Ruleengine$Reader" "place" "I", .fieldLink RX6 36 "Ruleengine$Reader" "count" "I", .fieldLink RX6 9 "Ruleengine$Reader" "sign" "[I"] ++ wsX60)
theorem dX6_next_0 : decode cX6_next 0 = .ok (.aload_n 0, 1) := by decide +kernel
theorem dX6_next_1 : decode cX6_next 1 = .ok (.getfield 82, 3) := by decide +kernel
theorem dX6_next_4 : decode cX6_next 4 = .ok (.aload_n 0, 1) := by decide +kernel
theorem dX6_next_5 : decode cX6_next 5 = .ok (.getfield 36, 3) := by decide +kernel
theorem dX6_next_8 : decode cX6_next 8 = .ok (.if_icmp .ge 15, 3) := by decide +kernel
theorem dX6_next_11 : decode cX6_next 11 = .ok (.aload_n 0, 1) := by decide +kernel
theorem dX6_next_12 : decode cX6_next 12 = .ok (.getfield 9, 3) := by decide +kernel
theorem dX6_next_15 : decode cX6_next 15 = .ok (.aload_n 0, 1) := by decide +kernel
theorem dX6_next_16 : decode cX6_next 16 = .ok (.getfield 82, 3) := by decide +kernel
theorem dX6_next_19 : decode cX6_next 19 = .ok (.iaload, 1) := by decide +kernel
theorem dX6_next_20 : decode cX6_next 20 = .ok (.goto 4, 3) := by decide +kernel
theorem dX6_next_23 : decode cX6_next 23 = .ok (.iconst (-1), 1) := by decide +kernel
theorem dX6_next_24 : decode cX6_next 24 = .ok (.ireturn, 1) := by decide +kernel
set_option maxHeartbeats 8000000 in
set_option maxRecDepth 100000 in
/-- Reader.next: the sign at the place, NONE behind the last -/
theorem kX6_next (l : Launch) (dC : Nat → ClassId) (dI : Nat → Nat → Nat) (sz : Nat) (h0 sg dr sp li : Nat) (cs : ClassId) (ct iu pl ib kn : Int32) (f : Nat → Int32) (hin : pl < ct → vp_in pl 60) : Met l yX6_next wqX6_next ({ frames := 0, cells := 0, slots := 0, locals := 0 }) (va_Pc [.ref h0] (fun U => U.heap.size = sz ∧ va_P (dC, dI) CL [(h0, .inr (6, [.ref sg, .int ct, .int iu, .int pl, .int ib, .int kn, .ref dr, .ref sp, .ref li])), (sg, .inl (cs, 60, .inl f))] U.heap ∧ va_K (dC, dI) CL [(cs, .int)] U ∧ va_D (fun _ => True) [(h0, .inr (6, [.ref sg, .int ct, .int iu, .int pl, .int ib, .int kn, .ref dr, .ref sp, .ref li])), (sg, .inl (cs, 60, .inl f))])) (va_Qi (fun (r : Int32) (_ : Unit) => r = if pl < ct then f pl.toNatClampNeg else -1) (fun _ t => va_P (dC, dI) CL [(h0, .inr (6, [.ref sg, .int ct, .int iu, .int pl, .int ib, .int kn, .ref dr, .ref sp, .ref li])), (sg, .inl (cs, 60, .inl f))] t.heap ∧ va_K (dC, dI) CL [(cs, .int)] t ∧ va_D (fun _ => True) [(h0, .inr (6, [.ref sg, .int ct, .int iu, .int pl, .int ib, .int kn, .ref dr, .ref sp, .ref li])), (sg, .inl (cs, 60, .inl f))]) (fun _ => False)) 0 0 (fun _ => False) := by
  refine Met.ofW (cc := cX6_next) (maxL := 1) (ret := (some .int)) (by decide) rfl ?_
  intro p e s m args below meth c s₁ B hml hv
  obtain ⟨rfl, hsz, hP, hK, hD⟩ := hv
  have hx := B.exec
  have hb := B.bytes
  have hr := B.returns
  have hts := atoms_spec (ws := wqX6_next) B.pre
  have hown : s.vm.findClass RX6 = some m.cls := findClass_of_methodNamed B.named
  have hlocks := B.notSynchronized
  have hS : va_S (fun _ => False) s.heap s.heap [] := va_S.rf
  have hl := lv_entry ([.ref h0]) (n := 1) (Nat.le_of_ble_eq_true rfl)
  rw [lg_entry_eq]
  generalize (lg_sl ([.ref h0]) ++ List.replicate (1 - (lg_sl ([.ref h0])).length) Slot.unset).toArray = ls at hl ⊢
  have hl : lv_has ls 1 [(0, .ref h0)] := hl
  refine lv_aload_n hx hb dX6_next_0 rfl (lv_at hl 0 rfl) ?_
  refine va_get (D := (dC, dI)) (ci := 6) (v := .int pl) (C := RX6) (T := TX6) (N := 9) hx hb hts (by decide +kernel) hown hK hP 0 rfl rfl 3 (by decide) (hts (.fieldLink RX6 82 "Ruleengine$Reader" "place" "I") (by decide +kernel)) (fun _ h9 => h9) rfl dX6_next_1 ?_
  refine lv_aload_n hx hb dX6_next_4 rfl (lv_at hl 0 rfl) ?_
  refine va_get (D := (dC, dI)) (ci := 6) (v := .int ct) (C := RX6) (T := TX6) (N := 9) hx hb hts (by decide +kernel) hown hK hP 0 rfl rfl 1 (by decide) (hts (.fieldLink RX6 36 "Ruleengine$Reader" "count" "I") (by decide +kernel)) (fun _ h9 => h9) rfl dX6_next_5 ?_
  refine lv_icmp_ge hx hb dX6_next_8 rfl (fun q1 => ?_) (fun q1 => ?_)
  · refine lv_iconst (v := (-1 : Int32)) hx hb dX6_next_23 (by decide) ?_
    exact W.iret hx hb hr (fun t ht hW => ⟨⟨_, (), rfl, (by first | exact (if_pos (Int32.not_le.mp (by assumption))).symm | exact (if_neg (Int32.not_lt.mpr (by assumption))).symm), by rw [ht]; exact hP, va_K.moved hW.alike hK, hD⟩, hS.F ht⟩) hS.2.2 dX6_next_24
  · refine lv_aload_n hx hb dX6_next_11 rfl (lv_at hl 0 rfl) ?_
    refine va_get (D := (dC, dI)) (ci := 6) (v := .ref sg) (C := RX6) (T := TX6) (N := 9) hx hb hts (by decide +kernel) hown hK hP 0 rfl rfl 0 (by decide) (hts (.fieldLink RX6 9 "Ruleengine$Reader" "sign" "[I") (by decide +kernel)) (fun _ h9 => h9) rfl dX6_next_12 ?_
    refine lv_aload_n hx hb dX6_next_15 rfl (lv_at hl 0 rfl) ?_
    refine va_get (D := (dC, dI)) (ci := 6) (v := .int pl) (C := RX6) (T := TX6) (N := 9) hx hb hts (by decide +kernel) hown hK hP 0 rfl rfl 3 (by decide) (hts (.fieldLink RX6 82 "Ruleengine$Reader" "place" "I") (by decide +kernel)) (fun _ h9 => h9) rfl dX6_next_16 ?_
    refine va_iald (i := pl) hx hb hK hP 1 0 rfl rfl (hin (Int32.not_le.mp (by assumption))) dX6_next_19 ?_
    refine lv_goto hx hb dX6_next_20 rfl ?_
    exact W.iret hx hb hr (fun t ht hW => ⟨⟨_, (), rfl, (by first | exact (if_pos (Int32.not_le.mp (by assumption))).symm | exact (if_neg (Int32.not_lt.mpr (by assumption))).symm), by rw [ht]; exact hP, va_K.moved hW.alike hK, hD⟩, hS.F ht⟩) hS.2.2 dX6_next_24
